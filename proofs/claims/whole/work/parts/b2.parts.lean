set_option maxRecDepth 100000
/-! parts: partIs, rot -/
section PT
variable {h c n r : Nat} {own : Nat → Nat} {B : BK} {σ : Sg} {M : Mm}
abbrev gdb (σ : Sg) (a : Nat) : Nat → Bool := fun s => decide (σ 23 (5 * a + s) ≠ m1 ∧ σ 25 (5 * a + s) = i3 0)
def gcn (σ : Sg) (a : Nat) : Nat := cntF (gdb σ a) 0 5
theorem cntF_le {p : Nat → Bool} : ∀ {d i : Nat}, cntF p i d ≤ d := by
  intro d
  induction d with
  | zero => intro i; exact Nat.le_refl 0
  | succ d ih =>
    intro i
    rw [cntF_S]
    have := ih (i := i + 1)
    split <;> omega
theorem gcn_le : gcn σ r ≤ 5 := cntF_le
theorem c_partAt_i (R : RR h own B σ M n) (hr : r < 2) {P : Nat} (hP : σ 18 r = i3 P) (h90 : P ≤ 90) {p : Nat} (hp : p < P) : fStore_partAt (gr h r + 1) (i3 p) M = some (if σ 19 (90 * r + p) = i3 0 then some (pa B r p) else none) := by
  have e : nv (σ 18 r) = P := by rw [hP]; exact nv_i (by omega)
  have hk := (R.rg r hr).ks
  have hq := (R.rg r hr).s1
  have L := R.pl r hr
  rw [e] at L
  have A := R.po r hr p (by rw [e]; exact hp)
  have a1 := A.b.k
  have a2 := A.sw
  have hl := L.k
  have hs := L.size
  have g := L.get hp
  clear R L A
  by_cases z : σ 19 (90 * r + p) = i3 0
  · simp (disch := (first | assumption | omega | decide | (simp only [mK_uI, mK_uP, mL_uI, mL_uP, mK_wI, mL_wI, mK_nA_e, mL_nA_e] <;> (first | assumption | omega)))) only [i3_le_t, i3_le_f, i3_lt_t, i3_lt_f, i3_eq_t, i3_eq_f, i3_add, i3_mul, i3_sub, i3_div, i3_dec, i3_m1, m1_i3, m1_eq, i3_ge0, m1_lt, i3_le_m1, ↓reduceIte, rZ_0, rZ_1, bdR_s, bdW_s, ifN_n, ifN_s, ↓fgI_s, ↓fgR_s, ↓rk_s, ↓fpI_s, ↓fpR_s, ↓fpZ_0, ↓fpZ_1, ↓alI_i, ↓alP_i, ↓asI_i, ↓asB_i, ↓asZ_0, ↓asZ_1, ↓aln_i, ↓fca_s, ↓fca_n, bdC_li, bdC_ri, mK_uI, mK_uP, mL_uI, mL_uP, mP_uI, mI_uP, mK_wI, mL_wI, mP_wI, mI_uI_e, mI_uI_c, nwO_s, mK_nA_e, mL_nA_e, fStore_partAt_E, hq, hs, g, a2, z]
  · simp (disch := (first | assumption | omega | decide | (simp only [mK_uI, mK_uP, mL_uI, mL_uP, mK_wI, mL_wI, mK_nA_e, mL_nA_e] <;> (first | assumption | omega)))) only [i3_le_t, i3_le_f, i3_lt_t, i3_lt_f, i3_eq_t, i3_eq_f, i3_add, i3_mul, i3_sub, i3_div, i3_dec, i3_m1, m1_i3, m1_eq, i3_ge0, m1_lt, i3_le_m1, ↓reduceIte, rZ_0, rZ_1, bdR_s, bdW_s, ifN_n, ifN_s, ↓fgI_s, ↓fgR_s, ↓rk_s, ↓fpI_s, ↓fpR_s, ↓fpZ_0, ↓fpZ_1, ↓alI_i, ↓alP_i, ↓asI_i, ↓asB_i, ↓asZ_0, ↓asZ_1, ↓aln_i, ↓fca_s, ↓fca_n, bdC_li, bdC_ri, mK_uI, mK_uP, mL_uI, mL_uP, mP_uI, mI_uP, mK_wI, mL_wI, mP_wI, mI_uI_e, mI_uI_c, nwO_s, mK_nA_e, mL_nA_e, fStore_partAt_E, hq, hs, g, a2, z]
theorem c_partAt_n (R : RR h own B σ M n) (hr : r < 2) {P : Nat} (hP : σ 18 r = i3 P) (h90 : P ≤ 90) {x : Int32} (hx : x < i3 0 ∨ ∃ p, p < 2147483648 ∧ x = i3 p ∧ P ≤ p) : fStore_partAt (gr h r + 1) x M = some none := by
  have e : nv (σ 18 r) = P := by rw [hP]; exact nv_i (by omega)
  have hk := (R.rg r hr).ks
  have hq := (R.rg r hr).s1
  have L := R.pl r hr
  rw [e] at L
  have hl := L.k
  have hs := L.size
  clear R L
  rcases hx with a | ⟨p, hp, rfl, hp2⟩
  · simp (disch := (first | assumption | omega | decide | (simp only [mK_uI, mK_uP, mL_uI, mL_uP, mK_wI, mL_wI, mK_nA_e, mL_nA_e] <;> (first | assumption | omega)))) only [i3_le_t, i3_le_f, i3_lt_t, i3_lt_f, i3_eq_t, i3_eq_f, i3_add, i3_mul, i3_sub, i3_div, i3_dec, i3_m1, m1_i3, m1_eq, i3_ge0, m1_lt, i3_le_m1, ↓reduceIte, rZ_0, rZ_1, bdR_s, bdW_s, ifN_n, ifN_s, ↓fgI_s, ↓fgR_s, ↓rk_s, ↓fpI_s, ↓fpR_s, ↓fpZ_0, ↓fpZ_1, ↓alI_i, ↓alP_i, ↓asI_i, ↓asB_i, ↓asZ_0, ↓asZ_1, ↓aln_i, ↓fca_s, ↓fca_n, bdC_li, bdC_ri, mK_uI, mK_uP, mL_uI, mL_uP, mP_uI, mI_uP, mK_wI, mL_wI, mP_wI, mI_uI_e, mI_uI_c, nwO_s, mK_nA_e, mL_nA_e, fStore_partAt_E, a]
  · simp (disch := (first | assumption | omega | decide | (simp only [mK_uI, mK_uP, mL_uI, mL_uP, mK_wI, mL_wI, mK_nA_e, mL_nA_e] <;> (first | assumption | omega)))) only [i3_le_t, i3_le_f, i3_lt_t, i3_lt_f, i3_eq_t, i3_eq_f, i3_add, i3_mul, i3_sub, i3_div, i3_dec, i3_m1, m1_i3, m1_eq, i3_ge0, m1_lt, i3_le_m1, ↓reduceIte, rZ_0, rZ_1, bdR_s, bdW_s, ifN_n, ifN_s, ↓fgI_s, ↓fgR_s, ↓rk_s, ↓fpI_s, ↓fpR_s, ↓fpZ_0, ↓fpZ_1, ↓alI_i, ↓alP_i, ↓asI_i, ↓asB_i, ↓asZ_0, ↓asZ_1, ↓aln_i, ↓fca_s, ↓fca_n, bdC_li, bdC_ri, mK_uI, mK_uP, mL_uI, mL_uP, mP_uI, mI_uP, mK_wI, mL_wI, mP_wI, mI_uI_e, mI_uI_c, nwO_s, mK_nA_e, mL_nA_e, fStore_partAt_E, hq, hs]
theorem part_cases (R : RR h own B σ M n) (I : IV c σ) (x1 x2 : Int32) : (fHb_regionOf h x1 M n = some (.inr 0, M, n + 1) ∧ fMd_isPart x1 x2 σ = some (i3 0)) ∨ (∃ r, r < 2 ∧ fHb_regionOf h x1 M n = some (.inl (some (gr h r)), M, n) ∧ mK M (gr h r) = 6 ∧ mP M 600 (gr h r) 0 = some (gr h r + 1) ∧ fHb_partOf (some (gr h r + 1)) x2 M n = some (.inr 0, M, n + 1) ∧ fMd_isPart x1 x2 σ = some (i3 0)) ∨ ∃ r p, r < 2 ∧ p < nv (σ 18 r) ∧ p < 90 ∧ x1 = i3 r ∧ x2 = i3 p ∧ fHb_regionOf h x1 M n = some (.inl (some (gr h r)), M, n) ∧ mK M (gr h r) = 6 ∧ mP M 600 (gr h r) 0 = some (gr h r + 1) ∧ fHb_partOf (some (gr h r + 1)) x2 M n = some (.inl (some (pa B r p)), M, n) ∧ fMd_isPart x1 x2 σ = some (i3 1) ∧ σ 19 (90 * r + p) = i3 0 := by
  rcases regs x1 with ⟨r, hr, rfl⟩ | ⟨h0, h1⟩
  · right
    obtain ⟨P, h90, hP⟩ := (I.pn r hr).to
    have eP : nv (σ 18 r) = P := by rw [hP]; exact nv_i (by omega)
    have q1 := c_reg (n := n) R hr
    have q2 := m_reg hr
    have q3 := (R.rg r hr).k
    have q4 := (R.rg r hr).p0
    have q5 := (R.rg r hr).ks
    rcases i3_cases x2 with a | ⟨p, hp, rfl⟩
    · left
      have q6 := c_partAt_n R hr hP h90 (x := x2) (Or.inl a)
      refine ⟨r, hr, q1, q3, q4, ?_, ?_⟩
      · clear R I
        simp (disch := (first | assumption | omega | decide | (simp only [mK_uI, mK_uP, mL_uI, mL_uP, mK_wI, mL_wI, mK_nA_e, mL_nA_e] <;> (first | assumption | omega)))) only [i3_le_t, i3_le_f, i3_lt_t, i3_lt_f, i3_eq_t, i3_eq_f, i3_add, i3_mul, i3_sub, i3_div, i3_dec, i3_m1, m1_i3, m1_eq, i3_ge0, m1_lt, i3_le_m1, ↓reduceIte, rZ_0, rZ_1, bdR_s, bdW_s, ifN_n, ifN_s, ↓fgI_s, ↓fgR_s, ↓rk_s, ↓fpI_s, ↓fpR_s, ↓fpZ_0, ↓fpZ_1, ↓alI_i, ↓alP_i, ↓asI_i, ↓asB_i, ↓asZ_0, ↓asZ_1, ↓aln_i, ↓fca_s, ↓fca_n, bdC_li, bdC_ri, mK_uI, mK_uP, mL_uI, mL_uP, mP_uI, mI_uP, mK_wI, mL_wI, mP_wI, mI_uI_e, mI_uI_c, nwO_s, mK_nA_e, mL_nA_e, fHb_partOf_E, q6]
      · clear R I
        simp (disch := (first | assumption | omega | decide | (simp only [mK_uI, mK_uP, mL_uI, mL_uP, mK_wI, mL_wI, mK_nA_e, mL_nA_e] <;> (first | assumption | omega)))) only [i3_le_t, i3_le_f, i3_lt_t, i3_lt_f, i3_eq_t, i3_eq_f, i3_add, i3_mul, i3_sub, i3_div, i3_dec, i3_m1, m1_i3, m1_eq, i3_ge0, m1_lt, i3_le_m1, ↓reduceIte, rZ_0, rZ_1, bdR_s, bdW_s, ifN_n, ifN_s, uS_n, uS_e, uS_d, ↓mgF_s, ↓mpF_s, ↓mgA_2, ↓mgA_4, ↓mgA_6, ↓mgA_7, ↓mgA_9, ↓mgA_10, ↓mgA_12, ↓mgA_14, ↓mgA_15, ↓mgA_16, ↓mgA_17, ↓mgA_18, ↓mgA_19, ↓mgA_20, ↓mgA_21, ↓mgA_22, ↓mgA_23, ↓mgA_24, ↓mgA_25, ↓mgA_26, ↓mgA_27, ↓mgA_28, ↓mgA_29, ↓mgA_30, ↓mgA_31, ↓mgA_32, ↓mgA_33, ↓mgA_34, ↓mgA_35, ↓mgA_36, ↓mgA_37, ↓mgA_38, ↓mgA_39, ↓mgA_41, ↓mgA_42, ↓mgA_43, ↓mgA_44, ↓mgA_45, ↓mgA_46, ↓mpA_2, ↓mpA_4, ↓mpA_6, ↓mpA_7, ↓mpA_9, ↓mpA_10, ↓mpA_12, ↓mpA_14, ↓mpA_15, ↓mpA_16, ↓mpZ_17, ↓mpA_18, ↓mpZ_19, ↓mpA_20, ↓mpA_21, ↓mpA_22, ↓mpA_23, ↓mpA_24, ↓mpZ_25, ↓mpA_26, ↓mpA_27, ↓mpA_28, ↓mpA_29, ↓mpA_30, ↓mpA_31, ↓mpA_32, ↓mpA_33, ↓mpA_34, ↓mpZ_35, ↓mpA_36, ↓mpA_37, ↓mpA_38, ↓mpA_39, ↓mpA_41, ↓mpA_42, ↓mpZ_43, ↓mpA_44, ↓mpA_45, ↓mpA_46, fMd_isPart_E, q2, hP, fMd_isIn_E, a]
    · by_cases z : p < P
      · have q6 := c_partAt_i R hr hP h90 z
        by_cases w : σ 19 (90 * r + p) = i3 0
        · right
          refine ⟨r, p, hr, by omega, by omega, rfl, rfl, q1, q3, q4, ?_, ?_, w⟩
          · clear R I
            simp (disch := (first | assumption | omega | decide | (simp only [mK_uI, mK_uP, mL_uI, mL_uP, mK_wI, mL_wI, mK_nA_e, mL_nA_e] <;> (first | assumption | omega)))) only [i3_le_t, i3_le_f, i3_lt_t, i3_lt_f, i3_eq_t, i3_eq_f, i3_add, i3_mul, i3_sub, i3_div, i3_dec, i3_m1, m1_i3, m1_eq, i3_ge0, m1_lt, i3_le_m1, ↓reduceIte, rZ_0, rZ_1, bdR_s, bdW_s, ifN_n, ifN_s, ↓fgI_s, ↓fgR_s, ↓rk_s, ↓fpI_s, ↓fpR_s, ↓fpZ_0, ↓fpZ_1, ↓alI_i, ↓alP_i, ↓asI_i, ↓asB_i, ↓asZ_0, ↓asZ_1, ↓aln_i, ↓fca_s, ↓fca_n, bdC_li, bdC_ri, mK_uI, mK_uP, mL_uI, mL_uP, mP_uI, mI_uP, mK_wI, mL_wI, mP_wI, mI_uI_e, mI_uI_c, nwO_s, mK_nA_e, mL_nA_e, fHb_partOf_E, q6, w]
          · clear R I
            simp (disch := (first | assumption | omega | decide | (simp only [mK_uI, mK_uP, mL_uI, mL_uP, mK_wI, mL_wI, mK_nA_e, mL_nA_e] <;> (first | assumption | omega)))) only [i3_le_t, i3_le_f, i3_lt_t, i3_lt_f, i3_eq_t, i3_eq_f, i3_add, i3_mul, i3_sub, i3_div, i3_dec, i3_m1, m1_i3, m1_eq, i3_ge0, m1_lt, i3_le_m1, ↓reduceIte, rZ_0, rZ_1, bdR_s, bdW_s, ifN_n, ifN_s, uS_n, uS_e, uS_d, ↓mgF_s, ↓mpF_s, ↓mgA_2, ↓mgA_4, ↓mgA_6, ↓mgA_7, ↓mgA_9, ↓mgA_10, ↓mgA_12, ↓mgA_14, ↓mgA_15, ↓mgA_16, ↓mgA_17, ↓mgA_18, ↓mgA_19, ↓mgA_20, ↓mgA_21, ↓mgA_22, ↓mgA_23, ↓mgA_24, ↓mgA_25, ↓mgA_26, ↓mgA_27, ↓mgA_28, ↓mgA_29, ↓mgA_30, ↓mgA_31, ↓mgA_32, ↓mgA_33, ↓mgA_34, ↓mgA_35, ↓mgA_36, ↓mgA_37, ↓mgA_38, ↓mgA_39, ↓mgA_41, ↓mgA_42, ↓mgA_43, ↓mgA_44, ↓mgA_45, ↓mgA_46, ↓mpA_2, ↓mpA_4, ↓mpA_6, ↓mpA_7, ↓mpA_9, ↓mpA_10, ↓mpA_12, ↓mpA_14, ↓mpA_15, ↓mpA_16, ↓mpZ_17, ↓mpA_18, ↓mpZ_19, ↓mpA_20, ↓mpA_21, ↓mpA_22, ↓mpA_23, ↓mpA_24, ↓mpZ_25, ↓mpA_26, ↓mpA_27, ↓mpA_28, ↓mpA_29, ↓mpA_30, ↓mpA_31, ↓mpA_32, ↓mpA_33, ↓mpA_34, ↓mpZ_35, ↓mpA_36, ↓mpA_37, ↓mpA_38, ↓mpA_39, ↓mpA_41, ↓mpA_42, ↓mpZ_43, ↓mpA_44, ↓mpA_45, ↓mpA_46, fMd_isPart_E, q2, hP, fMd_isIn_E, w]
        · left
          refine ⟨r, hr, q1, q3, q4, ?_, ?_⟩
          · clear R I
            simp (disch := (first | assumption | omega | decide | (simp only [mK_uI, mK_uP, mL_uI, mL_uP, mK_wI, mL_wI, mK_nA_e, mL_nA_e] <;> (first | assumption | omega)))) only [i3_le_t, i3_le_f, i3_lt_t, i3_lt_f, i3_eq_t, i3_eq_f, i3_add, i3_mul, i3_sub, i3_div, i3_dec, i3_m1, m1_i3, m1_eq, i3_ge0, m1_lt, i3_le_m1, ↓reduceIte, rZ_0, rZ_1, bdR_s, bdW_s, ifN_n, ifN_s, ↓fgI_s, ↓fgR_s, ↓rk_s, ↓fpI_s, ↓fpR_s, ↓fpZ_0, ↓fpZ_1, ↓alI_i, ↓alP_i, ↓asI_i, ↓asB_i, ↓asZ_0, ↓asZ_1, ↓aln_i, ↓fca_s, ↓fca_n, bdC_li, bdC_ri, mK_uI, mK_uP, mL_uI, mL_uP, mP_uI, mI_uP, mK_wI, mL_wI, mP_wI, mI_uI_e, mI_uI_c, nwO_s, mK_nA_e, mL_nA_e, fHb_partOf_E, q6, w]
          · clear R I
            simp (disch := (first | assumption | omega | decide | (simp only [mK_uI, mK_uP, mL_uI, mL_uP, mK_wI, mL_wI, mK_nA_e, mL_nA_e] <;> (first | assumption | omega)))) only [i3_le_t, i3_le_f, i3_lt_t, i3_lt_f, i3_eq_t, i3_eq_f, i3_add, i3_mul, i3_sub, i3_div, i3_dec, i3_m1, m1_i3, m1_eq, i3_ge0, m1_lt, i3_le_m1, ↓reduceIte, rZ_0, rZ_1, bdR_s, bdW_s, ifN_n, ifN_s, uS_n, uS_e, uS_d, ↓mgF_s, ↓mpF_s, ↓mgA_2, ↓mgA_4, ↓mgA_6, ↓mgA_7, ↓mgA_9, ↓mgA_10, ↓mgA_12, ↓mgA_14, ↓mgA_15, ↓mgA_16, ↓mgA_17, ↓mgA_18, ↓mgA_19, ↓mgA_20, ↓mgA_21, ↓mgA_22, ↓mgA_23, ↓mgA_24, ↓mgA_25, ↓mgA_26, ↓mgA_27, ↓mgA_28, ↓mgA_29, ↓mgA_30, ↓mgA_31, ↓mgA_32, ↓mgA_33, ↓mgA_34, ↓mgA_35, ↓mgA_36, ↓mgA_37, ↓mgA_38, ↓mgA_39, ↓mgA_41, ↓mgA_42, ↓mgA_43, ↓mgA_44, ↓mgA_45, ↓mgA_46, ↓mpA_2, ↓mpA_4, ↓mpA_6, ↓mpA_7, ↓mpA_9, ↓mpA_10, ↓mpA_12, ↓mpA_14, ↓mpA_15, ↓mpA_16, ↓mpZ_17, ↓mpA_18, ↓mpZ_19, ↓mpA_20, ↓mpA_21, ↓mpA_22, ↓mpA_23, ↓mpA_24, ↓mpZ_25, ↓mpA_26, ↓mpA_27, ↓mpA_28, ↓mpA_29, ↓mpA_30, ↓mpA_31, ↓mpA_32, ↓mpA_33, ↓mpA_34, ↓mpZ_35, ↓mpA_36, ↓mpA_37, ↓mpA_38, ↓mpA_39, ↓mpA_41, ↓mpA_42, ↓mpZ_43, ↓mpA_44, ↓mpA_45, ↓mpA_46, fMd_isPart_E, q2, hP, fMd_isIn_E, w]
      · left
        have q6 := c_partAt_n R hr hP h90 (x := i3 p) (Or.inr ⟨p, hp, rfl, by omega⟩)
        refine ⟨r, hr, q1, q3, q4, ?_, ?_⟩
        · clear R I
          simp (disch := (first | assumption | omega | decide | (simp only [mK_uI, mK_uP, mL_uI, mL_uP, mK_wI, mL_wI, mK_nA_e, mL_nA_e] <;> (first | assumption | omega)))) only [i3_le_t, i3_le_f, i3_lt_t, i3_lt_f, i3_eq_t, i3_eq_f, i3_add, i3_mul, i3_sub, i3_div, i3_dec, i3_m1, m1_i3, m1_eq, i3_ge0, m1_lt, i3_le_m1, ↓reduceIte, rZ_0, rZ_1, bdR_s, bdW_s, ifN_n, ifN_s, ↓fgI_s, ↓fgR_s, ↓rk_s, ↓fpI_s, ↓fpR_s, ↓fpZ_0, ↓fpZ_1, ↓alI_i, ↓alP_i, ↓asI_i, ↓asB_i, ↓asZ_0, ↓asZ_1, ↓aln_i, ↓fca_s, ↓fca_n, bdC_li, bdC_ri, mK_uI, mK_uP, mL_uI, mL_uP, mP_uI, mI_uP, mK_wI, mL_wI, mP_wI, mI_uI_e, mI_uI_c, nwO_s, mK_nA_e, mL_nA_e, fHb_partOf_E, q6]
        · clear R I
          by_cases y : P = 0
          · subst y
            simp (disch := (first | assumption | omega | decide | (simp only [mK_uI, mK_uP, mL_uI, mL_uP, mK_wI, mL_wI, mK_nA_e, mL_nA_e] <;> (first | assumption | omega)))) only [i3_le_t, i3_le_f, i3_lt_t, i3_lt_f, i3_eq_t, i3_eq_f, i3_add, i3_mul, i3_sub, i3_div, i3_dec, i3_m1, m1_i3, m1_eq, i3_ge0, m1_lt, i3_le_m1, ↓reduceIte, rZ_0, rZ_1, bdR_s, bdW_s, ifN_n, ifN_s, uS_n, uS_e, uS_d, ↓mgF_s, ↓mpF_s, ↓mgA_2, ↓mgA_4, ↓mgA_6, ↓mgA_7, ↓mgA_9, ↓mgA_10, ↓mgA_12, ↓mgA_14, ↓mgA_15, ↓mgA_16, ↓mgA_17, ↓mgA_18, ↓mgA_19, ↓mgA_20, ↓mgA_21, ↓mgA_22, ↓mgA_23, ↓mgA_24, ↓mgA_25, ↓mgA_26, ↓mgA_27, ↓mgA_28, ↓mgA_29, ↓mgA_30, ↓mgA_31, ↓mgA_32, ↓mgA_33, ↓mgA_34, ↓mgA_35, ↓mgA_36, ↓mgA_37, ↓mgA_38, ↓mgA_39, ↓mgA_41, ↓mgA_42, ↓mgA_43, ↓mgA_44, ↓mgA_45, ↓mgA_46, ↓mpA_2, ↓mpA_4, ↓mpA_6, ↓mpA_7, ↓mpA_9, ↓mpA_10, ↓mpA_12, ↓mpA_14, ↓mpA_15, ↓mpA_16, ↓mpZ_17, ↓mpA_18, ↓mpZ_19, ↓mpA_20, ↓mpA_21, ↓mpA_22, ↓mpA_23, ↓mpA_24, ↓mpZ_25, ↓mpA_26, ↓mpA_27, ↓mpA_28, ↓mpA_29, ↓mpA_30, ↓mpA_31, ↓mpA_32, ↓mpA_33, ↓mpA_34, ↓mpZ_35, ↓mpA_36, ↓mpA_37, ↓mpA_38, ↓mpA_39, ↓mpA_41, ↓mpA_42, ↓mpZ_43, ↓mpA_44, ↓mpA_45, ↓mpA_46, fMd_isPart_E, q2, hP, i3_dec1, fMd_isIn_E]
          · simp (disch := (first | assumption | omega | decide | (simp only [mK_uI, mK_uP, mL_uI, mL_uP, mK_wI, mL_wI, mK_nA_e, mL_nA_e] <;> (first | assumption | omega)))) only [i3_le_t, i3_le_f, i3_lt_t, i3_lt_f, i3_eq_t, i3_eq_f, i3_add, i3_mul, i3_sub, i3_div, i3_dec, i3_m1, m1_i3, m1_eq, i3_ge0, m1_lt, i3_le_m1, ↓reduceIte, rZ_0, rZ_1, bdR_s, bdW_s, ifN_n, ifN_s, uS_n, uS_e, uS_d, ↓mgF_s, ↓mpF_s, ↓mgA_2, ↓mgA_4, ↓mgA_6, ↓mgA_7, ↓mgA_9, ↓mgA_10, ↓mgA_12, ↓mgA_14, ↓mgA_15, ↓mgA_16, ↓mgA_17, ↓mgA_18, ↓mgA_19, ↓mgA_20, ↓mgA_21, ↓mgA_22, ↓mgA_23, ↓mgA_24, ↓mgA_25, ↓mgA_26, ↓mgA_27, ↓mgA_28, ↓mgA_29, ↓mgA_30, ↓mgA_31, ↓mgA_32, ↓mgA_33, ↓mgA_34, ↓mgA_35, ↓mgA_36, ↓mgA_37, ↓mgA_38, ↓mgA_39, ↓mgA_41, ↓mgA_42, ↓mgA_43, ↓mgA_44, ↓mgA_45, ↓mgA_46, ↓mpA_2, ↓mpA_4, ↓mpA_6, ↓mpA_7, ↓mpA_9, ↓mpA_10, ↓mpA_12, ↓mpA_14, ↓mpA_15, ↓mpA_16, ↓mpZ_17, ↓mpA_18, ↓mpZ_19, ↓mpA_20, ↓mpA_21, ↓mpA_22, ↓mpA_23, ↓mpA_24, ↓mpZ_25, ↓mpA_26, ↓mpA_27, ↓mpA_28, ↓mpA_29, ↓mpA_30, ↓mpA_31, ↓mpA_32, ↓mpA_33, ↓mpA_34, ↓mpZ_35, ↓mpA_36, ↓mpA_37, ↓mpA_38, ↓mpA_39, ↓mpA_41, ↓mpA_42, ↓mpZ_43, ↓mpA_44, ↓mpA_45, ↓mpA_46, fMd_isPart_E, q2, hP, fMd_isIn_E]
  · left
    have q2 := m_noreg h0 h1
    refine ⟨c_noreg h0 h1, ?_⟩
    simp (disch := (first | assumption | omega | decide | (simp only [mK_uI, mK_uP, mL_uI, mL_uP, mK_wI, mL_wI, mK_nA_e, mL_nA_e] <;> (first | assumption | omega)))) only [i3_le_t, i3_le_f, i3_lt_t, i3_lt_f, i3_eq_t, i3_eq_f, i3_add, i3_mul, i3_sub, i3_div, i3_dec, i3_m1, m1_i3, m1_eq, i3_ge0, m1_lt, i3_le_m1, ↓reduceIte, rZ_0, rZ_1, bdR_s, bdW_s, ifN_n, ifN_s, uS_n, uS_e, uS_d, ↓mgF_s, ↓mpF_s, ↓mgA_2, ↓mgA_4, ↓mgA_6, ↓mgA_7, ↓mgA_9, ↓mgA_10, ↓mgA_12, ↓mgA_14, ↓mgA_15, ↓mgA_16, ↓mgA_17, ↓mgA_18, ↓mgA_19, ↓mgA_20, ↓mgA_21, ↓mgA_22, ↓mgA_23, ↓mgA_24, ↓mgA_25, ↓mgA_26, ↓mgA_27, ↓mgA_28, ↓mgA_29, ↓mgA_30, ↓mgA_31, ↓mgA_32, ↓mgA_33, ↓mgA_34, ↓mgA_35, ↓mgA_36, ↓mgA_37, ↓mgA_38, ↓mgA_39, ↓mgA_41, ↓mgA_42, ↓mgA_43, ↓mgA_44, ↓mgA_45, ↓mgA_46, ↓mpA_2, ↓mpA_4, ↓mpA_6, ↓mpA_7, ↓mpA_9, ↓mpA_10, ↓mpA_12, ↓mpA_14, ↓mpA_15, ↓mpA_16, ↓mpZ_17, ↓mpA_18, ↓mpZ_19, ↓mpA_20, ↓mpA_21, ↓mpA_22, ↓mpA_23, ↓mpA_24, ↓mpZ_25, ↓mpA_26, ↓mpA_27, ↓mpA_28, ↓mpA_29, ↓mpA_30, ↓mpA_31, ↓mpA_32, ↓mpA_33, ↓mpA_34, ↓mpZ_35, ↓mpA_36, ↓mpA_37, ↓mpA_38, ↓mpA_39, ↓mpA_41, ↓mpA_42, ↓mpZ_43, ↓mpA_44, ↓mpA_45, ↓mpA_46, fMd_isPart_E, q2]
theorem c_nodeOf (R : RR h own B σ M n) (hr : r < 2) {p s : Nat} (hp : p < nv (σ 18 r)) (hs : s < 5) : fPart_nodeOf (pa B r p) (i3 s) M = some (if σ 19 (90 * r + p) = i3 0 then σ 23 (5 * (90 * r + p) + s) else m1) := by
  have A := R.po r hr p hp
  have a1 := A.b.k
  have a2 := A.b.p4
  have a3 := A.b.k3
  have a4 := A.b.l3
  have a5 := A.nd s hs
  clear R A
  simp (disch := (first | assumption | omega | decide | (simp only [mK_uI, mK_uP, mL_uI, mL_uP, mK_wI, mL_wI, mK_nA_e, mL_nA_e] <;> (first | assumption | omega)))) only [i3_le_t, i3_le_f, i3_lt_t, i3_lt_f, i3_eq_t, i3_eq_f, i3_add, i3_mul, i3_sub, i3_div, i3_dec, i3_m1, m1_i3, m1_eq, i3_ge0, m1_lt, i3_le_m1, ↓reduceIte, rZ_0, rZ_1, bdR_s, bdW_s, ifN_n, ifN_s, ↓fgI_s, ↓fgR_s, ↓rk_s, ↓fpI_s, ↓fpR_s, ↓fpZ_0, ↓fpZ_1, ↓alI_i, ↓alP_i, ↓asI_i, ↓asB_i, ↓asZ_0, ↓asZ_1, ↓aln_i, ↓fca_s, ↓fca_n, bdC_li, bdC_ri, mK_uI, mK_uP, mL_uI, mL_uP, mP_uI, mI_uP, mK_wI, mL_wI, mP_wI, mI_uI_e, mI_uI_c, nwO_s, mK_nA_e, mL_nA_e, fPart_nodeOf_E, a2, a4, a5]
theorem c_isGood (R : RR h own B σ M n) (hr : r < 2) {p s : Nat} (hp : p < nv (σ 18 r)) (hs : s < 5) (hw : σ 19 (90 * r + p) = i3 0) : fPart_isGood (pa B r p) (i3 s) M = some (if gdb σ (90 * r + p) s = true then i3 1 else i3 0) := by
  have A := R.po r hr p hp
  have a1 := A.b.k
  have a2 := A.b.p5
  have a3 := A.b.k4
  have a4 := A.b.l4
  have a5 := c_nodeOf R hr hp hs
  rw [if_pos hw] at a5
  have a6 := A.ro s hs hw
  clear R A
  by_cases z : σ 23 (5 * (90 * r + p) + s) = m1
  · have z2 : gdb σ (90 * r + p) s = false := decide_eq_false fun w => w.1 z
    simp (disch := (first | assumption | omega | decide | (simp only [mK_uI, mK_uP, mL_uI, mL_uP, mK_wI, mL_wI, mK_nA_e, mL_nA_e] <;> (first | assumption | omega)))) only [i3_le_t, i3_le_f, i3_lt_t, i3_lt_f, i3_eq_t, i3_eq_f, i3_add, i3_mul, i3_sub, i3_div, i3_dec, i3_m1, m1_i3, m1_eq, i3_ge0, m1_lt, i3_le_m1, ↓reduceIte, rZ_0, rZ_1, bdR_s, bdW_s, ifN_n, ifN_s, ↓fgI_s, ↓fgR_s, ↓rk_s, ↓fpI_s, ↓fpR_s, ↓fpZ_0, ↓fpZ_1, ↓alI_i, ↓alP_i, ↓asI_i, ↓asB_i, ↓asZ_0, ↓asZ_1, ↓aln_i, ↓fca_s, ↓fca_n, bdC_li, bdC_ri, mK_uI, mK_uP, mL_uI, mL_uP, mP_uI, mI_uP, mK_wI, mL_wI, mP_wI, mI_uI_e, mI_uI_c, nwO_s, mK_nA_e, mL_nA_e, fPart_isGood_E, a5, z, z2, Bool.false_eq_true]
  · have a7 := a6 z
    by_cases y : σ 25 (5 * (90 * r + p) + s) = i3 0
    · have z2 : gdb σ (90 * r + p) s = true := decide_eq_true ⟨z, y⟩
      have a8 : mI M 0 (pa B r p + 4) s = i3 0 := a7.trans y
      simp (disch := (first | assumption | omega | decide | (simp only [mK_uI, mK_uP, mL_uI, mL_uP, mK_wI, mL_wI, mK_nA_e, mL_nA_e] <;> (first | assumption | omega)))) only [i3_le_t, i3_le_f, i3_lt_t, i3_lt_f, i3_eq_t, i3_eq_f, i3_add, i3_mul, i3_sub, i3_div, i3_dec, i3_m1, m1_i3, m1_eq, i3_ge0, m1_lt, i3_le_m1, ↓reduceIte, rZ_0, rZ_1, bdR_s, bdW_s, ifN_n, ifN_s, ↓fgI_s, ↓fgR_s, ↓rk_s, ↓fpI_s, ↓fpR_s, ↓fpZ_0, ↓fpZ_1, ↓alI_i, ↓alP_i, ↓asI_i, ↓asB_i, ↓asZ_0, ↓asZ_1, ↓aln_i, ↓fca_s, ↓fca_n, bdC_li, bdC_ri, mK_uI, mK_uP, mL_uI, mL_uP, mP_uI, mI_uP, mK_wI, mL_wI, mP_wI, mI_uI_e, mI_uI_c, nwO_s, mK_nA_e, mL_nA_e, fPart_isGood_E, a5, z, z2, a2, a4, a8]
    · have z2 : gdb σ (90 * r + p) s = false := decide_eq_false fun w => y w.2
      have a8 : ¬ mI M 0 (pa B r p + 4) s = i3 0 := fun w => y (a7.symm.trans w)
      simp (disch := (first | assumption | omega | decide | (simp only [mK_uI, mK_uP, mL_uI, mL_uP, mK_wI, mL_wI, mK_nA_e, mL_nA_e] <;> (first | assumption | omega)))) only [i3_le_t, i3_le_f, i3_lt_t, i3_lt_f, i3_eq_t, i3_eq_f, i3_add, i3_mul, i3_sub, i3_div, i3_dec, i3_m1, m1_i3, m1_eq, i3_ge0, m1_lt, i3_le_m1, ↓reduceIte, rZ_0, rZ_1, bdR_s, bdW_s, ifN_n, ifN_s, ↓fgI_s, ↓fgR_s, ↓rk_s, ↓fpI_s, ↓fpR_s, ↓fpZ_0, ↓fpZ_1, ↓alI_i, ↓alP_i, ↓asI_i, ↓asB_i, ↓asZ_0, ↓asZ_1, ↓aln_i, ↓fca_s, ↓fca_n, bdC_li, bdC_ri, mK_uI, mK_uP, mL_uI, mL_uP, mP_uI, mI_uP, mK_wI, mL_wI, mP_wI, mI_uI_e, mI_uI_c, nwO_s, mK_nA_e, mL_nA_e, fPart_isGood_E, a5, z, z2, a2, a4, a8, Bool.false_eq_true]
theorem m_isGood {a s : Nat} (ha : a < 180) (hs : s < 5) : fMd_isGood (i3 a) (i3 s) σ = some (if gdb σ a s = true then i3 1 else i3 0) := by
  by_cases z : σ 23 (5 * a + s) = m1
  · have z2 : gdb σ a s = false := decide_eq_false fun w => w.1 z
    simp (disch := (first | assumption | omega | decide | (simp only [mK_uI, mK_uP, mL_uI, mL_uP, mK_wI, mL_wI, mK_nA_e, mL_nA_e] <;> (first | assumption | omega)))) only [i3_le_t, i3_le_f, i3_lt_t, i3_lt_f, i3_eq_t, i3_eq_f, i3_add, i3_mul, i3_sub, i3_div, i3_dec, i3_m1, m1_i3, m1_eq, i3_ge0, m1_lt, i3_le_m1, ↓reduceIte, rZ_0, rZ_1, bdR_s, bdW_s, ifN_n, ifN_s, uS_n, uS_e, uS_d, ↓mgF_s, ↓mpF_s, ↓mgA_2, ↓mgA_4, ↓mgA_6, ↓mgA_7, ↓mgA_9, ↓mgA_10, ↓mgA_12, ↓mgA_14, ↓mgA_15, ↓mgA_16, ↓mgA_17, ↓mgA_18, ↓mgA_19, ↓mgA_20, ↓mgA_21, ↓mgA_22, ↓mgA_23, ↓mgA_24, ↓mgA_25, ↓mgA_26, ↓mgA_27, ↓mgA_28, ↓mgA_29, ↓mgA_30, ↓mgA_31, ↓mgA_32, ↓mgA_33, ↓mgA_34, ↓mgA_35, ↓mgA_36, ↓mgA_37, ↓mgA_38, ↓mgA_39, ↓mgA_41, ↓mgA_42, ↓mgA_43, ↓mgA_44, ↓mgA_45, ↓mgA_46, ↓mpA_2, ↓mpA_4, ↓mpA_6, ↓mpA_7, ↓mpA_9, ↓mpA_10, ↓mpA_12, ↓mpA_14, ↓mpA_15, ↓mpA_16, ↓mpZ_17, ↓mpA_18, ↓mpZ_19, ↓mpA_20, ↓mpA_21, ↓mpA_22, ↓mpA_23, ↓mpA_24, ↓mpZ_25, ↓mpA_26, ↓mpA_27, ↓mpA_28, ↓mpA_29, ↓mpA_30, ↓mpA_31, ↓mpA_32, ↓mpA_33, ↓mpA_34, ↓mpZ_35, ↓mpA_36, ↓mpA_37, ↓mpA_38, ↓mpA_39, ↓mpA_41, ↓mpA_42, ↓mpZ_43, ↓mpA_44, ↓mpA_45, ↓mpA_46, fMd_isGood_E, z, z2, Bool.false_eq_true]
  · by_cases y : σ 25 (5 * a + s) = i3 0
    · have z2 : gdb σ a s = true := decide_eq_true ⟨z, y⟩
      simp (disch := (first | assumption | omega | decide | (simp only [mK_uI, mK_uP, mL_uI, mL_uP, mK_wI, mL_wI, mK_nA_e, mL_nA_e] <;> (first | assumption | omega)))) only [i3_le_t, i3_le_f, i3_lt_t, i3_lt_f, i3_eq_t, i3_eq_f, i3_add, i3_mul, i3_sub, i3_div, i3_dec, i3_m1, m1_i3, m1_eq, i3_ge0, m1_lt, i3_le_m1, ↓reduceIte, rZ_0, rZ_1, bdR_s, bdW_s, ifN_n, ifN_s, uS_n, uS_e, uS_d, ↓mgF_s, ↓mpF_s, ↓mgA_2, ↓mgA_4, ↓mgA_6, ↓mgA_7, ↓mgA_9, ↓mgA_10, ↓mgA_12, ↓mgA_14, ↓mgA_15, ↓mgA_16, ↓mgA_17, ↓mgA_18, ↓mgA_19, ↓mgA_20, ↓mgA_21, ↓mgA_22, ↓mgA_23, ↓mgA_24, ↓mgA_25, ↓mgA_26, ↓mgA_27, ↓mgA_28, ↓mgA_29, ↓mgA_30, ↓mgA_31, ↓mgA_32, ↓mgA_33, ↓mgA_34, ↓mgA_35, ↓mgA_36, ↓mgA_37, ↓mgA_38, ↓mgA_39, ↓mgA_41, ↓mgA_42, ↓mgA_43, ↓mgA_44, ↓mgA_45, ↓mgA_46, ↓mpA_2, ↓mpA_4, ↓mpA_6, ↓mpA_7, ↓mpA_9, ↓mpA_10, ↓mpA_12, ↓mpA_14, ↓mpA_15, ↓mpA_16, ↓mpZ_17, ↓mpA_18, ↓mpZ_19, ↓mpA_20, ↓mpA_21, ↓mpA_22, ↓mpA_23, ↓mpA_24, ↓mpZ_25, ↓mpA_26, ↓mpA_27, ↓mpA_28, ↓mpA_29, ↓mpA_30, ↓mpA_31, ↓mpA_32, ↓mpA_33, ↓mpA_34, ↓mpZ_35, ↓mpA_36, ↓mpA_37, ↓mpA_38, ↓mpA_39, ↓mpA_41, ↓mpA_42, ↓mpZ_43, ↓mpA_44, ↓mpA_45, ↓mpA_46, fMd_isGood_E, z, y, z2]
    · have z2 : gdb σ a s = false := decide_eq_false fun w => y w.2
      simp (disch := (first | assumption | omega | decide | (simp only [mK_uI, mK_uP, mL_uI, mL_uP, mK_wI, mL_wI, mK_nA_e, mL_nA_e] <;> (first | assumption | omega)))) only [i3_le_t, i3_le_f, i3_lt_t, i3_lt_f, i3_eq_t, i3_eq_f, i3_add, i3_mul, i3_sub, i3_div, i3_dec, i3_m1, m1_i3, m1_eq, i3_ge0, m1_lt, i3_le_m1, ↓reduceIte, rZ_0, rZ_1, bdR_s, bdW_s, ifN_n, ifN_s, uS_n, uS_e, uS_d, ↓mgF_s, ↓mpF_s, ↓mgA_2, ↓mgA_4, ↓mgA_6, ↓mgA_7, ↓mgA_9, ↓mgA_10, ↓mgA_12, ↓mgA_14, ↓mgA_15, ↓mgA_16, ↓mgA_17, ↓mgA_18, ↓mgA_19, ↓mgA_20, ↓mgA_21, ↓mgA_22, ↓mgA_23, ↓mgA_24, ↓mgA_25, ↓mgA_26, ↓mgA_27, ↓mgA_28, ↓mgA_29, ↓mgA_30, ↓mgA_31, ↓mgA_32, ↓mgA_33, ↓mgA_34, ↓mgA_35, ↓mgA_36, ↓mgA_37, ↓mgA_38, ↓mgA_39, ↓mgA_41, ↓mgA_42, ↓mgA_43, ↓mgA_44, ↓mgA_45, ↓mgA_46, ↓mpA_2, ↓mpA_4, ↓mpA_6, ↓mpA_7, ↓mpA_9, ↓mpA_10, ↓mpA_12, ↓mpA_14, ↓mpA_15, ↓mpA_16, ↓mpZ_17, ↓mpA_18, ↓mpZ_19, ↓mpA_20, ↓mpA_21, ↓mpA_22, ↓mpA_23, ↓mpA_24, ↓mpZ_25, ↓mpA_26, ↓mpA_27, ↓mpA_28, ↓mpA_29, ↓mpA_30, ↓mpA_31, ↓mpA_32, ↓mpA_33, ↓mpA_34, ↓mpZ_35, ↓mpA_36, ↓mpA_37, ↓mpA_38, ↓mpA_39, ↓mpA_41, ↓mpA_42, ↓mpZ_43, ↓mpA_44, ↓mpA_45, ↓mpA_46, fMd_isGood_E, z, y, z2, Bool.false_eq_true]
theorem c_manyGood_l (R : RR h own B σ M n) (hr : r < 2) {p : Nat} (hp : p < nv (σ 18 r)) (hw : σ 19 (90 * r + p) = i3 0) : ∀ d s k fu, d + s = 5 → d < fu → k ≤ s → fPart_manyGood_l4 (pa B r p) fu (i3 k) (i3 s) M = some (i3 (k + cntF (gdb σ (90 * r + p)) s d)) := by
  have hk := (R.po r hr p hp).b.k
  intro d
  induction d with
  | zero =>
    intro s k fu hd hfu hks
    obtain ⟨f, rfl⟩ : ∃ f, fu = f + 1 := ⟨fu - 1, by omega⟩
    rw [fPart_manyGood_l4_S, fPart_manyGood_b4_E]
    clear R
    simp (disch := (first | assumption | omega | decide | (simp only [mK_uI, mK_uP, mL_uI, mL_uP, mK_wI, mL_wI, mK_nA_e, mL_nA_e] <;> (first | assumption | omega)))) only [i3_le_t, i3_le_f, i3_lt_t, i3_lt_f, i3_eq_t, i3_eq_f, i3_add, i3_mul, i3_sub, i3_div, i3_dec, i3_m1, m1_i3, m1_eq, i3_ge0, m1_lt, i3_le_m1, ↓reduceIte, rZ_0, rZ_1, bdR_s, bdW_s, ifN_n, ifN_s, ↓fgI_s, ↓fgR_s, ↓rk_s, ↓fpI_s, ↓fpR_s, ↓fpZ_0, ↓fpZ_1, ↓alI_i, ↓alP_i, ↓asI_i, ↓asB_i, ↓asZ_0, ↓asZ_1, ↓aln_i, ↓fca_s, ↓fca_n, bdC_li, bdC_ri, mK_uI, mK_uP, mL_uI, mL_uP, mP_uI, mI_uP, mK_wI, mL_wI, mP_wI, mI_uI_e, mI_uI_c, nwO_s, mK_nA_e, mL_nA_e, cntF, Nat.add_zero]
  | succ d ih =>
    intro s k fu hd hfu hks
    obtain ⟨f, rfl⟩ : ∃ f, fu = f + 1 := ⟨fu - 1, by omega⟩
    have g := c_isGood R hr hp (s := s) (by omega) hw
    rw [fPart_manyGood_l4_S, fPart_manyGood_b4_E, cntF_S]
    clear R
    by_cases z : gdb σ (90 * r + p) s = true
    · have ih' := ih (s + 1) (k + 1) f (by omega) (by omega) (by omega)
      simp (disch := (first | assumption | omega | decide | (simp only [mK_uI, mK_uP, mL_uI, mL_uP, mK_wI, mL_wI, mK_nA_e, mL_nA_e] <;> (first | assumption | omega)))) only [i3_le_t, i3_le_f, i3_lt_t, i3_lt_f, i3_eq_t, i3_eq_f, i3_add, i3_mul, i3_sub, i3_div, i3_dec, i3_m1, m1_i3, m1_eq, i3_ge0, m1_lt, i3_le_m1, ↓reduceIte, rZ_0, rZ_1, bdR_s, bdW_s, ifN_n, ifN_s, ↓fgI_s, ↓fgR_s, ↓rk_s, ↓fpI_s, ↓fpR_s, ↓fpZ_0, ↓fpZ_1, ↓alI_i, ↓alP_i, ↓asI_i, ↓asB_i, ↓asZ_0, ↓asZ_1, ↓aln_i, ↓fca_s, ↓fca_n, bdC_li, bdC_ri, mK_uI, mK_uP, mL_uI, mL_uP, mP_uI, mI_uP, mK_wI, mL_wI, mP_wI, mI_uI_e, mI_uI_c, nwO_s, mK_nA_e, mL_nA_e, g, z, fPart_manyGood_j20_E, ih', Nat.add_assoc]
    · have ih' := ih (s + 1) k f (by omega) (by omega) (by omega)
      simp (disch := (first | assumption | omega | decide | (simp only [mK_uI, mK_uP, mL_uI, mL_uP, mK_wI, mL_wI, mK_nA_e, mL_nA_e] <;> (first | assumption | omega)))) only [i3_le_t, i3_le_f, i3_lt_t, i3_lt_f, i3_eq_t, i3_eq_f, i3_add, i3_mul, i3_sub, i3_div, i3_dec, i3_m1, m1_i3, m1_eq, i3_ge0, m1_lt, i3_le_m1, ↓reduceIte, rZ_0, rZ_1, bdR_s, bdW_s, ifN_n, ifN_s, ↓fgI_s, ↓fgR_s, ↓rk_s, ↓fpI_s, ↓fpR_s, ↓fpZ_0, ↓fpZ_1, ↓alI_i, ↓alP_i, ↓asI_i, ↓asB_i, ↓asZ_0, ↓asZ_1, ↓aln_i, ↓fca_s, ↓fca_n, bdC_li, bdC_ri, mK_uI, mK_uP, mL_uI, mL_uP, mP_uI, mI_uP, mK_wI, mL_wI, mP_wI, mI_uI_e, mI_uI_c, nwO_s, mK_nA_e, mL_nA_e, g, z, Bool.false_eq_true, fPart_manyGood_j20_E, ih', Nat.zero_add]
theorem c_manyGood (R : RR h own B σ M n) (hr : r < 2) {p : Nat} (hp : p < nv (σ 18 r)) (hw : σ 19 (90 * r + p) = i3 0) : fPart_manyGood (pa B r p) M = some (i3 (gcn σ (90 * r + p))) := by
  have e := c_manyGood_l R hr hp hw 5 0 0 FU (by omega) (FU_S (by omega)) (by omega)
  rw [Nat.zero_add] at e
  rw [fPart_manyGood_E]; exact e
theorem m_goodMany_l {a : Nat} (ha : a < 180) : ∀ d s k fu, d + s = 5 → d < fu → k ≤ s → fMd_goodMany_l4 fu (i3 a) (i3 k) (i3 s) σ = some (i3 (k + cntF (gdb σ a) s d)) := by
  intro d
  induction d with
  | zero =>
    intro s k fu hd hfu hks
    obtain ⟨f, rfl⟩ : ∃ f, fu = f + 1 := ⟨fu - 1, by omega⟩
    rw [fMd_goodMany_l4_S, fMd_goodMany_b4_E]
    simp (disch := (first | assumption | omega | decide | (simp only [mK_uI, mK_uP, mL_uI, mL_uP, mK_wI, mL_wI, mK_nA_e, mL_nA_e] <;> (first | assumption | omega)))) only [i3_le_t, i3_le_f, i3_lt_t, i3_lt_f, i3_eq_t, i3_eq_f, i3_add, i3_mul, i3_sub, i3_div, i3_dec, i3_m1, m1_i3, m1_eq, i3_ge0, m1_lt, i3_le_m1, ↓reduceIte, rZ_0, rZ_1, bdR_s, bdW_s, ifN_n, ifN_s, uS_n, uS_e, uS_d, ↓mgF_s, ↓mpF_s, ↓mgA_2, ↓mgA_4, ↓mgA_6, ↓mgA_7, ↓mgA_9, ↓mgA_10, ↓mgA_12, ↓mgA_14, ↓mgA_15, ↓mgA_16, ↓mgA_17, ↓mgA_18, ↓mgA_19, ↓mgA_20, ↓mgA_21, ↓mgA_22, ↓mgA_23, ↓mgA_24, ↓mgA_25, ↓mgA_26, ↓mgA_27, ↓mgA_28, ↓mgA_29, ↓mgA_30, ↓mgA_31, ↓mgA_32, ↓mgA_33, ↓mgA_34, ↓mgA_35, ↓mgA_36, ↓mgA_37, ↓mgA_38, ↓mgA_39, ↓mgA_41, ↓mgA_42, ↓mgA_43, ↓mgA_44, ↓mgA_45, ↓mgA_46, ↓mpA_2, ↓mpA_4, ↓mpA_6, ↓mpA_7, ↓mpA_9, ↓mpA_10, ↓mpA_12, ↓mpA_14, ↓mpA_15, ↓mpA_16, ↓mpZ_17, ↓mpA_18, ↓mpZ_19, ↓mpA_20, ↓mpA_21, ↓mpA_22, ↓mpA_23, ↓mpA_24, ↓mpZ_25, ↓mpA_26, ↓mpA_27, ↓mpA_28, ↓mpA_29, ↓mpA_30, ↓mpA_31, ↓mpA_32, ↓mpA_33, ↓mpA_34, ↓mpZ_35, ↓mpA_36, ↓mpA_37, ↓mpA_38, ↓mpA_39, ↓mpA_41, ↓mpA_42, ↓mpZ_43, ↓mpA_44, ↓mpA_45, ↓mpA_46, cntF, Nat.add_zero]
  | succ d ih =>
    intro s k fu hd hfu hks
    obtain ⟨f, rfl⟩ : ∃ f, fu = f + 1 := ⟨fu - 1, by omega⟩
    have g := m_isGood (σ := σ) ha (s := s) (by omega)
    rw [fMd_goodMany_l4_S, fMd_goodMany_b4_E, cntF_S]
    by_cases z : gdb σ a s = true
    · have ih' := ih (s + 1) (k + 1) f (by omega) (by omega) (by omega)
      simp (disch := (first | assumption | omega | decide | (simp only [mK_uI, mK_uP, mL_uI, mL_uP, mK_wI, mL_wI, mK_nA_e, mL_nA_e] <;> (first | assumption | omega)))) only [i3_le_t, i3_le_f, i3_lt_t, i3_lt_f, i3_eq_t, i3_eq_f, i3_add, i3_mul, i3_sub, i3_div, i3_dec, i3_m1, m1_i3, m1_eq, i3_ge0, m1_lt, i3_le_m1, ↓reduceIte, rZ_0, rZ_1, bdR_s, bdW_s, ifN_n, ifN_s, uS_n, uS_e, uS_d, ↓mgF_s, ↓mpF_s, ↓mgA_2, ↓mgA_4, ↓mgA_6, ↓mgA_7, ↓mgA_9, ↓mgA_10, ↓mgA_12, ↓mgA_14, ↓mgA_15, ↓mgA_16, ↓mgA_17, ↓mgA_18, ↓mgA_19, ↓mgA_20, ↓mgA_21, ↓mgA_22, ↓mgA_23, ↓mgA_24, ↓mgA_25, ↓mgA_26, ↓mgA_27, ↓mgA_28, ↓mgA_29, ↓mgA_30, ↓mgA_31, ↓mgA_32, ↓mgA_33, ↓mgA_34, ↓mgA_35, ↓mgA_36, ↓mgA_37, ↓mgA_38, ↓mgA_39, ↓mgA_41, ↓mgA_42, ↓mgA_43, ↓mgA_44, ↓mgA_45, ↓mgA_46, ↓mpA_2, ↓mpA_4, ↓mpA_6, ↓mpA_7, ↓mpA_9, ↓mpA_10, ↓mpA_12, ↓mpA_14, ↓mpA_15, ↓mpA_16, ↓mpZ_17, ↓mpA_18, ↓mpZ_19, ↓mpA_20, ↓mpA_21, ↓mpA_22, ↓mpA_23, ↓mpA_24, ↓mpZ_25, ↓mpA_26, ↓mpA_27, ↓mpA_28, ↓mpA_29, ↓mpA_30, ↓mpA_31, ↓mpA_32, ↓mpA_33, ↓mpA_34, ↓mpZ_35, ↓mpA_36, ↓mpA_37, ↓mpA_38, ↓mpA_39, ↓mpA_41, ↓mpA_42, ↓mpZ_43, ↓mpA_44, ↓mpA_45, ↓mpA_46, g, z, fMd_goodMany_j24_E, ih', Nat.add_assoc]
    · have ih' := ih (s + 1) k f (by omega) (by omega) (by omega)
      simp (disch := (first | assumption | omega | decide | (simp only [mK_uI, mK_uP, mL_uI, mL_uP, mK_wI, mL_wI, mK_nA_e, mL_nA_e] <;> (first | assumption | omega)))) only [i3_le_t, i3_le_f, i3_lt_t, i3_lt_f, i3_eq_t, i3_eq_f, i3_add, i3_mul, i3_sub, i3_div, i3_dec, i3_m1, m1_i3, m1_eq, i3_ge0, m1_lt, i3_le_m1, ↓reduceIte, rZ_0, rZ_1, bdR_s, bdW_s, ifN_n, ifN_s, uS_n, uS_e, uS_d, ↓mgF_s, ↓mpF_s, ↓mgA_2, ↓mgA_4, ↓mgA_6, ↓mgA_7, ↓mgA_9, ↓mgA_10, ↓mgA_12, ↓mgA_14, ↓mgA_15, ↓mgA_16, ↓mgA_17, ↓mgA_18, ↓mgA_19, ↓mgA_20, ↓mgA_21, ↓mgA_22, ↓mgA_23, ↓mgA_24, ↓mgA_25, ↓mgA_26, ↓mgA_27, ↓mgA_28, ↓mgA_29, ↓mgA_30, ↓mgA_31, ↓mgA_32, ↓mgA_33, ↓mgA_34, ↓mgA_35, ↓mgA_36, ↓mgA_37, ↓mgA_38, ↓mgA_39, ↓mgA_41, ↓mgA_42, ↓mgA_43, ↓mgA_44, ↓mgA_45, ↓mgA_46, ↓mpA_2, ↓mpA_4, ↓mpA_6, ↓mpA_7, ↓mpA_9, ↓mpA_10, ↓mpA_12, ↓mpA_14, ↓mpA_15, ↓mpA_16, ↓mpZ_17, ↓mpA_18, ↓mpZ_19, ↓mpA_20, ↓mpA_21, ↓mpA_22, ↓mpA_23, ↓mpA_24, ↓mpZ_25, ↓mpA_26, ↓mpA_27, ↓mpA_28, ↓mpA_29, ↓mpA_30, ↓mpA_31, ↓mpA_32, ↓mpA_33, ↓mpA_34, ↓mpZ_35, ↓mpA_36, ↓mpA_37, ↓mpA_38, ↓mpA_39, ↓mpA_41, ↓mpA_42, ↓mpZ_43, ↓mpA_44, ↓mpA_45, ↓mpA_46, g, z, Bool.false_eq_true, fMd_goodMany_j24_E, ih', Nat.zero_add, Nat.add_zero]
theorem m_goodMany {a : Nat} (ha : a < 180) : fMd_goodMany (i3 a) σ = some (i3 (gcn σ a)) := by
  have e := m_goodMany_l (σ := σ) ha 5 0 0 FU (by omega) (FU_S (by omega)) (by omega)
  rw [Nat.zero_add] at e
  rw [fMd_goodMany_E]; exact e
theorem gcn_e {σ' : Sg} {a : Nat} (e1 : σ' 23 = σ 23) (e2 : σ' 25 = σ 25) : gcn σ' a = gcn σ a := by
  unfold gcn gdb
  rw [e1, e2]
theorem op_partIs (R : RR h own B σ M n) (I : IV c σ) (x1 x2 x3 : Int32) : OPR h c σ n (fHb_partIs h x1 x2 x3 M n) (fMd_partIs x1 x2 x3 σ) (cdf 1 2 0) := by
  have k := R.hb.k
  have hn : n ≤ n + 1 := Nat.le_succ n
  rcases part_cases R I x1 x2 with ⟨q1, q2⟩ | ⟨r, hr, q1, q3, q4, q5, q2⟩ | ⟨r, p, hr, hp, hp90, rfl, rfl, q1, q3, q4, q5, q2, hw⟩
  · refine OPR.err R I 0 1 (v := i3 0) ?_ ?_ rfl (by omega) (by omega)
    · simp (disch := (first | assumption | omega | decide | (simp only [mK_uI, mK_uP, mL_uI, mL_uP, mK_wI, mL_wI, mK_nA_e, mL_nA_e] <;> (first | assumption | omega)))) only [i3_le_t, i3_le_f, i3_lt_t, i3_lt_f, i3_eq_t, i3_eq_f, i3_add, i3_mul, i3_sub, i3_div, i3_dec, i3_m1, m1_i3, m1_eq, i3_ge0, m1_lt, i3_le_m1, ↓reduceIte, rZ_0, rZ_1, bdR_s, bdW_s, ifN_n, ifN_s, ↓fgI_s, ↓fgR_s, ↓rk_s, ↓fpI_s, ↓fpR_s, ↓fpZ_0, ↓fpZ_1, ↓alI_i, ↓alP_i, ↓asI_i, ↓asB_i, ↓asZ_0, ↓asZ_1, ↓aln_i, ↓fca_s, ↓fca_n, bdC_li, bdC_ri, mK_uI, mK_uP, mL_uI, mL_uP, mP_uI, mI_uP, mK_wI, mL_wI, mP_wI, mI_uI_e, mI_uI_c, nwO_s, mK_nA_e, mL_nA_e, fHb_partIs_E, q1]
    · simp (disch := (first | assumption | omega | decide | (simp only [mK_uI, mK_uP, mL_uI, mL_uP, mK_wI, mL_wI, mK_nA_e, mL_nA_e] <;> (first | assumption | omega)))) only [i3_le_t, i3_le_f, i3_lt_t, i3_lt_f, i3_eq_t, i3_eq_f, i3_add, i3_mul, i3_sub, i3_div, i3_dec, i3_m1, m1_i3, m1_eq, i3_ge0, m1_lt, i3_le_m1, ↓reduceIte, rZ_0, rZ_1, bdR_s, bdW_s, ifN_n, ifN_s, uS_n, uS_e, uS_d, ↓mgF_s, ↓mpF_s, ↓mgA_2, ↓mgA_4, ↓mgA_6, ↓mgA_7, ↓mgA_9, ↓mgA_10, ↓mgA_12, ↓mgA_14, ↓mgA_15, ↓mgA_16, ↓mgA_17, ↓mgA_18, ↓mgA_19, ↓mgA_20, ↓mgA_21, ↓mgA_22, ↓mgA_23, ↓mgA_24, ↓mgA_25, ↓mgA_26, ↓mgA_27, ↓mgA_28, ↓mgA_29, ↓mgA_30, ↓mgA_31, ↓mgA_32, ↓mgA_33, ↓mgA_34, ↓mgA_35, ↓mgA_36, ↓mgA_37, ↓mgA_38, ↓mgA_39, ↓mgA_41, ↓mgA_42, ↓mgA_43, ↓mgA_44, ↓mgA_45, ↓mgA_46, ↓mpA_2, ↓mpA_4, ↓mpA_6, ↓mpA_7, ↓mpA_9, ↓mpA_10, ↓mpA_12, ↓mpA_14, ↓mpA_15, ↓mpA_16, ↓mpZ_17, ↓mpA_18, ↓mpZ_19, ↓mpA_20, ↓mpA_21, ↓mpA_22, ↓mpA_23, ↓mpA_24, ↓mpZ_25, ↓mpA_26, ↓mpA_27, ↓mpA_28, ↓mpA_29, ↓mpA_30, ↓mpA_31, ↓mpA_32, ↓mpA_33, ↓mpA_34, ↓mpZ_35, ↓mpA_36, ↓mpA_37, ↓mpA_38, ↓mpA_39, ↓mpA_41, ↓mpA_42, ↓mpZ_43, ↓mpA_44, ↓mpA_45, ↓mpA_46, fMd_partIs_E, q2, fMd_partIs_j29_E, m_holdsk]
  · refine OPR.err R I 0 1 (v := i3 0) ?_ ?_ rfl (by omega) (by omega)
    · simp (disch := (first | assumption | omega | decide | (simp only [mK_uI, mK_uP, mL_uI, mL_uP, mK_wI, mL_wI, mK_nA_e, mL_nA_e] <;> (first | assumption | omega)))) only [i3_le_t, i3_le_f, i3_lt_t, i3_lt_f, i3_eq_t, i3_eq_f, i3_add, i3_mul, i3_sub, i3_div, i3_dec, i3_m1, m1_i3, m1_eq, i3_ge0, m1_lt, i3_le_m1, ↓reduceIte, rZ_0, rZ_1, bdR_s, bdW_s, ifN_n, ifN_s, ↓fgI_s, ↓fgR_s, ↓rk_s, ↓fpI_s, ↓fpR_s, ↓fpZ_0, ↓fpZ_1, ↓alI_i, ↓alP_i, ↓asI_i, ↓asB_i, ↓asZ_0, ↓asZ_1, ↓aln_i, ↓fca_s, ↓fca_n, bdC_li, bdC_ri, mK_uI, mK_uP, mL_uI, mL_uP, mP_uI, mI_uP, mK_wI, mL_wI, mP_wI, mI_uI_e, mI_uI_c, nwO_s, mK_nA_e, mL_nA_e, fHb_partIs_E, q1, q4, q5]
    · simp (disch := (first | assumption | omega | decide | (simp only [mK_uI, mK_uP, mL_uI, mL_uP, mK_wI, mL_wI, mK_nA_e, mL_nA_e] <;> (first | assumption | omega)))) only [i3_le_t, i3_le_f, i3_lt_t, i3_lt_f, i3_eq_t, i3_eq_f, i3_add, i3_mul, i3_sub, i3_div, i3_dec, i3_m1, m1_i3, m1_eq, i3_ge0, m1_lt, i3_le_m1, ↓reduceIte, rZ_0, rZ_1, bdR_s, bdW_s, ifN_n, ifN_s, uS_n, uS_e, uS_d, ↓mgF_s, ↓mpF_s, ↓mgA_2, ↓mgA_4, ↓mgA_6, ↓mgA_7, ↓mgA_9, ↓mgA_10, ↓mgA_12, ↓mgA_14, ↓mgA_15, ↓mgA_16, ↓mgA_17, ↓mgA_18, ↓mgA_19, ↓mgA_20, ↓mgA_21, ↓mgA_22, ↓mgA_23, ↓mgA_24, ↓mgA_25, ↓mgA_26, ↓mgA_27, ↓mgA_28, ↓mgA_29, ↓mgA_30, ↓mgA_31, ↓mgA_32, ↓mgA_33, ↓mgA_34, ↓mgA_35, ↓mgA_36, ↓mgA_37, ↓mgA_38, ↓mgA_39, ↓mgA_41, ↓mgA_42, ↓mgA_43, ↓mgA_44, ↓mgA_45, ↓mgA_46, ↓mpA_2, ↓mpA_4, ↓mpA_6, ↓mpA_7, ↓mpA_9, ↓mpA_10, ↓mpA_12, ↓mpA_14, ↓mpA_15, ↓mpA_16, ↓mpZ_17, ↓mpA_18, ↓mpZ_19, ↓mpA_20, ↓mpA_21, ↓mpA_22, ↓mpA_23, ↓mpA_24, ↓mpZ_25, ↓mpA_26, ↓mpA_27, ↓mpA_28, ↓mpA_29, ↓mpA_30, ↓mpA_31, ↓mpA_32, ↓mpA_33, ↓mpA_34, ↓mpZ_35, ↓mpA_36, ↓mpA_37, ↓mpA_38, ↓mpA_39, ↓mpA_41, ↓mpA_42, ↓mpZ_43, ↓mpA_44, ↓mpA_45, ↓mpA_46, fMd_partIs_E, q2, fMd_partIs_j29_E, m_holdsk]
  · have A := R.po r hr p hp
    have a1 := A.b.k
    have a2 := A.ct
    have a3 := A.lo
    by_cases hx : inR x3 0 7
    · have q6 := inR_c (M := M) (n := n) hx (by omega)
      have q7 := inR_m hx (by omega)
      obtain ⟨w, -, hw7, rfl⟩ := hx
      by_cases w0 : w = 0
      · subst w0
        refine OPR.ok0 R I (w := σ 20 (90 * r + p)) ?_ ?_
        · clear R I A
          simp (disch := (first | assumption | omega | decide | (simp only [mK_uI, mK_uP, mL_uI, mL_uP, mK_wI, mL_wI, mK_nA_e, mL_nA_e] <;> (first | assumption | omega)))) only [i3_le_t, i3_le_f, i3_lt_t, i3_lt_f, i3_eq_t, i3_eq_f, i3_add, i3_mul, i3_sub, i3_div, i3_dec, i3_m1, m1_i3, m1_eq, i3_ge0, m1_lt, i3_le_m1, ↓reduceIte, rZ_0, rZ_1, bdR_s, bdW_s, ifN_n, ifN_s, ↓fgI_s, ↓fgR_s, ↓rk_s, ↓fpI_s, ↓fpR_s, ↓fpZ_0, ↓fpZ_1, ↓alI_i, ↓alP_i, ↓asI_i, ↓asB_i, ↓asZ_0, ↓asZ_1, ↓aln_i, ↓fca_s, ↓fca_n, bdC_li, bdC_ri, mK_uI, mK_uP, mL_uI, mL_uP, mP_uI, mI_uP, mK_wI, mL_wI, mP_wI, mI_uI_e, mI_uI_c, nwO_s, mK_nA_e, mL_nA_e, fHb_partIs_E, q1, q4, q5, q6, tsw_in, tsl, a2]
        · clear R I A
          simp (disch := (first | assumption | omega | decide | (simp only [mK_uI, mK_uP, mL_uI, mL_uP, mK_wI, mL_wI, mK_nA_e, mL_nA_e] <;> (first | assumption | omega)))) only [i3_le_t, i3_le_f, i3_lt_t, i3_lt_f, i3_eq_t, i3_eq_f, i3_add, i3_mul, i3_sub, i3_div, i3_dec, i3_m1, m1_i3, m1_eq, i3_ge0, m1_lt, i3_le_m1, ↓reduceIte, rZ_0, rZ_1, bdR_s, bdW_s, ifN_n, ifN_s, uS_n, uS_e, uS_d, ↓mgF_s, ↓mpF_s, ↓mgA_2, ↓mgA_4, ↓mgA_6, ↓mgA_7, ↓mgA_9, ↓mgA_10, ↓mgA_12, ↓mgA_14, ↓mgA_15, ↓mgA_16, ↓mgA_17, ↓mgA_18, ↓mgA_19, ↓mgA_20, ↓mgA_21, ↓mgA_22, ↓mgA_23, ↓mgA_24, ↓mgA_25, ↓mgA_26, ↓mgA_27, ↓mgA_28, ↓mgA_29, ↓mgA_30, ↓mgA_31, ↓mgA_32, ↓mgA_33, ↓mgA_34, ↓mgA_35, ↓mgA_36, ↓mgA_37, ↓mgA_38, ↓mgA_39, ↓mgA_41, ↓mgA_42, ↓mgA_43, ↓mgA_44, ↓mgA_45, ↓mgA_46, ↓mpA_2, ↓mpA_4, ↓mpA_6, ↓mpA_7, ↓mpA_9, ↓mpA_10, ↓mpA_12, ↓mpA_14, ↓mpA_15, ↓mpA_16, ↓mpZ_17, ↓mpA_18, ↓mpZ_19, ↓mpA_20, ↓mpA_21, ↓mpA_22, ↓mpA_23, ↓mpA_24, ↓mpZ_25, ↓mpA_26, ↓mpA_27, ↓mpA_28, ↓mpA_29, ↓mpA_30, ↓mpA_31, ↓mpA_32, ↓mpA_33, ↓mpA_34, ↓mpZ_35, ↓mpA_36, ↓mpA_37, ↓mpA_38, ↓mpA_39, ↓mpA_41, ↓mpA_42, ↓mpZ_43, ↓mpA_44, ↓mpA_45, ↓mpA_46, fMd_partIs_E, q2, q7, fMd_partIs_j29_E, m_holds0]
      by_cases w1 : w = 1
      · subst w1
        refine OPR.ok0 R I (w := σ 21 (90 * r + p)) ?_ ?_
        · clear R I A
          simp (disch := (first | assumption | omega | decide | (simp only [mK_uI, mK_uP, mL_uI, mL_uP, mK_wI, mL_wI, mK_nA_e, mL_nA_e] <;> (first | assumption | omega)))) only [i3_le_t, i3_le_f, i3_lt_t, i3_lt_f, i3_eq_t, i3_eq_f, i3_add, i3_mul, i3_sub, i3_div, i3_dec, i3_m1, m1_i3, m1_eq, i3_ge0, m1_lt, i3_le_m1, ↓reduceIte, rZ_0, rZ_1, bdR_s, bdW_s, ifN_n, ifN_s, ↓fgI_s, ↓fgR_s, ↓rk_s, ↓fpI_s, ↓fpR_s, ↓fpZ_0, ↓fpZ_1, ↓alI_i, ↓alP_i, ↓asI_i, ↓asB_i, ↓asZ_0, ↓asZ_1, ↓aln_i, ↓fca_s, ↓fca_n, bdC_li, bdC_ri, mK_uI, mK_uP, mL_uI, mL_uP, mP_uI, mI_uP, mK_wI, mL_wI, mP_wI, mI_uI_e, mI_uI_c, nwO_s, mK_nA_e, mL_nA_e, fHb_partIs_E, q1, q4, q5, q6, tsw_in, tsl, a3]
        · clear R I A
          simp (disch := (first | assumption | omega | decide | (simp only [mK_uI, mK_uP, mL_uI, mL_uP, mK_wI, mL_wI, mK_nA_e, mL_nA_e] <;> (first | assumption | omega)))) only [i3_le_t, i3_le_f, i3_lt_t, i3_lt_f, i3_eq_t, i3_eq_f, i3_add, i3_mul, i3_sub, i3_div, i3_dec, i3_m1, m1_i3, m1_eq, i3_ge0, m1_lt, i3_le_m1, ↓reduceIte, rZ_0, rZ_1, bdR_s, bdW_s, ifN_n, ifN_s, uS_n, uS_e, uS_d, ↓mgF_s, ↓mpF_s, ↓mgA_2, ↓mgA_4, ↓mgA_6, ↓mgA_7, ↓mgA_9, ↓mgA_10, ↓mgA_12, ↓mgA_14, ↓mgA_15, ↓mgA_16, ↓mgA_17, ↓mgA_18, ↓mgA_19, ↓mgA_20, ↓mgA_21, ↓mgA_22, ↓mgA_23, ↓mgA_24, ↓mgA_25, ↓mgA_26, ↓mgA_27, ↓mgA_28, ↓mgA_29, ↓mgA_30, ↓mgA_31, ↓mgA_32, ↓mgA_33, ↓mgA_34, ↓mgA_35, ↓mgA_36, ↓mgA_37, ↓mgA_38, ↓mgA_39, ↓mgA_41, ↓mgA_42, ↓mgA_43, ↓mgA_44, ↓mgA_45, ↓mgA_46, ↓mpA_2, ↓mpA_4, ↓mpA_6, ↓mpA_7, ↓mpA_9, ↓mpA_10, ↓mpA_12, ↓mpA_14, ↓mpA_15, ↓mpA_16, ↓mpZ_17, ↓mpA_18, ↓mpZ_19, ↓mpA_20, ↓mpA_21, ↓mpA_22, ↓mpA_23, ↓mpA_24, ↓mpZ_25, ↓mpA_26, ↓mpA_27, ↓mpA_28, ↓mpA_29, ↓mpA_30, ↓mpA_31, ↓mpA_32, ↓mpA_33, ↓mpA_34, ↓mpZ_35, ↓mpA_36, ↓mpA_37, ↓mpA_38, ↓mpA_39, ↓mpA_41, ↓mpA_42, ↓mpZ_43, ↓mpA_44, ↓mpA_45, ↓mpA_46, fMd_partIs_E, q2, q7, fMd_partIs_j29_E, m_holds0]
      by_cases w2 : w = 2
      · subst w2
        have b1 := c_manyGood R hr hp hw
        have b2 := m_goodMany (σ := uS σ 0 0 (i3 0)) (a := 90 * r + p) (by omega)
        rw [gcn_e (σ := σ) (σ' := uS σ 0 0 (i3 0)) rfl rfl] at b2
        refine OPR.ok0 R I (w := i3 (gcn σ (90 * r + p))) ?_ ?_
        · clear R I A
          simp (disch := (first | assumption | omega | decide | (simp only [mK_uI, mK_uP, mL_uI, mL_uP, mK_wI, mL_wI, mK_nA_e, mL_nA_e] <;> (first | assumption | omega)))) only [i3_le_t, i3_le_f, i3_lt_t, i3_lt_f, i3_eq_t, i3_eq_f, i3_add, i3_mul, i3_sub, i3_div, i3_dec, i3_m1, m1_i3, m1_eq, i3_ge0, m1_lt, i3_le_m1, ↓reduceIte, rZ_0, rZ_1, bdR_s, bdW_s, ifN_n, ifN_s, ↓fgI_s, ↓fgR_s, ↓rk_s, ↓fpI_s, ↓fpR_s, ↓fpZ_0, ↓fpZ_1, ↓alI_i, ↓alP_i, ↓asI_i, ↓asB_i, ↓asZ_0, ↓asZ_1, ↓aln_i, ↓fca_s, ↓fca_n, bdC_li, bdC_ri, mK_uI, mK_uP, mL_uI, mL_uP, mP_uI, mI_uP, mK_wI, mL_wI, mP_wI, mI_uI_e, mI_uI_c, nwO_s, mK_nA_e, mL_nA_e, fHb_partIs_E, q1, q4, q5, q6, tsw_in, tsl, b1]
        · clear R I A
          simp (disch := (first | assumption | omega | decide | (simp only [mK_uI, mK_uP, mL_uI, mL_uP, mK_wI, mL_wI, mK_nA_e, mL_nA_e] <;> (first | assumption | omega)))) only [i3_le_t, i3_le_f, i3_lt_t, i3_lt_f, i3_eq_t, i3_eq_f, i3_add, i3_mul, i3_sub, i3_div, i3_dec, i3_m1, m1_i3, m1_eq, i3_ge0, m1_lt, i3_le_m1, ↓reduceIte, rZ_0, rZ_1, bdR_s, bdW_s, ifN_n, ifN_s, uS_n, uS_e, uS_d, ↓mgF_s, ↓mpF_s, ↓mgA_2, ↓mgA_4, ↓mgA_6, ↓mgA_7, ↓mgA_9, ↓mgA_10, ↓mgA_12, ↓mgA_14, ↓mgA_15, ↓mgA_16, ↓mgA_17, ↓mgA_18, ↓mgA_19, ↓mgA_20, ↓mgA_21, ↓mgA_22, ↓mgA_23, ↓mgA_24, ↓mgA_25, ↓mgA_26, ↓mgA_27, ↓mgA_28, ↓mgA_29, ↓mgA_30, ↓mgA_31, ↓mgA_32, ↓mgA_33, ↓mgA_34, ↓mgA_35, ↓mgA_36, ↓mgA_37, ↓mgA_38, ↓mgA_39, ↓mgA_41, ↓mgA_42, ↓mgA_43, ↓mgA_44, ↓mgA_45, ↓mgA_46, ↓mpA_2, ↓mpA_4, ↓mpA_6, ↓mpA_7, ↓mpA_9, ↓mpA_10, ↓mpA_12, ↓mpA_14, ↓mpA_15, ↓mpA_16, ↓mpZ_17, ↓mpA_18, ↓mpZ_19, ↓mpA_20, ↓mpA_21, ↓mpA_22, ↓mpA_23, ↓mpA_24, ↓mpZ_25, ↓mpA_26, ↓mpA_27, ↓mpA_28, ↓mpA_29, ↓mpA_30, ↓mpA_31, ↓mpA_32, ↓mpA_33, ↓mpA_34, ↓mpZ_35, ↓mpA_36, ↓mpA_37, ↓mpA_38, ↓mpA_39, ↓mpA_41, ↓mpA_42, ↓mpZ_43, ↓mpA_44, ↓mpA_45, ↓mpA_46, fMd_partIs_E, q2, q7, fMd_partIs_j29_E, m_holds0, b2]
      · have b1 := c_nodeOf R hr hp (s := w - 3) (by omega)
        rw [if_pos hw] at b1
        have e1 : 5 * (90 * r + p) + w - 3 = 5 * (90 * r + p) + (w - 3) := by omega
        refine OPR.ok0 R I (w := σ 23 (5 * (90 * r + p) + (w - 3))) ?_ ?_
        · clear R I A
          simp (disch := (first | assumption | omega | decide | (simp only [mK_uI, mK_uP, mL_uI, mL_uP, mK_wI, mL_wI, mK_nA_e, mL_nA_e] <;> (first | assumption | omega)))) only [i3_le_t, i3_le_f, i3_lt_t, i3_lt_f, i3_eq_t, i3_eq_f, i3_add, i3_mul, i3_sub, i3_div, i3_dec, i3_m1, m1_i3, m1_eq, i3_ge0, m1_lt, i3_le_m1, ↓reduceIte, rZ_0, rZ_1, bdR_s, bdW_s, ifN_n, ifN_s, ↓fgI_s, ↓fgR_s, ↓rk_s, ↓fpI_s, ↓fpR_s, ↓fpZ_0, ↓fpZ_1, ↓alI_i, ↓alP_i, ↓asI_i, ↓asB_i, ↓asZ_0, ↓asZ_1, ↓aln_i, ↓fca_s, ↓fca_n, bdC_li, bdC_ri, mK_uI, mK_uP, mL_uI, mL_uP, mP_uI, mI_uP, mK_wI, mL_wI, mP_wI, mI_uI_e, mI_uI_c, nwO_s, mK_nA_e, mL_nA_e, fHb_partIs_E, q1, q4, q5, q6, tsw_out, tsl, b1]
        · clear R I A
          simp (disch := (first | assumption | omega | decide | (simp only [mK_uI, mK_uP, mL_uI, mL_uP, mK_wI, mL_wI, mK_nA_e, mL_nA_e] <;> (first | assumption | omega)))) only [i3_le_t, i3_le_f, i3_lt_t, i3_lt_f, i3_eq_t, i3_eq_f, i3_add, i3_mul, i3_sub, i3_div, i3_dec, i3_m1, m1_i3, m1_eq, i3_ge0, m1_lt, i3_le_m1, ↓reduceIte, rZ_0, rZ_1, bdR_s, bdW_s, ifN_n, ifN_s, uS_n, uS_e, uS_d, ↓mgF_s, ↓mpF_s, ↓mgA_2, ↓mgA_4, ↓mgA_6, ↓mgA_7, ↓mgA_9, ↓mgA_10, ↓mgA_12, ↓mgA_14, ↓mgA_15, ↓mgA_16, ↓mgA_17, ↓mgA_18, ↓mgA_19, ↓mgA_20, ↓mgA_21, ↓mgA_22, ↓mgA_23, ↓mgA_24, ↓mgA_25, ↓mgA_26, ↓mgA_27, ↓mgA_28, ↓mgA_29, ↓mgA_30, ↓mgA_31, ↓mgA_32, ↓mgA_33, ↓mgA_34, ↓mgA_35, ↓mgA_36, ↓mgA_37, ↓mgA_38, ↓mgA_39, ↓mgA_41, ↓mgA_42, ↓mgA_43, ↓mgA_44, ↓mgA_45, ↓mgA_46, ↓mpA_2, ↓mpA_4, ↓mpA_6, ↓mpA_7, ↓mpA_9, ↓mpA_10, ↓mpA_12, ↓mpA_14, ↓mpA_15, ↓mpA_16, ↓mpZ_17, ↓mpA_18, ↓mpZ_19, ↓mpA_20, ↓mpA_21, ↓mpA_22, ↓mpA_23, ↓mpA_24, ↓mpZ_25, ↓mpA_26, ↓mpA_27, ↓mpA_28, ↓mpA_29, ↓mpA_30, ↓mpA_31, ↓mpA_32, ↓mpA_33, ↓mpA_34, ↓mpZ_35, ↓mpA_36, ↓mpA_37, ↓mpA_38, ↓mpA_39, ↓mpA_41, ↓mpA_42, ↓mpZ_43, ↓mpA_44, ↓mpA_45, ↓mpA_46, fMd_partIs_E, q2, q7, fMd_partIs_j29_E, m_holds0, e1]
    · have q6 := noR_c (M := M) (n := n) hx (by omega) (by omega)
      have q7 := noR_m hx (by omega) (by omega)
      refine OPR.err R I 1 2 (v := i3 0) ?_ ?_ rfl (by omega) (by omega)
      · simp (disch := (first | assumption | omega | decide | (simp only [mK_uI, mK_uP, mL_uI, mL_uP, mK_wI, mL_wI, mK_nA_e, mL_nA_e] <;> (first | assumption | omega)))) only [i3_le_t, i3_le_f, i3_lt_t, i3_lt_f, i3_eq_t, i3_eq_f, i3_add, i3_mul, i3_sub, i3_div, i3_dec, i3_m1, m1_i3, m1_eq, i3_ge0, m1_lt, i3_le_m1, ↓reduceIte, rZ_0, rZ_1, bdR_s, bdW_s, ifN_n, ifN_s, ↓fgI_s, ↓fgR_s, ↓rk_s, ↓fpI_s, ↓fpR_s, ↓fpZ_0, ↓fpZ_1, ↓alI_i, ↓alP_i, ↓asI_i, ↓asB_i, ↓asZ_0, ↓asZ_1, ↓aln_i, ↓fca_s, ↓fca_n, bdC_li, bdC_ri, mK_uI, mK_uP, mL_uI, mL_uP, mP_uI, mI_uP, mK_wI, mL_wI, mP_wI, mI_uI_e, mI_uI_c, nwO_s, mK_nA_e, mL_nA_e, fHb_partIs_E, q1, q4, q5, q6]
      · simp (disch := (first | assumption | omega | decide | (simp only [mK_uI, mK_uP, mL_uI, mL_uP, mK_wI, mL_wI, mK_nA_e, mL_nA_e] <;> (first | assumption | omega)))) only [i3_le_t, i3_le_f, i3_lt_t, i3_lt_f, i3_eq_t, i3_eq_f, i3_add, i3_mul, i3_sub, i3_div, i3_dec, i3_m1, m1_i3, m1_eq, i3_ge0, m1_lt, i3_le_m1, ↓reduceIte, rZ_0, rZ_1, bdR_s, bdW_s, ifN_n, ifN_s, uS_n, uS_e, uS_d, ↓mgF_s, ↓mpF_s, ↓mgA_2, ↓mgA_4, ↓mgA_6, ↓mgA_7, ↓mgA_9, ↓mgA_10, ↓mgA_12, ↓mgA_14, ↓mgA_15, ↓mgA_16, ↓mgA_17, ↓mgA_18, ↓mgA_19, ↓mgA_20, ↓mgA_21, ↓mgA_22, ↓mgA_23, ↓mgA_24, ↓mgA_25, ↓mgA_26, ↓mgA_27, ↓mgA_28, ↓mgA_29, ↓mgA_30, ↓mgA_31, ↓mgA_32, ↓mgA_33, ↓mgA_34, ↓mgA_35, ↓mgA_36, ↓mgA_37, ↓mgA_38, ↓mgA_39, ↓mgA_41, ↓mgA_42, ↓mgA_43, ↓mgA_44, ↓mgA_45, ↓mgA_46, ↓mpA_2, ↓mpA_4, ↓mpA_6, ↓mpA_7, ↓mpA_9, ↓mpA_10, ↓mpA_12, ↓mpA_14, ↓mpA_15, ↓mpA_16, ↓mpZ_17, ↓mpA_18, ↓mpZ_19, ↓mpA_20, ↓mpA_21, ↓mpA_22, ↓mpA_23, ↓mpA_24, ↓mpZ_25, ↓mpA_26, ↓mpA_27, ↓mpA_28, ↓mpA_29, ↓mpA_30, ↓mpA_31, ↓mpA_32, ↓mpA_33, ↓mpA_34, ↓mpZ_35, ↓mpA_36, ↓mpA_37, ↓mpA_38, ↓mpA_39, ↓mpA_41, ↓mpA_42, ↓mpZ_43, ↓mpA_44, ↓mpA_45, ↓mpA_46, fMd_partIs_E, q2, q7, fMd_partIs_j29_E, m_holdsk]
end PT

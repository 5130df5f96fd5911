set_option maxRecDepth 100000
/-! drop; ageing by one rule -/
section AG
variable {h c n r : Nat} {own : Nat → Nat} {B : BK} {σ σ' : Sg} {M M' : Mm}
theorem op_drop (R : RR h own B σ M n) (I : IV c σ) (x1 x2 x3 : Int32) : OPR h c σ n (fHb_drop h x1 x2 x3 M n) (fMd_drop x1 x2 x3 σ) (cdf 1 2 3) := by
  have k := R.hb.k
  have hn : n ≤ n + 1 := Nat.le_succ n
  rcases ver_cases R I x1 x2 x3 with ⟨q1, q2⟩ | ⟨r, hr, q1, q3, q2⟩ | ⟨r, i, N, hr, hi, rfl, q1, q3, q2, q4, e1, e2, rfl, hN1, hN2, hi40, -⟩
  · refine OPR.err R I 0 1 (v := i3 0) ?_ ?_ rfl (by omega) (by omega)
    · simp (disch := (first | assumption | omega | decide | (simp only [mK_uI, mK_uP, mL_uI, mL_uP, mK_wI, mL_wI, mK_nA_e, mL_nA_e] <;> (first | assumption | omega)))) only [i3_le_t, i3_le_f, i3_lt_t, i3_lt_f, i3_eq_t, i3_eq_f, i3_add, i3_mul, i3_sub, i3_div, i3_dec, i3_m1, m1_i3, m1_eq, i3_ge0, m1_lt, i3_le_m1, ↓reduceIte, rZ_0, rZ_1, bdR_s, bdW_s, ifN_n, ifN_s, ↓fgI_s, ↓fgR_s, ↓rk_s, ↓fpI_s, ↓fpR_s, ↓fpZ_0, ↓fpZ_1, ↓alI_i, ↓alP_i, ↓asI_i, ↓asB_i, ↓asZ_0, ↓asZ_1, ↓aln_i, ↓fca_s, ↓fca_n, bdC_li, bdC_ri, mK_uI, mK_uP, mL_uI, mL_uP, mP_uI, mI_uP, mK_wI, mL_wI, mP_wI, mI_uI_e, mI_uI_c, nwO_s, mK_nA_e, mL_nA_e, fHb_drop_E, q1]
    · simp (disch := (first | assumption | omega | decide | (simp only [mK_uI, mK_uP, mL_uI, mL_uP, mK_wI, mL_wI, mK_nA_e, mL_nA_e] <;> (first | assumption | omega)))) only [i3_le_t, i3_le_f, i3_lt_t, i3_lt_f, i3_eq_t, i3_eq_f, i3_add, i3_mul, i3_sub, i3_div, i3_dec, i3_m1, m1_i3, m1_eq, i3_ge0, m1_lt, i3_le_m1, ↓reduceIte, rZ_0, rZ_1, bdR_s, bdW_s, ifN_n, ifN_s, uS_n, uS_e, uS_d, ↓mgF_s, ↓mpF_s, ↓mgA_2, ↓mgA_4, ↓mgA_6, ↓mgA_7, ↓mgA_9, ↓mgA_10, ↓mgA_12, ↓mgA_14, ↓mgA_15, ↓mgA_16, ↓mgA_17, ↓mgA_18, ↓mgA_19, ↓mgA_20, ↓mgA_21, ↓mgA_22, ↓mgA_23, ↓mgA_24, ↓mgA_25, ↓mgA_26, ↓mgA_27, ↓mgA_28, ↓mgA_29, ↓mgA_30, ↓mgA_31, ↓mgA_32, ↓mgA_33, ↓mgA_34, ↓mgA_35, ↓mgA_36, ↓mgA_37, ↓mgA_38, ↓mgA_39, ↓mgA_41, ↓mgA_42, ↓mgA_43, ↓mgA_44, ↓mgA_45, ↓mgA_46, ↓mpA_2, ↓mpA_4, ↓mpA_6, ↓mpA_7, ↓mpA_9, ↓mpA_10, ↓mpA_12, ↓mpA_14, ↓mpA_15, ↓mpA_16, ↓mpZ_17, ↓mpA_18, ↓mpZ_19, ↓mpA_20, ↓mpA_21, ↓mpA_22, ↓mpA_23, ↓mpA_24, ↓mpZ_25, ↓mpA_26, ↓mpA_27, ↓mpA_28, ↓mpA_29, ↓mpA_30, ↓mpA_31, ↓mpA_32, ↓mpA_33, ↓mpA_34, ↓mpZ_35, ↓mpA_36, ↓mpA_37, ↓mpA_38, ↓mpA_39, ↓mpA_41, ↓mpA_42, ↓mpZ_43, ↓mpA_44, ↓mpA_45, ↓mpA_46, fMd_drop_E, q2, fMd_drop_j38_E, m_holdsk]
  · refine OPR.err R I 0 1 (v := i3 0) ?_ ?_ rfl (by omega) (by omega)
    · simp (disch := (first | assumption | omega | decide | (simp only [mK_uI, mK_uP, mL_uI, mL_uP, mK_wI, mL_wI, mK_nA_e, mL_nA_e] <;> (first | assumption | omega)))) only [i3_le_t, i3_le_f, i3_lt_t, i3_lt_f, i3_eq_t, i3_eq_f, i3_add, i3_mul, i3_sub, i3_div, i3_dec, i3_m1, m1_i3, m1_eq, i3_ge0, m1_lt, i3_le_m1, ↓reduceIte, rZ_0, rZ_1, bdR_s, bdW_s, ifN_n, ifN_s, ↓fgI_s, ↓fgR_s, ↓rk_s, ↓fpI_s, ↓fpR_s, ↓fpZ_0, ↓fpZ_1, ↓alI_i, ↓alP_i, ↓asI_i, ↓asB_i, ↓asZ_0, ↓asZ_1, ↓aln_i, ↓fca_s, ↓fca_n, bdC_li, bdC_ri, mK_uI, mK_uP, mL_uI, mL_uP, mP_uI, mI_uP, mK_wI, mL_wI, mP_wI, mI_uI_e, mI_uI_c, nwO_s, mK_nA_e, mL_nA_e, fHb_drop_E, q1, q3]
    · simp (disch := (first | assumption | omega | decide | (simp only [mK_uI, mK_uP, mL_uI, mL_uP, mK_wI, mL_wI, mK_nA_e, mL_nA_e] <;> (first | assumption | omega)))) only [i3_le_t, i3_le_f, i3_lt_t, i3_lt_f, i3_eq_t, i3_eq_f, i3_add, i3_mul, i3_sub, i3_div, i3_dec, i3_m1, m1_i3, m1_eq, i3_ge0, m1_lt, i3_le_m1, ↓reduceIte, rZ_0, rZ_1, bdR_s, bdW_s, ifN_n, ifN_s, uS_n, uS_e, uS_d, ↓mgF_s, ↓mpF_s, ↓mgA_2, ↓mgA_4, ↓mgA_6, ↓mgA_7, ↓mgA_9, ↓mgA_10, ↓mgA_12, ↓mgA_14, ↓mgA_15, ↓mgA_16, ↓mgA_17, ↓mgA_18, ↓mgA_19, ↓mgA_20, ↓mgA_21, ↓mgA_22, ↓mgA_23, ↓mgA_24, ↓mgA_25, ↓mgA_26, ↓mgA_27, ↓mgA_28, ↓mgA_29, ↓mgA_30, ↓mgA_31, ↓mgA_32, ↓mgA_33, ↓mgA_34, ↓mgA_35, ↓mgA_36, ↓mgA_37, ↓mgA_38, ↓mgA_39, ↓mgA_41, ↓mgA_42, ↓mgA_43, ↓mgA_44, ↓mgA_45, ↓mgA_46, ↓mpA_2, ↓mpA_4, ↓mpA_6, ↓mpA_7, ↓mpA_9, ↓mpA_10, ↓mpA_12, ↓mpA_14, ↓mpA_15, ↓mpA_16, ↓mpZ_17, ↓mpA_18, ↓mpZ_19, ↓mpA_20, ↓mpA_21, ↓mpA_22, ↓mpA_23, ↓mpA_24, ↓mpZ_25, ↓mpA_26, ↓mpA_27, ↓mpA_28, ↓mpA_29, ↓mpA_30, ↓mpA_31, ↓mpA_32, ↓mpA_33, ↓mpA_34, ↓mpZ_35, ↓mpA_36, ↓mpA_37, ↓mpA_38, ↓mpA_39, ↓mpA_41, ↓mpA_42, ↓mpZ_43, ↓mpA_44, ↓mpA_45, ↓mpA_46, fMd_drop_E, q2, fMd_drop_j38_E, m_holdsk]
  · have W := R.ver I hr hi
    have q5 := q4 σ rfl rfl rfl
    have q6 := q4 (uS σ 0 0 (i3 0)) rfl rfl rfl
    have w1 := W.k
    have w2 := W.lk
    have w4 := R.dy
    have g6 := (R.rg r hr).k
    by_cases z : σ 31 (40 * r + i) < σ 11 0
    · obtain ⟨V, h40, hV⟩ := (I.vn r hr).to
      have eV : nv (σ 26 r) = V := by rw [hV]; exact nv_i (by omega)
      obtain ⟨M', σ', B', t1, t2, R', I', t3, t4, t5, -⟩ := takeOut_i (R.scf (scf0 (i3 0))) (I.scf (scf0 (i3 0))) hr (i := i) (V := V) (by omega) hV h40
      have t6 := c_manyOf R' I' hr t4 (by omega) x2 (V - 1) 0 0 FU (by omega) (FU_S (by omega))
      have t7 := m_manyOf (σ := σ') hr t4 (by omega) x2 (V - 1) 0 0 FU (by omega) (FU_S (by omega))
      have g6' := (R'.rg r hr).k
      refine ⟨.inl (i3 (0 + cntF (pL σ' r x2) 0 (V - 1))), M', n, i3 (0 + cntF (pL σ' r x2) 0 (V - 1)), σ', ?_, ?_, ⟨by rw [t3 0 (by omega)]; rfl, rfl⟩, Nat.le_refl n, POT.same (by omega) (by omega) (t3 36 (by omega)) (t3 18 (by omega)) (t3 8 (by omega)), own, B', R', I'.up0⟩
      · clear R I R' I' W
        simp (disch := (first | assumption | omega | decide | (simp only [mK_uI, mK_uP, mL_uI, mL_uP, mK_wI, mL_wI, mK_nA_e, mL_nA_e] <;> (first | assumption | omega)))) only [i3_le_t, i3_le_f, i3_lt_t, i3_lt_f, i3_eq_t, i3_eq_f, i3_add, i3_mul, i3_sub, i3_div, i3_dec, i3_m1, m1_i3, m1_eq, i3_ge0, m1_lt, i3_le_m1, ↓reduceIte, rZ_0, rZ_1, bdR_s, bdW_s, ifN_n, ifN_s, ↓fgI_s, ↓fgR_s, ↓rk_s, ↓fpI_s, ↓fpR_s, ↓fpZ_0, ↓fpZ_1, ↓alI_i, ↓alP_i, ↓asI_i, ↓asB_i, ↓asZ_0, ↓asZ_1, ↓aln_i, ↓fca_s, ↓fca_n, bdC_li, bdC_ri, mK_uI, mK_uP, mL_uI, mL_uP, mP_uI, mI_uP, mK_wI, mL_wI, mP_wI, mI_uI_e, mI_uI_c, nwO_s, mK_nA_e, mL_nA_e, fHb_drop_E, q1, q3, w4, fVersion_isLocked_E, w2, z, fHb_drop_j33_E, c_st1, t1, fRegion_manyOf_E, t6]
      · have e0 : i3 (40 * r + 0) = i3 (40 * r) := rfl
        rw [e0] at t7
        clear R I R' I' W
        simp (disch := (first | assumption | omega | decide | (simp only [mK_uI, mK_uP, mL_uI, mL_uP, mK_wI, mL_wI, mK_nA_e, mL_nA_e] <;> (first | assumption | omega)))) only [i3_le_t, i3_le_f, i3_lt_t, i3_lt_f, i3_eq_t, i3_eq_f, i3_add, i3_mul, i3_sub, i3_div, i3_dec, i3_m1, m1_i3, m1_eq, i3_ge0, m1_lt, i3_le_m1, ↓reduceIte, rZ_0, rZ_1, bdR_s, bdW_s, ifN_n, ifN_s, uS_n, uS_e, uS_d, ↓mgF_s, ↓mpF_s, ↓mgA_2, ↓mgA_4, ↓mgA_6, ↓mgA_7, ↓mgA_9, ↓mgA_10, ↓mgA_12, ↓mgA_14, ↓mgA_15, ↓mgA_16, ↓mgA_17, ↓mgA_18, ↓mgA_19, ↓mgA_20, ↓mgA_21, ↓mgA_22, ↓mgA_23, ↓mgA_24, ↓mgA_25, ↓mgA_26, ↓mgA_27, ↓mgA_28, ↓mgA_29, ↓mgA_30, ↓mgA_31, ↓mgA_32, ↓mgA_33, ↓mgA_34, ↓mgA_35, ↓mgA_36, ↓mgA_37, ↓mgA_38, ↓mgA_39, ↓mgA_41, ↓mgA_42, ↓mgA_43, ↓mgA_44, ↓mgA_45, ↓mgA_46, ↓mpA_2, ↓mpA_4, ↓mpA_6, ↓mpA_7, ↓mpA_9, ↓mpA_10, ↓mpA_12, ↓mpA_14, ↓mpA_15, ↓mpA_16, ↓mpZ_17, ↓mpA_18, ↓mpZ_19, ↓mpA_20, ↓mpA_21, ↓mpA_22, ↓mpA_23, ↓mpA_24, ↓mpZ_25, ↓mpA_26, ↓mpA_27, ↓mpA_28, ↓mpA_29, ↓mpA_30, ↓mpA_31, ↓mpA_32, ↓mpA_33, ↓mpA_34, ↓mpZ_35, ↓mpA_36, ↓mpA_37, ↓mpA_38, ↓mpA_39, ↓mpA_41, ↓mpA_42, ↓mpZ_43, ↓mpA_44, ↓mpA_45, ↓mpA_46, fMd_drop_E, q2, q5, fMd_isLocked_E, z, fMd_drop_j38_E, m_holds0, q6, t2, fMd_manyOf_E, t7]
    · refine OPR.err R I 2 3 (v := i3 0) ?_ ?_ rfl (by omega) (by omega)
      · clear R I W
        simp (disch := (first | assumption | omega | decide | (simp only [mK_uI, mK_uP, mL_uI, mL_uP, mK_wI, mL_wI, mK_nA_e, mL_nA_e] <;> (first | assumption | omega)))) only [i3_le_t, i3_le_f, i3_lt_t, i3_lt_f, i3_eq_t, i3_eq_f, i3_add, i3_mul, i3_sub, i3_div, i3_dec, i3_m1, m1_i3, m1_eq, i3_ge0, m1_lt, i3_le_m1, ↓reduceIte, rZ_0, rZ_1, bdR_s, bdW_s, ifN_n, ifN_s, ↓fgI_s, ↓fgR_s, ↓rk_s, ↓fpI_s, ↓fpR_s, ↓fpZ_0, ↓fpZ_1, ↓alI_i, ↓alP_i, ↓asI_i, ↓asB_i, ↓asZ_0, ↓asZ_1, ↓aln_i, ↓fca_s, ↓fca_n, bdC_li, bdC_ri, mK_uI, mK_uP, mL_uI, mL_uP, mP_uI, mI_uP, mK_wI, mL_wI, mP_wI, mI_uI_e, mI_uI_c, nwO_s, mK_nA_e, mL_nA_e, fHb_drop_E, q1, q3, w4, fVersion_isLocked_E, w2, z, fHb_drop_j33_E, c_st0]
      · clear R I W
        simp (disch := (first | assumption | omega | decide | (simp only [mK_uI, mK_uP, mL_uI, mL_uP, mK_wI, mL_wI, mK_nA_e, mL_nA_e] <;> (first | assumption | omega)))) only [i3_le_t, i3_le_f, i3_lt_t, i3_lt_f, i3_eq_t, i3_eq_f, i3_add, i3_mul, i3_sub, i3_div, i3_dec, i3_m1, m1_i3, m1_eq, i3_ge0, m1_lt, i3_le_m1, ↓reduceIte, rZ_0, rZ_1, bdR_s, bdW_s, ifN_n, ifN_s, uS_n, uS_e, uS_d, ↓mgF_s, ↓mpF_s, ↓mgA_2, ↓mgA_4, ↓mgA_6, ↓mgA_7, ↓mgA_9, ↓mgA_10, ↓mgA_12, ↓mgA_14, ↓mgA_15, ↓mgA_16, ↓mgA_17, ↓mgA_18, ↓mgA_19, ↓mgA_20, ↓mgA_21, ↓mgA_22, ↓mgA_23, ↓mgA_24, ↓mgA_25, ↓mgA_26, ↓mgA_27, ↓mgA_28, ↓mgA_29, ↓mgA_30, ↓mgA_31, ↓mgA_32, ↓mgA_33, ↓mgA_34, ↓mgA_35, ↓mgA_36, ↓mgA_37, ↓mgA_38, ↓mgA_39, ↓mgA_41, ↓mgA_42, ↓mgA_43, ↓mgA_44, ↓mgA_45, ↓mgA_46, ↓mpA_2, ↓mpA_4, ↓mpA_6, ↓mpA_7, ↓mpA_9, ↓mpA_10, ↓mpA_12, ↓mpA_14, ↓mpA_15, ↓mpA_16, ↓mpZ_17, ↓mpA_18, ↓mpZ_19, ↓mpA_20, ↓mpA_21, ↓mpA_22, ↓mpA_23, ↓mpA_24, ↓mpZ_25, ↓mpA_26, ↓mpA_27, ↓mpA_28, ↓mpA_29, ↓mpA_30, ↓mpA_31, ↓mpA_32, ↓mpA_33, ↓mpA_34, ↓mpZ_35, ↓mpA_36, ↓mpA_37, ↓mpA_38, ↓mpA_39, ↓mpA_41, ↓mpA_42, ↓mpZ_43, ↓mpA_44, ↓mpA_45, ↓mpA_46, fMd_drop_E, q2, q5, fMd_isLocked_E, z, fMd_drop_j38_E, m_holdsk]
theorem beg_val (x y : Int32) : fKeys_begins x y = some (i3 0) ∨ fKeys_begins x y = some (i3 1) := by
  rw [fKeys_begins_E, fKeys_begins_j24_E]
  by_cases a : y = i3 0
  · right; simp (disch := (first | assumption | omega | decide | (simp only [mK_uI, mK_uP, mL_uI, mL_uP, mK_wI, mL_wI, mK_nA_e, mL_nA_e] <;> (first | assumption | omega)))) only [i3_le_t, i3_le_f, i3_lt_t, i3_lt_f, i3_eq_t, i3_eq_f, i3_add, i3_mul, i3_sub, i3_div, i3_dec, i3_m1, m1_i3, m1_eq, i3_ge0, m1_lt, i3_le_m1, ↓reduceIte, rZ_0, rZ_1, bdR_s, bdW_s, ifN_n, ifN_s, a]
  · by_cases b : x = y
    · right; simp (disch := (first | assumption | omega | decide | (simp only [mK_uI, mK_uP, mL_uI, mL_uP, mK_wI, mL_wI, mK_nA_e, mL_nA_e] <;> (first | assumption | omega)))) only [i3_le_t, i3_le_f, i3_lt_t, i3_lt_f, i3_eq_t, i3_eq_f, i3_add, i3_mul, i3_sub, i3_div, i3_dec, i3_m1, m1_i3, m1_eq, i3_ge0, m1_lt, i3_le_m1, ↓reduceIte, rZ_0, rZ_1, bdR_s, bdW_s, ifN_n, ifN_s, a, b]
    · by_cases d : x / i3 5 = y
      · right; simp (disch := (first | assumption | omega | decide | (simp only [mK_uI, mK_uP, mL_uI, mL_uP, mK_wI, mL_wI, mK_nA_e, mL_nA_e] <;> (first | assumption | omega)))) only [i3_le_t, i3_le_f, i3_lt_t, i3_lt_f, i3_eq_t, i3_eq_f, i3_add, i3_mul, i3_sub, i3_div, i3_dec, i3_m1, m1_i3, m1_eq, i3_ge0, m1_lt, i3_le_m1, ↓reduceIte, rZ_0, rZ_1, bdR_s, bdW_s, ifN_n, ifN_s, a, b, d]
      · by_cases e : x / i3 25 = y
        · right; simp (disch := (first | assumption | omega | decide | (simp only [mK_uI, mK_uP, mL_uI, mL_uP, mK_wI, mL_wI, mK_nA_e, mL_nA_e] <;> (first | assumption | omega)))) only [i3_le_t, i3_le_f, i3_lt_t, i3_lt_f, i3_eq_t, i3_eq_f, i3_add, i3_mul, i3_sub, i3_div, i3_dec, i3_m1, m1_i3, m1_eq, i3_ge0, m1_lt, i3_le_m1, ↓reduceIte, rZ_0, rZ_1, bdR_s, bdW_s, ifN_n, ifN_s, a, b, d, e]
        · left; simp (disch := (first | assumption | omega | decide | (simp only [mK_uI, mK_uP, mL_uI, mL_uP, mK_wI, mL_wI, mK_nA_e, mL_nA_e] <;> (first | assumption | omega)))) only [i3_le_t, i3_le_f, i3_lt_t, i3_lt_f, i3_eq_t, i3_eq_f, i3_add, i3_mul, i3_sub, i3_div, i3_dec, i3_m1, m1_i3, m1_eq, i3_ge0, m1_lt, i3_le_m1, ↓reduceIte, rZ_0, rZ_1, bdR_s, bdW_s, ifN_n, ifN_s, a, b, d, e]
theorem beg_both {x y : Int32} (hx : ISK x) (hy : y = i3 0 ∨ ISK y) : (fKeys_begins x y = some (i3 0) ∧ fMd_begins x y = some (i3 0)) ∨ (fKeys_begins x y = some (i3 1) ∧ fMd_begins x y = some (i3 1)) := by
  have e : fKeys_begins x y = fMd_begins x y := by
    rcases key_bits x with z | ⟨-, k, hk, ex⟩
    · unfold ISK at hx; rw [hx] at z; cases z
    · subst ex
      rcases hy with rfl | hy
      · exact begins_key (b := 0) hk (by omega) hx (Or.inl rfl)
      · rcases key_bits y with z | ⟨-, b, hb, ey⟩
        · unfold ISK at hy; rw [hy] at z; cases z
        · subst ey
          exact begins_key hk hb hx (Or.inr hy)
  rcases beg_val x y with z | z
  · exact Or.inl ⟨z, e.symm.trans z⟩
  · exact Or.inr ⟨z, e.symm.trans z⟩
theorem IV.setlv (I : IV c σ) (hr : r < 2) {i T : Nat} (hi : i < nv (σ 26 r)) (hT : T ≤ 2) (hm : σ 9 (nv (σ 27 (40 * r + i))) ≠ i3 0) (h32 : σ 32 (40 * r + i) = m1) : IV c (uS σ 30 (40 * r + i) (i3 T)) := by
  have hi40 : i < 40 := Nat.lt_of_lt_of_le hi (I.vn r hr).2
  have hvo : ∀ r0, r0 < 2 → ∀ j, j < nv (σ 26 r0) → IVV (uS σ 30 (40 * r + i) (i3 T)) r0 (40 * r0 + j) := fun r0 hr0 j hj => by
    have hj40 : j < 40 := Nat.lt_of_lt_of_le hj (I.vn r0 hr0).2
    obtain ⟨x1, x2, x3, x4, x5, x6, x7, x8, x9, x10, x11⟩ := I.vo r0 hr0 j hj
    by_cases e : 40 * r0 + j = 40 * r + i
    · obtain ⟨er, ej⟩ : r0 = r ∧ j = i := by omega
      subst er
      subst ej
      refine ⟨x1, x2, x3, x4, ?_, Or.inl h32, x7, x8, x9, x10, fun z => absurd z hm⟩
      rw [uS_e]; exact NB.of hT (by omega)
    · refine ⟨x1, x2, x3, x4, ?_, ?_, x7, x8, x9, x10, fun z => ?_⟩
      · rw [uS_d _ _ _ _ e]; exact x5
      · rcases x6 with x6 | ⟨x6, x6'⟩
        · exact Or.inl x6
        · right; refine ⟨x6, ?_⟩; rw [uS_d _ _ _ _ e]; exact x6'
      · rw [uS_d _ _ _ _ e]; exact x11 z
  exact ⟨I.dr, I.db, I.ev, I.dy, I.dc, I.en, I.vn, hvo, I.vi, I.hd, I.kn, I.ks, I.ko, I.pn, I.po, I.dn, I.un, I.uo, I.uz, I.up, I.rn, I.rk⟩
/-- where the check stands, d versions left -/
def mx (r d : Nat) : Int32 := if d = 0 then (if r = 0 then m1 else i3 39) else i3 (40 * r + (d - 1))
theorem mx_dec {r d : Nat} (hr : r < 2) : i3 (40 * r + d) + m1 = mx r d := by
  unfold mx
  by_cases z : d = 0
  · subst z
    rcases (by omega : r = 0 ∨ r = 1) with rfl | rfl
    · rw [if_pos rfl, if_pos rfl]; exact i3_dec0
    · rw [if_pos rfl, if_neg (by decide)]; exact i3_dec (by omega)
  · rw [if_neg z, i3_dec (by omega)]
    have e : 40 * r + d - 1 = 40 * r + (d - 1) := by omega
    rw [e]
theorem mx_0 {r : Nat} (hr : r < 2) : (mx r 0 < i3 (40 * r)) = True := by
  rcases (by omega : r = 0 ∨ r = 1) with rfl | rfl
  · exact m1_lt (by omega)
  · exact i3_lt_t (by omega) (by omega)
theorem mx_S {r d : Nat} : mx r (d + 1) = i3 (40 * r + d) := by
  unfold mx
  rw [if_neg (Nat.succ_ne_zero d), Nat.add_sub_cancel]
def cx (d : Nat) : Int32 := if d = 0 then m1 else i3 (d - 1)
theorem cx_dec {d : Nat} : i3 d + m1 = cx d := by
  unfold cx
  by_cases z : d = 0
  · subst z; rw [if_pos rfl]; exact i3_dec0
  · rw [if_neg z]; exact i3_dec (by omega)
theorem cx_S {d : Nat} : cx (d + 1) = i3 d := by
  unfold cx
  rw [if_neg (Nat.succ_ne_zero d), Nat.add_sub_cancel]
theorem age_loop (hr : r < 2) {j : Nat} : ∀ d fu (σ : Sg) (M : Mm) (B : BK), d < fu → j < nv (σ 13 0) → d ≤ nv (σ 26 r) → RR h own B σ M n → IV c σ → ∃ M' σ' B', fRegion_age_l10 (gr h r) fu (some (rl B j)) (σ 11 0) (cx d) M = some ((), M') ∧ fMd_ages_l8 fu (i3 r) (i3 j) (mx r d) σ = some ((), σ') ∧ RR h own B' σ' M' n ∧ IV c σ' ∧ (∀ f, f < 20 ∨ (20 < f ∧ f < 26) ∨ 34 < f → σ' f = σ f) ∧ B'.2 = B.2 := by
  intro d
  induction d with
  | zero =>
    intro fu σ M B hfu hj hd R I
    obtain ⟨f, rfl⟩ : ∃ f, fu = f + 1 := ⟨fu - 1, by omega⟩
    refine ⟨M, σ, B, ?_, ?_, R, I, fun _ _ => rfl, rfl⟩
    · rw [fRegion_age_l10_S, fRegion_age_b10_E]
      have e : cx 0 = m1 := rfl
      clear R I
      simp (disch := (first | assumption | omega | decide | (simp only [mK_uI, mK_uP, mL_uI, mL_uP, mK_wI, mL_wI, mK_nA_e, mL_nA_e] <;> (first | assumption | omega)))) only [i3_le_t, i3_le_f, i3_lt_t, i3_lt_f, i3_eq_t, i3_eq_f, i3_add, i3_mul, i3_sub, i3_div, i3_dec, i3_m1, m1_i3, m1_eq, i3_ge0, m1_lt, i3_le_m1, ↓reduceIte, rZ_0, rZ_1, bdR_s, bdW_s, ifN_n, ifN_s, ↓fgI_s, ↓fgR_s, ↓rk_s, ↓fpI_s, ↓fpR_s, ↓fpZ_0, ↓fpZ_1, ↓alI_i, ↓alP_i, ↓asI_i, ↓asB_i, ↓asZ_0, ↓asZ_1, ↓aln_i, ↓fca_s, ↓fca_n, bdC_li, bdC_ri, mK_uI, mK_uP, mL_uI, mL_uP, mP_uI, mI_uP, mK_wI, mL_wI, mP_wI, mI_uI_e, mI_uI_c, nwO_s, mK_nA_e, mL_nA_e, e]
    · rw [fMd_ages_l8_S, fMd_ages_b8_E]
      have e := mx_0 hr
      clear R I
      simp (disch := (first | assumption | omega | decide | (simp only [mK_uI, mK_uP, mL_uI, mL_uP, mK_wI, mL_wI, mK_nA_e, mL_nA_e] <;> (first | assumption | omega)))) only [i3_le_t, i3_le_f, i3_lt_t, i3_lt_f, i3_eq_t, i3_eq_f, i3_add, i3_mul, i3_sub, i3_div, i3_dec, i3_m1, m1_i3, m1_eq, i3_ge0, m1_lt, i3_le_m1, ↓reduceIte, rZ_0, rZ_1, bdR_s, bdW_s, ifN_n, ifN_s, uS_n, uS_e, uS_d, ↓mgF_s, ↓mpF_s, ↓mgA_2, ↓mgA_4, ↓mgA_6, ↓mgA_7, ↓mgA_9, ↓mgA_10, ↓mgA_12, ↓mgA_14, ↓mgA_15, ↓mgA_16, ↓mgA_17, ↓mgA_18, ↓mgA_19, ↓mgA_20, ↓mgA_21, ↓mgA_22, ↓mgA_23, ↓mgA_24, ↓mgA_25, ↓mgA_26, ↓mgA_27, ↓mgA_28, ↓mgA_29, ↓mgA_30, ↓mgA_31, ↓mgA_32, ↓mgA_33, ↓mgA_34, ↓mgA_35, ↓mgA_36, ↓mgA_37, ↓mgA_38, ↓mgA_39, ↓mgA_41, ↓mgA_42, ↓mgA_43, ↓mgA_44, ↓mgA_45, ↓mgA_46, ↓mpA_2, ↓mpA_4, ↓mpA_6, ↓mpA_7, ↓mpA_9, ↓mpA_10, ↓mpA_12, ↓mpA_14, ↓mpA_15, ↓mpA_16, ↓mpZ_17, ↓mpA_18, ↓mpZ_19, ↓mpA_20, ↓mpA_21, ↓mpA_22, ↓mpA_23, ↓mpA_24, ↓mpZ_25, ↓mpA_26, ↓mpA_27, ↓mpA_28, ↓mpA_29, ↓mpA_30, ↓mpA_31, ↓mpA_32, ↓mpA_33, ↓mpA_34, ↓mpZ_35, ↓mpA_36, ↓mpA_37, ↓mpA_38, ↓mpA_39, ↓mpA_41, ↓mpA_42, ↓mpZ_43, ↓mpA_44, ↓mpA_45, ↓mpA_46, e]
  | succ d ih =>
    intro fu σ M B hfu hj hd R I
    obtain ⟨f, rfl⟩ : ∃ f, fu = f + 1 := ⟨fu - 1, by omega⟩
    obtain ⟨V, h40, hV⟩ := (I.vn r hr).to
    have eV : nv (σ 26 r) = V := by rw [hV]; exact nv_i (by omega)
    have hdV : d < V := by omega
    have hj6 : j < 6 := Nat.lt_of_lt_of_le hj I.rn.2
    have w1 := (R.rg r hr).k
    have w2 := (R.rg r hr).p1
    have L := R.vl r hr
    rw [eV] at L
    have w3 := L.k
    have w4 := L.get hdV
    have W := R.ver I hr (i := d) (by omega)
    have X := I.vo r hr d (by omega)
    have a1 := W.k
    have a2 := W.p0
    have a3 := W.ek
    have a4 := W.ke
    have a5 := W.da
    have a6 := W.e3
    have a7 := W.bk
    have a8 := W.ma
    have a9 := W.lv
    have a10 := W.lk
    have a11 := W.nu
    have Z := R.ro j hj
    have z1 := Z.b.k
    have z2 := Z.be
    have z3 := Z.da
    have z4 := Z.to
    obtain ⟨y1, y2, y3, y4⟩ := I.rk j hj
    obtain ⟨T, hT3, hT⟩ := y4.to
    have hT1 : 1 ≤ T := by rw [hT, nv_i (by omega)] at y3; exact y3
    have hk := I.isk hr (i := d) (by omega)
    have N1 := X.n1
    have N2 := Nat.le_trans X.nu.2 I.ev.2
    have eN := X.nu.1
    obtain ⟨N, hN⟩ : ∃ N, N = nv (σ 27 (40 * r + d)) := ⟨_, rfl⟩
    have X11 := X.mk
    have Xak := X.ak
    have Xlv := X.lv
    rw [← hN] at a2 a3 a4 a5 a6 a7 a8 a11 N1 N2 eN X11
    obtain ⟨ev, hev⟩ : ∃ ev, ev = en B N := ⟨_, rfl⟩
    rw [← hev] at a2 a3 a4 a5 a6 a7 a8 a11
    -- not for this one
    have skip : ∀ (q : Int32), fRule_isFor (rl B j) (some ev) (σ 11 0) M = some q → q = i3 0 → fMd_ages_b8 (fMd_ages_l8 f) (i3 r) (i3 j) (i3 (40 * r + d)) σ = fMd_ages_l8 f (i3 r) (i3 j) (mx r d) σ → ∃ M' σ' B', fRegion_age_l10 (gr h r) (f + 1) (some (rl B j)) (σ 11 0) (cx (d + 1)) M = some ((), M') ∧ fMd_ages_l8 (f + 1) (i3 r) (i3 j) (mx r (d + 1)) σ = some ((), σ') ∧ RR h own B' σ' M' n ∧ IV c σ' ∧ (∀ f, f < 20 ∨ (20 < f ∧ f < 26) ∨ 34 < f → σ' f = σ f) ∧ B'.2 = B.2 := by
      intro q hq1 hq2 hm
      obtain ⟨M', σ', B', g1, g2, g3, g4, g5, g6⟩ := ih f σ M B (by omega) hj (by omega) R I
      refine ⟨M', σ', B', ?_, ?_, g3, g4, g5, g6⟩
      · rw [fRegion_age_l10_S, fRegion_age_b10_E, cx_S]
        rw [hq2] at hq1
        clear R I L W X Z ih g3 g4
        simp (disch := (first | assumption | omega | decide | (simp only [mK_uI, mK_uP, mL_uI, mL_uP, mK_wI, mL_wI, mK_nA_e, mL_nA_e] <;> (first | assumption | omega)))) only [i3_le_t, i3_le_f, i3_lt_t, i3_lt_f, i3_eq_t, i3_eq_f, i3_add, i3_mul, i3_sub, i3_div, i3_dec, i3_m1, m1_i3, m1_eq, i3_ge0, m1_lt, i3_le_m1, ↓reduceIte, rZ_0, rZ_1, bdR_s, bdW_s, ifN_n, ifN_s, ↓fgI_s, ↓fgR_s, ↓rk_s, ↓fpI_s, ↓fpR_s, ↓fpZ_0, ↓fpZ_1, ↓alI_i, ↓alP_i, ↓asI_i, ↓asB_i, ↓asZ_0, ↓asZ_1, ↓aln_i, ↓fca_s, ↓fca_n, bdC_li, bdC_ri, mK_uI, mK_uP, mL_uI, mL_uP, mP_uI, mI_uP, mK_wI, mL_wI, mP_wI, mI_uI_e, mI_uI_c, nwO_s, mK_nA_e, mL_nA_e, i3_ge0, w2, w4, a2, hq1, fRegion_age_j51_E, cx_dec, g1]
      · rw [fMd_ages_l8_S, mx_S, hm]; exact g2
    -- what is done is done: then on
    have on : ∀ (q : Int32) (M1 : Mm) (σ1 : Sg) (B1 : BK), fRule_isFor (rl B j) (some ev) (σ 11 0) M = some q → q = i3 1 → fRegion_ageOne (gr h r) (some (ve B r d)) (σ 16 j) (σ 11 0) M = some ((), M1) → fMd_ages_b8 (fMd_ages_l8 f) (i3 r) (i3 j) (i3 (40 * r + d)) σ = fMd_ages_l8 f (i3 r) (i3 j) (mx r d) σ1 → RR h own B1 σ1 M1 n → IV c σ1 → (∀ f, f < 20 ∨ (20 < f ∧ f < 26) ∨ 34 < f → σ1 f = σ f) → B1.2 = B.2 → d ≤ nv (σ1 26 r) → ∃ M' σ' B', fRegion_age_l10 (gr h r) (f + 1) (some (rl B j)) (σ 11 0) (cx (d + 1)) M = some ((), M') ∧ fMd_ages_l8 (f + 1) (i3 r) (i3 j) (mx r (d + 1)) σ = some ((), σ') ∧ RR h own B' σ' M' n ∧ IV c σ' ∧ (∀ f, f < 20 ∨ (20 < f ∧ f < 26) ∨ 34 < f → σ' f = σ f) ∧ B'.2 = B.2 := by
      intro q M1 σ1 B1 hq1 hq2 ho hm R1 I1 hs hB hdn
      obtain ⟨M', σ', B', g1, g2, g3, g4, g5, g6⟩ := ih f σ1 M1 B1 (by omega) (by rw [hs 13 (by omega)]; exact hj) hdn R1 I1
      have erl : rl B1 j = rl B j := by unfold rl; rw [hB]
      rw [erl, hs 11 (by omega)] at g1
      refine ⟨M', σ', B', ?_, ?_, g3, g4, fun f hf => (g5 f hf).trans (hs f hf), g6.trans hB⟩
      · rw [fRegion_age_l10_S, fRegion_age_b10_E, cx_S]
        rw [hq2] at hq1
        clear R I L W X Z ih g3 g4 R1 I1 hm skip
        simp (disch := (first | assumption | omega | decide | (simp only [mK_uI, mK_uP, mL_uI, mL_uP, mK_wI, mL_wI, mK_nA_e, mL_nA_e] <;> (first | assumption | omega)))) only [i3_le_t, i3_le_f, i3_lt_t, i3_lt_f, i3_eq_t, i3_eq_f, i3_add, i3_mul, i3_sub, i3_div, i3_dec, i3_m1, m1_i3, m1_eq, i3_ge0, m1_lt, i3_le_m1, ↓reduceIte, rZ_0, rZ_1, bdR_s, bdW_s, ifN_n, ifN_s, ↓fgI_s, ↓fgR_s, ↓rk_s, ↓fpI_s, ↓fpR_s, ↓fpZ_0, ↓fpZ_1, ↓alI_i, ↓alP_i, ↓asI_i, ↓asB_i, ↓asZ_0, ↓asZ_1, ↓aln_i, ↓fca_s, ↓fca_n, bdC_li, bdC_ri, mK_uI, mK_uP, mL_uI, mL_uP, mP_uI, mI_uP, mK_wI, mL_wI, mP_wI, mI_uI_e, mI_uI_c, nwO_s, mK_nA_e, mL_nA_e, i3_ge0, w2, w4, a2, hq1, z4, ho, fRegion_age_j51_E, cx_dec, g1]
      · rw [fMd_ages_l8_S, mx_S, hm]; exact g2
    rcases beg_both hk y1 with ⟨b1, b2⟩ | ⟨b1, b2⟩
    · refine skip (i3 0) ?_ rfl ?_
      · clear R I L W X Z ih skip on
        simp (disch := (first | assumption | omega | decide | (simp only [mK_uI, mK_uP, mL_uI, mL_uP, mK_wI, mL_wI, mK_nA_e, mL_nA_e] <;> (first | assumption | omega)))) only [i3_le_t, i3_le_f, i3_lt_t, i3_lt_f, i3_eq_t, i3_eq_f, i3_add, i3_mul, i3_sub, i3_div, i3_dec, i3_m1, m1_i3, m1_eq, i3_ge0, m1_lt, i3_le_m1, ↓reduceIte, rZ_0, rZ_1, bdR_s, bdW_s, ifN_n, ifN_s, ↓fgI_s, ↓fgR_s, ↓rk_s, ↓fpI_s, ↓fpR_s, ↓fpZ_0, ↓fpZ_1, ↓alI_i, ↓alP_i, ↓asI_i, ↓asB_i, ↓asZ_0, ↓asZ_1, ↓aln_i, ↓fca_s, ↓fca_n, bdC_li, bdC_ri, mK_uI, mK_uP, mL_uI, mL_uP, mP_uI, mI_uP, mK_wI, mL_wI, mP_wI, mI_uI_e, mI_uI_c, nwO_s, mK_nA_e, mL_nA_e, fRule_isFor_E, a4, z2, b1]
      · rw [fMd_ages_b8_E]
        clear R I L W X Z ih skip on
        simp (disch := (first | assumption | omega | decide | (simp only [mK_uI, mK_uP, mL_uI, mL_uP, mK_wI, mL_wI, mK_nA_e, mL_nA_e] <;> (first | assumption | omega)))) only [i3_le_t, i3_le_f, i3_lt_t, i3_lt_f, i3_eq_t, i3_eq_f, i3_add, i3_mul, i3_sub, i3_div, i3_dec, i3_m1, m1_i3, m1_eq, i3_ge0, m1_lt, i3_le_m1, ↓reduceIte, rZ_0, rZ_1, bdR_s, bdW_s, ifN_n, ifN_s, uS_n, uS_e, uS_d, ↓mgF_s, ↓mpF_s, ↓mgA_2, ↓mgA_4, ↓mgA_6, ↓mgA_7, ↓mgA_9, ↓mgA_10, ↓mgA_12, ↓mgA_14, ↓mgA_15, ↓mgA_16, ↓mgA_17, ↓mgA_18, ↓mgA_19, ↓mgA_20, ↓mgA_21, ↓mgA_22, ↓mgA_23, ↓mgA_24, ↓mgA_25, ↓mgA_26, ↓mgA_27, ↓mgA_28, ↓mgA_29, ↓mgA_30, ↓mgA_31, ↓mgA_32, ↓mgA_33, ↓mgA_34, ↓mgA_35, ↓mgA_36, ↓mgA_37, ↓mgA_38, ↓mgA_39, ↓mgA_41, ↓mgA_42, ↓mgA_43, ↓mgA_44, ↓mgA_45, ↓mgA_46, ↓mpA_2, ↓mpA_4, ↓mpA_6, ↓mpA_7, ↓mpA_9, ↓mpA_10, ↓mpA_12, ↓mpA_14, ↓mpA_15, ↓mpA_16, ↓mpZ_17, ↓mpA_18, ↓mpZ_19, ↓mpA_20, ↓mpA_21, ↓mpA_22, ↓mpA_23, ↓mpA_24, ↓mpZ_25, ↓mpA_26, ↓mpA_27, ↓mpA_28, ↓mpA_29, ↓mpA_30, ↓mpA_31, ↓mpA_32, ↓mpA_33, ↓mpA_34, ↓mpZ_35, ↓mpA_36, ↓mpA_37, ↓mpA_38, ↓mpA_39, ↓mpA_41, ↓mpA_42, ↓mpZ_43, ↓mpA_44, ↓mpA_45, ↓mpA_46, b2, fMd_ages_j140_E, mx_dec]
    · by_cases hdy : (σ 11 0 - σ 29 (40 * r + d)) < σ 15 j
      · refine skip (i3 0) ?_ rfl ?_
        · clear R I L W X Z ih skip on
          simp (disch := (first | assumption | omega | decide | (simp only [mK_uI, mK_uP, mL_uI, mL_uP, mK_wI, mL_wI, mK_nA_e, mL_nA_e] <;> (first | assumption | omega)))) only [i3_le_t, i3_le_f, i3_lt_t, i3_lt_f, i3_eq_t, i3_eq_f, i3_add, i3_mul, i3_sub, i3_div, i3_dec, i3_m1, m1_i3, m1_eq, i3_ge0, m1_lt, i3_le_m1, ↓reduceIte, rZ_0, rZ_1, bdR_s, bdW_s, ifN_n, ifN_s, ↓fgI_s, ↓fgR_s, ↓rk_s, ↓fpI_s, ↓fpR_s, ↓fpZ_0, ↓fpZ_1, ↓alI_i, ↓alP_i, ↓asI_i, ↓asB_i, ↓asZ_0, ↓asZ_1, ↓aln_i, ↓fca_s, ↓fca_n, bdC_li, bdC_ri, mK_uI, mK_uP, mL_uI, mL_uP, mP_uI, mI_uP, mK_wI, mL_wI, mP_wI, mI_uI_e, mI_uI_c, nwO_s, mK_nA_e, mL_nA_e, fRule_isFor_E, a4, z2, b1, a5, z3, hdy]
        · rw [fMd_ages_b8_E]
          clear R I L W X Z ih skip on
          simp (disch := (first | assumption | omega | decide | (simp only [mK_uI, mK_uP, mL_uI, mL_uP, mK_wI, mL_wI, mK_nA_e, mL_nA_e] <;> (first | assumption | omega)))) only [i3_le_t, i3_le_f, i3_lt_t, i3_lt_f, i3_eq_t, i3_eq_f, i3_add, i3_mul, i3_sub, i3_div, i3_dec, i3_m1, m1_i3, m1_eq, i3_ge0, m1_lt, i3_le_m1, ↓reduceIte, rZ_0, rZ_1, bdR_s, bdW_s, ifN_n, ifN_s, uS_n, uS_e, uS_d, ↓mgF_s, ↓mpF_s, ↓mgA_2, ↓mgA_4, ↓mgA_6, ↓mgA_7, ↓mgA_9, ↓mgA_10, ↓mgA_12, ↓mgA_14, ↓mgA_15, ↓mgA_16, ↓mgA_17, ↓mgA_18, ↓mgA_19, ↓mgA_20, ↓mgA_21, ↓mgA_22, ↓mgA_23, ↓mgA_24, ↓mgA_25, ↓mgA_26, ↓mgA_27, ↓mgA_28, ↓mgA_29, ↓mgA_30, ↓mgA_31, ↓mgA_32, ↓mgA_33, ↓mgA_34, ↓mgA_35, ↓mgA_36, ↓mgA_37, ↓mgA_38, ↓mgA_39, ↓mgA_41, ↓mgA_42, ↓mgA_43, ↓mgA_44, ↓mgA_45, ↓mgA_46, ↓mpA_2, ↓mpA_4, ↓mpA_6, ↓mpA_7, ↓mpA_9, ↓mpA_10, ↓mpA_12, ↓mpA_14, ↓mpA_15, ↓mpA_16, ↓mpZ_17, ↓mpA_18, ↓mpZ_19, ↓mpA_20, ↓mpA_21, ↓mpA_22, ↓mpA_23, ↓mpA_24, ↓mpZ_25, ↓mpA_26, ↓mpA_27, ↓mpA_28, ↓mpA_29, ↓mpA_30, ↓mpA_31, ↓mpA_32, ↓mpA_33, ↓mpA_34, ↓mpZ_35, ↓mpA_36, ↓mpA_37, ↓mpA_38, ↓mpA_39, ↓mpA_41, ↓mpA_42, ↓mpZ_43, ↓mpA_44, ↓mpA_45, ↓mpA_46, b2, hdy, fMd_ages_j140_E, mx_dec]
      · have isf : fRule_isFor (rl B j) (some ev) (σ 11 0) M = some (i3 1) := by
          clear R I L W X Z ih skip on
          simp (disch := (first | assumption | omega | decide | (simp only [mK_uI, mK_uP, mL_uI, mL_uP, mK_wI, mL_wI, mK_nA_e, mL_nA_e] <;> (first | assumption | omega)))) only [i3_le_t, i3_le_f, i3_lt_t, i3_lt_f, i3_eq_t, i3_eq_f, i3_add, i3_mul, i3_sub, i3_div, i3_dec, i3_m1, m1_i3, m1_eq, i3_ge0, m1_lt, i3_le_m1, ↓reduceIte, rZ_0, rZ_1, bdR_s, bdW_s, ifN_n, ifN_s, ↓fgI_s, ↓fgR_s, ↓rk_s, ↓fpI_s, ↓fpR_s, ↓fpZ_0, ↓fpZ_1, ↓alI_i, ↓alP_i, ↓asI_i, ↓asB_i, ↓asZ_0, ↓asZ_1, ↓aln_i, ↓fca_s, ↓fca_n, bdC_li, bdC_ri, mK_uI, mK_uP, mL_uI, mL_uP, mP_uI, mI_uP, mK_wI, mL_wI, mP_wI, mI_uI_e, mI_uI_c, nwO_s, mK_nA_e, mL_nA_e, fRule_isFor_E, a4, z2, b1, a5, z3, hdy]
        have mk : fMd_isMark (i3 (40 * r + d)) σ = some (if σ 9 N = i3 0 then i3 1 else i3 0) := by
          have hN201 : N < 201 := by omega
          clear R I L W X Z ih skip on
          by_cases z : σ 9 N = i3 0
          · simp (disch := (first | assumption | omega | decide | (simp only [mK_uI, mK_uP, mL_uI, mL_uP, mK_wI, mL_wI, mK_nA_e, mL_nA_e] <;> (first | assumption | omega)))) only [i3_le_t, i3_le_f, i3_lt_t, i3_lt_f, i3_eq_t, i3_eq_f, i3_add, i3_mul, i3_sub, i3_div, i3_dec, i3_m1, m1_i3, m1_eq, i3_ge0, m1_lt, i3_le_m1, ↓reduceIte, rZ_0, rZ_1, bdR_s, bdW_s, ifN_n, ifN_s, uS_n, uS_e, uS_d, ↓mgF_s, ↓mpF_s, ↓mgA_2, ↓mgA_4, ↓mgA_6, ↓mgA_7, ↓mgA_9, ↓mgA_10, ↓mgA_12, ↓mgA_14, ↓mgA_15, ↓mgA_16, ↓mgA_17, ↓mgA_18, ↓mgA_19, ↓mgA_20, ↓mgA_21, ↓mgA_22, ↓mgA_23, ↓mgA_24, ↓mgA_25, ↓mgA_26, ↓mgA_27, ↓mgA_28, ↓mgA_29, ↓mgA_30, ↓mgA_31, ↓mgA_32, ↓mgA_33, ↓mgA_34, ↓mgA_35, ↓mgA_36, ↓mgA_37, ↓mgA_38, ↓mgA_39, ↓mgA_41, ↓mgA_42, ↓mgA_43, ↓mgA_44, ↓mgA_45, ↓mgA_46, ↓mpA_2, ↓mpA_4, ↓mpA_6, ↓mpA_7, ↓mpA_9, ↓mpA_10, ↓mpA_12, ↓mpA_14, ↓mpA_15, ↓mpA_16, ↓mpZ_17, ↓mpA_18, ↓mpZ_19, ↓mpA_20, ↓mpA_21, ↓mpA_22, ↓mpA_23, ↓mpA_24, ↓mpZ_25, ↓mpA_26, ↓mpA_27, ↓mpA_28, ↓mpA_29, ↓mpA_30, ↓mpA_31, ↓mpA_32, ↓mpA_33, ↓mpA_34, ↓mpZ_35, ↓mpA_36, ↓mpA_37, ↓mpA_38, ↓mpA_39, ↓mpA_41, ↓mpA_42, ↓mpZ_43, ↓mpA_44, ↓mpA_45, ↓mpA_46, fMd_isMark_E, eN, z]
          · simp (disch := (first | assumption | omega | decide | (simp only [mK_uI, mK_uP, mL_uI, mL_uP, mK_wI, mL_wI, mK_nA_e, mL_nA_e] <;> (first | assumption | omega)))) only [i3_le_t, i3_le_f, i3_lt_t, i3_lt_f, i3_eq_t, i3_eq_f, i3_add, i3_mul, i3_sub, i3_div, i3_dec, i3_m1, m1_i3, m1_eq, i3_ge0, m1_lt, i3_le_m1, ↓reduceIte, rZ_0, rZ_1, bdR_s, bdW_s, ifN_n, ifN_s, uS_n, uS_e, uS_d, ↓mgF_s, ↓mpF_s, ↓mgA_2, ↓mgA_4, ↓mgA_6, ↓mgA_7, ↓mgA_9, ↓mgA_10, ↓mgA_12, ↓mgA_14, ↓mgA_15, ↓mgA_16, ↓mgA_17, ↓mgA_18, ↓mgA_19, ↓mgA_20, ↓mgA_21, ↓mgA_22, ↓mgA_23, ↓mgA_24, ↓mgA_25, ↓mgA_26, ↓mgA_27, ↓mgA_28, ↓mgA_29, ↓mgA_30, ↓mgA_31, ↓mgA_32, ↓mgA_33, ↓mgA_34, ↓mgA_35, ↓mgA_36, ↓mgA_37, ↓mgA_38, ↓mgA_39, ↓mgA_41, ↓mgA_42, ↓mgA_43, ↓mgA_44, ↓mgA_45, ↓mgA_46, ↓mpA_2, ↓mpA_4, ↓mpA_6, ↓mpA_7, ↓mpA_9, ↓mpA_10, ↓mpA_12, ↓mpA_14, ↓mpA_15, ↓mpA_16, ↓mpZ_17, ↓mpA_18, ↓mpZ_19, ↓mpA_20, ↓mpA_21, ↓mpA_22, ↓mpA_23, ↓mpA_24, ↓mpZ_25, ↓mpA_26, ↓mpA_27, ↓mpA_28, ↓mpA_29, ↓mpA_30, ↓mpA_31, ↓mpA_32, ↓mpA_33, ↓mpA_34, ↓mpZ_35, ↓mpA_36, ↓mpA_37, ↓mpA_38, ↓mpA_39, ↓mpA_41, ↓mpA_42, ↓mpZ_43, ↓mpA_44, ↓mpA_45, ↓mpA_46, fMd_isMark_E, eN, z]
        by_cases hT2 : T < 3
        · by_cases hm : σ 9 N = i3 0
          · -- a mark
            refine on (i3 1) M σ B isf rfl ?_ ?_ R I (fun _ _ => rfl) rfl (by omega)
            · clear R I L W X Z ih skip on
              simp (disch := (first | assumption | omega | decide | (simp only [mK_uI, mK_uP, mL_uI, mL_uP, mK_wI, mL_wI, mK_nA_e, mL_nA_e] <;> (first | assumption | omega)))) only [i3_le_t, i3_le_f, i3_lt_t, i3_lt_f, i3_eq_t, i3_eq_f, i3_add, i3_mul, i3_sub, i3_div, i3_dec, i3_m1, m1_i3, m1_eq, i3_ge0, m1_lt, i3_le_m1, ↓reduceIte, rZ_0, rZ_1, bdR_s, bdW_s, ifN_n, ifN_s, ↓fgI_s, ↓fgR_s, ↓rk_s, ↓fpI_s, ↓fpR_s, ↓fpZ_0, ↓fpZ_1, ↓alI_i, ↓alP_i, ↓asI_i, ↓asB_i, ↓asZ_0, ↓asZ_1, ↓aln_i, ↓fca_s, ↓fca_n, bdC_li, bdC_ri, mK_uI, mK_uP, mL_uI, mL_uP, mP_uI, mI_uP, mK_wI, mL_wI, mP_wI, mI_uI_e, mI_uI_c, nwO_s, mK_nA_e, mL_nA_e, fRegion_ageOne_E, hT, a2, fEntry_isMark_E, a6, a8, hm]
            · rw [fMd_ages_b8_E]
              clear R I L W X Z ih skip on
              simp (disch := (first | assumption | omega | decide | (simp only [mK_uI, mK_uP, mL_uI, mL_uP, mK_wI, mL_wI, mK_nA_e, mL_nA_e] <;> (first | assumption | omega)))) only [i3_le_t, i3_le_f, i3_lt_t, i3_lt_f, i3_eq_t, i3_eq_f, i3_add, i3_mul, i3_sub, i3_div, i3_dec, i3_m1, m1_i3, m1_eq, i3_ge0, m1_lt, i3_le_m1, ↓reduceIte, rZ_0, rZ_1, bdR_s, bdW_s, ifN_n, ifN_s, uS_n, uS_e, uS_d, ↓mgF_s, ↓mpF_s, ↓mgA_2, ↓mgA_4, ↓mgA_6, ↓mgA_7, ↓mgA_9, ↓mgA_10, ↓mgA_12, ↓mgA_14, ↓mgA_15, ↓mgA_16, ↓mgA_17, ↓mgA_18, ↓mgA_19, ↓mgA_20, ↓mgA_21, ↓mgA_22, ↓mgA_23, ↓mgA_24, ↓mgA_25, ↓mgA_26, ↓mgA_27, ↓mgA_28, ↓mgA_29, ↓mgA_30, ↓mgA_31, ↓mgA_32, ↓mgA_33, ↓mgA_34, ↓mgA_35, ↓mgA_36, ↓mgA_37, ↓mgA_38, ↓mgA_39, ↓mgA_41, ↓mgA_42, ↓mgA_43, ↓mgA_44, ↓mgA_45, ↓mgA_46, ↓mpA_2, ↓mpA_4, ↓mpA_6, ↓mpA_7, ↓mpA_9, ↓mpA_10, ↓mpA_12, ↓mpA_14, ↓mpA_15, ↓mpA_16, ↓mpZ_17, ↓mpA_18, ↓mpZ_19, ↓mpA_20, ↓mpA_21, ↓mpA_22, ↓mpA_23, ↓mpA_24, ↓mpZ_25, ↓mpA_26, ↓mpA_27, ↓mpA_28, ↓mpA_29, ↓mpA_30, ↓mpA_31, ↓mpA_32, ↓mpA_33, ↓mpA_34, ↓mpZ_35, ↓mpA_36, ↓mpA_37, ↓mpA_38, ↓mpA_39, ↓mpA_41, ↓mpA_42, ↓mpZ_43, ↓mpA_44, ↓mpA_45, ↓mpA_46, b2, hdy, hT, mk, hm, fMd_ages_j105_E, fMd_ages_j140_E, mx_dec]
          · obtain ⟨Lv, hLv2, hLv⟩ := Xlv.to
            by_cases hTL : T ≤ Lv
            · have R1 := R.setv I hr (i := d) (by omega) (i3 Lv) 1002 30 (Or.inl ⟨rfl, rfl⟩)
              rw [uS_same σ 30 (40 * r + d) (i3 Lv) hLv.symm] at R1
              refine on (i3 1) _ σ B isf rfl ?_ ?_ R1 I (fun _ _ => rfl) rfl (by omega)
              · clear R I L W X Z ih skip on R1
                simp (disch := (first | assumption | omega | decide | (simp only [mK_uI, mK_uP, mL_uI, mL_uP, mK_wI, mL_wI, mK_nA_e, mL_nA_e] <;> (first | assumption | omega)))) only [i3_le_t, i3_le_f, i3_lt_t, i3_lt_f, i3_eq_t, i3_eq_f, i3_add, i3_mul, i3_sub, i3_div, i3_dec, i3_m1, m1_i3, m1_eq, i3_ge0, m1_lt, i3_le_m1, ↓reduceIte, rZ_0, rZ_1, bdR_s, bdW_s, ifN_n, ifN_s, ↓fgI_s, ↓fgR_s, ↓rk_s, ↓fpI_s, ↓fpR_s, ↓fpZ_0, ↓fpZ_1, ↓alI_i, ↓alP_i, ↓asI_i, ↓asB_i, ↓asZ_0, ↓asZ_1, ↓aln_i, ↓fca_s, ↓fca_n, bdC_li, bdC_ri, mK_uI, mK_uP, mL_uI, mL_uP, mP_uI, mI_uP, mK_wI, mL_wI, mP_wI, mI_uI_e, mI_uI_c, nwO_s, mK_nA_e, mL_nA_e, fRegion_ageOne_E, hT, a2, fEntry_isMark_E, a6, a8, hm, a9, hLv]
              · rw [fMd_ages_b8_E]
                clear R I L W X Z ih skip on R1
                simp (disch := (first | assumption | omega | decide | (simp only [mK_uI, mK_uP, mL_uI, mL_uP, mK_wI, mL_wI, mK_nA_e, mL_nA_e] <;> (first | assumption | omega)))) only [i3_le_t, i3_le_f, i3_lt_t, i3_lt_f, i3_eq_t, i3_eq_f, i3_add, i3_mul, i3_sub, i3_div, i3_dec, i3_m1, m1_i3, m1_eq, i3_ge0, m1_lt, i3_le_m1, ↓reduceIte, rZ_0, rZ_1, bdR_s, bdW_s, ifN_n, ifN_s, uS_n, uS_e, uS_d, ↓mgF_s, ↓mpF_s, ↓mgA_2, ↓mgA_4, ↓mgA_6, ↓mgA_7, ↓mgA_9, ↓mgA_10, ↓mgA_12, ↓mgA_14, ↓mgA_15, ↓mgA_16, ↓mgA_17, ↓mgA_18, ↓mgA_19, ↓mgA_20, ↓mgA_21, ↓mgA_22, ↓mgA_23, ↓mgA_24, ↓mgA_25, ↓mgA_26, ↓mgA_27, ↓mgA_28, ↓mgA_29, ↓mgA_30, ↓mgA_31, ↓mgA_32, ↓mgA_33, ↓mgA_34, ↓mgA_35, ↓mgA_36, ↓mgA_37, ↓mgA_38, ↓mgA_39, ↓mgA_41, ↓mgA_42, ↓mgA_43, ↓mgA_44, ↓mgA_45, ↓mgA_46, ↓mpA_2, ↓mpA_4, ↓mpA_6, ↓mpA_7, ↓mpA_9, ↓mpA_10, ↓mpA_12, ↓mpA_14, ↓mpA_15, ↓mpA_16, ↓mpZ_17, ↓mpA_18, ↓mpZ_19, ↓mpA_20, ↓mpA_21, ↓mpA_22, ↓mpA_23, ↓mpA_24, ↓mpZ_25, ↓mpA_26, ↓mpA_27, ↓mpA_28, ↓mpA_29, ↓mpA_30, ↓mpA_31, ↓mpA_32, ↓mpA_33, ↓mpA_34, ↓mpZ_35, ↓mpA_36, ↓mpA_37, ↓mpA_38, ↓mpA_39, ↓mpA_41, ↓mpA_42, ↓mpZ_43, ↓mpA_44, ↓mpA_45, ↓mpA_46, b2, hdy, hT, mk, hm, hLv, fMd_ages_j105_E, fMd_ages_j140_E, mx_dec]
            · have h32 : σ 32 (40 * r + d) = m1 := by
                rcases Xak with w | ⟨-, w⟩
                · exact w
                · rw [hLv] at w
                  have := (i3_inj (by omega) (by omega)).mp w
                  omega
              have R1 := R.setv I hr (i := d) (by omega) (i3 T) 1002 30 (Or.inl ⟨rfl, rfl⟩)
              have I1 := I.setlv hr (i := d) (T := T) (by omega) (by omega) (by rw [← hN]; exact hm) h32
              have us := uS_same (uS σ 30 (40 * r + d) (i3 T)) 32 (40 * r + d) m1 h32.symm
              refine on (i3 1) _ (uS σ 30 (40 * r + d) (i3 T)) B isf rfl ?_ ?_ R1 I1 (fun f hf => uS_n _ _ _ (by omega)) rfl (by rw [uS_n _ _ _ (by decide)]; omega)
              · clear R I L W X Z ih skip on R1 I1
                simp (disch := (first | assumption | omega | decide | (simp only [mK_uI, mK_uP, mL_uI, mL_uP, mK_wI, mL_wI, mK_nA_e, mL_nA_e] <;> (first | assumption | omega)))) only [i3_le_t, i3_le_f, i3_lt_t, i3_lt_f, i3_eq_t, i3_eq_f, i3_add, i3_mul, i3_sub, i3_div, i3_dec, i3_m1, m1_i3, m1_eq, i3_ge0, m1_lt, i3_le_m1, ↓reduceIte, rZ_0, rZ_1, bdR_s, bdW_s, ifN_n, ifN_s, ↓fgI_s, ↓fgR_s, ↓rk_s, ↓fpI_s, ↓fpR_s, ↓fpZ_0, ↓fpZ_1, ↓alI_i, ↓alP_i, ↓asI_i, ↓asB_i, ↓asZ_0, ↓asZ_1, ↓aln_i, ↓fca_s, ↓fca_n, bdC_li, bdC_ri, mK_uI, mK_uP, mL_uI, mL_uP, mP_uI, mI_uP, mK_wI, mL_wI, mP_wI, mI_uI_e, mI_uI_c, nwO_s, mK_nA_e, mL_nA_e, fRegion_ageOne_E, hT, a2, fEntry_isMark_E, a6, a8, hm, a9, hLv]
              · rw [fMd_ages_b8_E]
                clear R I L W X Z ih skip on R1 I1
                simp (disch := (first | assumption | omega | decide | (simp only [mK_uI, mK_uP, mL_uI, mL_uP, mK_wI, mL_wI, mK_nA_e, mL_nA_e] <;> (first | assumption | omega)))) only [i3_le_t, i3_le_f, i3_lt_t, i3_lt_f, i3_eq_t, i3_eq_f, i3_add, i3_mul, i3_sub, i3_div, i3_dec, i3_m1, m1_i3, m1_eq, i3_ge0, m1_lt, i3_le_m1, ↓reduceIte, rZ_0, rZ_1, bdR_s, bdW_s, ifN_n, ifN_s, uS_n, uS_e, uS_d, ↓mgF_s, ↓mpF_s, ↓mgA_2, ↓mgA_4, ↓mgA_6, ↓mgA_7, ↓mgA_9, ↓mgA_10, ↓mgA_12, ↓mgA_14, ↓mgA_15, ↓mgA_16, ↓mgA_17, ↓mgA_18, ↓mgA_19, ↓mgA_20, ↓mgA_21, ↓mgA_22, ↓mgA_23, ↓mgA_24, ↓mgA_25, ↓mgA_26, ↓mgA_27, ↓mgA_28, ↓mgA_29, ↓mgA_30, ↓mgA_31, ↓mgA_32, ↓mgA_33, ↓mgA_34, ↓mgA_35, ↓mgA_36, ↓mgA_37, ↓mgA_38, ↓mgA_39, ↓mgA_41, ↓mgA_42, ↓mgA_43, ↓mgA_44, ↓mgA_45, ↓mgA_46, ↓mpA_2, ↓mpA_4, ↓mpA_6, ↓mpA_7, ↓mpA_9, ↓mpA_10, ↓mpA_12, ↓mpA_14, ↓mpA_15, ↓mpA_16, ↓mpZ_17, ↓mpA_18, ↓mpZ_19, ↓mpA_20, ↓mpA_21, ↓mpA_22, ↓mpA_23, ↓mpA_24, ↓mpZ_25, ↓mpA_26, ↓mpA_27, ↓mpA_28, ↓mpA_29, ↓mpA_30, ↓mpA_31, ↓mpA_32, ↓mpA_33, ↓mpA_34, ↓mpZ_35, ↓mpA_36, ↓mpA_37, ↓mpA_38, ↓mpA_39, ↓mpA_41, ↓mpA_42, ↓mpZ_43, ↓mpA_44, ↓mpA_45, ↓mpA_46, b2, hdy, hT, mk, hm, hLv, us, fMd_ages_j140_E, mx_dec]
        · have hT3' : T = 3 := by omega
          subst hT3'
          have cl := c_latest R I hr hV h40 (σ 28 (40 * r + d)) V FU (Nat.le_refl V) (FU_S (by omega))
          have ml := m_latest (σ := σ) hr hV h40 (σ 28 (40 * r + d)) V 0 FU (by omega) (FU_S (by omega))
          have L3 := L.size
          cases hf : fdn (pL σ r (σ 28 (40 * r + d))) V with
          | none =>
            have := fdn_none hf d hdV
            exact absurd rfl (of_decide_eq_false this)
          | some k0 =>
            rw [hf] at cl ml
            obtain ⟨hk0, hk1, hk2⟩ := fdn_lt hf
            have Wk := R.ver I hr (i := k0) (by omega)
            have c1 := Wk.k
            have c2 := Wk.p0
            have c3 := Wk.ek
            have c4 := Wk.nu
            have la : fRegion_latest (gr h r) (σ 28 (40 * r + d)) M = some (some (ve B r k0)) := by
              have e0 : (if V = 0 then m1 else i3 (V - 1)) = i3 V - i3 1 := by
                by_cases e : V = 0
                · omega
                · rw [if_neg e, i3_sub (by omega)]
              rw [e0] at cl
              have cl' : fRegion_latest_l10 (gr h r) FU (σ 28 (40 * r + d)) (i3 (V - 1)) M = some (some (ve B r k0)) := by
                rw [i3_sub (by omega)] at cl; exact cl
              clear R I L W X Z Wk ih skip on cl ml
              simp (disch := (first | assumption | omega | decide | (simp only [mK_uI, mK_uP, mL_uI, mL_uP, mK_wI, mL_wI, mK_nA_e, mL_nA_e] <;> (first | assumption | omega)))) only [i3_le_t, i3_le_f, i3_lt_t, i3_lt_f, i3_eq_t, i3_eq_f, i3_add, i3_mul, i3_sub, i3_div, i3_dec, i3_m1, m1_i3, m1_eq, i3_ge0, m1_lt, i3_le_m1, ↓reduceIte, rZ_0, rZ_1, bdR_s, bdW_s, ifN_n, ifN_s, ↓fgI_s, ↓fgR_s, ↓rk_s, ↓fpI_s, ↓fpR_s, ↓fpZ_0, ↓fpZ_1, ↓alI_i, ↓alP_i, ↓asI_i, ↓asB_i, ↓asZ_0, ↓asZ_1, ↓aln_i, ↓fca_s, ↓fca_n, bdC_li, bdC_ri, mK_uI, mK_uP, mL_uI, mL_uP, mP_uI, mI_uP, mK_wI, mL_wI, mP_wI, mI_uI_e, mI_uI_c, nwO_s, mK_nA_e, mL_nA_e, fRegion_latest_E, w2, L3, cl']
            have lm : fMd_latest (i3 r) (σ 28 (40 * r + d)) σ = some (i3 (40 * r + k0)) := by
              rw [fMd_latest_E]
              have e0 : i3 40 * i3 r = i3 (40 * r + 0) := i3_mul 40 r
              rw [e0]
              exact ml
            by_cases ek : k0 = d
            · -- it is the latest
              subst ek
              refine on (i3 1) M σ B isf rfl ?_ ?_ R I (fun _ _ => rfl) rfl (by omega)
              · clear R I L W X Z Wk ih skip on cl ml
                simp (disch := (first | assumption | omega | decide | (simp only [mK_uI, mK_uP, mL_uI, mL_uP, mK_wI, mL_wI, mK_nA_e, mL_nA_e] <;> (first | assumption | omega)))) only [i3_le_t, i3_le_f, i3_lt_t, i3_lt_f, i3_eq_t, i3_eq_f, i3_add, i3_mul, i3_sub, i3_div, i3_dec, i3_m1, m1_i3, m1_eq, i3_ge0, m1_lt, i3_le_m1, ↓reduceIte, rZ_0, rZ_1, bdR_s, bdW_s, ifN_n, ifN_s, ↓fgI_s, ↓fgR_s, ↓rk_s, ↓fpI_s, ↓fpR_s, ↓fpZ_0, ↓fpZ_1, ↓alI_i, ↓alP_i, ↓asI_i, ↓asB_i, ↓asZ_0, ↓asZ_1, ↓aln_i, ↓fca_s, ↓fca_n, bdC_li, bdC_ri, mK_uI, mK_uP, mL_uI, mL_uP, mP_uI, mI_uP, mK_wI, mL_wI, mP_wI, mI_uI_e, mI_uI_c, nwO_s, mK_nA_e, mL_nA_e, fRegion_ageOne_E, hT, a2, a4, la, a11, fRegion_ageOne_j69_E, eq_self]
              · rw [fMd_ages_b8_E]
                clear R I L W X Z Wk ih skip on cl ml
                simp (disch := (first | assumption | omega | decide | (simp only [mK_uI, mK_uP, mL_uI, mL_uP, mK_wI, mL_wI, mK_nA_e, mL_nA_e] <;> (first | assumption | omega)))) only [i3_le_t, i3_le_f, i3_lt_t, i3_lt_f, i3_eq_t, i3_eq_f, i3_add, i3_mul, i3_sub, i3_div, i3_dec, i3_m1, m1_i3, m1_eq, i3_ge0, m1_lt, i3_le_m1, ↓reduceIte, rZ_0, rZ_1, bdR_s, bdW_s, ifN_n, ifN_s, uS_n, uS_e, uS_d, ↓mgF_s, ↓mpF_s, ↓mgA_2, ↓mgA_4, ↓mgA_6, ↓mgA_7, ↓mgA_9, ↓mgA_10, ↓mgA_12, ↓mgA_14, ↓mgA_15, ↓mgA_16, ↓mgA_17, ↓mgA_18, ↓mgA_19, ↓mgA_20, ↓mgA_21, ↓mgA_22, ↓mgA_23, ↓mgA_24, ↓mgA_25, ↓mgA_26, ↓mgA_27, ↓mgA_28, ↓mgA_29, ↓mgA_30, ↓mgA_31, ↓mgA_32, ↓mgA_33, ↓mgA_34, ↓mgA_35, ↓mgA_36, ↓mgA_37, ↓mgA_38, ↓mgA_39, ↓mgA_41, ↓mgA_42, ↓mgA_43, ↓mgA_44, ↓mgA_45, ↓mgA_46, ↓mpA_2, ↓mpA_4, ↓mpA_6, ↓mpA_7, ↓mpA_9, ↓mpA_10, ↓mpA_12, ↓mpA_14, ↓mpA_15, ↓mpA_16, ↓mpZ_17, ↓mpA_18, ↓mpZ_19, ↓mpA_20, ↓mpA_21, ↓mpA_22, ↓mpA_23, ↓mpA_24, ↓mpZ_25, ↓mpA_26, ↓mpA_27, ↓mpA_28, ↓mpA_29, ↓mpA_30, ↓mpA_31, ↓mpA_32, ↓mpA_33, ↓mpA_34, ↓mpZ_35, ↓mpA_36, ↓mpA_37, ↓mpA_38, ↓mpA_39, ↓mpA_41, ↓mpA_42, ↓mpZ_43, ↓mpA_44, ↓mpA_45, ↓mpA_46, b2, hdy, hT, fMd_ages_j105_E, lm, fMd_ages_j140_E, mx_dec]
            · have ne : ¬ σ 27 (40 * r + k0) = σ 27 (40 * r + d) := fun e => by
                rcases Nat.lt_trichotomy k0 d with w | w | w
                · have := I.vi r hr k0 d w (by omega); rw [e] at this; omega
                · exact ek w
                · have := I.vi r hr d k0 w (by omega); rw [e] at this; omega
              generalize en B (nv (σ 27 (40 * r + k0))) = ev2 at *
              by_cases hl : σ 31 (40 * r + d) < σ 11 0
              · obtain ⟨M1, σ1, B1, t1, t2, R1, I1, t3, t4, t5, t6⟩ := takeOut_i R I hr hdV hV h40
                refine on (i3 1) M1 σ1 B1 isf rfl ?_ ?_ R1 I1 t3 t6 (by rw [t4, nv_i (by omega)]; omega)
                · clear R I L W X Z Wk ih skip on cl ml R1 I1
                  simp (disch := (first | assumption | omega | decide | (simp only [mK_uI, mK_uP, mL_uI, mL_uP, mK_wI, mL_wI, mK_nA_e, mL_nA_e] <;> (first | assumption | omega)))) only [i3_le_t, i3_le_f, i3_lt_t, i3_lt_f, i3_eq_t, i3_eq_f, i3_add, i3_mul, i3_sub, i3_div, i3_dec, i3_m1, m1_i3, m1_eq, i3_ge0, m1_lt, i3_le_m1, ↓reduceIte, rZ_0, rZ_1, bdR_s, bdW_s, ifN_n, ifN_s, ↓fgI_s, ↓fgR_s, ↓rk_s, ↓fpI_s, ↓fpR_s, ↓fpZ_0, ↓fpZ_1, ↓alI_i, ↓alP_i, ↓asI_i, ↓asB_i, ↓asZ_0, ↓asZ_1, ↓aln_i, ↓fca_s, ↓fca_n, bdC_li, bdC_ri, mK_uI, mK_uP, mL_uI, mL_uP, mP_uI, mI_uP, mK_wI, mL_wI, mP_wI, mI_uI_e, mI_uI_c, nwO_s, mK_nA_e, mL_nA_e, fRegion_ageOne_E, hT, a2, a4, la, c2, c4, a11, ne, fRegion_ageOne_j68_E, fRegion_ageOne_j69_E, fVersion_isLocked_E, a10, hl, t1]
                · rw [fMd_ages_b8_E]
                  clear R I L W X Z Wk ih skip on cl ml R1 I1
                  simp (disch := (first | assumption | omega | decide | (simp only [mK_uI, mK_uP, mL_uI, mL_uP, mK_wI, mL_wI, mK_nA_e, mL_nA_e] <;> (first | assumption | omega)))) only [i3_le_t, i3_le_f, i3_lt_t, i3_lt_f, i3_eq_t, i3_eq_f, i3_add, i3_mul, i3_sub, i3_div, i3_dec, i3_m1, m1_i3, m1_eq, i3_ge0, m1_lt, i3_le_m1, ↓reduceIte, rZ_0, rZ_1, bdR_s, bdW_s, ifN_n, ifN_s, uS_n, uS_e, uS_d, ↓mgF_s, ↓mpF_s, ↓mgA_2, ↓mgA_4, ↓mgA_6, ↓mgA_7, ↓mgA_9, ↓mgA_10, ↓mgA_12, ↓mgA_14, ↓mgA_15, ↓mgA_16, ↓mgA_17, ↓mgA_18, ↓mgA_19, ↓mgA_20, ↓mgA_21, ↓mgA_22, ↓mgA_23, ↓mgA_24, ↓mgA_25, ↓mgA_26, ↓mgA_27, ↓mgA_28, ↓mgA_29, ↓mgA_30, ↓mgA_31, ↓mgA_32, ↓mgA_33, ↓mgA_34, ↓mgA_35, ↓mgA_36, ↓mgA_37, ↓mgA_38, ↓mgA_39, ↓mgA_41, ↓mgA_42, ↓mgA_43, ↓mgA_44, ↓mgA_45, ↓mgA_46, ↓mpA_2, ↓mpA_4, ↓mpA_6, ↓mpA_7, ↓mpA_9, ↓mpA_10, ↓mpA_12, ↓mpA_14, ↓mpA_15, ↓mpA_16, ↓mpZ_17, ↓mpA_18, ↓mpZ_19, ↓mpA_20, ↓mpA_21, ↓mpA_22, ↓mpA_23, ↓mpA_24, ↓mpZ_25, ↓mpA_26, ↓mpA_27, ↓mpA_28, ↓mpA_29, ↓mpA_30, ↓mpA_31, ↓mpA_32, ↓mpA_33, ↓mpA_34, ↓mpZ_35, ↓mpA_36, ↓mpA_37, ↓mpA_38, ↓mpA_39, ↓mpA_41, ↓mpA_42, ↓mpZ_43, ↓mpA_44, ↓mpA_45, ↓mpA_46, b2, hdy, hT, fMd_ages_j105_E, lm, fMd_isLocked_E, hl, t2, fMd_ages_j140_E, mx_dec]
              · refine on (i3 1) M σ B isf rfl ?_ ?_ R I (fun _ _ => rfl) rfl (by omega)
                · clear R I L W X Z Wk ih skip on cl ml
                  simp (disch := (first | assumption | omega | decide | (simp only [mK_uI, mK_uP, mL_uI, mL_uP, mK_wI, mL_wI, mK_nA_e, mL_nA_e] <;> (first | assumption | omega)))) only [i3_le_t, i3_le_f, i3_lt_t, i3_lt_f, i3_eq_t, i3_eq_f, i3_add, i3_mul, i3_sub, i3_div, i3_dec, i3_m1, m1_i3, m1_eq, i3_ge0, m1_lt, i3_le_m1, ↓reduceIte, rZ_0, rZ_1, bdR_s, bdW_s, ifN_n, ifN_s, ↓fgI_s, ↓fgR_s, ↓rk_s, ↓fpI_s, ↓fpR_s, ↓fpZ_0, ↓fpZ_1, ↓alI_i, ↓alP_i, ↓asI_i, ↓asB_i, ↓asZ_0, ↓asZ_1, ↓aln_i, ↓fca_s, ↓fca_n, bdC_li, bdC_ri, mK_uI, mK_uP, mL_uI, mL_uP, mP_uI, mI_uP, mK_wI, mL_wI, mP_wI, mI_uI_e, mI_uI_c, nwO_s, mK_nA_e, mL_nA_e, fRegion_ageOne_E, hT, a2, a4, la, c2, c4, a11, ne, fRegion_ageOne_j68_E, fRegion_ageOne_j69_E, fVersion_isLocked_E, a10, hl]
                · rw [fMd_ages_b8_E]
                  clear R I L W X Z Wk ih skip on cl ml
                  simp (disch := (first | assumption | omega | decide | (simp only [mK_uI, mK_uP, mL_uI, mL_uP, mK_wI, mL_wI, mK_nA_e, mL_nA_e] <;> (first | assumption | omega)))) only [i3_le_t, i3_le_f, i3_lt_t, i3_lt_f, i3_eq_t, i3_eq_f, i3_add, i3_mul, i3_sub, i3_div, i3_dec, i3_m1, m1_i3, m1_eq, i3_ge0, m1_lt, i3_le_m1, ↓reduceIte, rZ_0, rZ_1, bdR_s, bdW_s, ifN_n, ifN_s, uS_n, uS_e, uS_d, ↓mgF_s, ↓mpF_s, ↓mgA_2, ↓mgA_4, ↓mgA_6, ↓mgA_7, ↓mgA_9, ↓mgA_10, ↓mgA_12, ↓mgA_14, ↓mgA_15, ↓mgA_16, ↓mgA_17, ↓mgA_18, ↓mgA_19, ↓mgA_20, ↓mgA_21, ↓mgA_22, ↓mgA_23, ↓mgA_24, ↓mgA_25, ↓mgA_26, ↓mgA_27, ↓mgA_28, ↓mgA_29, ↓mgA_30, ↓mgA_31, ↓mgA_32, ↓mgA_33, ↓mgA_34, ↓mgA_35, ↓mgA_36, ↓mgA_37, ↓mgA_38, ↓mgA_39, ↓mgA_41, ↓mgA_42, ↓mgA_43, ↓mgA_44, ↓mgA_45, ↓mgA_46, ↓mpA_2, ↓mpA_4, ↓mpA_6, ↓mpA_7, ↓mpA_9, ↓mpA_10, ↓mpA_12, ↓mpA_14, ↓mpA_15, ↓mpA_16, ↓mpZ_17, ↓mpA_18, ↓mpZ_19, ↓mpA_20, ↓mpA_21, ↓mpA_22, ↓mpA_23, ↓mpA_24, ↓mpZ_25, ↓mpA_26, ↓mpA_27, ↓mpA_28, ↓mpA_29, ↓mpA_30, ↓mpA_31, ↓mpA_32, ↓mpA_33, ↓mpA_34, ↓mpZ_35, ↓mpA_36, ↓mpA_37, ↓mpA_38, ↓mpA_39, ↓mpA_41, ↓mpA_42, ↓mpZ_43, ↓mpA_44, ↓mpA_45, ↓mpA_46, b2, hdy, hT, fMd_ages_j105_E, lm, fMd_isLocked_E, hl, fMd_ages_j140_E, mx_dec]
end AG

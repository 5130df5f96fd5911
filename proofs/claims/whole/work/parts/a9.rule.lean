set_option maxRecDepth 100000
/-! rule, upload -/
section OU
variable {h c n r : Nat} {own : Nat → Nat} {B : BK} {σ : Sg} {M : Mm}
theorem beg_cases (x : Int32) : ((∀ (M : Mm) (n : Nat), fHb_checkBeginning x M n = some (.inl (), M, n)) ∧ ((x = i3 0) ∨ (x ≠ i3 0 ∧ fMd_isKey x = some (i3 1) ∧ ISK x))) ∨ ((∀ (M : Mm) (n : Nat), fHb_checkBeginning x M n = some (.inr 1, M, n + 1)) ∧ x ≠ i3 0 ∧ fMd_isKey x = some (i3 0)) := by
  by_cases z : x = i3 0
  · left
    refine ⟨fun M n => ?_, Or.inl z⟩
    have hn : n ≤ n := Nat.le_refl n
    simp (disch := (first | assumption | omega | decide | (simp only [mK_uI, mK_uP, mL_uI, mL_uP, mK_wI, mL_wI, mK_nA_e, mL_nA_e] <;> (first | assumption | omega)))) only [i3_le_t, i3_le_f, i3_lt_t, i3_lt_f, i3_eq_t, i3_eq_f, i3_add, i3_mul, i3_sub, i3_div, i3_dec, i3_m1, m1_i3, m1_eq, i3_ge0, m1_lt, i3_le_m1, ↓reduceIte, rZ_0, rZ_1, bdR_s, bdW_s, ifN_n, ifN_s, ↓fgI_s, ↓fgR_s, ↓rk_s, ↓fpI_s, ↓fpR_s, ↓fpZ_0, ↓fpZ_1, ↓alI_i, ↓alP_i, ↓asI_i, ↓asB_i, ↓asZ_0, ↓asZ_1, ↓aln_i, ↓fca_s, ↓fca_n, bdC_li, bdC_ri, mK_uI, mK_uP, mL_uI, mL_uP, mP_uI, mI_uP, mK_wI, mL_wI, mP_wI, mI_uI_e, mI_uI_c, nwO_s, mK_nA_e, mL_nA_e, fHb_checkBeginning_E, z, fHb_checkBeginning_j11_E, fHb_checkBeginning_j16_E, c_arg1]
  · rcases key_c x with ⟨k1, k2⟩ | ⟨k1, k2⟩
    · left
      refine ⟨fun M n => ?_, Or.inr ⟨z, k2, k1⟩⟩
      have hn : n ≤ n := Nat.le_refl n
      simp (disch := (first | assumption | omega | decide | (simp only [mK_uI, mK_uP, mL_uI, mL_uP, mK_wI, mL_wI, mK_nA_e, mL_nA_e] <;> (first | assumption | omega)))) only [i3_le_t, i3_le_f, i3_lt_t, i3_lt_f, i3_eq_t, i3_eq_f, i3_add, i3_mul, i3_sub, i3_div, i3_dec, i3_m1, m1_i3, m1_eq, i3_ge0, m1_lt, i3_le_m1, ↓reduceIte, rZ_0, rZ_1, bdR_s, bdW_s, ifN_n, ifN_s, ↓fgI_s, ↓fgR_s, ↓rk_s, ↓fpI_s, ↓fpR_s, ↓fpZ_0, ↓fpZ_1, ↓alI_i, ↓alP_i, ↓asI_i, ↓asB_i, ↓asZ_0, ↓asZ_1, ↓aln_i, ↓fca_s, ↓fca_n, bdC_li, bdC_ri, mK_uI, mK_uP, mL_uI, mL_uP, mP_uI, mI_uP, mK_wI, mL_wI, mP_wI, mI_uI_e, mI_uI_c, nwO_s, mK_nA_e, mL_nA_e, fHb_checkBeginning_E, z, k1, fHb_checkBeginning_j11_E, fHb_checkBeginning_j16_E, c_arg1]
    · right
      refine ⟨fun M n => ?_, z, k2⟩
      have hn : n ≤ n + 1 := Nat.le_succ n
      simp (disch := (first | assumption | omega | decide | (simp only [mK_uI, mK_uP, mL_uI, mL_uP, mK_wI, mL_wI, mK_nA_e, mL_nA_e] <;> (first | assumption | omega)))) only [i3_le_t, i3_le_f, i3_lt_t, i3_lt_f, i3_eq_t, i3_eq_f, i3_add, i3_mul, i3_sub, i3_div, i3_dec, i3_m1, m1_i3, m1_eq, i3_ge0, m1_lt, i3_le_m1, ↓reduceIte, rZ_0, rZ_1, bdR_s, bdW_s, ifN_n, ifN_s, ↓fgI_s, ↓fgR_s, ↓rk_s, ↓fpI_s, ↓fpR_s, ↓fpZ_0, ↓fpZ_1, ↓alI_i, ↓alP_i, ↓asI_i, ↓asB_i, ↓asZ_0, ↓asZ_1, ↓aln_i, ↓fca_s, ↓fca_n, bdC_li, bdC_ri, mK_uI, mK_uP, mL_uI, mL_uP, mP_uI, mI_uP, mK_wI, mL_wI, mP_wI, mI_uI_e, mI_uI_c, nwO_s, mK_nA_e, mL_nA_e, fHb_checkBeginning_E, z, k1, fHb_checkBeginning_j16_E, c_arg0]
theorem op_rule (R : RR h own B σ M n) (I : IV c σ) (x1 x2 x3 : Int32) : OPR h c σ n (fHb_rule h x1 x2 x3 M n) (fMd_rule x1 x2 x3 σ) (cdf 0 1 2) := by
  have k := R.hb.k
  have hn : n ≤ n + 1 := Nat.le_succ n
  rcases beg_cases x1 with ⟨q1, p1⟩ | ⟨q1, p0, p1⟩
  · have p1' : fMd_rule x1 x2 x3 σ = fMd_rule_j11 x1 x2 x3 σ := by
      rcases p1 with p1 | ⟨p0, p1, -⟩
      · simp (disch := (first | assumption | omega | decide | (simp only [mK_uI, mK_uP, mL_uI, mL_uP, mK_wI, mL_wI, mK_nA_e, mL_nA_e] <;> (first | assumption | omega)))) only [i3_le_t, i3_le_f, i3_lt_t, i3_lt_f, i3_eq_t, i3_eq_f, i3_add, i3_mul, i3_sub, i3_div, i3_dec, i3_m1, m1_i3, m1_eq, i3_ge0, m1_lt, i3_le_m1, ↓reduceIte, rZ_0, rZ_1, bdR_s, bdW_s, ifN_n, ifN_s, uS_n, uS_e, uS_d, ↓mgF_s, ↓mpF_s, ↓mgA_2, ↓mgA_4, ↓mgA_6, ↓mgA_7, ↓mgA_9, ↓mgA_10, ↓mgA_12, ↓mgA_14, ↓mgA_15, ↓mgA_16, ↓mgA_17, ↓mgA_18, ↓mgA_19, ↓mgA_20, ↓mgA_21, ↓mgA_22, ↓mgA_23, ↓mgA_24, ↓mgA_25, ↓mgA_26, ↓mgA_27, ↓mgA_28, ↓mgA_29, ↓mgA_30, ↓mgA_31, ↓mgA_32, ↓mgA_33, ↓mgA_34, ↓mgA_35, ↓mgA_36, ↓mgA_37, ↓mgA_38, ↓mgA_39, ↓mgA_41, ↓mgA_42, ↓mgA_43, ↓mgA_44, ↓mgA_45, ↓mgA_46, ↓mpA_2, ↓mpA_4, ↓mpA_6, ↓mpA_7, ↓mpA_9, ↓mpA_10, ↓mpA_12, ↓mpA_14, ↓mpA_15, ↓mpA_16, ↓mpZ_17, ↓mpA_18, ↓mpZ_19, ↓mpA_20, ↓mpA_21, ↓mpA_22, ↓mpA_23, ↓mpA_24, ↓mpZ_25, ↓mpA_26, ↓mpA_27, ↓mpA_28, ↓mpA_29, ↓mpA_30, ↓mpA_31, ↓mpA_32, ↓mpA_33, ↓mpA_34, ↓mpZ_35, ↓mpA_36, ↓mpA_37, ↓mpA_38, ↓mpA_39, ↓mpA_41, ↓mpA_42, ↓mpZ_43, ↓mpA_44, ↓mpA_45, ↓mpA_46, fMd_rule_E, p1]
      · simp (disch := (first | assumption | omega | decide | (simp only [mK_uI, mK_uP, mL_uI, mL_uP, mK_wI, mL_wI, mK_nA_e, mL_nA_e] <;> (first | assumption | omega)))) only [i3_le_t, i3_le_f, i3_lt_t, i3_lt_f, i3_eq_t, i3_eq_f, i3_add, i3_mul, i3_sub, i3_div, i3_dec, i3_m1, m1_i3, m1_eq, i3_ge0, m1_lt, i3_le_m1, ↓reduceIte, rZ_0, rZ_1, bdR_s, bdW_s, ifN_n, ifN_s, uS_n, uS_e, uS_d, ↓mgF_s, ↓mpF_s, ↓mgA_2, ↓mgA_4, ↓mgA_6, ↓mgA_7, ↓mgA_9, ↓mgA_10, ↓mgA_12, ↓mgA_14, ↓mgA_15, ↓mgA_16, ↓mgA_17, ↓mgA_18, ↓mgA_19, ↓mgA_20, ↓mgA_21, ↓mgA_22, ↓mgA_23, ↓mgA_24, ↓mgA_25, ↓mgA_26, ↓mgA_27, ↓mgA_28, ↓mgA_29, ↓mgA_30, ↓mgA_31, ↓mgA_32, ↓mgA_33, ↓mgA_34, ↓mgA_35, ↓mgA_36, ↓mgA_37, ↓mgA_38, ↓mgA_39, ↓mgA_41, ↓mgA_42, ↓mgA_43, ↓mgA_44, ↓mgA_45, ↓mgA_46, ↓mpA_2, ↓mpA_4, ↓mpA_6, ↓mpA_7, ↓mpA_9, ↓mpA_10, ↓mpA_12, ↓mpA_14, ↓mpA_15, ↓mpA_16, ↓mpZ_17, ↓mpA_18, ↓mpZ_19, ↓mpA_20, ↓mpA_21, ↓mpA_22, ↓mpA_23, ↓mpA_24, ↓mpZ_25, ↓mpA_26, ↓mpA_27, ↓mpA_28, ↓mpA_29, ↓mpA_30, ↓mpA_31, ↓mpA_32, ↓mpA_33, ↓mpA_34, ↓mpZ_35, ↓mpA_36, ↓mpA_37, ↓mpA_38, ↓mpA_39, ↓mpA_41, ↓mpA_42, ↓mpZ_43, ↓mpA_44, ↓mpA_45, ↓mpA_46, fMd_rule_E, p0, p1]
    by_cases hy : inR x2 0 99
    · have q2 := inR_c (M := M) (n := n) hy (by omega)
      have p2 := inR_m hy (by omega)
      by_cases hz : inR x3 1 3
      · have q3 := inR_c (M := M) (n := n) hz (by omega)
        have p3 := inR_m hz (by omega)
        have w1 := R.hb.p6
        obtain ⟨L, hL6, hL⟩ := I.rn.to
        have eL : nv (σ 13 0) = L := by rw [hL]; exact nv_i (by omega)
        have LR := R.rs
        rw [eL] at LR
        have w2 := LR.k
        have w3 := LR.size
        by_cases z : L = 6
        · refine OPR.err R I 2 2 (v := i3 0) ?_ ?_ rfl (by omega) (by omega)
          · clear R I LR
            simp (disch := (first | assumption | omega | decide | (simp only [mK_uI, mK_uP, mL_uI, mL_uP, mK_wI, mL_wI, mK_nA_e, mL_nA_e] <;> (first | assumption | omega)))) only [i3_le_t, i3_le_f, i3_lt_t, i3_lt_f, i3_eq_t, i3_eq_f, i3_add, i3_mul, i3_sub, i3_div, i3_dec, i3_m1, m1_i3, m1_eq, i3_ge0, m1_lt, i3_le_m1, ↓reduceIte, rZ_0, rZ_1, bdR_s, bdW_s, ifN_n, ifN_s, ↓fgI_s, ↓fgR_s, ↓rk_s, ↓fpI_s, ↓fpR_s, ↓fpZ_0, ↓fpZ_1, ↓alI_i, ↓alP_i, ↓asI_i, ↓asB_i, ↓asZ_0, ↓asZ_1, ↓aln_i, ↓fca_s, ↓fca_n, bdC_li, bdC_ri, mK_uI, mK_uP, mL_uI, mL_uP, mP_uI, mI_uP, mK_wI, mL_wI, mP_wI, mI_uI_e, mI_uI_c, nwO_s, mK_nA_e, mL_nA_e, fHb_rule_E, q1, q2, q3, w1, w3, fHb_rule_j34_E, c_st0]
          · clear R I LR
            simp (disch := (first | assumption | omega | decide | (simp only [mK_uI, mK_uP, mL_uI, mL_uP, mK_wI, mL_wI, mK_nA_e, mL_nA_e] <;> (first | assumption | omega)))) only [i3_le_t, i3_le_f, i3_lt_t, i3_lt_f, i3_eq_t, i3_eq_f, i3_add, i3_mul, i3_sub, i3_div, i3_dec, i3_m1, m1_i3, m1_eq, i3_ge0, m1_lt, i3_le_m1, ↓reduceIte, rZ_0, rZ_1, bdR_s, bdW_s, ifN_n, ifN_s, uS_n, uS_e, uS_d, ↓mgF_s, ↓mpF_s, ↓mgA_2, ↓mgA_4, ↓mgA_6, ↓mgA_7, ↓mgA_9, ↓mgA_10, ↓mgA_12, ↓mgA_14, ↓mgA_15, ↓mgA_16, ↓mgA_17, ↓mgA_18, ↓mgA_19, ↓mgA_20, ↓mgA_21, ↓mgA_22, ↓mgA_23, ↓mgA_24, ↓mgA_25, ↓mgA_26, ↓mgA_27, ↓mgA_28, ↓mgA_29, ↓mgA_30, ↓mgA_31, ↓mgA_32, ↓mgA_33, ↓mgA_34, ↓mgA_35, ↓mgA_36, ↓mgA_37, ↓mgA_38, ↓mgA_39, ↓mgA_41, ↓mgA_42, ↓mgA_43, ↓mgA_44, ↓mgA_45, ↓mgA_46, ↓mpA_2, ↓mpA_4, ↓mpA_6, ↓mpA_7, ↓mpA_9, ↓mpA_10, ↓mpA_12, ↓mpA_14, ↓mpA_15, ↓mpA_16, ↓mpZ_17, ↓mpA_18, ↓mpZ_19, ↓mpA_20, ↓mpA_21, ↓mpA_22, ↓mpA_23, ↓mpA_24, ↓mpZ_25, ↓mpA_26, ↓mpA_27, ↓mpA_28, ↓mpA_29, ↓mpA_30, ↓mpA_31, ↓mpA_32, ↓mpA_33, ↓mpA_34, ↓mpZ_35, ↓mpA_36, ↓mpA_37, ↓mpA_38, ↓mpA_39, ↓mpA_41, ↓mpA_42, ↓mpZ_43, ↓mpA_44, ↓mpA_45, ↓mpA_46, p1', fMd_rule_j11_E, p2, p3, fMd_rule_j35_E, hL, fMd_rule_j61_E, m_holdsk]
        · obtain ⟨M2, hM2⟩ : ∃ M2, M2 = uI (uI (uI (nA M n 7 0) 700 n 0 x1) 701 n 0 x2) 702 n 0 x3 := ⟨_, rfl⟩
          have e1 : fRule_init n x1 x2 x3 (nA M n 7 0) = some ((), M2) := by
            rw [hM2]
            simp (disch := (first | assumption | omega | decide | (simp only [mK_uI, mK_uP, mL_uI, mL_uP, mK_wI, mL_wI, mK_nA_e, mL_nA_e] <;> (first | assumption | omega)))) only [i3_le_t, i3_le_f, i3_lt_t, i3_lt_f, i3_eq_t, i3_eq_f, i3_add, i3_mul, i3_sub, i3_div, i3_dec, i3_m1, m1_i3, m1_eq, i3_ge0, m1_lt, i3_le_m1, ↓reduceIte, rZ_0, rZ_1, bdR_s, bdW_s, ifN_n, ifN_s, ↓fgI_s, ↓fgR_s, ↓rk_s, ↓fpI_s, ↓fpR_s, ↓fpZ_0, ↓fpZ_1, ↓alI_i, ↓alP_i, ↓asI_i, ↓asB_i, ↓asZ_0, ↓asZ_1, ↓aln_i, ↓fca_s, ↓fca_n, bdC_li, bdC_ri, mK_uI, mK_uP, mL_uI, mL_uP, mP_uI, mI_uP, mK_wI, mL_wI, mP_wI, mI_uI_e, mI_uI_c, nwO_s, mK_nA_e, mL_nA_e, fRule_init_E]
          have hN : NEWM n M M2 := by
            rw [hM2]
            exact (((NEWM.nA (Nat.le_refl n)).trans (NEWM.uI (Nat.le_refl n))).trans (NEWM.uI (Nat.le_refl n))).trans (NEWM.uI (Nat.le_refl n))
          have f1 : FRM (fun _ => False) own M (oN own n 29) M2 := hN.frm R.fr fun x hx => oN_n _ _ (by omega)
          have kn : mK M2 n = 7 ∧ mI M2 700 n 0 = x1 ∧ mI M2 701 n 0 = x2 ∧ mI M2 702 n 0 = x3 := by
            rw [hM2]
            exact ⟨mK_nA_e _ _ _ _, by simp (disch := (first | assumption | omega | decide | (simp only [mK_uI, mK_uP, mL_uI, mL_uP, mK_wI, mL_wI, mK_nA_e, mL_nA_e] <;> (first | assumption | omega)))) only [i3_le_t, i3_le_f, i3_lt_t, i3_lt_f, i3_eq_t, i3_eq_f, i3_add, i3_mul, i3_sub, i3_div, i3_dec, i3_m1, m1_i3, m1_eq, i3_ge0, m1_lt, i3_le_m1, ↓reduceIte, rZ_0, rZ_1, bdR_s, bdW_s, ifN_n, ifN_s, ↓fgI_s, ↓fgR_s, ↓rk_s, ↓fpI_s, ↓fpR_s, ↓fpZ_0, ↓fpZ_1, ↓alI_i, ↓alP_i, ↓asI_i, ↓asB_i, ↓asZ_0, ↓asZ_1, ↓aln_i, ↓fca_s, ↓fca_n, bdC_li, bdC_ri, mK_uI, mK_uP, mL_uI, mL_uP, mP_uI, mI_uP, mK_wI, mL_wI, mP_wI, mI_uI_e, mI_uI_c, nwO_s, mK_nA_e, mL_nA_e], by simp (disch := (first | assumption | omega | decide | (simp only [mK_uI, mK_uP, mL_uI, mL_uP, mK_wI, mL_wI, mK_nA_e, mL_nA_e] <;> (first | assumption | omega)))) only [i3_le_t, i3_le_f, i3_lt_t, i3_lt_f, i3_eq_t, i3_eq_f, i3_add, i3_mul, i3_sub, i3_div, i3_dec, i3_m1, m1_i3, m1_eq, i3_ge0, m1_lt, i3_le_m1, ↓reduceIte, rZ_0, rZ_1, bdR_s, bdW_s, ifN_n, ifN_s, ↓fgI_s, ↓fgR_s, ↓rk_s, ↓fpI_s, ↓fpR_s, ↓fpZ_0, ↓fpZ_1, ↓alI_i, ↓alP_i, ↓asI_i, ↓asB_i, ↓asZ_0, ↓asZ_1, ↓aln_i, ↓fca_s, ↓fca_n, bdC_li, bdC_ri, mK_uI, mK_uP, mL_uI, mL_uP, mP_uI, mI_uP, mK_wI, mL_wI, mP_wI, mI_uI_e, mI_uI_c, nwO_s, mK_nA_e, mL_nA_e], by simp (disch := (first | assumption | omega | decide | (simp only [mK_uI, mK_uP, mL_uI, mL_uP, mK_wI, mL_wI, mK_nA_e, mL_nA_e] <;> (first | assumption | omega)))) only [i3_le_t, i3_le_f, i3_lt_t, i3_lt_f, i3_eq_t, i3_eq_f, i3_add, i3_mul, i3_sub, i3_div, i3_dec, i3_m1, m1_i3, m1_eq, i3_ge0, m1_lt, i3_le_m1, ↓reduceIte, rZ_0, rZ_1, bdR_s, bdW_s, ifN_n, ifN_s, ↓fgI_s, ↓fgR_s, ↓rk_s, ↓fpI_s, ↓fpR_s, ↓fpZ_0, ↓fpZ_1, ↓alI_i, ↓alP_i, ↓asI_i, ↓asB_i, ↓asZ_0, ↓asZ_1, ↓aln_i, ↓fca_s, ↓fca_n, bdC_li, bdC_ri, mK_uI, mK_uP, mL_uI, mL_uP, mP_uI, mI_uP, mK_wI, mL_wI, mP_wI, mI_uI_e, mI_uI_c, nwO_s, mK_nA_e, mL_nA_e]⟩
          have L1 : LST (oN own n 29) M2 (h + 40) 23 L (rl B) := by
            have := R.k_rs f1 (fun z => z)
            rw [eL] at this; exact this
          have el : ELS (oN own n 29) M2 L (rl B) := fun i hi => by
            have x := R.k_ro f1 (fun z => z) i (by rw [eL]; exact hi)
            have o := x.b.o
            have kk := x.b.k
            exact ⟨by rw [o]; omega, by rw [kk]; omega, by rw [kk]; omega⟩
          obtain ⟨own2, M3, n3, e2, g1, g2, fr2, f2, L2⟩ := add1_i L1 (R.k_em f1) (R.fr.oN 29) el (by omega) (by omega) (x := n) (by rw [kn.1]; omega) (by rw [kn.1]; omega) (by rw [oN_e]; omega) (by rw [oN_e]; omega)
          have f : FRM (fun t => t = 23) own M own2 M3 := (f1.trans f2).mono fun t z => z.elim (fun w => w.elim) id
          have kn2 := f2 n (by rw [oN_e]; omega)
          have kn3 := kn2.2.1 (by rw [oN_e]; omega)
          have hb3 := R.k_hb f
          have v1 := hb3.k
          have v2 := hb3.p6
          have v3 := L2.k
          have v4 := L2.size
          have v5 := L1.k
          refine ⟨.inl (i3 (L + 1)), M3, n3, i3 (L + 1), uS (uS (uS (uS (uS σ 0 0 (i3 0)) 14 L x1) 15 L x2) 16 L x3) 13 0 (i3 (L + 1)), ?_, ?_, ⟨rfl, rfl⟩, by omega, POT.same (by omega) (by omega) rfl rfl rfl, own2, (B.1, B.2.1, B.2.2.1, B.2.2.2.1, fun j => if j = L then n else rl B j), ?_, ?_⟩
          · clear R I L1 L2 LR f f1 f2 hN hb3 el kn2 kn3 hM2
            simp (disch := (first | assumption | omega | decide | (simp only [mK_uI, mK_uP, mL_uI, mL_uP, mK_wI, mL_wI, mK_nA_e, mL_nA_e] <;> (first | assumption | omega)))) only [i3_le_t, i3_le_f, i3_lt_t, i3_lt_f, i3_eq_t, i3_eq_f, i3_add, i3_mul, i3_sub, i3_div, i3_dec, i3_m1, m1_i3, m1_eq, i3_ge0, m1_lt, i3_le_m1, ↓reduceIte, rZ_0, rZ_1, bdR_s, bdW_s, ifN_n, ifN_s, ↓fgI_s, ↓fgR_s, ↓rk_s, ↓fpI_s, ↓fpR_s, ↓fpZ_0, ↓fpZ_1, ↓alI_i, ↓alP_i, ↓asI_i, ↓asB_i, ↓asZ_0, ↓asZ_1, ↓aln_i, ↓fca_s, ↓fca_n, bdC_li, bdC_ri, mK_uI, mK_uP, mL_uI, mL_uP, mP_uI, mI_uP, mK_wI, mL_wI, mP_wI, mI_uI_e, mI_uI_c, nwO_s, mK_nA_e, mL_nA_e, fHb_rule_E, q1, q2, q3, w1, w3, fHb_rule_j34_E, c_st1, e1, e2, v2, v4]
          · clear R I L1 L2 LR f f1 f2 hN hb3 el kn2 kn3 hM2
            simp (disch := (first | assumption | omega | decide | (simp only [mK_uI, mK_uP, mL_uI, mL_uP, mK_wI, mL_wI, mK_nA_e, mL_nA_e] <;> (first | assumption | omega)))) only [i3_le_t, i3_le_f, i3_lt_t, i3_lt_f, i3_eq_t, i3_eq_f, i3_add, i3_mul, i3_sub, i3_div, i3_dec, i3_m1, m1_i3, m1_eq, i3_ge0, m1_lt, i3_le_m1, ↓reduceIte, rZ_0, rZ_1, bdR_s, bdW_s, ifN_n, ifN_s, uS_n, uS_e, uS_d, ↓mgF_s, ↓mpF_s, ↓mgA_2, ↓mgA_4, ↓mgA_6, ↓mgA_7, ↓mgA_9, ↓mgA_10, ↓mgA_12, ↓mgA_14, ↓mgA_15, ↓mgA_16, ↓mgA_17, ↓mgA_18, ↓mgA_19, ↓mgA_20, ↓mgA_21, ↓mgA_22, ↓mgA_23, ↓mgA_24, ↓mgA_25, ↓mgA_26, ↓mgA_27, ↓mgA_28, ↓mgA_29, ↓mgA_30, ↓mgA_31, ↓mgA_32, ↓mgA_33, ↓mgA_34, ↓mgA_35, ↓mgA_36, ↓mgA_37, ↓mgA_38, ↓mgA_39, ↓mgA_41, ↓mgA_42, ↓mgA_43, ↓mgA_44, ↓mgA_45, ↓mgA_46, ↓mpA_2, ↓mpA_4, ↓mpA_6, ↓mpA_7, ↓mpA_9, ↓mpA_10, ↓mpA_12, ↓mpA_14, ↓mpA_15, ↓mpA_16, ↓mpZ_17, ↓mpA_18, ↓mpZ_19, ↓mpA_20, ↓mpA_21, ↓mpA_22, ↓mpA_23, ↓mpA_24, ↓mpZ_25, ↓mpA_26, ↓mpA_27, ↓mpA_28, ↓mpA_29, ↓mpA_30, ↓mpA_31, ↓mpA_32, ↓mpA_33, ↓mpA_34, ↓mpZ_35, ↓mpA_36, ↓mpA_37, ↓mpA_38, ↓mpA_39, ↓mpA_41, ↓mpA_42, ↓mpZ_43, ↓mpA_44, ↓mpA_45, ↓mpA_46, p1', fMd_rule_j11_E, p2, p3, fMd_rule_j35_E, hL, fMd_rule_j61_E, m_holds0]
          · have e13 : nv (uS (uS (uS (uS (uS σ 0 0 (i3 0)) 14 L x1) 15 L x2) 16 L x3) 13 0 (i3 (L + 1)) 13 0) = L + 1 := by rw [uS_e]; exact nv_i (by omega)
            have hrs : LST own2 M3 (h + 40) 23 (nv (uS (uS (uS (uS (uS σ 0 0 (i3 0)) 14 L x1) 15 L x2) 16 L x3) 13 0 (i3 (L + 1)) 13 0)) (fun j => if j = L then n else rl B j) := by rw [e13]; exact L2
            have hro : ∀ j, j < nv (uS (uS (uS (uS (uS σ 0 0 (i3 0)) 14 L x1) 15 L x2) 16 L x3) 13 0 (i3 (L + 1)) 13 0) → RUC own2 M3 (if j = L then n else rl B j) (uS (uS (uS (uS (uS σ 0 0 (i3 0)) 14 L x1) 15 L x2) 16 L x3) 13 0 (i3 (L + 1)) 14 j) (uS (uS (uS (uS (uS σ 0 0 (i3 0)) 14 L x1) 15 L x2) 16 L x3) 13 0 (i3 (L + 1)) 15 j) (uS (uS (uS (uS (uS σ 0 0 (i3 0)) 14 L x1) 15 L x2) 16 L x3) 13 0 (i3 (L + 1)) 16 j) := fun j hj => by
              rw [e13] at hj
              by_cases w : j = L
              · subst w
                rw [if_pos rfl]
                refine ⟨⟨kn3.1.trans kn.1, kn2.1.trans (oN_e _ _ _)⟩, (kn3.2.2.2 _ _).trans ?_, (kn3.2.2.2 _ _).trans ?_, (kn3.2.2.2 _ _).trans ?_⟩
                · rw [uS_n _ _ _ (by decide), uS_n _ _ _ (by decide), uS_n _ _ _ (by decide), uS_e]; exact kn.2.1
                · rw [uS_n _ _ _ (by decide), uS_n _ _ _ (by decide), uS_e]; exact kn.2.2.1
                · rw [uS_n _ _ _ (by decide), uS_e]; exact kn.2.2.2
              · rw [if_neg w]
                have x := R.k_ro f (by omega) j (by rw [eL]; omega)
                have e : ∀ k, k ≠ 13 → ¬ SCF k → uS (uS (uS (uS (uS σ 0 0 (i3 0)) 14 L x1) 15 L x2) 16 L x3) 13 0 (i3 (L + 1)) k j = σ k j := fun k hk hs => by
                  rw [uS_n _ _ _ hk]
                  show (if k = 16 ∧ j = L then _ else if k = 15 ∧ j = L then _ else if k = 14 ∧ j = L then _ else uS σ 0 0 (i3 0) k j) = _
                  rw [if_neg (by omega), if_neg (by omega), if_neg (by omega), scf0 _ k hs]
                rw [e 14 (by decide) (by unfold SCF; omega), e 15 (by decide) (by unfold SCF; omega), e 16 (by decide) (by unfold SCF; omega)]
                exact x
            exact ⟨fr2, R.k_em f, R.k_hb f, R.k_rg f, R.k_nm f (by first | omega | (intro z; dsimp only at z; omega)), R.k_dy f (by first | omega | (intro z; dsimp only at z; omega)), R.k_dm f (by first | omega | (intro z; dsimp only at z; omega)), R.k_db f (by first | omega | (intro z; dsimp only at z; omega)), R.k_nb f (by first | omega | (intro z; dsimp only at z; omega)), R.k_co f (by first | omega | (intro z; dsimp only at z; omega)), fun r0 hr0 => R.k_up f hr0 (by first | omega | (intro z; dsimp only at z; omega)), fun r0 hr0 => R.k_hd f hr0 (by first | omega | (intro z; dsimp only at z; omega)), R.k_en f (by first | omega | (intro z; dsimp only at z; omega)), fun r0 hr0 => R.k_vl f hr0 (by first | omega | (intro z; dsimp only at z; omega)), fun r0 hr0 => R.k_vo f hr0 (by first | omega | (intro z; dsimp only at z; omega)), fun r0 hr0 => R.k_kl f hr0 (by first | omega | (intro z; dsimp only at z; omega)), fun r0 hr0 => R.k_pl f hr0 (by first | omega | (intro z; dsimp only at z; omega)), fun r0 hr0 => R.k_po f hr0 (by first | omega | (intro z; dsimp only at z; omega)), R.k_us f (by first | omega | (intro z; dsimp only at z; omega)), fun u0 hu0 => R.k_uo f hu0 (by first | omega | (intro z; dsimp only at z; omega)), hrs, hro⟩
          · have e13 : nv (uS (uS (uS (uS (uS σ 0 0 (i3 0)) 14 L x1) 15 L x2) 16 L x3) 13 0 (i3 (L + 1)) 13 0) = L + 1 := by rw [uS_e]; exact nv_i (by omega)
            have hrn : NB 6 (uS (uS (uS (uS (uS σ 0 0 (i3 0)) 14 L x1) 15 L x2) 16 L x3) 13 0 (i3 (L + 1)) 13 0) := by rw [uS_e]; exact NB.of (by omega) (by omega)
            have hrk : ∀ j, j < nv (uS (uS (uS (uS (uS σ 0 0 (i3 0)) 14 L x1) 15 L x2) 16 L x3) 13 0 (i3 (L + 1)) 13 0) → (uS (uS (uS (uS (uS σ 0 0 (i3 0)) 14 L x1) 15 L x2) 16 L x3) 13 0 (i3 (L + 1)) 14 j = i3 0 ∨ ISK (uS (uS (uS (uS (uS σ 0 0 (i3 0)) 14 L x1) 15 L x2) 16 L x3) 13 0 (i3 (L + 1)) 14 j)) ∧ NB 99 (uS (uS (uS (uS (uS σ 0 0 (i3 0)) 14 L x1) 15 L x2) 16 L x3) 13 0 (i3 (L + 1)) 15 j) ∧ 1 ≤ nv (uS (uS (uS (uS (uS σ 0 0 (i3 0)) 14 L x1) 15 L x2) 16 L x3) 13 0 (i3 (L + 1)) 16 j) ∧ NB 3 (uS (uS (uS (uS (uS σ 0 0 (i3 0)) 14 L x1) 15 L x2) 16 L x3) 13 0 (i3 (L + 1)) 16 j) := fun j hj => by
              rw [e13] at hj
              by_cases w : j = L
              · subst w
                rw [uS_n _ _ _ (show (14 : Nat) ≠ 13 by decide), uS_n _ _ _ (show (14 : Nat) ≠ 16 by decide), uS_n _ _ _ (show (14 : Nat) ≠ 15 by decide), uS_e, uS_n _ _ _ (show (15 : Nat) ≠ 13 by decide), uS_n _ _ _ (show (15 : Nat) ≠ 16 by decide), uS_e, uS_n _ _ _ (show (16 : Nat) ≠ 13 by decide), uS_e]
                obtain ⟨y, y1, y2, rfl⟩ := hy
                obtain ⟨z, z1, z2, rfl⟩ := hz
                refine ⟨?_, NB.of y2 (by omega), by rw [nv_i (by omega)]; exact z1, NB.of z2 (by omega)⟩
                rcases p1 with p1 | ⟨-, -, p1⟩
                · exact Or.inl p1
                · exact Or.inr p1
              · have e : ∀ k, k ≠ 13 → ¬ SCF k → uS (uS (uS (uS (uS σ 0 0 (i3 0)) 14 L x1) 15 L x2) 16 L x3) 13 0 (i3 (L + 1)) k j = σ k j := fun k hk hs => by
                  rw [uS_n _ _ _ hk]
                  show (if k = 16 ∧ j = L then _ else if k = 15 ∧ j = L then _ else if k = 14 ∧ j = L then _ else uS σ 0 0 (i3 0) k j) = _
                  rw [if_neg (by omega), if_neg (by omega), if_neg (by omega), scf0 _ k hs]
                rw [e 14 (by decide) (by unfold SCF; omega), e 15 (by decide) (by unfold SCF; omega), e 16 (by decide) (by unfold SCF; omega)]
                exact I.rk j (by rw [eL]; omega)
            exact ⟨I.up0.dr, I.up0.db, I.up0.ev, I.up0.dy, I.up0.dc, I.up0.en, I.up0.vn, I.up0.vo, I.up0.vi, I.up0.hd, I.up0.kn, I.up0.ks, I.up0.ko, I.up0.pn, I.up0.po, I.up0.dn, I.up0.un, I.up0.uo, I.up0.uz, I.up0.up, hrn, hrk⟩
      · have q3 := noR_c (M := M) (n := n) hz (by omega) (by omega)
        have p3 := noR_m hz (by omega) (by omega)
        refine OPR.err R I 1 1 (v := i3 0) ?_ ?_ rfl (by omega) (by omega)
        · simp (disch := (first | assumption | omega | decide | (simp only [mK_uI, mK_uP, mL_uI, mL_uP, mK_wI, mL_wI, mK_nA_e, mL_nA_e] <;> (first | assumption | omega)))) only [i3_le_t, i3_le_f, i3_lt_t, i3_lt_f, i3_eq_t, i3_eq_f, i3_add, i3_mul, i3_sub, i3_div, i3_dec, i3_m1, m1_i3, m1_eq, i3_ge0, m1_lt, i3_le_m1, ↓reduceIte, rZ_0, rZ_1, bdR_s, bdW_s, ifN_n, ifN_s, ↓fgI_s, ↓fgR_s, ↓rk_s, ↓fpI_s, ↓fpR_s, ↓fpZ_0, ↓fpZ_1, ↓alI_i, ↓alP_i, ↓asI_i, ↓asB_i, ↓asZ_0, ↓asZ_1, ↓aln_i, ↓fca_s, ↓fca_n, bdC_li, bdC_ri, mK_uI, mK_uP, mL_uI, mL_uP, mP_uI, mI_uP, mK_wI, mL_wI, mP_wI, mI_uI_e, mI_uI_c, nwO_s, mK_nA_e, mL_nA_e, fHb_rule_E, q1, q2, q3]
        · simp (disch := (first | assumption | omega | decide | (simp only [mK_uI, mK_uP, mL_uI, mL_uP, mK_wI, mL_wI, mK_nA_e, mL_nA_e] <;> (first | assumption | omega)))) only [i3_le_t, i3_le_f, i3_lt_t, i3_lt_f, i3_eq_t, i3_eq_f, i3_add, i3_mul, i3_sub, i3_div, i3_dec, i3_m1, m1_i3, m1_eq, i3_ge0, m1_lt, i3_le_m1, ↓reduceIte, rZ_0, rZ_1, bdR_s, bdW_s, ifN_n, ifN_s, uS_n, uS_e, uS_d, ↓mgF_s, ↓mpF_s, ↓mgA_2, ↓mgA_4, ↓mgA_6, ↓mgA_7, ↓mgA_9, ↓mgA_10, ↓mgA_12, ↓mgA_14, ↓mgA_15, ↓mgA_16, ↓mgA_17, ↓mgA_18, ↓mgA_19, ↓mgA_20, ↓mgA_21, ↓mgA_22, ↓mgA_23, ↓mgA_24, ↓mgA_25, ↓mgA_26, ↓mgA_27, ↓mgA_28, ↓mgA_29, ↓mgA_30, ↓mgA_31, ↓mgA_32, ↓mgA_33, ↓mgA_34, ↓mgA_35, ↓mgA_36, ↓mgA_37, ↓mgA_38, ↓mgA_39, ↓mgA_41, ↓mgA_42, ↓mgA_43, ↓mgA_44, ↓mgA_45, ↓mgA_46, ↓mpA_2, ↓mpA_4, ↓mpA_6, ↓mpA_7, ↓mpA_9, ↓mpA_10, ↓mpA_12, ↓mpA_14, ↓mpA_15, ↓mpA_16, ↓mpZ_17, ↓mpA_18, ↓mpZ_19, ↓mpA_20, ↓mpA_21, ↓mpA_22, ↓mpA_23, ↓mpA_24, ↓mpZ_25, ↓mpA_26, ↓mpA_27, ↓mpA_28, ↓mpA_29, ↓mpA_30, ↓mpA_31, ↓mpA_32, ↓mpA_33, ↓mpA_34, ↓mpZ_35, ↓mpA_36, ↓mpA_37, ↓mpA_38, ↓mpA_39, ↓mpA_41, ↓mpA_42, ↓mpZ_43, ↓mpA_44, ↓mpA_45, ↓mpA_46, p1', fMd_rule_j11_E, p2, p3, fMd_rule_j34_E, fMd_rule_j35_E, fMd_rule_j61_E, m_holdsk]
    · have q2 := noR_c (M := M) (n := n) hy (by omega) (by omega)
      have p2 := noR_m hy (by omega) (by omega)
      refine OPR.err R I 1 1 (v := i3 0) ?_ ?_ rfl (by omega) (by omega)
      · simp (disch := (first | assumption | omega | decide | (simp only [mK_uI, mK_uP, mL_uI, mL_uP, mK_wI, mL_wI, mK_nA_e, mL_nA_e] <;> (first | assumption | omega)))) only [i3_le_t, i3_le_f, i3_lt_t, i3_lt_f, i3_eq_t, i3_eq_f, i3_add, i3_mul, i3_sub, i3_div, i3_dec, i3_m1, m1_i3, m1_eq, i3_ge0, m1_lt, i3_le_m1, ↓reduceIte, rZ_0, rZ_1, bdR_s, bdW_s, ifN_n, ifN_s, ↓fgI_s, ↓fgR_s, ↓rk_s, ↓fpI_s, ↓fpR_s, ↓fpZ_0, ↓fpZ_1, ↓alI_i, ↓alP_i, ↓asI_i, ↓asB_i, ↓asZ_0, ↓asZ_1, ↓aln_i, ↓fca_s, ↓fca_n, bdC_li, bdC_ri, mK_uI, mK_uP, mL_uI, mL_uP, mP_uI, mI_uP, mK_wI, mL_wI, mP_wI, mI_uI_e, mI_uI_c, nwO_s, mK_nA_e, mL_nA_e, fHb_rule_E, q1, q2]
      · simp (disch := (first | assumption | omega | decide | (simp only [mK_uI, mK_uP, mL_uI, mL_uP, mK_wI, mL_wI, mK_nA_e, mL_nA_e] <;> (first | assumption | omega)))) only [i3_le_t, i3_le_f, i3_lt_t, i3_lt_f, i3_eq_t, i3_eq_f, i3_add, i3_mul, i3_sub, i3_div, i3_dec, i3_m1, m1_i3, m1_eq, i3_ge0, m1_lt, i3_le_m1, ↓reduceIte, rZ_0, rZ_1, bdR_s, bdW_s, ifN_n, ifN_s, uS_n, uS_e, uS_d, ↓mgF_s, ↓mpF_s, ↓mgA_2, ↓mgA_4, ↓mgA_6, ↓mgA_7, ↓mgA_9, ↓mgA_10, ↓mgA_12, ↓mgA_14, ↓mgA_15, ↓mgA_16, ↓mgA_17, ↓mgA_18, ↓mgA_19, ↓mgA_20, ↓mgA_21, ↓mgA_22, ↓mgA_23, ↓mgA_24, ↓mgA_25, ↓mgA_26, ↓mgA_27, ↓mgA_28, ↓mgA_29, ↓mgA_30, ↓mgA_31, ↓mgA_32, ↓mgA_33, ↓mgA_34, ↓mgA_35, ↓mgA_36, ↓mgA_37, ↓mgA_38, ↓mgA_39, ↓mgA_41, ↓mgA_42, ↓mgA_43, ↓mgA_44, ↓mgA_45, ↓mgA_46, ↓mpA_2, ↓mpA_4, ↓mpA_6, ↓mpA_7, ↓mpA_9, ↓mpA_10, ↓mpA_12, ↓mpA_14, ↓mpA_15, ↓mpA_16, ↓mpZ_17, ↓mpA_18, ↓mpZ_19, ↓mpA_20, ↓mpA_21, ↓mpA_22, ↓mpA_23, ↓mpA_24, ↓mpZ_25, ↓mpA_26, ↓mpA_27, ↓mpA_28, ↓mpA_29, ↓mpA_30, ↓mpA_31, ↓mpA_32, ↓mpA_33, ↓mpA_34, ↓mpZ_35, ↓mpA_36, ↓mpA_37, ↓mpA_38, ↓mpA_39, ↓mpA_41, ↓mpA_42, ↓mpZ_43, ↓mpA_44, ↓mpA_45, ↓mpA_46, p1', fMd_rule_j11_E, p2, fMd_rule_j34_E, fMd_rule_j35_E, fMd_rule_j61_E, m_holdsk]
  · refine OPR.err R I 1 1 (v := i3 0) ?_ ?_ rfl (by omega) (by omega)
    · simp (disch := (first | assumption | omega | decide | (simp only [mK_uI, mK_uP, mL_uI, mL_uP, mK_wI, mL_wI, mK_nA_e, mL_nA_e] <;> (first | assumption | omega)))) only [i3_le_t, i3_le_f, i3_lt_t, i3_lt_f, i3_eq_t, i3_eq_f, i3_add, i3_mul, i3_sub, i3_div, i3_dec, i3_m1, m1_i3, m1_eq, i3_ge0, m1_lt, i3_le_m1, ↓reduceIte, rZ_0, rZ_1, bdR_s, bdW_s, ifN_n, ifN_s, ↓fgI_s, ↓fgR_s, ↓rk_s, ↓fpI_s, ↓fpR_s, ↓fpZ_0, ↓fpZ_1, ↓alI_i, ↓alP_i, ↓asI_i, ↓asB_i, ↓asZ_0, ↓asZ_1, ↓aln_i, ↓fca_s, ↓fca_n, bdC_li, bdC_ri, mK_uI, mK_uP, mL_uI, mL_uP, mP_uI, mI_uP, mK_wI, mL_wI, mP_wI, mI_uI_e, mI_uI_c, nwO_s, mK_nA_e, mL_nA_e, fHb_rule_E, q1]
    · simp (disch := (first | assumption | omega | decide | (simp only [mK_uI, mK_uP, mL_uI, mL_uP, mK_wI, mL_wI, mK_nA_e, mL_nA_e] <;> (first | assumption | omega)))) only [i3_le_t, i3_le_f, i3_lt_t, i3_lt_f, i3_eq_t, i3_eq_f, i3_add, i3_mul, i3_sub, i3_div, i3_dec, i3_m1, m1_i3, m1_eq, i3_ge0, m1_lt, i3_le_m1, ↓reduceIte, rZ_0, rZ_1, bdR_s, bdW_s, ifN_n, ifN_s, uS_n, uS_e, uS_d, ↓mgF_s, ↓mpF_s, ↓mgA_2, ↓mgA_4, ↓mgA_6, ↓mgA_7, ↓mgA_9, ↓mgA_10, ↓mgA_12, ↓mgA_14, ↓mgA_15, ↓mgA_16, ↓mgA_17, ↓mgA_18, ↓mgA_19, ↓mgA_20, ↓mgA_21, ↓mgA_22, ↓mgA_23, ↓mgA_24, ↓mgA_25, ↓mgA_26, ↓mgA_27, ↓mgA_28, ↓mgA_29, ↓mgA_30, ↓mgA_31, ↓mgA_32, ↓mgA_33, ↓mgA_34, ↓mgA_35, ↓mgA_36, ↓mgA_37, ↓mgA_38, ↓mgA_39, ↓mgA_41, ↓mgA_42, ↓mgA_43, ↓mgA_44, ↓mgA_45, ↓mgA_46, ↓mpA_2, ↓mpA_4, ↓mpA_6, ↓mpA_7, ↓mpA_9, ↓mpA_10, ↓mpA_12, ↓mpA_14, ↓mpA_15, ↓mpA_16, ↓mpZ_17, ↓mpA_18, ↓mpZ_19, ↓mpA_20, ↓mpA_21, ↓mpA_22, ↓mpA_23, ↓mpA_24, ↓mpZ_25, ↓mpA_26, ↓mpA_27, ↓mpA_28, ↓mpA_29, ↓mpA_30, ↓mpA_31, ↓mpA_32, ↓mpA_33, ↓mpA_34, ↓mpZ_35, ↓mpA_36, ↓mpA_37, ↓mpA_38, ↓mpA_39, ↓mpA_41, ↓mpA_42, ↓mpZ_43, ↓mpA_44, ↓mpA_45, ↓mpA_46, fMd_rule_E, p0, p1, fMd_rule_j34_E, fMd_rule_j35_E, fMd_rule_j61_E, m_holdsk]
end OU

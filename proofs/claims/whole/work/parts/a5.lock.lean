set_option maxRecDepth 100000
/-! lock, ask -/
section OL
variable {h c n r : Nat} {own : Nat → Nat} {B : BK} {σ : Sg} {M : Mm}
theorem ve_inj (R : RR h own B σ M n) (I : IV c σ) (hr : r < 2) {i j : Nat} (hi : i < nv (σ 26 r)) (hj : j < nv (σ 26 r)) (e : ve B r i = ve B r j) : i = j := by
  have W := R.ver I hr hi
  have X := R.ver I hr hj
  have p := W.p0
  have q := X.p0
  rw [e] at p
  have p2 := Option.some.inj (p.symm.trans q)
  have a := W.nu
  have b := X.nu
  rw [p2] at a
  have e2 : σ 27 (40 * r + i) = σ 27 (40 * r + j) := a.symm.trans b
  rcases Nat.lt_trichotomy i j with z | z | z
  · have := I.vi r hr i j z hj; rw [e2] at this; omega
  · exact z
  · have := I.vi r hr j i z hi; rw [e2] at this; omega
/-- one number of one version is laid anew -/
theorem RR.setv (R : RR h own B σ M n) (I : IV c σ) (hr : r < 2) {i : Nat} (hi : i < nv (σ 26 r)) (v : Int32) (fid fc : Nat) (hf : (fid = 1002 ∧ fc = 30) ∨ (fid = 1003 ∧ fc = 31) ∨ (fid = 1004 ∧ fc = 32)) : RR h own B (uS σ fc (40 * r + i) v) (uI M fid (ve B r i) 0 v) n := by
  have hi40 : i < 40 := Nat.lt_of_lt_of_le hi (I.vn r hr).2
  have V := R.vo r hr i hi
  have f : FRM (fun t => t = 18 + r) own M own (uI M fid (ve B r i) 0 v) := (IOS.uI fid (ve B r i) 0 v).frm fun _ a z _ => by rw [z.2]; exact V.b.o
  have hvo : ∀ r0, r0 < 2 → ∀ j, j < nv (σ 26 r0) → VEC own (uI M fid (ve B r i) 0 v) (ve B r0 j) r0 (en B (nv (σ 27 (40 * r0 + j)))) (nv (σ 33 (40 * r0 + j))) (uS σ fc (40 * r + i) v 30 (40 * r0 + j)) (uS σ fc (40 * r + i) v 31 (40 * r0 + j)) (uS σ fc (40 * r + i) v 32 (40 * r0 + j)) (fun q => σ 34 (20 * (40 * r0 + j) + q)) := fun r0 hr0 j hj => by
    have hj40 : j < 40 := Nat.lt_of_lt_of_le hj (I.vn r0 hr0).2
    have W := R.vo r0 hr0 j hj
    by_cases z : r0 = r ∧ j = i
    · obtain ⟨rfl, rfl⟩ := z
      refine ⟨W.b, ?_, ?_, ?_, fun q hq => ?_⟩
      · rcases hf with ⟨rfl, rfl⟩ | ⟨rfl, rfl⟩ | ⟨rfl, rfl⟩
        · rw [mI_uI, if_pos ⟨rfl, rfl, rfl⟩, uS_e]
        · rw [mI_uI, if_neg (by omega), uS_n _ _ _ (by decide)]; exact W.lv
        · rw [mI_uI, if_neg (by omega), uS_n _ _ _ (by decide)]; exact W.lv
      · rcases hf with ⟨rfl, rfl⟩ | ⟨rfl, rfl⟩ | ⟨rfl, rfl⟩
        · rw [mI_uI, if_neg (by omega), uS_n _ _ _ (by decide)]; exact W.lk
        · rw [mI_uI, if_pos ⟨rfl, rfl, rfl⟩, uS_e]
        · rw [mI_uI, if_neg (by omega), uS_n _ _ _ (by decide)]; exact W.lk
      · rcases hf with ⟨rfl, rfl⟩ | ⟨rfl, rfl⟩ | ⟨rfl, rfl⟩
        · rw [mI_uI, if_neg (by omega), uS_n _ _ _ (by decide)]; exact W.ak
        · rw [mI_uI, if_neg (by omega), uS_n _ _ _ (by decide)]; exact W.ak
        · rw [mI_uI, if_pos ⟨rfl, rfl, rfl⟩, uS_e]
      · rw [mI_uI, if_neg (by omega)]; exact W.pt q hq
    · have ha : 40 * r0 + j ≠ 40 * r + i := by omega
      have hv : ve B r0 j ≠ ve B r i := fun e => by
        by_cases z2 : r0 = r
        · subst z2; exact z ⟨rfl, ve_inj R I hr0 hj hi e⟩
        · have o1 := W.b.o
          have o2 := V.b.o
          rw [e] at o1; omega
      have e : ∀ k, uS σ fc (40 * r + i) v k (40 * r0 + j) = σ k (40 * r0 + j) := fun k => if_neg fun w => ha w.2
      rw [e, e, e]
      exact ⟨W.b, by rw [mI_uI, if_neg (fun w => hv w.2.1)]; exact W.lv, by rw [mI_uI, if_neg (fun w => hv w.2.1)]; exact W.lk, by rw [mI_uI, if_neg (fun w => hv w.2.1)]; exact W.ak, fun q hq => by rw [mI_uI, if_neg (by omega)]; exact W.pt q hq⟩
  rcases hf with ⟨rfl, rfl⟩ | ⟨rfl, rfl⟩ | ⟨rfl, rfl⟩
  · exact ⟨R.fr, R.k_em f, R.k_hb f, R.k_rg f, R.k_nm f (by first | omega | (intro z; dsimp only at z; omega)), R.k_dy f (by first | omega | (intro z; dsimp only at z; omega)), R.k_dm f (by first | omega | (intro z; dsimp only at z; omega)), R.k_db f (by first | omega | (intro z; dsimp only at z; omega)), R.k_nb f (by first | omega | (intro z; dsimp only at z; omega)), R.k_co f (by first | omega | (intro z; dsimp only at z; omega)), fun r0 hr0 => R.k_up f hr0 (by first | omega | (intro z; dsimp only at z; omega)), fun r0 hr0 => R.k_hd f hr0 (by first | omega | (intro z; dsimp only at z; omega)), R.k_en f (by first | omega | (intro z; dsimp only at z; omega)), fun r0 hr0 => R.k_vl f hr0 (by first | omega | (intro z; dsimp only at z; omega)), hvo, fun r0 hr0 => R.k_kl f hr0 (by first | omega | (intro z; dsimp only at z; omega)), fun r0 hr0 => R.k_pl f hr0 (by first | omega | (intro z; dsimp only at z; omega)), fun r0 hr0 => R.k_po f hr0 (by first | omega | (intro z; dsimp only at z; omega)), R.k_us f (by first | omega | (intro z; dsimp only at z; omega)), fun u0 hu0 => R.k_uo f hu0 (by first | omega | (intro z; dsimp only at z; omega)), R.k_rs f (by first | omega | (intro z; dsimp only at z; omega)), R.k_ro f (by first | omega | (intro z; dsimp only at z; omega))⟩
  · exact ⟨R.fr, R.k_em f, R.k_hb f, R.k_rg f, R.k_nm f (by first | omega | (intro z; dsimp only at z; omega)), R.k_dy f (by first | omega | (intro z; dsimp only at z; omega)), R.k_dm f (by first | omega | (intro z; dsimp only at z; omega)), R.k_db f (by first | omega | (intro z; dsimp only at z; omega)), R.k_nb f (by first | omega | (intro z; dsimp only at z; omega)), R.k_co f (by first | omega | (intro z; dsimp only at z; omega)), fun r0 hr0 => R.k_up f hr0 (by first | omega | (intro z; dsimp only at z; omega)), fun r0 hr0 => R.k_hd f hr0 (by first | omega | (intro z; dsimp only at z; omega)), R.k_en f (by first | omega | (intro z; dsimp only at z; omega)), fun r0 hr0 => R.k_vl f hr0 (by first | omega | (intro z; dsimp only at z; omega)), hvo, fun r0 hr0 => R.k_kl f hr0 (by first | omega | (intro z; dsimp only at z; omega)), fun r0 hr0 => R.k_pl f hr0 (by first | omega | (intro z; dsimp only at z; omega)), fun r0 hr0 => R.k_po f hr0 (by first | omega | (intro z; dsimp only at z; omega)), R.k_us f (by first | omega | (intro z; dsimp only at z; omega)), fun u0 hu0 => R.k_uo f hu0 (by first | omega | (intro z; dsimp only at z; omega)), R.k_rs f (by first | omega | (intro z; dsimp only at z; omega)), R.k_ro f (by first | omega | (intro z; dsimp only at z; omega))⟩
  · exact ⟨R.fr, R.k_em f, R.k_hb f, R.k_rg f, R.k_nm f (by first | omega | (intro z; dsimp only at z; omega)), R.k_dy f (by first | omega | (intro z; dsimp only at z; omega)), R.k_dm f (by first | omega | (intro z; dsimp only at z; omega)), R.k_db f (by first | omega | (intro z; dsimp only at z; omega)), R.k_nb f (by first | omega | (intro z; dsimp only at z; omega)), R.k_co f (by first | omega | (intro z; dsimp only at z; omega)), fun r0 hr0 => R.k_up f hr0 (by first | omega | (intro z; dsimp only at z; omega)), fun r0 hr0 => R.k_hd f hr0 (by first | omega | (intro z; dsimp only at z; omega)), R.k_en f (by first | omega | (intro z; dsimp only at z; omega)), fun r0 hr0 => R.k_vl f hr0 (by first | omega | (intro z; dsimp only at z; omega)), hvo, fun r0 hr0 => R.k_kl f hr0 (by first | omega | (intro z; dsimp only at z; omega)), fun r0 hr0 => R.k_pl f hr0 (by first | omega | (intro z; dsimp only at z; omega)), fun r0 hr0 => R.k_po f hr0 (by first | omega | (intro z; dsimp only at z; omega)), R.k_us f (by first | omega | (intro z; dsimp only at z; omega)), fun u0 hu0 => R.k_uo f hu0 (by first | omega | (intro z; dsimp only at z; omega)), R.k_rs f (by first | omega | (intro z; dsimp only at z; omega)), R.k_ro f (by first | omega | (intro z; dsimp only at z; omega))⟩
theorem POT.same (hn : n ≤ n + 25) {σ' : Sg} {n' : Nat} (h1 : n' ≤ n + 25) (e36 : σ' 36 = σ 36) (e18 : σ' 18 = σ 18) (e8 : σ' 8 = σ 8) : POT σ n σ' n' := by
  unfold POT kpt ppt
  rw [e36, e18, e8]
  omega
theorem op_lock (R : RR h own B σ M n) (I : IV c σ) (x1 x2 x3 x4 : Int32) : OPR h c σ n (fHb_lock h x1 x2 x3 x4 M n) (fMd_lock x1 x2 x3 x4 σ) (cdf 1 2 3) := by
  have k := R.hb.k
  have hn : n ≤ n + 1 := Nat.le_succ n
  rcases ver_cases R I x1 x2 x3 with ⟨q1, q2⟩ | ⟨r, hr, q1, q3, q2⟩ | ⟨r, i, N, hr, hi, rfl, q1, q3, q2, q4, e1, e2, rfl, hN1, hN2, hi40, -⟩
  · refine OPR.err R I 0 1 (v := i3 0) ?_ ?_ rfl (by omega) (by omega)
    · simp (disch := (first | assumption | omega | decide | (simp only [mK_uI, mK_uP, mL_uI, mL_uP, mK_wI, mL_wI, mK_nA_e, mL_nA_e] <;> (first | assumption | omega)))) only [i3_le_t, i3_le_f, i3_lt_t, i3_lt_f, i3_eq_t, i3_eq_f, i3_add, i3_mul, i3_sub, i3_div, i3_dec, i3_m1, m1_i3, m1_eq, i3_ge0, m1_lt, i3_le_m1, ↓reduceIte, rZ_0, rZ_1, bdR_s, bdW_s, ifN_n, ifN_s, ↓fgI_s, ↓fgR_s, ↓rk_s, ↓fpI_s, ↓fpR_s, ↓fpZ_0, ↓fpZ_1, ↓alI_i, ↓alP_i, ↓asI_i, ↓asB_i, ↓asZ_0, ↓asZ_1, ↓aln_i, ↓fca_s, ↓fca_n, bdC_li, bdC_ri, mK_uI, mK_uP, mL_uI, mL_uP, mP_uI, mI_uP, mK_wI, mL_wI, mP_wI, mI_uI_e, mI_uI_c, nwO_s, mK_nA_e, mL_nA_e, fHb_lock_E, q1]
    · simp (disch := (first | assumption | omega | decide | (simp only [mK_uI, mK_uP, mL_uI, mL_uP, mK_wI, mL_wI, mK_nA_e, mL_nA_e] <;> (first | assumption | omega)))) only [i3_le_t, i3_le_f, i3_lt_t, i3_lt_f, i3_eq_t, i3_eq_f, i3_add, i3_mul, i3_sub, i3_div, i3_dec, i3_m1, m1_i3, m1_eq, i3_ge0, m1_lt, i3_le_m1, ↓reduceIte, rZ_0, rZ_1, bdR_s, bdW_s, ifN_n, ifN_s, uS_n, uS_e, uS_d, ↓mgF_s, ↓mpF_s, ↓mgA_2, ↓mgA_4, ↓mgA_6, ↓mgA_7, ↓mgA_9, ↓mgA_10, ↓mgA_12, ↓mgA_14, ↓mgA_15, ↓mgA_16, ↓mgA_17, ↓mgA_18, ↓mgA_19, ↓mgA_20, ↓mgA_21, ↓mgA_22, ↓mgA_23, ↓mgA_24, ↓mgA_25, ↓mgA_26, ↓mgA_27, ↓mgA_28, ↓mgA_29, ↓mgA_30, ↓mgA_31, ↓mgA_32, ↓mgA_33, ↓mgA_34, ↓mgA_35, ↓mgA_36, ↓mgA_37, ↓mgA_38, ↓mgA_39, ↓mgA_41, ↓mgA_42, ↓mgA_43, ↓mgA_44, ↓mgA_45, ↓mgA_46, ↓mpA_2, ↓mpA_4, ↓mpA_6, ↓mpA_7, ↓mpA_9, ↓mpA_10, ↓mpA_12, ↓mpA_14, ↓mpA_15, ↓mpA_16, ↓mpZ_17, ↓mpA_18, ↓mpZ_19, ↓mpA_20, ↓mpA_21, ↓mpA_22, ↓mpA_23, ↓mpA_24, ↓mpZ_25, ↓mpA_26, ↓mpA_27, ↓mpA_28, ↓mpA_29, ↓mpA_30, ↓mpA_31, ↓mpA_32, ↓mpA_33, ↓mpA_34, ↓mpZ_35, ↓mpA_36, ↓mpA_37, ↓mpA_38, ↓mpA_39, ↓mpA_41, ↓mpA_42, ↓mpZ_43, ↓mpA_44, ↓mpA_45, ↓mpA_46, fMd_lock_E, q2, fMd_lock_j25_E, fMd_lock_j70_E, m_holdsk]
  · refine OPR.err R I 0 1 (v := i3 0) ?_ ?_ rfl (by omega) (by omega)
    · simp (disch := (first | assumption | omega | decide | (simp only [mK_uI, mK_uP, mL_uI, mL_uP, mK_wI, mL_wI, mK_nA_e, mL_nA_e] <;> (first | assumption | omega)))) only [i3_le_t, i3_le_f, i3_lt_t, i3_lt_f, i3_eq_t, i3_eq_f, i3_add, i3_mul, i3_sub, i3_div, i3_dec, i3_m1, m1_i3, m1_eq, i3_ge0, m1_lt, i3_le_m1, ↓reduceIte, rZ_0, rZ_1, bdR_s, bdW_s, ifN_n, ifN_s, ↓fgI_s, ↓fgR_s, ↓rk_s, ↓fpI_s, ↓fpR_s, ↓fpZ_0, ↓fpZ_1, ↓alI_i, ↓alP_i, ↓asI_i, ↓asB_i, ↓asZ_0, ↓asZ_1, ↓aln_i, ↓fca_s, ↓fca_n, bdC_li, bdC_ri, mK_uI, mK_uP, mL_uI, mL_uP, mP_uI, mI_uP, mK_wI, mL_wI, mP_wI, mI_uI_e, mI_uI_c, nwO_s, mK_nA_e, mL_nA_e, fHb_lock_E, q1, q3]
    · simp (disch := (first | assumption | omega | decide | (simp only [mK_uI, mK_uP, mL_uI, mL_uP, mK_wI, mL_wI, mK_nA_e, mL_nA_e] <;> (first | assumption | omega)))) only [i3_le_t, i3_le_f, i3_lt_t, i3_lt_f, i3_eq_t, i3_eq_f, i3_add, i3_mul, i3_sub, i3_div, i3_dec, i3_m1, m1_i3, m1_eq, i3_ge0, m1_lt, i3_le_m1, ↓reduceIte, rZ_0, rZ_1, bdR_s, bdW_s, ifN_n, ifN_s, uS_n, uS_e, uS_d, ↓mgF_s, ↓mpF_s, ↓mgA_2, ↓mgA_4, ↓mgA_6, ↓mgA_7, ↓mgA_9, ↓mgA_10, ↓mgA_12, ↓mgA_14, ↓mgA_15, ↓mgA_16, ↓mgA_17, ↓mgA_18, ↓mgA_19, ↓mgA_20, ↓mgA_21, ↓mgA_22, ↓mgA_23, ↓mgA_24, ↓mgA_25, ↓mgA_26, ↓mgA_27, ↓mgA_28, ↓mgA_29, ↓mgA_30, ↓mgA_31, ↓mgA_32, ↓mgA_33, ↓mgA_34, ↓mgA_35, ↓mgA_36, ↓mgA_37, ↓mgA_38, ↓mgA_39, ↓mgA_41, ↓mgA_42, ↓mgA_43, ↓mgA_44, ↓mgA_45, ↓mgA_46, ↓mpA_2, ↓mpA_4, ↓mpA_6, ↓mpA_7, ↓mpA_9, ↓mpA_10, ↓mpA_12, ↓mpA_14, ↓mpA_15, ↓mpA_16, ↓mpZ_17, ↓mpA_18, ↓mpZ_19, ↓mpA_20, ↓mpA_21, ↓mpA_22, ↓mpA_23, ↓mpA_24, ↓mpZ_25, ↓mpA_26, ↓mpA_27, ↓mpA_28, ↓mpA_29, ↓mpA_30, ↓mpA_31, ↓mpA_32, ↓mpA_33, ↓mpA_34, ↓mpZ_35, ↓mpA_36, ↓mpA_37, ↓mpA_38, ↓mpA_39, ↓mpA_41, ↓mpA_42, ↓mpZ_43, ↓mpA_44, ↓mpA_45, ↓mpA_46, fMd_lock_E, q2, fMd_lock_j25_E, fMd_lock_j70_E, m_holdsk]
  · have W := R.ver I hr hi
    have q5 := q4 σ rfl rfl rfl
    have w1 := W.k
    have w2 := W.lk
    by_cases hx : inR x4 0 999
    · have q6 := inR_c (M := M) (n := n) hx (by omega)
      have q7 := inR_m hx (by omega)
      clear W
      by_cases z : x4 < σ 31 (40 * r + i)
      · have z2 : ¬ σ 31 (40 * r + i) ≤ x4 := Int32.not_le.mpr z
        refine OPR.err R I 2 3 (v := i3 0) ?_ ?_ rfl (by omega) (by omega)
        · simp (disch := (first | assumption | omega | decide | (simp only [mK_uI, mK_uP, mL_uI, mL_uP, mK_wI, mL_wI, mK_nA_e, mL_nA_e] <;> (first | assumption | omega)))) only [i3_le_t, i3_le_f, i3_lt_t, i3_lt_f, i3_eq_t, i3_eq_f, i3_add, i3_mul, i3_sub, i3_div, i3_dec, i3_m1, m1_i3, m1_eq, i3_ge0, m1_lt, i3_le_m1, ↓reduceIte, rZ_0, rZ_1, bdR_s, bdW_s, ifN_n, ifN_s, ↓fgI_s, ↓fgR_s, ↓rk_s, ↓fpI_s, ↓fpR_s, ↓fpZ_0, ↓fpZ_1, ↓alI_i, ↓alP_i, ↓asI_i, ↓asB_i, ↓asZ_0, ↓asZ_1, ↓aln_i, ↓fca_s, ↓fca_n, bdC_li, bdC_ri, mK_uI, mK_uP, mL_uI, mL_uP, mP_uI, mI_uP, mK_wI, mL_wI, mP_wI, mI_uI_e, mI_uI_c, nwO_s, mK_nA_e, mL_nA_e, fHb_lock_E, q1, q3, q6, w2, z, fHb_lock_j40_E, c_st0]
        · simp (disch := (first | assumption | omega | decide | (simp only [mK_uI, mK_uP, mL_uI, mL_uP, mK_wI, mL_wI, mK_nA_e, mL_nA_e] <;> (first | assumption | omega)))) only [i3_le_t, i3_le_f, i3_lt_t, i3_lt_f, i3_eq_t, i3_eq_f, i3_add, i3_mul, i3_sub, i3_div, i3_dec, i3_m1, m1_i3, m1_eq, i3_ge0, m1_lt, i3_le_m1, ↓reduceIte, rZ_0, rZ_1, bdR_s, bdW_s, ifN_n, ifN_s, uS_n, uS_e, uS_d, ↓mgF_s, ↓mpF_s, ↓mgA_2, ↓mgA_4, ↓mgA_6, ↓mgA_7, ↓mgA_9, ↓mgA_10, ↓mgA_12, ↓mgA_14, ↓mgA_15, ↓mgA_16, ↓mgA_17, ↓mgA_18, ↓mgA_19, ↓mgA_20, ↓mgA_21, ↓mgA_22, ↓mgA_23, ↓mgA_24, ↓mgA_25, ↓mgA_26, ↓mgA_27, ↓mgA_28, ↓mgA_29, ↓mgA_30, ↓mgA_31, ↓mgA_32, ↓mgA_33, ↓mgA_34, ↓mgA_35, ↓mgA_36, ↓mgA_37, ↓mgA_38, ↓mgA_39, ↓mgA_41, ↓mgA_42, ↓mgA_43, ↓mgA_44, ↓mgA_45, ↓mgA_46, ↓mpA_2, ↓mpA_4, ↓mpA_6, ↓mpA_7, ↓mpA_9, ↓mpA_10, ↓mpA_12, ↓mpA_14, ↓mpA_15, ↓mpA_16, ↓mpZ_17, ↓mpA_18, ↓mpZ_19, ↓mpA_20, ↓mpA_21, ↓mpA_22, ↓mpA_23, ↓mpA_24, ↓mpZ_25, ↓mpA_26, ↓mpA_27, ↓mpA_28, ↓mpA_29, ↓mpA_30, ↓mpA_31, ↓mpA_32, ↓mpA_33, ↓mpA_34, ↓mpZ_35, ↓mpA_36, ↓mpA_37, ↓mpA_38, ↓mpA_39, ↓mpA_41, ↓mpA_42, ↓mpZ_43, ↓mpA_44, ↓mpA_45, ↓mpA_46, fMd_lock_E, q2, q5, fMd_lock_j25_E, q7, z2, fMd_lock_j70_E, m_holdsk]
      · have z2 : σ 31 (40 * r + i) ≤ x4 := Int32.not_lt.mp z
        have R2 := R.setv I hr hi x4 1003 31 (Or.inr (Or.inl ⟨rfl, rfl⟩))
        refine ⟨.inl (σ 31 (40 * r + i)), uI M 1003 (ve B r i) 0 x4, n, σ 31 (40 * r + i), uS (uS σ 0 0 (i3 0)) 31 (40 * r + i) x4, ?_, ?_, ⟨rfl, rfl⟩, Nat.le_refl n, POT.same (by omega) (by omega) rfl rfl rfl, own, B, ?_, ?_⟩
        · simp (disch := (first | assumption | omega | decide | (simp only [mK_uI, mK_uP, mL_uI, mL_uP, mK_wI, mL_wI, mK_nA_e, mL_nA_e] <;> (first | assumption | omega)))) only [i3_le_t, i3_le_f, i3_lt_t, i3_lt_f, i3_eq_t, i3_eq_f, i3_add, i3_mul, i3_sub, i3_div, i3_dec, i3_m1, m1_i3, m1_eq, i3_ge0, m1_lt, i3_le_m1, ↓reduceIte, rZ_0, rZ_1, bdR_s, bdW_s, ifN_n, ifN_s, ↓fgI_s, ↓fgR_s, ↓rk_s, ↓fpI_s, ↓fpR_s, ↓fpZ_0, ↓fpZ_1, ↓alI_i, ↓alP_i, ↓asI_i, ↓asB_i, ↓asZ_0, ↓asZ_1, ↓aln_i, ↓fca_s, ↓fca_n, bdC_li, bdC_ri, mK_uI, mK_uP, mL_uI, mL_uP, mP_uI, mI_uP, mK_wI, mL_wI, mP_wI, mI_uI_e, mI_uI_c, nwO_s, mK_nA_e, mL_nA_e, fHb_lock_E, q1, q3, q6, w2, z, fHb_lock_j40_E, c_st1]
        · simp (disch := (first | assumption | omega | decide | (simp only [mK_uI, mK_uP, mL_uI, mL_uP, mK_wI, mL_wI, mK_nA_e, mL_nA_e] <;> (first | assumption | omega)))) only [i3_le_t, i3_le_f, i3_lt_t, i3_lt_f, i3_eq_t, i3_eq_f, i3_add, i3_mul, i3_sub, i3_div, i3_dec, i3_m1, m1_i3, m1_eq, i3_ge0, m1_lt, i3_le_m1, ↓reduceIte, rZ_0, rZ_1, bdR_s, bdW_s, ifN_n, ifN_s, uS_n, uS_e, uS_d, ↓mgF_s, ↓mpF_s, ↓mgA_2, ↓mgA_4, ↓mgA_6, ↓mgA_7, ↓mgA_9, ↓mgA_10, ↓mgA_12, ↓mgA_14, ↓mgA_15, ↓mgA_16, ↓mgA_17, ↓mgA_18, ↓mgA_19, ↓mgA_20, ↓mgA_21, ↓mgA_22, ↓mgA_23, ↓mgA_24, ↓mgA_25, ↓mgA_26, ↓mgA_27, ↓mgA_28, ↓mgA_29, ↓mgA_30, ↓mgA_31, ↓mgA_32, ↓mgA_33, ↓mgA_34, ↓mgA_35, ↓mgA_36, ↓mgA_37, ↓mgA_38, ↓mgA_39, ↓mgA_41, ↓mgA_42, ↓mgA_43, ↓mgA_44, ↓mgA_45, ↓mgA_46, ↓mpA_2, ↓mpA_4, ↓mpA_6, ↓mpA_7, ↓mpA_9, ↓mpA_10, ↓mpA_12, ↓mpA_14, ↓mpA_15, ↓mpA_16, ↓mpZ_17, ↓mpA_18, ↓mpZ_19, ↓mpA_20, ↓mpA_21, ↓mpA_22, ↓mpA_23, ↓mpA_24, ↓mpZ_25, ↓mpA_26, ↓mpA_27, ↓mpA_28, ↓mpA_29, ↓mpA_30, ↓mpA_31, ↓mpA_32, ↓mpA_33, ↓mpA_34, ↓mpZ_35, ↓mpA_36, ↓mpA_37, ↓mpA_38, ↓mpA_39, ↓mpA_41, ↓mpA_42, ↓mpZ_43, ↓mpA_44, ↓mpA_45, ↓mpA_46, fMd_lock_E, q2, q5, fMd_lock_j25_E, q7, z2, fMd_lock_j70_E, m_holds0]
        · exact R2.scf fun k hk => funext fun j => by
            show (if k = 31 ∧ j = 40 * r + i then x4 else uS σ 0 0 (i3 0) k j) = (if k = 31 ∧ j = 40 * r + i then x4 else σ k j)
            rw [scf0 (i3 0) k hk]
        · exact ⟨I.up0.dr, I.up0.db, I.up0.ev, I.up0.dy, I.up0.dc, I.up0.en, I.up0.vn, I.up0.vo, I.up0.vi, I.up0.hd, I.up0.kn, I.up0.ks, I.up0.ko, I.up0.pn, I.up0.po, I.up0.dn, I.up0.un, I.up0.uo, I.up0.uz, I.up0.up, I.up0.rn, I.up0.rk⟩
    · have q6 := noR_c (M := M) (n := n) hx (by omega) (by omega)
      have q7 := noR_m hx (by omega) (by omega)
      refine OPR.err R I 1 2 (v := i3 0) ?_ ?_ rfl (by omega) (by omega)
      · simp (disch := (first | assumption | omega | decide | (simp only [mK_uI, mK_uP, mL_uI, mL_uP, mK_wI, mL_wI, mK_nA_e, mL_nA_e] <;> (first | assumption | omega)))) only [i3_le_t, i3_le_f, i3_lt_t, i3_lt_f, i3_eq_t, i3_eq_f, i3_add, i3_mul, i3_sub, i3_div, i3_dec, i3_m1, m1_i3, m1_eq, i3_ge0, m1_lt, i3_le_m1, ↓reduceIte, rZ_0, rZ_1, bdR_s, bdW_s, ifN_n, ifN_s, ↓fgI_s, ↓fgR_s, ↓rk_s, ↓fpI_s, ↓fpR_s, ↓fpZ_0, ↓fpZ_1, ↓alI_i, ↓alP_i, ↓asI_i, ↓asB_i, ↓asZ_0, ↓asZ_1, ↓aln_i, ↓fca_s, ↓fca_n, bdC_li, bdC_ri, mK_uI, mK_uP, mL_uI, mL_uP, mP_uI, mI_uP, mK_wI, mL_wI, mP_wI, mI_uI_e, mI_uI_c, nwO_s, mK_nA_e, mL_nA_e, fHb_lock_E, q1, q3, q6]
      · simp (disch := (first | assumption | omega | decide | (simp only [mK_uI, mK_uP, mL_uI, mL_uP, mK_wI, mL_wI, mK_nA_e, mL_nA_e] <;> (first | assumption | omega)))) only [i3_le_t, i3_le_f, i3_lt_t, i3_lt_f, i3_eq_t, i3_eq_f, i3_add, i3_mul, i3_sub, i3_div, i3_dec, i3_m1, m1_i3, m1_eq, i3_ge0, m1_lt, i3_le_m1, ↓reduceIte, rZ_0, rZ_1, bdR_s, bdW_s, ifN_n, ifN_s, uS_n, uS_e, uS_d, ↓mgF_s, ↓mpF_s, ↓mgA_2, ↓mgA_4, ↓mgA_6, ↓mgA_7, ↓mgA_9, ↓mgA_10, ↓mgA_12, ↓mgA_14, ↓mgA_15, ↓mgA_16, ↓mgA_17, ↓mgA_18, ↓mgA_19, ↓mgA_20, ↓mgA_21, ↓mgA_22, ↓mgA_23, ↓mgA_24, ↓mgA_25, ↓mgA_26, ↓mgA_27, ↓mgA_28, ↓mgA_29, ↓mgA_30, ↓mgA_31, ↓mgA_32, ↓mgA_33, ↓mgA_34, ↓mgA_35, ↓mgA_36, ↓mgA_37, ↓mgA_38, ↓mgA_39, ↓mgA_41, ↓mgA_42, ↓mgA_43, ↓mgA_44, ↓mgA_45, ↓mgA_46, ↓mpA_2, ↓mpA_4, ↓mpA_6, ↓mpA_7, ↓mpA_9, ↓mpA_10, ↓mpA_12, ↓mpA_14, ↓mpA_15, ↓mpA_16, ↓mpZ_17, ↓mpA_18, ↓mpZ_19, ↓mpA_20, ↓mpA_21, ↓mpA_22, ↓mpA_23, ↓mpA_24, ↓mpZ_25, ↓mpA_26, ↓mpA_27, ↓mpA_28, ↓mpA_29, ↓mpA_30, ↓mpA_31, ↓mpA_32, ↓mpA_33, ↓mpA_34, ↓mpZ_35, ↓mpA_36, ↓mpA_37, ↓mpA_38, ↓mpA_39, ↓mpA_41, ↓mpA_42, ↓mpZ_43, ↓mpA_44, ↓mpA_45, ↓mpA_46, fMd_lock_E, q2, q5, fMd_lock_j25_E, q7, fMd_lock_j70_E, m_holdsk]
end OL

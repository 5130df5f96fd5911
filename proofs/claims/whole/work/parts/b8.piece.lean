set_option maxRecDepth 100000
/-! piece -/
section PC
variable {h c n r : Nat} {own : Nat → Nat} {B : BK} {σ σ' : Sg} {M M' : Mm}
/-- a piece of an upload is laid anew -/
theorem RR.setpc (R : RR h own B σ M n) {u k D : Nat} (hu : u < nv (σ 40 0)) (h12 : u < 12) (hk : k < 9) (hD40 : D ≤ 40) (hb : ∀ u, u < 12 → ∀ k, k < 9 → nv (σ 44 (9 * u + k)) ≤ 40) (hun : nv (σ 40 0) ≤ 12) (f : IOS (fun cc x => (cc = 101 ∧ x = ul B u + 2 + 2 * k) ∨ (cc = 0 ∧ x = ul B u + 2 + 2 * k + 1)) M M') (m1' : mI M' 101 (ul B u + 2 + 2 * k) 0 = i3 D) (m2' : ∀ j, j < D → mI M' 0 (ul B u + 2 + 2 * k + 1) j = σ 2 j) : RR h own B (sF (uS σ 44 (9 * u + k) (i3 D)) 45 (pcg σ (9 * u + k) 0 D)) M' n := by
  have U := R.uo u hu
  obtain ⟨q1, q2, q3, q4⟩ := U.pc k hk
  have fm : FRM (fun t => t = 30 + u) own M own M' := f.frm fun cc a z _ => by
    rcases z with z | z
    · rw [z.2]; exact q2.o
    · rw [z.2]; exact q2.ro
  have huo : ∀ u0, u0 < nv (σ 40 0) → UPC own M' (ul B u0) (30 + u0) (gr h (nv (σ 41 u0))) (σ 42 u0) (σ 43 u0) (fun k0 => uS σ 44 (9 * u + k) (i3 D) 44 (9 * u0 + k0)) (fun k0 j => pcg σ (9 * u + k) 0 D (40 * (9 * u0 + k0) + j)) := fun u0 hu0 => by
    by_cases e : u0 = u
    · subst e
      have keepS : ∀ a, own a = 30 + u0 → own a = own a ∧ SAP M M' a := fun a o => ⟨rfl, f.K a, f.L a, fun cc j => f.P cc a j⟩
      refine ⟨U.b.keep keepS, (f.2 _ _ _ (by omega)).trans U.ke, (f.2 _ _ _ (by omega)).trans U.ov, fun k0 hk0 => ?_⟩
      obtain ⟨v1, v2, v3, v4⟩ := U.pc k0 hk0
      refine ⟨(f.P _ _ _).trans v1, v2.keep keepS, ?_, fun j hj => ?_⟩
      · by_cases ek : k0 = k
        · subst ek
          show _ = uS σ 44 (9 * u0 + k0) (i3 D) 44 (9 * u0 + k0)
          rw [uS_e]; exact m1'
        · show _ = uS σ 44 (9 * u0 + k) (i3 D) 44 (9 * u0 + k0)
          rw [uS_d _ _ _ _ (by omega)]
          exact (f.2 _ _ _ (by omega)).trans v3
      · have hj : j < nv (uS σ 44 (9 * u0 + k) (i3 D) 44 (9 * u0 + k0)) := hj
        show _ = (if 40 * (9 * u0 + k) + 0 ≤ 40 * (9 * u0 + k0) + j ∧ 40 * (9 * u0 + k0) + j < 40 * (9 * u0 + k) + D then σ 2 (40 * (9 * u0 + k0) + j - 40 * (9 * u0 + k)) else σ 45 (40 * (9 * u0 + k0) + j))
        by_cases ek : k0 = k
        · subst ek
          rw [uS_e, nv_i (by omega)] at hj
          have ej : 40 * (9 * u0 + k0) + j - 40 * (9 * u0 + k0) = j := by omega
          rw [if_pos (by omega), ej]
          exact m2' j hj
        · rw [uS_d _ _ _ _ (by omega)] at hj
          have b40 := hb u0 h12 k0 hk0
          rw [if_neg (by omega)]
          exact (f.2 _ _ _ (by omega)).trans (v4 j hj)
    · have X := R.k_uo fm hu0 (by omega)
      refine ⟨X.b, X.ke, X.ov, fun k0 hk0 => ?_⟩
      obtain ⟨v1, v2, v3, v4⟩ := X.pc k0 hk0
      have b40 := hb u0 (by omega) k0 hk0
      refine ⟨v1, v2, ?_, fun j hj => ?_⟩
      · show _ = uS σ 44 (9 * u + k) (i3 D) 44 (9 * u0 + k0)
        rw [uS_d _ _ _ _ (by omega)]
        exact v3
      · have hj : j < nv (uS σ 44 (9 * u + k) (i3 D) 44 (9 * u0 + k0)) := hj
        rw [uS_d _ _ _ _ (by omega)] at hj
        show _ = (if 40 * (9 * u + k) + 0 ≤ 40 * (9 * u0 + k0) + j ∧ 40 * (9 * u0 + k0) + j < 40 * (9 * u + k) + D then σ 2 (40 * (9 * u0 + k0) + j - 40 * (9 * u + k)) else σ 45 (40 * (9 * u0 + k0) + j))
        rw [if_neg (by omega)]
        exact v4 j hj
  exact ⟨R.fr, R.k_em fm, R.k_hb fm, R.k_rg fm, R.k_nm fm (by first | omega | (intro z; dsimp only at z; omega)), R.k_dy fm (by first | omega | (intro z; dsimp only at z; omega)), R.k_dm fm (by first | omega | (intro z; dsimp only at z; omega)), R.k_db fm (by first | omega | (intro z; dsimp only at z; omega)), R.k_nb fm (by first | omega | (intro z; dsimp only at z; omega)), R.k_co fm (by first | omega | (intro z; dsimp only at z; omega)), fun r0 hr0 => R.k_up fm hr0 (by first | omega | (intro z; dsimp only at z; omega)), fun r0 hr0 => R.k_hd fm hr0 (by first | omega | (intro z; dsimp only at z; omega)), R.k_en fm (by first | omega | (intro z; dsimp only at z; omega)), fun r0 hr0 => R.k_vl fm hr0 (by first | omega | (intro z; dsimp only at z; omega)), fun r0 hr0 => R.k_vo fm hr0 (by first | omega | (intro z; dsimp only at z; omega)), fun r0 hr0 => R.k_kl fm hr0 (by first | omega | (intro z; dsimp only at z; omega)), fun r0 hr0 => R.k_pl fm hr0 (by first | omega | (intro z; dsimp only at z; omega)), fun r0 hr0 => R.k_po fm hr0 (by first | omega | (intro z; dsimp only at z; omega)), R.k_us fm (by first | omega | (intro z; dsimp only at z; omega)), huo, R.k_rs fm (by first | omega | (intro z; dsimp only at z; omega)), R.k_ro fm (by first | omega | (intro z; dsimp only at z; omega))⟩
theorem op_piece (R : RR h own B σ M n) (I : IV c σ) (x1 x2 : Int32) : OPR h c σ n (fHb_piece h x1 x2 M n) (fMd_piece x1 x2 σ) (cdf 1 2 3) := by
  have k := R.hb.k
  have hn : n ≤ n + 1 := Nat.le_succ n
  obtain ⟨D, hD40, hD⟩ := I.dr.to
  have eD : nv (σ 1 0) = D := by rw [hD]; exact nv_i (by omega)
  have w1 := R.hb.p2
  have w2 := R.hb.dr.k
  have w3 := R.dm
  rw [hD] at w3
  have hy' : (∃ v, fMd_isIn x2 (i3 1) (i3 9) = some v) := by
    by_cases hy : inR x2 1 9
    · exact ⟨_, inR_m hy (by omega)⟩
    · exact ⟨_, noR_m hy (by omega) (by omega)⟩
  obtain ⟨vy, hvy⟩ := hy'
  rcases up_cases R I x1 with ⟨q1, p1⟩ | ⟨u, hu, hu12, rfl, q1, p1, hov⟩
  · refine OPR.err R I 0 1 (v := i3 0) ?_ ?_ rfl (by omega) (by omega)
    · clear R I
      simp (disch := (first | assumption | omega | decide | (simp only [mK_uI, mK_uP, mL_uI, mL_uP, mK_wI, mL_wI, mK_nA_e, mL_nA_e] <;> (first | assumption | omega)))) only [i3_le_t, i3_le_f, i3_lt_t, i3_lt_f, i3_eq_t, i3_eq_f, i3_add, i3_mul, i3_sub, i3_div, i3_dec, i3_m1, m1_i3, m1_eq, i3_ge0, m1_lt, i3_le_m1, ↓reduceIte, rZ_0, rZ_1, bdR_s, bdW_s, ifN_n, ifN_s, ↓fgI_s, ↓fgR_s, ↓rk_s, ↓fpI_s, ↓fpR_s, ↓fpZ_0, ↓fpZ_1, ↓alI_i, ↓alP_i, ↓asI_i, ↓asB_i, ↓asZ_0, ↓asZ_1, ↓aln_i, ↓fca_s, ↓fca_n, bdC_li, bdC_ri, mK_uI, mK_uP, mL_uI, mL_uP, mP_uI, mI_uP, mK_wI, mL_wI, mP_wI, mI_uI_e, mI_uI_c, nwO_s, mK_nA_e, mL_nA_e, fHb_piece_E, q1]
    · clear R I
      simp (disch := (first | assumption | omega | decide | (simp only [mK_uI, mK_uP, mL_uI, mL_uP, mK_wI, mL_wI, mK_nA_e, mL_nA_e] <;> (first | assumption | omega)))) only [i3_le_t, i3_le_f, i3_lt_t, i3_lt_f, i3_eq_t, i3_eq_f, i3_add, i3_mul, i3_sub, i3_div, i3_dec, i3_m1, m1_i3, m1_eq, i3_ge0, m1_lt, i3_le_m1, ↓reduceIte, rZ_0, rZ_1, bdR_s, bdW_s, ifN_n, ifN_s, uS_n, uS_e, uS_d, ↓mgF_s, ↓mpF_s, ↓mgA_2, ↓mgA_4, ↓mgA_6, ↓mgA_7, ↓mgA_9, ↓mgA_10, ↓mgA_12, ↓mgA_14, ↓mgA_15, ↓mgA_16, ↓mgA_17, ↓mgA_18, ↓mgA_19, ↓mgA_20, ↓mgA_21, ↓mgA_22, ↓mgA_23, ↓mgA_24, ↓mgA_25, ↓mgA_26, ↓mgA_27, ↓mgA_28, ↓mgA_29, ↓mgA_30, ↓mgA_31, ↓mgA_32, ↓mgA_33, ↓mgA_34, ↓mgA_35, ↓mgA_36, ↓mgA_37, ↓mgA_38, ↓mgA_39, ↓mgA_41, ↓mgA_42, ↓mgA_43, ↓mgA_44, ↓mgA_45, ↓mgA_46, ↓mpA_2, ↓mpA_4, ↓mpA_6, ↓mpA_7, ↓mpA_9, ↓mpA_10, ↓mpA_12, ↓mpA_14, ↓mpA_15, ↓mpA_16, ↓mpZ_17, ↓mpA_18, ↓mpZ_19, ↓mpA_20, ↓mpA_21, ↓mpA_22, ↓mpA_23, ↓mpA_24, ↓mpZ_25, ↓mpA_26, ↓mpA_27, ↓mpA_28, ↓mpA_29, ↓mpA_30, ↓mpA_31, ↓mpA_32, ↓mpA_33, ↓mpA_34, ↓mpZ_35, ↓mpA_36, ↓mpA_37, ↓mpA_38, ↓mpA_39, ↓mpA_41, ↓mpA_42, ↓mpZ_43, ↓mpA_44, ↓mpA_45, ↓mpA_46, fMd_piece_E, p1, hvy, fMd_piece_j46_E, fMd_piece_j47_E, fMd_piece_j91_E, m_holdsk]
  · by_cases hy : inR x2 1 9
    · have q2 := inR_c (M := M) (n := n) hy (by omega)
      have p2 := inR_m hy (by omega)
      obtain ⟨y, hy1, hy9, rfl⟩ := hy
      obtain ⟨kk, rfl⟩ : ∃ kk, y = kk + 1 := ⟨y - 1, by omega⟩
      have U := R.uo u hu
      have hN := (I.up u hu12).2
      have n44 : ∀ k, k < 9 → NB 40 (σ 44 (9 * u + k)) := fun k hk => (hN k hk).1
      have t1 := c_total U (σ 44) u fun k hk => ⟨rfl, n44 k hk⟩
      have t2 := m_pieced (σ := σ) hu12 n44
      obtain ⟨v1, v2, v3, v4⟩ := U.pc kk (by omega)
      obtain ⟨P, hP40, hP⟩ := (n44 kk (by omega)).to
      have hP' : mI M 101 (ul B u + 2 + 2 * kk) 0 = i3 P := v3.trans hP
      have eP : nv (σ 44 (9 * u + kk)) = P := by rw [hP]; exact nv_i (by omega)
      have hsum : P ≤ pcsum (σ 44) u 9 ∧ ∀ v, pcsum (uS σ 44 (9 * u + kk) v 44) u 9 + P = pcsum (σ 44) u 9 + nv v := by
        have z := fun v => pcsum_set (s := σ 44) (s' := uS σ 44 (9 * u + kk) v 44) (u := u) (k := kk) (v := v) (uS_e _ _ _ _) (fun j hj => uS_d _ _ _ _ hj) (8 - kk)
        have e9 : kk + 1 + (8 - kk) = 9 := by omega
        rw [e9, eP] at z
        refine ⟨?_, z⟩
        have z0 := z (i3 0)
        rw [nv0] at z0
        omega
      obtain ⟨Q, hQ⟩ : ∃ Q, Q = pcsum (σ 44) u 9 := ⟨_, rfl⟩
      rw [← hQ] at t1 t2 hsum
      have hQ40 : Q ≤ 40 := by rw [hQ]; exact (I.up u hu12).1
      have mo : fUpload_manyOf (ul B u) (i3 (kk + 1)) M = some (i3 P) := by
        have k1 := U.b.k
        have p2 := U.b.p2
        have rk := U.b.rk
        have rl := U.b.rl
        have q6 := v2.k
        have e3 : kk + 1 - 1 = kk := by omega
        clear R I U
        simp (disch := (first | assumption | omega | decide | (simp only [mK_uI, mK_uP, mL_uI, mL_uP, mK_wI, mL_wI, mK_nA_e, mL_nA_e] <;> (first | assumption | omega)))) only [i3_le_t, i3_le_f, i3_lt_t, i3_lt_f, i3_eq_t, i3_eq_f, i3_add, i3_mul, i3_sub, i3_div, i3_dec, i3_m1, m1_i3, m1_eq, i3_ge0, m1_lt, i3_le_m1, ↓reduceIte, rZ_0, rZ_1, bdR_s, bdW_s, ifN_n, ifN_s, ↓fgI_s, ↓fgR_s, ↓rk_s, ↓fpI_s, ↓fpR_s, ↓fpZ_0, ↓fpZ_1, ↓alI_i, ↓alP_i, ↓asI_i, ↓asB_i, ↓asZ_0, ↓asZ_1, ↓aln_i, ↓fca_s, ↓fca_n, bdC_li, bdC_ri, mK_uI, mK_uP, mL_uI, mL_uP, mP_uI, mI_uP, mK_wI, mL_wI, mP_wI, mI_uI_e, mI_uI_c, nwO_s, mK_nA_e, mL_nA_e, fUpload_manyOf_E, p2, rl, e3, v1, hP']
      have k1 := U.b.k
      have i44 : 9 * u + (kk + 1) - 1 = 9 * u + kk := by omega
      by_cases hD0 : D = 0
      · refine OPR.err R I 2 3 (v := i3 0) ?_ ?_ rfl (by omega) (by omega)
        · clear R I U
          simp (disch := (first | assumption | omega | decide | (simp only [mK_uI, mK_uP, mL_uI, mL_uP, mK_wI, mL_wI, mK_nA_e, mL_nA_e] <;> (first | assumption | omega)))) only [i3_le_t, i3_le_f, i3_lt_t, i3_lt_f, i3_eq_t, i3_eq_f, i3_add, i3_mul, i3_sub, i3_div, i3_dec, i3_m1, m1_i3, m1_eq, i3_ge0, m1_lt, i3_le_m1, ↓reduceIte, rZ_0, rZ_1, bdR_s, bdW_s, ifN_n, ifN_s, ↓fgI_s, ↓fgR_s, ↓rk_s, ↓fpI_s, ↓fpR_s, ↓fpZ_0, ↓fpZ_1, ↓alI_i, ↓alP_i, ↓asI_i, ↓asB_i, ↓asZ_0, ↓asZ_1, ↓aln_i, ↓fca_s, ↓fca_n, bdC_li, bdC_ri, mK_uI, mK_uP, mL_uI, mL_uP, mP_uI, mI_uP, mK_wI, mL_wI, mP_wI, mI_uI_e, mI_uI_c, nwO_s, mK_nA_e, mL_nA_e, fHb_piece_E, q1, q2, w1, w3, fHb_piece_j28_E, c_st0]
        · clear R I U
          simp (disch := (first | assumption | omega | decide | (simp only [mK_uI, mK_uP, mL_uI, mL_uP, mK_wI, mL_wI, mK_nA_e, mL_nA_e] <;> (first | assumption | omega)))) only [i3_le_t, i3_le_f, i3_lt_t, i3_lt_f, i3_eq_t, i3_eq_f, i3_add, i3_mul, i3_sub, i3_div, i3_dec, i3_m1, m1_i3, m1_eq, i3_ge0, m1_lt, i3_le_m1, ↓reduceIte, rZ_0, rZ_1, bdR_s, bdW_s, ifN_n, ifN_s, uS_n, uS_e, uS_d, ↓mgF_s, ↓mpF_s, ↓mgA_2, ↓mgA_4, ↓mgA_6, ↓mgA_7, ↓mgA_9, ↓mgA_10, ↓mgA_12, ↓mgA_14, ↓mgA_15, ↓mgA_16, ↓mgA_17, ↓mgA_18, ↓mgA_19, ↓mgA_20, ↓mgA_21, ↓mgA_22, ↓mgA_23, ↓mgA_24, ↓mgA_25, ↓mgA_26, ↓mgA_27, ↓mgA_28, ↓mgA_29, ↓mgA_30, ↓mgA_31, ↓mgA_32, ↓mgA_33, ↓mgA_34, ↓mgA_35, ↓mgA_36, ↓mgA_37, ↓mgA_38, ↓mgA_39, ↓mgA_41, ↓mgA_42, ↓mgA_43, ↓mgA_44, ↓mgA_45, ↓mgA_46, ↓mpA_2, ↓mpA_4, ↓mpA_6, ↓mpA_7, ↓mpA_9, ↓mpA_10, ↓mpA_12, ↓mpA_14, ↓mpA_15, ↓mpA_16, ↓mpZ_17, ↓mpA_18, ↓mpZ_19, ↓mpA_20, ↓mpA_21, ↓mpA_22, ↓mpA_23, ↓mpA_24, ↓mpZ_25, ↓mpA_26, ↓mpA_27, ↓mpA_28, ↓mpA_29, ↓mpA_30, ↓mpA_31, ↓mpA_32, ↓mpA_33, ↓mpA_34, ↓mpZ_35, ↓mpA_36, ↓mpA_37, ↓mpA_38, ↓mpA_39, ↓mpA_41, ↓mpA_42, ↓mpZ_43, ↓mpA_44, ↓mpA_45, ↓mpA_46, fMd_piece_E, p1, p2, t2, i44, hP, hD, hD0, fMd_piece_j47_E, fMd_piece_j86_E, fMd_piece_j91_E, m_holdsk]
      · by_cases hS : Q - P + D ≤ 40
        · -- the piece is laid
          have k9 := U.b.rk
          have k10 := U.b.rl
          have p22 := U.b.p2
          have nb := hsum.2 (i3 D)
          rw [nv_i (by omega)] at nb
          -- emptied, then the draft behind
          obtain ⟨b, hb⟩ : ∃ b, b = ul B u + 2 + 2 * kk := ⟨_, rfl⟩
          rw [← hb] at v1 v2 hP'
          have fE : IOS (fun cc x => cc = 101 ∧ x = b) M (uI M 101 b 0 (i3 0)) := IOS.uI _ _ _ _
          have bd : b ≠ h + 33 := fun e => by
            have o1 := v2.o
            rw [e, R.hb.dr.o] at o1; omega
          have vE : BYT own (uI M 101 b 0 (i3 0)) b (30 + u) := v2.keep fun a o => ⟨rfl, fE.K a, fE.L a, fun cc j => fE.P cc a j⟩
          have dE : BYT own (uI M 101 b 0 (i3 0)) (h + 33) 2 := R.hb.dr.keep fun a o => ⟨rfl, fE.K a, fE.L a, fun cc j => fE.P cc a j⟩
          obtain ⟨M2, e1, e2, e3, e4⟩ := c_appendAll (A := 0) (D := D) (g := fun j => nv (σ 2 j)) vE dE bd (mI_uI_e _ _ _ _ _) (by rw [mI_uI_a _ _ _ _ (Ne.symm bd)]; exact w3) (by omega) (fun j hj => by
            have x := I.db j (by rw [eD]; exact hj)
            rw [mI_uI_c _ _ _ _ (by decide)]
            exact ⟨(R.db j (by rw [eD]; exact hj)).trans x.1, by have := x.2; omega⟩)
          rw [Nat.zero_add] at e3
          have f2 : IOS (fun cc x => (cc = 101 ∧ x = b) ∨ (cc = 0 ∧ x = b + 1)) M M2 := (fE.trans e2).mono fun cc x z => by omega
          have R2 := R.setpc hu hu12 (k := kk) (D := D) (by omega) hD40 (fun u hu k hk => ((I.up u hu).2 k hk).1.2) I.un.2 (by rw [← hb]; exact f2) (by rw [← hb]; exact e3) (fun j hj => by
            rw [← hb, e4, if_pos (by omega), Nat.sub_zero]
            exact (I.db j (by rw [eD]; exact hj)).1.symm)
          have R3 := R2.setd (i3 0) (fun j hj => by rw [nv0] at hj; omega)
          have t3 := c_total (M := uI M2 101 (h + 33) 0 (i3 0)) (R3.uo u hu) (uS σ 44 (9 * u + kk) (i3 D) 44) u (fun k hk => ⟨rfl, by
            by_cases ek : k = kk
            · subst ek; rw [uS_e]; exact NB.of hD40 (by omega)
            · rw [uS_d _ _ _ _ (by omega)]; exact n44 k hk⟩)
          obtain ⟨N, hN2⟩ : ∃ N, N = pcsum (uS σ 44 (9 * u + kk) (i3 D) 44) u 9 := ⟨_, rfl⟩
          rw [← hN2] at t3 nb
          have eN : N = Q - P + D := by omega
          have t4 : fMd_pieced (i3 u) (uS (sF (uS (uS σ 0 0 (i3 0)) 44 (9 * u + kk) (i3 D)) 45 (pcg (uS (uS σ 0 0 (i3 0)) 44 (9 * u + kk) (i3 D)) (9 * u + kk) 0 D)) 1 0 (i3 0)) = some (i3 N) := by
            rw [hN2]
            exact m_pieced (σ := uS (sF (uS (uS σ 0 0 (i3 0)) 44 (9 * u + kk) (i3 D)) 45 (pcg (uS (uS σ 0 0 (i3 0)) 44 (9 * u + kk) (i3 D)) (9 * u + kk) 0 D)) 1 0 (i3 0)) hu12 (fun k hk => by
              show NB 40 (uS σ 44 (9 * u + kk) (i3 D) 44 (9 * u + k))
              by_cases ek : k = kk
              · subst ek; rw [uS_e]; exact NB.of hD40 (by omega)
              · rw [uS_d _ _ _ _ (by omega)]; exact n44 k hk)
          have ml := m_piece_l (u := u) (a := 9 * u + kk) (D := D) (by omega) hD40 D 0 FU (uS (uS σ 0 0 (i3 0)) 44 (9 * u + kk) (i3 D)) (by omega) (FU_S (by omega)) hD
          rw [t4, bdR_s] at ml
          obtain ⟨S', hS'⟩ : ∃ S', S' = uS (sF (uS (uS σ 0 0 (i3 0)) 44 (9 * u + kk) (i3 D)) 45 (pcg (uS (uS σ 0 0 (i3 0)) 44 (9 * u + kk) (i3 D)) (9 * u + kk) 0 D)) 1 0 (i3 0) := ⟨_, rfl⟩
          have es : ∀ k, ¬ SCF k → S' k = uS (sF (uS σ 44 (9 * u + kk) (i3 D)) 45 (pcg σ (9 * u + kk) 0 D)) 1 0 (i3 0) k := fun k hk => by
            rw [hS']
            have hk0 : k ≠ 0 := fun e => hk (Or.inl e)
            refine funext fun j => ?_
            show (if k = 1 ∧ j = 0 then i3 0 else (if k = 45 then pcg σ (9 * u + kk) 0 D else fun j => if k = 44 ∧ j = 9 * u + kk then i3 D else if k = 0 ∧ j = 0 then i3 0 else σ k j) j) = (if k = 1 ∧ j = 0 then i3 0 else (if k = 45 then pcg σ (9 * u + kk) 0 D else fun j => if k = 44 ∧ j = 9 * u + kk then i3 D else σ k j) j)
            have e0 : (fun j => if k = 44 ∧ j = 9 * u + kk then i3 D else if k = 0 ∧ j = 0 then i3 0 else σ k j) = (fun j => if k = 44 ∧ j = 9 * u + kk then i3 D else σ k j) := funext fun j => by rw [if_neg (fun z : k = 0 ∧ j = 0 => hk0 z.1)]
            rw [e0]
          have s0 : S' 0 0 = i3 0 := by rw [hS']; rfl
          have s36 : S' 36 = σ 36 := es 36 (by unfold SCF; omega)
          have s18 : S' 18 = σ 18 := es 18 (by unfold SCF; omega)
          have s8 : S' 8 = σ 8 := es 8 (by unfold SCF; omega)
          rw [← hS'] at ml
          have hdr : NB 40 (uS (sF (uS σ 44 (9 * u + kk) (i3 D)) 45 (pcg σ (9 * u + kk) 0 D)) 1 0 (i3 0) 1 0) := by rw [uS_e]; exact NB.of (by omega) (by omega)
          have hdb : ∀ j, j < nv (uS (sF (uS σ 44 (9 * u + kk) (i3 D)) 45 (pcg σ (9 * u + kk) 0 D)) 1 0 (i3 0) 1 0) → NB 15 (σ 2 j) := fun j hj => by rw [uS_e, nv0] at hj; omega
          have huz : ∀ u', nv (σ 40 0) ≤ u' → u' < 12 → σ 43 u' = i3 0 ∧ ∀ k, k < 9 → uS σ 44 (9 * u + kk) (i3 D) 44 (9 * u' + k) = i3 0 := fun u' h1 h2 => by
            obtain ⟨z1, z2⟩ := I.uz u' h1 h2
            exact ⟨z1, fun k hk => by rw [uS_d _ _ _ _ (by omega)]; exact z2 k hk⟩
          have hup : ∀ u', u' < 12 → pcsum (uS σ 44 (9 * u + kk) (i3 D) 44) u' 9 ≤ 40 ∧ ∀ k, k < 9 → NB 40 (uS σ 44 (9 * u + kk) (i3 D) 44 (9 * u' + k)) ∧ ∀ j, j < nv (uS σ 44 (9 * u + kk) (i3 D) 44 (9 * u' + k)) → NB 15 (pcg σ (9 * u + kk) 0 D (40 * (9 * u' + k) + j)) := fun u' hu' => by
            obtain ⟨z1, z2⟩ := I.up u' hu'
            refine ⟨?_, fun k hk => ?_⟩
            · by_cases e : u' = u
              · subst e; omega
              · rw [pcsum_eq (s := σ 44) 9 fun k hk => uS_d _ _ _ _ (by omega)]; exact z1
            · obtain ⟨z3, z4⟩ := z2 k hk
              have pg : ∀ j, pcg σ (9 * u + kk) 0 D (40 * (9 * u' + k) + j) = if 40 * (9 * u + kk) + 0 ≤ 40 * (9 * u' + k) + j ∧ 40 * (9 * u' + k) + j < 40 * (9 * u + kk) + D then σ 2 (40 * (9 * u' + k) + j - 40 * (9 * u + kk)) else σ 45 (40 * (9 * u' + k) + j) := fun j => rfl
              by_cases e : 9 * u' + k = 9 * u + kk
              · rw [e, uS_e, nv_i (by omega)]
                refine ⟨NB.of hD40 (by omega), fun j hj => ?_⟩
                rw [e] at pg
                rw [pg, if_pos (by omega), Nat.add_sub_cancel_left]
                exact I.db j (by rw [eD]; exact hj)
              · rw [uS_d _ _ _ _ e]
                refine ⟨z3, fun j hj => ?_⟩
                have := z3.2
                rw [pg, if_neg (by omega)]
                exact z4 j hj
          have I2 : IV c (uS (sF (uS σ 44 (9 * u + kk) (i3 D)) 45 (pcg σ (9 * u + kk) 0 D)) 1 0 (i3 0)) := ⟨hdr, hdb, I.ev, I.dy, I.dc, I.en, I.vn, I.vo, I.vi, I.hd, I.kn, I.ks, I.ko, I.pn, I.po, I.dn, I.un, I.uo, huz, hup, I.rn, I.rk⟩
          refine ⟨.inl (i3 N), uI M2 101 (h + 33) 0 (i3 0), n, i3 N, S', ?_, ?_, ⟨s0, rfl⟩, Nat.le_refl n, POT.same (by omega) (by omega) s36 s18 s8, own, B, R3.scf es, (I2.scf es).up0⟩
          · have q6 := v2.k
            have d2k : mK M2 (h + 33) = 1 := (f2.K _).trans w2
            have hk2 : mK M2 h = 11 := (f2.K _).trans k
            have hp2 : mP M2 1102 h 0 = some (h + 33) := (f2.P _ _ _).trans w1
            have uk2 : mK M2 (ul B u) = 9 := (f2.K _).trans k1
            have rp : fUpload_replace (ul B u) (i3 (kk + 1)) (some (h + 33)) M = some ((), M2) := by
              have e3' : kk + 1 - 1 = kk := by omega
              clear R I U R2 R3 I2 es hup huz hdb ml t3 t4 hsum nb f2 vE dE fE e2 e4 hN
              simp (disch := (first | assumption | omega | decide | (simp only [mK_uI, mK_uP, mL_uI, mL_uP, mK_wI, mL_wI, mK_nA_e, mL_nA_e] <;> (first | assumption | omega)))) only [i3_le_t, i3_le_f, i3_lt_t, i3_lt_f, i3_eq_t, i3_eq_f, i3_add, i3_mul, i3_sub, i3_div, i3_dec, i3_m1, m1_i3, m1_eq, i3_ge0, m1_lt, i3_le_m1, ↓reduceIte, rZ_0, rZ_1, bdR_s, bdW_s, ifN_n, ifN_s, ↓fgI_s, ↓fgR_s, ↓rk_s, ↓fpI_s, ↓fpR_s, ↓fpZ_0, ↓fpZ_1, ↓alI_i, ↓alP_i, ↓asI_i, ↓asB_i, ↓asZ_0, ↓asZ_1, ↓aln_i, ↓fca_s, ↓fca_n, bdC_li, bdC_ri, mK_uI, mK_uP, mL_uI, mL_uP, mP_uI, mI_uP, mK_wI, mL_wI, mP_wI, mI_uI_e, mI_uI_c, nwO_s, mK_nA_e, mL_nA_e, fUpload_replace_E, p22, k10, e3', v1, fBytes_makeEmpty_E, e1]
            clear R I U R2 R3 I2 es hup huz hdb ml t4 hsum f2 vE dE fE e2 e4 hN
            simp (disch := (first | assumption | omega | decide | (simp only [mK_uI, mK_uP, mL_uI, mL_uP, mK_wI, mL_wI, mK_nA_e, mL_nA_e] <;> (first | assumption | omega)))) only [i3_le_t, i3_le_f, i3_lt_t, i3_lt_f, i3_eq_t, i3_eq_f, i3_add, i3_mul, i3_sub, i3_div, i3_dec, i3_m1, m1_i3, m1_eq, i3_ge0, m1_lt, i3_le_m1, ↓reduceIte, rZ_0, rZ_1, bdR_s, bdW_s, ifN_n, ifN_s, ↓fgI_s, ↓fgR_s, ↓rk_s, ↓fpI_s, ↓fpR_s, ↓fpZ_0, ↓fpZ_1, ↓alI_i, ↓alP_i, ↓asI_i, ↓asB_i, ↓asZ_0, ↓asZ_1, ↓aln_i, ↓fca_s, ↓fca_n, bdC_li, bdC_ri, mK_uI, mK_uP, mL_uI, mL_uP, mP_uI, mI_uP, mK_wI, mL_wI, mP_wI, mI_uI_e, mI_uI_c, nwO_s, mK_nA_e, mL_nA_e, fHb_piece_E, q1, q2, w1, w3, fHb_piece_j28_E, c_st1, t1, mo, fHb_piece_j59_E, rp, hp2, fBytes_makeEmpty_E, t3]
          · clear R I U R2 R3 I2 es hup huz hdb t3 t4 hsum f2 vE dE fE e2 e4 hN
            simp (disch := (first | assumption | omega | decide | (simp only [mK_uI, mK_uP, mL_uI, mL_uP, mK_wI, mL_wI, mK_nA_e, mL_nA_e] <;> (first | assumption | omega)))) only [i3_le_t, i3_le_f, i3_lt_t, i3_lt_f, i3_eq_t, i3_eq_f, i3_add, i3_mul, i3_sub, i3_div, i3_dec, i3_m1, m1_i3, m1_eq, i3_ge0, m1_lt, i3_le_m1, ↓reduceIte, rZ_0, rZ_1, bdR_s, bdW_s, ifN_n, ifN_s, uS_n, uS_e, uS_d, ↓mgF_s, ↓mpF_s, ↓mgA_2, ↓mgA_4, ↓mgA_6, ↓mgA_7, ↓mgA_9, ↓mgA_10, ↓mgA_12, ↓mgA_14, ↓mgA_15, ↓mgA_16, ↓mgA_17, ↓mgA_18, ↓mgA_19, ↓mgA_20, ↓mgA_21, ↓mgA_22, ↓mgA_23, ↓mgA_24, ↓mgA_25, ↓mgA_26, ↓mgA_27, ↓mgA_28, ↓mgA_29, ↓mgA_30, ↓mgA_31, ↓mgA_32, ↓mgA_33, ↓mgA_34, ↓mgA_35, ↓mgA_36, ↓mgA_37, ↓mgA_38, ↓mgA_39, ↓mgA_41, ↓mgA_42, ↓mgA_43, ↓mgA_44, ↓mgA_45, ↓mgA_46, ↓mpA_2, ↓mpA_4, ↓mpA_6, ↓mpA_7, ↓mpA_9, ↓mpA_10, ↓mpA_12, ↓mpA_14, ↓mpA_15, ↓mpA_16, ↓mpZ_17, ↓mpA_18, ↓mpZ_19, ↓mpA_20, ↓mpA_21, ↓mpA_22, ↓mpA_23, ↓mpA_24, ↓mpZ_25, ↓mpA_26, ↓mpA_27, ↓mpA_28, ↓mpA_29, ↓mpA_30, ↓mpA_31, ↓mpA_32, ↓mpA_33, ↓mpA_34, ↓mpZ_35, ↓mpA_36, ↓mpA_37, ↓mpA_38, ↓mpA_39, ↓mpA_41, ↓mpA_42, ↓mpZ_43, ↓mpA_44, ↓mpA_45, ↓mpA_46, fMd_piece_E, p1, p2, t2, i44, hP, hD, hD0, fMd_piece_j47_E, fMd_piece_j91_E, m_holds0, ml]
        · refine OPR.err R I 2 3 (v := i3 0) ?_ ?_ rfl (by omega) (by omega)
          · clear R I U
            simp (disch := (first | assumption | omega | decide | (simp only [mK_uI, mK_uP, mL_uI, mL_uP, mK_wI, mL_wI, mK_nA_e, mL_nA_e] <;> (first | assumption | omega)))) only [i3_le_t, i3_le_f, i3_lt_t, i3_lt_f, i3_eq_t, i3_eq_f, i3_add, i3_mul, i3_sub, i3_div, i3_dec, i3_m1, m1_i3, m1_eq, i3_ge0, m1_lt, i3_le_m1, ↓reduceIte, rZ_0, rZ_1, bdR_s, bdW_s, ifN_n, ifN_s, ↓fgI_s, ↓fgR_s, ↓rk_s, ↓fpI_s, ↓fpR_s, ↓fpZ_0, ↓fpZ_1, ↓alI_i, ↓alP_i, ↓asI_i, ↓asB_i, ↓asZ_0, ↓asZ_1, ↓aln_i, ↓fca_s, ↓fca_n, bdC_li, bdC_ri, mK_uI, mK_uP, mL_uI, mL_uP, mP_uI, mI_uP, mK_wI, mL_wI, mP_wI, mI_uI_e, mI_uI_c, nwO_s, mK_nA_e, mL_nA_e, fHb_piece_E, q1, q2, w1, w3, fHb_piece_j28_E, c_st1, t1, mo, fHb_piece_j59_E, c_st0]
          · clear R I U
            simp (disch := (first | assumption | omega | decide | (simp only [mK_uI, mK_uP, mL_uI, mL_uP, mK_wI, mL_wI, mK_nA_e, mL_nA_e] <;> (first | assumption | omega)))) only [i3_le_t, i3_le_f, i3_lt_t, i3_lt_f, i3_eq_t, i3_eq_f, i3_add, i3_mul, i3_sub, i3_div, i3_dec, i3_m1, m1_i3, m1_eq, i3_ge0, m1_lt, i3_le_m1, ↓reduceIte, rZ_0, rZ_1, bdR_s, bdW_s, ifN_n, ifN_s, uS_n, uS_e, uS_d, ↓mgF_s, ↓mpF_s, ↓mgA_2, ↓mgA_4, ↓mgA_6, ↓mgA_7, ↓mgA_9, ↓mgA_10, ↓mgA_12, ↓mgA_14, ↓mgA_15, ↓mgA_16, ↓mgA_17, ↓mgA_18, ↓mgA_19, ↓mgA_20, ↓mgA_21, ↓mgA_22, ↓mgA_23, ↓mgA_24, ↓mgA_25, ↓mgA_26, ↓mgA_27, ↓mgA_28, ↓mgA_29, ↓mgA_30, ↓mgA_31, ↓mgA_32, ↓mgA_33, ↓mgA_34, ↓mgA_35, ↓mgA_36, ↓mgA_37, ↓mgA_38, ↓mgA_39, ↓mgA_41, ↓mgA_42, ↓mgA_43, ↓mgA_44, ↓mgA_45, ↓mgA_46, ↓mpA_2, ↓mpA_4, ↓mpA_6, ↓mpA_7, ↓mpA_9, ↓mpA_10, ↓mpA_12, ↓mpA_14, ↓mpA_15, ↓mpA_16, ↓mpZ_17, ↓mpA_18, ↓mpZ_19, ↓mpA_20, ↓mpA_21, ↓mpA_22, ↓mpA_23, ↓mpA_24, ↓mpZ_25, ↓mpA_26, ↓mpA_27, ↓mpA_28, ↓mpA_29, ↓mpA_30, ↓mpA_31, ↓mpA_32, ↓mpA_33, ↓mpA_34, ↓mpZ_35, ↓mpA_36, ↓mpA_37, ↓mpA_38, ↓mpA_39, ↓mpA_41, ↓mpA_42, ↓mpZ_43, ↓mpA_44, ↓mpA_45, ↓mpA_46, fMd_piece_E, p1, p2, t2, i44, hP, hD, hD0, fMd_piece_j47_E, fMd_piece_j86_E, fMd_piece_j91_E, m_holdsk]
    · have q2 := noR_c (M := M) (n := n) hy (by omega) (by omega)
      have p2 := noR_m hy (by omega) (by omega)
      refine OPR.err R I 1 2 (v := i3 0) ?_ ?_ rfl (by omega) (by omega)
      · clear R I
        simp (disch := (first | assumption | omega | decide | (simp only [mK_uI, mK_uP, mL_uI, mL_uP, mK_wI, mL_wI, mK_nA_e, mL_nA_e] <;> (first | assumption | omega)))) only [i3_le_t, i3_le_f, i3_lt_t, i3_lt_f, i3_eq_t, i3_eq_f, i3_add, i3_mul, i3_sub, i3_div, i3_dec, i3_m1, m1_i3, m1_eq, i3_ge0, m1_lt, i3_le_m1, ↓reduceIte, rZ_0, rZ_1, bdR_s, bdW_s, ifN_n, ifN_s, ↓fgI_s, ↓fgR_s, ↓rk_s, ↓fpI_s, ↓fpR_s, ↓fpZ_0, ↓fpZ_1, ↓alI_i, ↓alP_i, ↓asI_i, ↓asB_i, ↓asZ_0, ↓asZ_1, ↓aln_i, ↓fca_s, ↓fca_n, bdC_li, bdC_ri, mK_uI, mK_uP, mL_uI, mL_uP, mP_uI, mI_uP, mK_wI, mL_wI, mP_wI, mI_uI_e, mI_uI_c, nwO_s, mK_nA_e, mL_nA_e, fHb_piece_E, q1, q2]
      · clear R I
        simp (disch := (first | assumption | omega | decide | (simp only [mK_uI, mK_uP, mL_uI, mL_uP, mK_wI, mL_wI, mK_nA_e, mL_nA_e] <;> (first | assumption | omega)))) only [i3_le_t, i3_le_f, i3_lt_t, i3_lt_f, i3_eq_t, i3_eq_f, i3_add, i3_mul, i3_sub, i3_div, i3_dec, i3_m1, m1_i3, m1_eq, i3_ge0, m1_lt, i3_le_m1, ↓reduceIte, rZ_0, rZ_1, bdR_s, bdW_s, ifN_n, ifN_s, uS_n, uS_e, uS_d, ↓mgF_s, ↓mpF_s, ↓mgA_2, ↓mgA_4, ↓mgA_6, ↓mgA_7, ↓mgA_9, ↓mgA_10, ↓mgA_12, ↓mgA_14, ↓mgA_15, ↓mgA_16, ↓mgA_17, ↓mgA_18, ↓mgA_19, ↓mgA_20, ↓mgA_21, ↓mgA_22, ↓mgA_23, ↓mgA_24, ↓mgA_25, ↓mgA_26, ↓mgA_27, ↓mgA_28, ↓mgA_29, ↓mgA_30, ↓mgA_31, ↓mgA_32, ↓mgA_33, ↓mgA_34, ↓mgA_35, ↓mgA_36, ↓mgA_37, ↓mgA_38, ↓mgA_39, ↓mgA_41, ↓mgA_42, ↓mgA_43, ↓mgA_44, ↓mgA_45, ↓mgA_46, ↓mpA_2, ↓mpA_4, ↓mpA_6, ↓mpA_7, ↓mpA_9, ↓mpA_10, ↓mpA_12, ↓mpA_14, ↓mpA_15, ↓mpA_16, ↓mpZ_17, ↓mpA_18, ↓mpZ_19, ↓mpA_20, ↓mpA_21, ↓mpA_22, ↓mpA_23, ↓mpA_24, ↓mpZ_25, ↓mpA_26, ↓mpA_27, ↓mpA_28, ↓mpA_29, ↓mpA_30, ↓mpA_31, ↓mpA_32, ↓mpA_33, ↓mpA_34, ↓mpZ_35, ↓mpA_36, ↓mpA_37, ↓mpA_38, ↓mpA_39, ↓mpA_41, ↓mpA_42, ↓mpZ_43, ↓mpA_44, ↓mpA_45, ↓mpA_46, fMd_piece_E, p1, p2, fMd_piece_j46_E, fMd_piece_j47_E, fMd_piece_j91_E, m_holdsk]
end PC

set_option maxRecDepth 100000
/-! rot, sweep -/
section RO
variable {h c n r : Nat} {own : Nat → Nat} {B : BK} {σ σ' : Sg} {M M' : Mm}
theorem IV.setg (I : IV c σ) (e : ∀ k, ¬ (k = 23 ∨ k = 24 ∨ k = 25) → σ' k = σ k) (np : ∀ r, r < 2 → ∀ p, p < nv (σ 18 r) → (∀ s, s < 5 → σ' 23 (5 * (90 * r + p) + s) = m1 ∨ NB 5 (σ' 23 (5 * (90 * r + p) + s))) ∧ (∀ s, s < 5 → NB 1 (σ' 25 (5 * (90 * r + p) + s)) ∧ (σ' 25 (5 * (90 * r + p) + s) = i3 1 → σ' 23 (5 * (90 * r + p) + s) ≠ m1)) ∧ ∀ s, s < 5 → σ' 23 (5 * (90 * r + p) + s) ≠ m1 → σ' 25 (5 * (90 * r + p) + s) = i3 0 → ∀ k, k < 2 → σ' 24 (10 * (90 * r + p) + (2 * s + k)) = i3 (mde (nv (σ 21 (90 * r + p))) (fun j => σ 22 (6 * (90 * r + p) + j)) s k)) : IV c σ' := by
  have hpo : ∀ r, r < 2 → ∀ p, p < nv (σ 18 r) → IVP (fun k => if k = 23 ∨ k = 24 ∨ k = 25 then σ' k else σ k) r (90 * r + p) ∧ nv (σ 20 (90 * r + p)) = uses (σ 33) (σ 34) r p (nv (σ 26 r)) := fun r0 hr0 p0 hp0 => by
    obtain ⟨X, x2⟩ := I.po r0 hr0 p0 hp0
    obtain ⟨y1, y2, y3⟩ := np r0 hr0 p0 hp0
    exact ⟨⟨X.ct, X.l1, X.lo, X.by, X.sw, y1, y2, y3⟩, x2⟩
  have Z : IV c (fun k => if k = 23 ∨ k = 24 ∨ k = 25 then σ' k else σ k) := ⟨I.dr, I.db, I.ev, I.dy, I.dc, I.en, I.vn, I.vo, I.vi, I.hd, I.kn, I.ks, I.ko, I.pn, hpo, I.dn, I.un, I.uo, I.uz, I.up, I.rn, I.rk⟩
  have es : (fun k => if k = 23 ∨ k = 24 ∨ k = 25 then σ' k else σ k) = σ' := funext fun k => by
    by_cases z : k = 23 ∨ k = 24 ∨ k = 25
    · rw [if_pos z]
    · rw [if_neg z]; exact (e k z).symm
  rw [es] at Z
  exact Z
theorem IV.p90 (I : IV c σ) : ∀ r, r < 2 → nv (σ 18 r) ≤ 90 := fun r hr => (I.pn r hr).2
theorem c_spoil {a s : Nat} (A : PRT own M a r) (hs : s < 5) : ∃ w0 w1, fPart_spoil a (i3 s) M = some ((), uI (uI (uI M 0 (a + 4) s (i3 1)) 0 (a + 2) (s * 2) w0) 0 (a + 2) (s * 2 + 1) w1) := by
  have k := A.k
  have p3 := A.p3
  have p5 := A.p5
  have k2 := A.k2
  have l2 := A.l2
  have k4 := A.k4
  have l4 := A.l4
  have st : ∀ f, fPart_spoil_l18 a (f + 1 + 1 + 1) (i3 s) (i3 0) (uI M 0 (a + 4) s (i3 1)) = some ((), uI (uI (uI M 0 (a + 4) s (i3 1)) 0 (a + 2) (s * 2) (i3 15 - mI (uI M 0 (a + 4) s (i3 1)) 0 (a + 2) (s * 2)).toInt8.toInt32.toInt8.toInt32) 0 (a + 2) (s * 2 + 1) (i3 15 - mI (uI (uI M 0 (a + 4) s (i3 1)) 0 (a + 2) (s * 2) (i3 15 - mI (uI M 0 (a + 4) s (i3 1)) 0 (a + 2) (s * 2)).toInt8.toInt32.toInt8.toInt32) 0 (a + 2) (s * 2 + 1)).toInt8.toInt32.toInt8.toInt32) := fun f => by
    clear A
    simp (disch := (first | assumption | omega | decide | (simp only [mK_uI, mK_uP, mL_uI, mL_uP, mK_wI, mL_wI, mK_nA_e, mL_nA_e] <;> (first | assumption | omega)))) only [i3_le_t, i3_le_f, i3_lt_t, i3_lt_f, i3_eq_t, i3_eq_f, i3_add, i3_mul, i3_sub, i3_div, i3_dec, i3_m1, m1_i3, m1_eq, i3_ge0, m1_lt, i3_le_m1, ↓reduceIte, rZ_0, rZ_1, bdR_s, bdW_s, ifN_n, ifN_s, ↓fgI_s, ↓fgR_s, ↓rk_s, ↓fpI_s, ↓fpR_s, ↓fpZ_0, ↓fpZ_1, ↓alI_i, ↓alP_i, ↓asI_i, ↓asB_i, ↓asZ_0, ↓asZ_1, ↓aln_i, ↓fca_s, ↓fca_n, bdC_li, bdC_ri, mK_uI, mK_uP, mL_uI, mL_uP, mP_uI, mI_uP, mK_wI, mL_wI, mP_wI, mI_uI_e, mI_uI_c, nwO_s, mK_nA_e, mL_nA_e, fPart_spoil_l18_S, fPart_spoil_b18_E, fPart_shardByte_E, fPart_setShardByte_E, p3, l2, Nat.add_zero, Nat.zero_add]
  have e0 : fPart_spoil a (i3 s) M = fPart_spoil_l18 a FU (i3 s) (i3 0) (uI M 0 (a + 4) s (i3 1)) := by
    clear A st
    simp (disch := (first | assumption | omega | decide | (simp only [mK_uI, mK_uP, mL_uI, mL_uP, mK_wI, mL_wI, mK_nA_e, mL_nA_e] <;> (first | assumption | omega)))) only [i3_le_t, i3_le_f, i3_lt_t, i3_lt_f, i3_eq_t, i3_eq_f, i3_add, i3_mul, i3_sub, i3_div, i3_dec, i3_m1, m1_i3, m1_eq, i3_ge0, m1_lt, i3_le_m1, ↓reduceIte, rZ_0, rZ_1, bdR_s, bdW_s, ifN_n, ifN_s, ↓fgI_s, ↓fgR_s, ↓rk_s, ↓fpI_s, ↓fpR_s, ↓fpZ_0, ↓fpZ_1, ↓alI_i, ↓alP_i, ↓asI_i, ↓asB_i, ↓asZ_0, ↓asZ_1, ↓aln_i, ↓fca_s, ↓fca_n, bdC_li, bdC_ri, mK_uI, mK_uP, mL_uI, mL_uP, mP_uI, mI_uP, mK_wI, mL_wI, mP_wI, mI_uI_e, mI_uI_c, nwO_s, mK_nA_e, mL_nA_e, fPart_spoil_E, p5, l4]
  exact ⟨_, _, e0.trans (st 99997)⟩
theorem op_rot (R : RR h own B σ M n) (I : IV c σ) (x1 x2 x3 : Int32) : OPR h c σ n (fHb_rot h x1 x2 x3 M n) (fMd_rot x1 x2 x3 σ) (cdf 1 2 0) := by
  have k := R.hb.k
  have hn : n ≤ n + 1 := Nat.le_succ n
  rcases part_cases R I x1 x2 with ⟨q1, q2⟩ | ⟨r, hr, q1, q3, q4, q5, q2⟩ | ⟨r, p, hr, hp, hp90, rfl, rfl, q1, q3, q4, q5, q2, hw⟩
  · refine OPR.err R I 0 1 (v := i3 0) ?_ ?_ rfl (by omega) (by omega)
    · simp (disch := (first | assumption | omega | decide | (simp only [mK_uI, mK_uP, mL_uI, mL_uP, mK_wI, mL_wI, mK_nA_e, mL_nA_e] <;> (first | assumption | omega)))) only [i3_le_t, i3_le_f, i3_lt_t, i3_lt_f, i3_eq_t, i3_eq_f, i3_add, i3_mul, i3_sub, i3_div, i3_dec, i3_m1, m1_i3, m1_eq, i3_ge0, m1_lt, i3_le_m1, ↓reduceIte, rZ_0, rZ_1, bdR_s, bdW_s, ifN_n, ifN_s, ↓fgI_s, ↓fgR_s, ↓rk_s, ↓fpI_s, ↓fpR_s, ↓fpZ_0, ↓fpZ_1, ↓alI_i, ↓alP_i, ↓asI_i, ↓asB_i, ↓asZ_0, ↓asZ_1, ↓aln_i, ↓fca_s, ↓fca_n, bdC_li, bdC_ri, mK_uI, mK_uP, mL_uI, mL_uP, mP_uI, mI_uP, mK_wI, mL_wI, mP_wI, mI_uI_e, mI_uI_c, nwO_s, mK_nA_e, mL_nA_e, fHb_rot_E, q1]
    · simp (disch := (first | assumption | omega | decide | (simp only [mK_uI, mK_uP, mL_uI, mL_uP, mK_wI, mL_wI, mK_nA_e, mL_nA_e] <;> (first | assumption | omega)))) only [i3_le_t, i3_le_f, i3_lt_t, i3_lt_f, i3_eq_t, i3_eq_f, i3_add, i3_mul, i3_sub, i3_div, i3_dec, i3_m1, m1_i3, m1_eq, i3_ge0, m1_lt, i3_le_m1, ↓reduceIte, rZ_0, rZ_1, bdR_s, bdW_s, ifN_n, ifN_s, uS_n, uS_e, uS_d, ↓mgF_s, ↓mpF_s, ↓mgA_2, ↓mgA_4, ↓mgA_6, ↓mgA_7, ↓mgA_9, ↓mgA_10, ↓mgA_12, ↓mgA_14, ↓mgA_15, ↓mgA_16, ↓mgA_17, ↓mgA_18, ↓mgA_19, ↓mgA_20, ↓mgA_21, ↓mgA_22, ↓mgA_23, ↓mgA_24, ↓mgA_25, ↓mgA_26, ↓mgA_27, ↓mgA_28, ↓mgA_29, ↓mgA_30, ↓mgA_31, ↓mgA_32, ↓mgA_33, ↓mgA_34, ↓mgA_35, ↓mgA_36, ↓mgA_37, ↓mgA_38, ↓mgA_39, ↓mgA_41, ↓mgA_42, ↓mgA_43, ↓mgA_44, ↓mgA_45, ↓mgA_46, ↓mpA_2, ↓mpA_4, ↓mpA_6, ↓mpA_7, ↓mpA_9, ↓mpA_10, ↓mpA_12, ↓mpA_14, ↓mpA_15, ↓mpA_16, ↓mpZ_17, ↓mpA_18, ↓mpZ_19, ↓mpA_20, ↓mpA_21, ↓mpA_22, ↓mpA_23, ↓mpA_24, ↓mpZ_25, ↓mpA_26, ↓mpA_27, ↓mpA_28, ↓mpA_29, ↓mpA_30, ↓mpA_31, ↓mpA_32, ↓mpA_33, ↓mpA_34, ↓mpZ_35, ↓mpA_36, ↓mpA_37, ↓mpA_38, ↓mpA_39, ↓mpA_41, ↓mpA_42, ↓mpZ_43, ↓mpA_44, ↓mpA_45, ↓mpA_46, fMd_rot_E, q2, fMd_rot_j28_E, m_holdsk]
  · refine OPR.err R I 0 1 (v := i3 0) ?_ ?_ rfl (by omega) (by omega)
    · simp (disch := (first | assumption | omega | decide | (simp only [mK_uI, mK_uP, mL_uI, mL_uP, mK_wI, mL_wI, mK_nA_e, mL_nA_e] <;> (first | assumption | omega)))) only [i3_le_t, i3_le_f, i3_lt_t, i3_lt_f, i3_eq_t, i3_eq_f, i3_add, i3_mul, i3_sub, i3_div, i3_dec, i3_m1, m1_i3, m1_eq, i3_ge0, m1_lt, i3_le_m1, ↓reduceIte, rZ_0, rZ_1, bdR_s, bdW_s, ifN_n, ifN_s, ↓fgI_s, ↓fgR_s, ↓rk_s, ↓fpI_s, ↓fpR_s, ↓fpZ_0, ↓fpZ_1, ↓alI_i, ↓alP_i, ↓asI_i, ↓asB_i, ↓asZ_0, ↓asZ_1, ↓aln_i, ↓fca_s, ↓fca_n, bdC_li, bdC_ri, mK_uI, mK_uP, mL_uI, mL_uP, mP_uI, mI_uP, mK_wI, mL_wI, mP_wI, mI_uI_e, mI_uI_c, nwO_s, mK_nA_e, mL_nA_e, fHb_rot_E, q1, q4, q5]
    · simp (disch := (first | assumption | omega | decide | (simp only [mK_uI, mK_uP, mL_uI, mL_uP, mK_wI, mL_wI, mK_nA_e, mL_nA_e] <;> (first | assumption | omega)))) only [i3_le_t, i3_le_f, i3_lt_t, i3_lt_f, i3_eq_t, i3_eq_f, i3_add, i3_mul, i3_sub, i3_div, i3_dec, i3_m1, m1_i3, m1_eq, i3_ge0, m1_lt, i3_le_m1, ↓reduceIte, rZ_0, rZ_1, bdR_s, bdW_s, ifN_n, ifN_s, uS_n, uS_e, uS_d, ↓mgF_s, ↓mpF_s, ↓mgA_2, ↓mgA_4, ↓mgA_6, ↓mgA_7, ↓mgA_9, ↓mgA_10, ↓mgA_12, ↓mgA_14, ↓mgA_15, ↓mgA_16, ↓mgA_17, ↓mgA_18, ↓mgA_19, ↓mgA_20, ↓mgA_21, ↓mgA_22, ↓mgA_23, ↓mgA_24, ↓mgA_25, ↓mgA_26, ↓mgA_27, ↓mgA_28, ↓mgA_29, ↓mgA_30, ↓mgA_31, ↓mgA_32, ↓mgA_33, ↓mgA_34, ↓mgA_35, ↓mgA_36, ↓mgA_37, ↓mgA_38, ↓mgA_39, ↓mgA_41, ↓mgA_42, ↓mgA_43, ↓mgA_44, ↓mgA_45, ↓mgA_46, ↓mpA_2, ↓mpA_4, ↓mpA_6, ↓mpA_7, ↓mpA_9, ↓mpA_10, ↓mpA_12, ↓mpA_14, ↓mpA_15, ↓mpA_16, ↓mpZ_17, ↓mpA_18, ↓mpZ_19, ↓mpA_20, ↓mpA_21, ↓mpA_22, ↓mpA_23, ↓mpA_24, ↓mpZ_25, ↓mpA_26, ↓mpA_27, ↓mpA_28, ↓mpA_29, ↓mpA_30, ↓mpA_31, ↓mpA_32, ↓mpA_33, ↓mpA_34, ↓mpZ_35, ↓mpA_36, ↓mpA_37, ↓mpA_38, ↓mpA_39, ↓mpA_41, ↓mpA_42, ↓mpZ_43, ↓mpA_44, ↓mpA_45, ↓mpA_46, fMd_rot_E, q2, fMd_rot_j28_E, m_holdsk]
  · have A := R.po r hr p hp
    have a1 := A.b.k
    by_cases hx : inR x3 0 4
    · have q6 := inR_c (M := M) (n := n) hx (by omega)
      have q7 := inR_m hx (by omega)
      obtain ⟨s, -, hs, rfl⟩ := hx
      have b1 := c_isGood R hr hp (s := s) (by omega) hw
      have b2 : fMd_isGood (i3 (90 * r + p)) (i3 s) (uS σ 0 0 (i3 0)) = some (if gdb σ (90 * r + p) s = true then i3 1 else i3 0) := m_isGood (σ := uS σ 0 0 (i3 0)) (a := 90 * r + p) (by omega) (by omega)
      by_cases z : gdb σ (90 * r + p) s = true
      · rw [if_pos z] at b1 b2
        have z2 := of_decide_eq_true z
        have z3 := z2.1
        obtain ⟨w0, w1, b3⟩ := c_spoil A.b (s := s) (by omega)
        refine ⟨.inl (i3 1), uI (uI (uI M 0 (pa B r p + 4) s (i3 1)) 0 (pa B r p + 2) (s * 2) w0) 0 (pa B r p + 2) (s * 2 + 1) w1, n, i3 1, uS (uS σ 0 0 (i3 0)) 25 (5 * (90 * r + p) + s) (i3 1), ?_, ?_, ⟨rfl, rfl⟩, Nat.le_refl n, POT.same (by omega) (by omega) rfl rfl rfl, own, B, ?_, ?_⟩
        · clear R I A
          simp (disch := (first | assumption | omega | decide | (simp only [mK_uI, mK_uP, mL_uI, mL_uP, mK_wI, mL_wI, mK_nA_e, mL_nA_e] <;> (first | assumption | omega)))) only [i3_le_t, i3_le_f, i3_lt_t, i3_lt_f, i3_eq_t, i3_eq_f, i3_add, i3_mul, i3_sub, i3_div, i3_dec, i3_m1, m1_i3, m1_eq, i3_ge0, m1_lt, i3_le_m1, ↓reduceIte, rZ_0, rZ_1, bdR_s, bdW_s, ifN_n, ifN_s, ↓fgI_s, ↓fgR_s, ↓rk_s, ↓fpI_s, ↓fpR_s, ↓fpZ_0, ↓fpZ_1, ↓alI_i, ↓alP_i, ↓asI_i, ↓asB_i, ↓asZ_0, ↓asZ_1, ↓aln_i, ↓fca_s, ↓fca_n, bdC_li, bdC_ri, mK_uI, mK_uP, mL_uI, mL_uP, mP_uI, mI_uP, mK_wI, mL_wI, mP_wI, mI_uI_e, mI_uI_c, nwO_s, mK_nA_e, mL_nA_e, fHb_rot_E, q1, q4, q5, q6, b1, b3]
        · clear R I A
          simp (disch := (first | assumption | omega | decide | (simp only [mK_uI, mK_uP, mL_uI, mL_uP, mK_wI, mL_wI, mK_nA_e, mL_nA_e] <;> (first | assumption | omega)))) only [i3_le_t, i3_le_f, i3_lt_t, i3_lt_f, i3_eq_t, i3_eq_f, i3_add, i3_mul, i3_sub, i3_div, i3_dec, i3_m1, m1_i3, m1_eq, i3_ge0, m1_lt, i3_le_m1, ↓reduceIte, rZ_0, rZ_1, bdR_s, bdW_s, ifN_n, ifN_s, uS_n, uS_e, uS_d, ↓mgF_s, ↓mpF_s, ↓mgA_2, ↓mgA_4, ↓mgA_6, ↓mgA_7, ↓mgA_9, ↓mgA_10, ↓mgA_12, ↓mgA_14, ↓mgA_15, ↓mgA_16, ↓mgA_17, ↓mgA_18, ↓mgA_19, ↓mgA_20, ↓mgA_21, ↓mgA_22, ↓mgA_23, ↓mgA_24, ↓mgA_25, ↓mgA_26, ↓mgA_27, ↓mgA_28, ↓mgA_29, ↓mgA_30, ↓mgA_31, ↓mgA_32, ↓mgA_33, ↓mgA_34, ↓mgA_35, ↓mgA_36, ↓mgA_37, ↓mgA_38, ↓mgA_39, ↓mgA_41, ↓mgA_42, ↓mgA_43, ↓mgA_44, ↓mgA_45, ↓mgA_46, ↓mpA_2, ↓mpA_4, ↓mpA_6, ↓mpA_7, ↓mpA_9, ↓mpA_10, ↓mpA_12, ↓mpA_14, ↓mpA_15, ↓mpA_16, ↓mpZ_17, ↓mpA_18, ↓mpZ_19, ↓mpA_20, ↓mpA_21, ↓mpA_22, ↓mpA_23, ↓mpA_24, ↓mpZ_25, ↓mpA_26, ↓mpA_27, ↓mpA_28, ↓mpA_29, ↓mpA_30, ↓mpA_31, ↓mpA_32, ↓mpA_33, ↓mpA_34, ↓mpZ_35, ↓mpA_36, ↓mpA_37, ↓mpA_38, ↓mpA_39, ↓mpA_41, ↓mpA_42, ↓mpZ_43, ↓mpA_44, ↓mpA_45, ↓mpA_46, fMd_rot_E, q2, q7, fMd_rot_j28_E, m_holds0, b2, z3, fMd_rot_j83_E]
        · have f : IOS (fun _ x => pa B r p ≤ x ∧ x ≤ pa B r p + 4) M (uI (uI (uI M 0 (pa B r p + 4) s (i3 1)) 0 (pa B r p + 2) (s * 2) w0) 0 (pa B r p + 2) (s * 2 + 1) w1) := (((IOS.uI _ _ _ _).trans (IOS.uI _ _ _ _)).trans (IOS.uI _ _ _ _)).mono fun cc a z => by omega
          have X : RR h own B (uS σ 25 (5 * (90 * r + p) + s) (i3 1)) (uI (uI (uI M 0 (pa B r p + 4) s (i3 1)) 0 (pa B r p + 2) (s * 2) w0) 0 (pa B r p + 2) (s * 2 + 1) w1) n := by
            refine R.setp hr hp I.p90 f (fun k hk => uS_n _ _ _ (fun w => hk (by unfold PTF; omega))) (fun a ha => ⟨rfl, rfl, fun s' hs' => ⟨rfl, uS_d _ _ _ _ (by omega)⟩, fun j hj => rfl⟩) ?_
            refine ⟨A.b, A.nu, A.lo, A.ct, A.sw, fun j hj => ?_, fun s' hs' => ?_, fun s' hs' y1 y2 => ?_, fun s' hs' y1 y2 y3 k hk => ?_⟩
            · rw [mI_uI_a _ _ _ _ (by omega), mI_uI_a _ _ _ _ (by omega), mI_uI_a _ _ _ _ (by omega)]; exact A.by j hj
            · rw [mI_uI_a _ _ _ _ (by omega), mI_uI_a _ _ _ _ (by omega), mI_uI_a _ _ _ _ (by omega)]; exact A.nd s' hs'
            · rw [mI_uI_a _ _ _ _ (by omega), mI_uI_a _ _ _ _ (by omega)]
              show _ = uS σ 25 (5 * (90 * r + p) + s) (i3 1) 25 (5 * (90 * r + p) + s')
              by_cases e : s' = s
              · subst e; rw [mI_uI_e, uS_e]
              · rw [mI_uI_j _ _ _ _ e, uS_d _ _ _ _ (by omega)]; exact A.ro s' hs' y1 y2
            · have y3 : uS σ 25 (5 * (90 * r + p) + s) (i3 1) 25 (5 * (90 * r + p) + s') = i3 0 := y3
              by_cases e : s' = s
              · subst e; rw [uS_e] at y3; exact absurd y3 (by decide)
              · rw [uS_d _ _ _ _ (by omega)] at y3
                rw [mI_uI_j _ _ _ _ (by omega), mI_uI_j _ _ _ _ (by omega), mI_uI_a _ _ _ _ (by omega)]
                exact A.sb s' hs' y1 y2 y3 k hk
          exact X.scf fun k hk => funext fun j => by
            show (if k = 25 ∧ j = 5 * (90 * r + p) + s then i3 1 else uS σ 0 0 (i3 0) k j) = (if k = 25 ∧ j = 5 * (90 * r + p) + s then i3 1 else σ k j)
            rw [scf0 (i3 0) k hk]
        · have Y : IV c (uS σ 25 (5 * (90 * r + p) + s) (i3 1)) := by
            refine I.setg (fun k hk => uS_n _ _ _ (by omega)) fun r0 hr0 p0 hp0 => ?_
            obtain ⟨X, x2⟩ := I.po r0 hr0 p0 hp0
            refine ⟨X.nd, fun s' hs' => ?_, fun s' hs' y1 y2 => ?_⟩
            · by_cases e : 5 * (90 * r0 + p0) + s' = 5 * (90 * r + p) + s
              · rw [e, uS_e]; exact ⟨NB.of (by omega) (by omega), fun _ => z3⟩
              · rw [uS_d _ _ _ _ e]; exact X.ro s' hs'
            · by_cases e : 5 * (90 * r0 + p0) + s' = 5 * (90 * r + p) + s
              · rw [e, uS_e] at y2; exact absurd y2 (by decide)
              · rw [uS_d _ _ _ _ e] at y2; exact X.sb s' hs' y1 y2
          refine (Y.scf fun k hk => funext fun j => ?_).up0
          show (if k = 25 ∧ j = 5 * (90 * r + p) + s then i3 1 else uS σ 0 0 (i3 0) k j) = (if k = 25 ∧ j = 5 * (90 * r + p) + s then i3 1 else σ k j)
          rw [scf0 (i3 0) k hk]
      · rw [if_neg z] at b1 b2
        obtain ⟨X, -⟩ := I.po r hr p hp
        have rr := X.ro s (by omega)
        have same : ∀ v, v = σ 25 (5 * (90 * r + p) + s) → ∀ k, ¬ SCF k → uS (uS σ 0 0 (i3 0)) 25 (5 * (90 * r + p) + s) v k = σ k := fun v hv k hk => funext fun j => by
          show (if k = 25 ∧ j = 5 * (90 * r + p) + s then v else uS σ 0 0 (i3 0) k j) = σ k j
          by_cases e : k = 25 ∧ j = 5 * (90 * r + p) + s
          · rw [if_pos e, hv, e.1, e.2]
          · rw [if_neg e, scf0 (i3 0) k hk]
        by_cases y : σ 23 (5 * (90 * r + p) + s) = m1
        · have y2 : σ 25 (5 * (90 * r + p) + s) = i3 0 := by
            obtain ⟨q, hq, hqe⟩ := rr.1.to
            rcases (by omega : q = 0 ∨ q = 1) with rfl | rfl
            · exact hqe
            · exact absurd y (rr.2 hqe)
          refine OPR.same0 R I (o := .inl (i3 0)) (v := i3 0) (n' := n) (σ' := uS (uS σ 0 0 (i3 0)) 25 (5 * (90 * r + p) + s) (i3 0)) ?_ ?_ (same _ y2.symm) ⟨rfl, rfl⟩ (by omega) (by omega)
          · clear R I A X rr
            simp (disch := (first | assumption | omega | decide | (simp only [mK_uI, mK_uP, mL_uI, mL_uP, mK_wI, mL_wI, mK_nA_e, mL_nA_e] <;> (first | assumption | omega)))) only [i3_le_t, i3_le_f, i3_lt_t, i3_lt_f, i3_eq_t, i3_eq_f, i3_add, i3_mul, i3_sub, i3_div, i3_dec, i3_m1, m1_i3, m1_eq, i3_ge0, m1_lt, i3_le_m1, ↓reduceIte, rZ_0, rZ_1, bdR_s, bdW_s, ifN_n, ifN_s, ↓fgI_s, ↓fgR_s, ↓rk_s, ↓fpI_s, ↓fpR_s, ↓fpZ_0, ↓fpZ_1, ↓alI_i, ↓alP_i, ↓asI_i, ↓asB_i, ↓asZ_0, ↓asZ_1, ↓aln_i, ↓fca_s, ↓fca_n, bdC_li, bdC_ri, mK_uI, mK_uP, mL_uI, mL_uP, mP_uI, mI_uP, mK_wI, mL_wI, mP_wI, mI_uI_e, mI_uI_c, nwO_s, mK_nA_e, mL_nA_e, fHb_rot_E, q1, q4, q5, q6, b1]
          · clear R I A X rr
            simp (disch := (first | assumption | omega | decide | (simp only [mK_uI, mK_uP, mL_uI, mL_uP, mK_wI, mL_wI, mK_nA_e, mL_nA_e] <;> (first | assumption | omega)))) only [i3_le_t, i3_le_f, i3_lt_t, i3_lt_f, i3_eq_t, i3_eq_f, i3_add, i3_mul, i3_sub, i3_div, i3_dec, i3_m1, m1_i3, m1_eq, i3_ge0, m1_lt, i3_le_m1, ↓reduceIte, rZ_0, rZ_1, bdR_s, bdW_s, ifN_n, ifN_s, uS_n, uS_e, uS_d, ↓mgF_s, ↓mpF_s, ↓mgA_2, ↓mgA_4, ↓mgA_6, ↓mgA_7, ↓mgA_9, ↓mgA_10, ↓mgA_12, ↓mgA_14, ↓mgA_15, ↓mgA_16, ↓mgA_17, ↓mgA_18, ↓mgA_19, ↓mgA_20, ↓mgA_21, ↓mgA_22, ↓mgA_23, ↓mgA_24, ↓mgA_25, ↓mgA_26, ↓mgA_27, ↓mgA_28, ↓mgA_29, ↓mgA_30, ↓mgA_31, ↓mgA_32, ↓mgA_33, ↓mgA_34, ↓mgA_35, ↓mgA_36, ↓mgA_37, ↓mgA_38, ↓mgA_39, ↓mgA_41, ↓mgA_42, ↓mgA_43, ↓mgA_44, ↓mgA_45, ↓mgA_46, ↓mpA_2, ↓mpA_4, ↓mpA_6, ↓mpA_7, ↓mpA_9, ↓mpA_10, ↓mpA_12, ↓mpA_14, ↓mpA_15, ↓mpA_16, ↓mpZ_17, ↓mpA_18, ↓mpZ_19, ↓mpA_20, ↓mpA_21, ↓mpA_22, ↓mpA_23, ↓mpA_24, ↓mpZ_25, ↓mpA_26, ↓mpA_27, ↓mpA_28, ↓mpA_29, ↓mpA_30, ↓mpA_31, ↓mpA_32, ↓mpA_33, ↓mpA_34, ↓mpZ_35, ↓mpA_36, ↓mpA_37, ↓mpA_38, ↓mpA_39, ↓mpA_41, ↓mpA_42, ↓mpZ_43, ↓mpA_44, ↓mpA_45, ↓mpA_46, fMd_rot_E, q2, q7, fMd_rot_j28_E, m_holds0, b2, y, fMd_rot_j83_E]
        · have y2 : σ 25 (5 * (90 * r + p) + s) = i3 1 := by
            obtain ⟨q, hq, hqe⟩ := rr.1.to
            rcases (by omega : q = 0 ∨ q = 1) with rfl | rfl
            · exact absurd (decide_eq_true ⟨y, hqe⟩) z
            · exact hqe
          refine OPR.same0 R I (o := .inl (i3 0)) (v := i3 0) (n' := n) (σ' := uS (uS σ 0 0 (i3 0)) 25 (5 * (90 * r + p) + s) (i3 1)) ?_ ?_ (same _ y2.symm) ⟨rfl, rfl⟩ (by omega) (by omega)
          · clear R I A X rr
            simp (disch := (first | assumption | omega | decide | (simp only [mK_uI, mK_uP, mL_uI, mL_uP, mK_wI, mL_wI, mK_nA_e, mL_nA_e] <;> (first | assumption | omega)))) only [i3_le_t, i3_le_f, i3_lt_t, i3_lt_f, i3_eq_t, i3_eq_f, i3_add, i3_mul, i3_sub, i3_div, i3_dec, i3_m1, m1_i3, m1_eq, i3_ge0, m1_lt, i3_le_m1, ↓reduceIte, rZ_0, rZ_1, bdR_s, bdW_s, ifN_n, ifN_s, ↓fgI_s, ↓fgR_s, ↓rk_s, ↓fpI_s, ↓fpR_s, ↓fpZ_0, ↓fpZ_1, ↓alI_i, ↓alP_i, ↓asI_i, ↓asB_i, ↓asZ_0, ↓asZ_1, ↓aln_i, ↓fca_s, ↓fca_n, bdC_li, bdC_ri, mK_uI, mK_uP, mL_uI, mL_uP, mP_uI, mI_uP, mK_wI, mL_wI, mP_wI, mI_uI_e, mI_uI_c, nwO_s, mK_nA_e, mL_nA_e, fHb_rot_E, q1, q4, q5, q6, b1]
          · clear R I A X rr
            simp (disch := (first | assumption | omega | decide | (simp only [mK_uI, mK_uP, mL_uI, mL_uP, mK_wI, mL_wI, mK_nA_e, mL_nA_e] <;> (first | assumption | omega)))) only [i3_le_t, i3_le_f, i3_lt_t, i3_lt_f, i3_eq_t, i3_eq_f, i3_add, i3_mul, i3_sub, i3_div, i3_dec, i3_m1, m1_i3, m1_eq, i3_ge0, m1_lt, i3_le_m1, ↓reduceIte, rZ_0, rZ_1, bdR_s, bdW_s, ifN_n, ifN_s, uS_n, uS_e, uS_d, ↓mgF_s, ↓mpF_s, ↓mgA_2, ↓mgA_4, ↓mgA_6, ↓mgA_7, ↓mgA_9, ↓mgA_10, ↓mgA_12, ↓mgA_14, ↓mgA_15, ↓mgA_16, ↓mgA_17, ↓mgA_18, ↓mgA_19, ↓mgA_20, ↓mgA_21, ↓mgA_22, ↓mgA_23, ↓mgA_24, ↓mgA_25, ↓mgA_26, ↓mgA_27, ↓mgA_28, ↓mgA_29, ↓mgA_30, ↓mgA_31, ↓mgA_32, ↓mgA_33, ↓mgA_34, ↓mgA_35, ↓mgA_36, ↓mgA_37, ↓mgA_38, ↓mgA_39, ↓mgA_41, ↓mgA_42, ↓mgA_43, ↓mgA_44, ↓mgA_45, ↓mgA_46, ↓mpA_2, ↓mpA_4, ↓mpA_6, ↓mpA_7, ↓mpA_9, ↓mpA_10, ↓mpA_12, ↓mpA_14, ↓mpA_15, ↓mpA_16, ↓mpZ_17, ↓mpA_18, ↓mpZ_19, ↓mpA_20, ↓mpA_21, ↓mpA_22, ↓mpA_23, ↓mpA_24, ↓mpZ_25, ↓mpA_26, ↓mpA_27, ↓mpA_28, ↓mpA_29, ↓mpA_30, ↓mpA_31, ↓mpA_32, ↓mpA_33, ↓mpA_34, ↓mpZ_35, ↓mpA_36, ↓mpA_37, ↓mpA_38, ↓mpA_39, ↓mpA_41, ↓mpA_42, ↓mpZ_43, ↓mpA_44, ↓mpA_45, ↓mpA_46, fMd_rot_E, q2, q7, fMd_rot_j28_E, m_holds0, b2, y, fMd_rot_j83_E]
    · have q6 := noR_c (M := M) (n := n) hx (by omega) (by omega)
      have q7 := noR_m hx (by omega) (by omega)
      refine OPR.err R I 1 2 (v := i3 0) ?_ ?_ rfl (by omega) (by omega)
      · simp (disch := (first | assumption | omega | decide | (simp only [mK_uI, mK_uP, mL_uI, mL_uP, mK_wI, mL_wI, mK_nA_e, mL_nA_e] <;> (first | assumption | omega)))) only [i3_le_t, i3_le_f, i3_lt_t, i3_lt_f, i3_eq_t, i3_eq_f, i3_add, i3_mul, i3_sub, i3_div, i3_dec, i3_m1, m1_i3, m1_eq, i3_ge0, m1_lt, i3_le_m1, ↓reduceIte, rZ_0, rZ_1, bdR_s, bdW_s, ifN_n, ifN_s, ↓fgI_s, ↓fgR_s, ↓rk_s, ↓fpI_s, ↓fpR_s, ↓fpZ_0, ↓fpZ_1, ↓alI_i, ↓alP_i, ↓asI_i, ↓asB_i, ↓asZ_0, ↓asZ_1, ↓aln_i, ↓fca_s, ↓fca_n, bdC_li, bdC_ri, mK_uI, mK_uP, mL_uI, mL_uP, mP_uI, mI_uP, mK_wI, mL_wI, mP_wI, mI_uI_e, mI_uI_c, nwO_s, mK_nA_e, mL_nA_e, fHb_rot_E, q1, q4, q5, q6]
      · simp (disch := (first | assumption | omega | decide | (simp only [mK_uI, mK_uP, mL_uI, mL_uP, mK_wI, mL_wI, mK_nA_e, mL_nA_e] <;> (first | assumption | omega)))) only [i3_le_t, i3_le_f, i3_lt_t, i3_lt_f, i3_eq_t, i3_eq_f, i3_add, i3_mul, i3_sub, i3_div, i3_dec, i3_m1, m1_i3, m1_eq, i3_ge0, m1_lt, i3_le_m1, ↓reduceIte, rZ_0, rZ_1, bdR_s, bdW_s, ifN_n, ifN_s, uS_n, uS_e, uS_d, ↓mgF_s, ↓mpF_s, ↓mgA_2, ↓mgA_4, ↓mgA_6, ↓mgA_7, ↓mgA_9, ↓mgA_10, ↓mgA_12, ↓mgA_14, ↓mgA_15, ↓mgA_16, ↓mgA_17, ↓mgA_18, ↓mgA_19, ↓mgA_20, ↓mgA_21, ↓mgA_22, ↓mgA_23, ↓mgA_24, ↓mgA_25, ↓mgA_26, ↓mgA_27, ↓mgA_28, ↓mgA_29, ↓mgA_30, ↓mgA_31, ↓mgA_32, ↓mgA_33, ↓mgA_34, ↓mgA_35, ↓mgA_36, ↓mgA_37, ↓mgA_38, ↓mgA_39, ↓mgA_41, ↓mgA_42, ↓mgA_43, ↓mgA_44, ↓mgA_45, ↓mgA_46, ↓mpA_2, ↓mpA_4, ↓mpA_6, ↓mpA_7, ↓mpA_9, ↓mpA_10, ↓mpA_12, ↓mpA_14, ↓mpA_15, ↓mpA_16, ↓mpZ_17, ↓mpA_18, ↓mpZ_19, ↓mpA_20, ↓mpA_21, ↓mpA_22, ↓mpA_23, ↓mpA_24, ↓mpZ_25, ↓mpA_26, ↓mpA_27, ↓mpA_28, ↓mpA_29, ↓mpA_30, ↓mpA_31, ↓mpA_32, ↓mpA_33, ↓mpA_34, ↓mpZ_35, ↓mpA_36, ↓mpA_37, ↓mpA_38, ↓mpA_39, ↓mpA_41, ↓mpA_42, ↓mpZ_43, ↓mpA_44, ↓mpA_45, ↓mpA_46, fMd_rot_E, q2, q7, fMd_rot_j28_E, m_holdsk]
theorem c_fill {a L : Nat} {v : Int32} (k : mK M a = 21) (l : mL M a = L) (hL : L ≤ 300) : ∃ M', fAr_fill (some a) v M = some ((), M') ∧ IOS (fun cc x => cc = 0 ∧ x = a) M M' ∧ ∀ j, mI M' 0 a j = if j < L then v else mI M 0 a j := by
  have lp : ∀ d i fu (M : Mm), d + i = L → d < fu → mK M a = 21 → mL M a = L → ∃ M', fAr_fill_l5 fu (some a) v (i3 i) (i3 L) M = some ((), M') ∧ IOS (fun cc x => cc = 0 ∧ x = a) M M' ∧ ∀ j, mI M' 0 a j = if i ≤ j ∧ j < L then v else mI M 0 a j := by
    intro d
    induction d with
    | zero =>
      intro i fu M hd hfu k l
      obtain ⟨f, rfl⟩ : ∃ f, fu = f + 1 := ⟨fu - 1, by omega⟩
      refine ⟨M, ?_, IOS.refl, fun j => by rw [if_neg (by omega)]⟩
      rw [fAr_fill_l5_S, fAr_fill_b5_E]
      simp (disch := (first | assumption | omega | decide | (simp only [mK_uI, mK_uP, mL_uI, mL_uP, mK_wI, mL_wI, mK_nA_e, mL_nA_e] <;> (first | assumption | omega)))) only [i3_le_t, i3_le_f, i3_lt_t, i3_lt_f, i3_eq_t, i3_eq_f, i3_add, i3_mul, i3_sub, i3_div, i3_dec, i3_m1, m1_i3, m1_eq, i3_ge0, m1_lt, i3_le_m1, ↓reduceIte, rZ_0, rZ_1, bdR_s, bdW_s, ifN_n, ifN_s, ↓fgI_s, ↓fgR_s, ↓rk_s, ↓fpI_s, ↓fpR_s, ↓fpZ_0, ↓fpZ_1, ↓alI_i, ↓alP_i, ↓asI_i, ↓asB_i, ↓asZ_0, ↓asZ_1, ↓aln_i, ↓fca_s, ↓fca_n, bdC_li, bdC_ri, mK_uI, mK_uP, mL_uI, mL_uP, mP_uI, mI_uP, mK_wI, mL_wI, mP_wI, mI_uI_e, mI_uI_c, nwO_s, mK_nA_e, mL_nA_e]
    | succ d ih =>
      intro i fu M hd hfu k l
      obtain ⟨f, rfl⟩ : ∃ f, fu = f + 1 := ⟨fu - 1, by omega⟩
      obtain ⟨M', e1, e2, e3⟩ := ih (i + 1) f (uI M 0 a i v) (by omega) (by omega) k l
      refine ⟨M', ?_, (IOS.uI _ _ _ _).then e2, fun j => ?_⟩
      · rw [fAr_fill_l5_S, fAr_fill_b5_E]
        clear ih e2 e3
        simp (disch := (first | assumption | omega | decide | (simp only [mK_uI, mK_uP, mL_uI, mL_uP, mK_wI, mL_wI, mK_nA_e, mL_nA_e] <;> (first | assumption | omega)))) only [i3_le_t, i3_le_f, i3_lt_t, i3_lt_f, i3_eq_t, i3_eq_f, i3_add, i3_mul, i3_sub, i3_div, i3_dec, i3_m1, m1_i3, m1_eq, i3_ge0, m1_lt, i3_le_m1, ↓reduceIte, rZ_0, rZ_1, bdR_s, bdW_s, ifN_n, ifN_s, ↓fgI_s, ↓fgR_s, ↓rk_s, ↓fpI_s, ↓fpR_s, ↓fpZ_0, ↓fpZ_1, ↓alI_i, ↓alP_i, ↓asI_i, ↓asB_i, ↓asZ_0, ↓asZ_1, ↓aln_i, ↓fca_s, ↓fca_n, bdC_li, bdC_ri, mK_uI, mK_uP, mL_uI, mL_uP, mP_uI, mI_uP, mK_wI, mL_wI, mP_wI, mI_uI_e, mI_uI_c, nwO_s, mK_nA_e, mL_nA_e, e1]
      · rw [e3]
        by_cases z : j = i
        · subst z; rw [if_neg (by omega), mI_uI_e, if_pos (by omega)]
        · rw [mI_uI_j _ _ _ _ z]
          by_cases y : i ≤ j ∧ j < L
          · rw [if_pos (by omega), if_pos y]
          · rw [if_neg (by omega), if_neg y]
  obtain ⟨M', e1, e2, e3⟩ := lp L 0 FU M (by omega) (FU_S (by omega)) k l
  refine ⟨M', ?_, e2, fun j => ?_⟩
  · simp (disch := (first | assumption | omega | decide | (simp only [mK_uI, mK_uP, mL_uI, mL_uP, mK_wI, mL_wI, mK_nA_e, mL_nA_e] <;> (first | assumption | omega)))) only [i3_le_t, i3_le_f, i3_lt_t, i3_lt_f, i3_eq_t, i3_eq_f, i3_add, i3_mul, i3_sub, i3_div, i3_dec, i3_m1, m1_i3, m1_eq, i3_ge0, m1_lt, i3_le_m1, ↓reduceIte, rZ_0, rZ_1, bdR_s, bdW_s, ifN_n, ifN_s, ↓fgI_s, ↓fgR_s, ↓rk_s, ↓fpI_s, ↓fpR_s, ↓fpZ_0, ↓fpZ_1, ↓alI_i, ↓alP_i, ↓asI_i, ↓asB_i, ↓asZ_0, ↓asZ_1, ↓aln_i, ↓fca_s, ↓fca_n, bdC_li, bdC_ri, mK_uI, mK_uP, mL_uI, mL_uP, mP_uI, mI_uP, mK_wI, mL_wI, mP_wI, mI_uI_e, mI_uI_c, nwO_s, mK_nA_e, mL_nA_e, fAr_fill_E, l, e1]
  · rw [e3]
    by_cases z : j < L
    · rw [if_pos (by omega), if_pos z]
    · rw [if_neg (by omega), if_neg z]
end RO

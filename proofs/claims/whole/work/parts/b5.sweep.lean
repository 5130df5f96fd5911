set_option maxRecDepth 100000
/-! sweep -/
section SW
variable {h c n r : Nat} {own : Nat → Nat} {B : BK} {σ σ' : Sg} {M M' : Mm}
theorem uS_same (σ : Sg) (k j : Nat) (v : Int32) (hv : v = σ k j) : uS σ k j v = σ := funext fun k' => funext fun j' => by
  show (if k' = k ∧ j' = j then v else σ k' j') = σ k' j'
  by_cases z : k' = k ∧ j' = j
  · rw [if_pos z, hv, z.1, z.2]
  · rw [if_neg z]
theorem cntF_zero {p : Nat → Bool} : ∀ {d i : Nat}, cntF p i d = 0 → ∀ j, i ≤ j → j < i + d → p j = false := by
  intro d
  induction d with
  | zero => intro i _ j h1 h2; omega
  | succ d ih =>
    intro i h j h1 h2
    rw [cntF_S] at h
    by_cases z : p i = true
    · rw [if_pos z] at h; omega
    · rw [if_neg z] at h
      by_cases e : j = i
      · subst e; exact Bool.eq_false_iff.mpr z
      · exact ih (i := i + 1) (by omega) j (by omega) (by omega)
theorem uses_zero {s33 s34 : Nat → Int32} {r p : Nat} : ∀ {V : Nat}, uses s33 s34 r p V = 0 → ∀ i, i < V → ∀ q, q < nv (s33 (40 * r + i)) → s34 (20 * (40 * r + i) + q) ≠ i3 p := by
  intro V
  induction V with
  | zero => intro _ i hi; omega
  | succ V ih =>
    intro h i hi q hq
    unfold uses at h
    by_cases e : i = V
    · subst e
      have z := cntF_zero (by omega : cntF (fun q => decide (s34 (20 * (40 * r + i) + q) = i3 p)) 0 (nv (s33 (40 * r + i))) = 0) q (by omega) (by omega)
      exact of_decide_eq_false z
    · exact ih (by omega) i (by omega) q hq
theorem IV.swp (I : IV c σ) (hr : r < 2) {p : Nat} (hp : p < nv (σ 18 r)) (h0 : σ 20 (90 * r + p) = i3 0) : IV c (uS σ 19 (90 * r + p) (i3 1)) := by
  have hz : uses (σ 33) (σ 34) r p (nv (σ 26 r)) = 0 := by
    have := (I.po r hr p hp).2
    rw [h0, nv0] at this
    exact this.symm
  have p90 := I.p90 r hr
  have hvo : ∀ r0, r0 < 2 → ∀ i, i < nv (σ 26 r0) → IVV (uS σ 19 (90 * r + p) (i3 1)) r0 (40 * r0 + i) := fun r0 hr0 i hi => by
    obtain ⟨x1, x2, x3, x4, x5, x6, x7, x8, x9, x10, x11⟩ := I.vo r0 hr0 i hi
    refine ⟨x1, x2, x3, x4, x5, x6, x7, fun q hq => ?_, x9, x10, x11⟩
    obtain ⟨y1, y2, y3, y4⟩ := x8 q hq
    refine ⟨y1, y2, ?_, y4⟩
    have ne : 90 * r0 + nv (σ 34 (20 * (40 * r0 + i) + q)) ≠ 90 * r + p := fun e => by
      have p0 := I.p90 r0 hr0
      have er : r0 = r := by omega
      subst er
      have ep : nv (σ 34 (20 * (40 * r0 + i) + q)) = p := by omega
      exact uses_zero hz i hi q hq (by rw [← ep]; exact y1.1)
    show uS σ 19 (90 * r + p) (i3 1) 19 (90 * r0 + nv (σ 34 (20 * (40 * r0 + i) + q))) = i3 0
    rw [uS_d _ _ _ _ ne]; exact y3
  have hpo : ∀ r0, r0 < 2 → ∀ p0, p0 < nv (σ 18 r0) → IVP (uS σ 19 (90 * r + p) (i3 1)) r0 (90 * r0 + p0) ∧ nv (σ 20 (90 * r0 + p0)) = uses (σ 33) (σ 34) r0 p0 (nv (σ 26 r0)) := fun r0 hr0 p0 hp0 => by
    obtain ⟨X, x2⟩ := I.po r0 hr0 p0 hp0
    refine ⟨⟨X.ct, X.l1, X.lo, X.by, ?_, X.nd, X.ro, X.sb⟩, x2⟩
    by_cases e : 90 * r0 + p0 = 90 * r + p
    · rw [e, uS_e]; exact NB.of (by omega) (by omega)
    · rw [uS_d _ _ _ _ e]; exact X.sw
  exact ⟨I.dr, I.db, I.ev, I.dy, I.dc, I.en, I.vn, hvo, I.vi, I.hd, I.kn, I.ks, I.ko, I.pn, hpo, I.dn, I.un, I.uo, I.uz, I.up, I.rn, I.rk⟩
theorem c_loseAll {a : Nat} (A : PRT own M a r) : ∃ M', fPart_loseAll a M = some ((), M') ∧ IOS (fun cc x => cc = 0 ∧ x = a + 3) M M' ∧ ∀ j, mI M' 0 (a + 3) j = if j < 5 then m1 else mI M 0 (a + 3) j := by
  have k := A.k
  have p4 := A.p4
  obtain ⟨M', e1, e2, e3⟩ := c_fill (v := m1) A.k3 A.l3 (by omega)
  refine ⟨M', ?_, e2, e3⟩
  clear A e2 e3
  simp (disch := (first | assumption | omega | decide | (simp only [mK_uI, mK_uP, mL_uI, mL_uP, mK_wI, mL_wI, mK_nA_e, mL_nA_e] <;> (first | assumption | omega)))) only [i3_le_t, i3_le_f, i3_lt_t, i3_lt_f, i3_eq_t, i3_eq_f, i3_add, i3_mul, i3_sub, i3_div, i3_dec, i3_m1, m1_i3, m1_eq, i3_ge0, m1_lt, i3_le_m1, ↓reduceIte, rZ_0, rZ_1, bdR_s, bdW_s, ifN_n, ifN_s, ↓fgI_s, ↓fgR_s, ↓rk_s, ↓fpI_s, ↓fpR_s, ↓fpZ_0, ↓fpZ_1, ↓alI_i, ↓alP_i, ↓asI_i, ↓asB_i, ↓asZ_0, ↓asZ_1, ↓aln_i, ↓fca_s, ↓fca_n, bdC_li, bdC_ri, mK_uI, mK_uP, mL_uI, mL_uP, mP_uI, mI_uP, mK_wI, mL_wI, mP_wI, mI_uI_e, mI_uI_c, nwO_s, mK_nA_e, mL_nA_e, fPart_loseAll_E, p4, e1]
theorem sweep_loop (hr : r < 2) {m P : Nat} (hm : m ≤ 99) (h90 : P ≤ 90) : ∀ d p k fu (σ : Sg) (M : Mm), d + p = P → d < fu → k ≤ p → RR h own B σ M n → IV c σ → σ 18 r = i3 P → ∃ k' M' σ', fStore_sweepUnused_l4 (gr h r + 1) fu (i3 m) (i3 k) (i3 p) M = some (i3 k', M') ∧ fMd_sweep_l40 fu (i3 r) (i3 m) (i3 k) (i3 p) σ = some (i3 k', σ') ∧ RR h own B σ' M' n ∧ IV c σ' ∧ σ' 0 = σ 0 ∧ σ' 36 = σ 36 ∧ σ' 18 = σ 18 ∧ σ' 8 = σ 8 := by
  intro d
  induction d with
  | zero =>
    intro p k fu σ M hd hfu hk R I hP
    obtain ⟨f, rfl⟩ : ∃ f, fu = f + 1 := ⟨fu - 1, by omega⟩
    have eP : nv (σ 18 r) = P := by rw [hP]; exact nv_i (by omega)
    have w1 := (R.rg r hr).ks
    have w2 := (R.rg r hr).s1
    have L := R.pl r hr
    rw [eP] at L
    have w3 := L.k
    have w4 := L.size
    refine ⟨k, M, σ, ?_, ?_, R, I, rfl, rfl, rfl, rfl⟩
    · clear R I L
      rw [fStore_sweepUnused_l4_S, fStore_sweepUnused_b4_E]
      simp (disch := (first | assumption | omega | decide | (simp only [mK_uI, mK_uP, mL_uI, mL_uP, mK_wI, mL_wI, mK_nA_e, mL_nA_e] <;> (first | assumption | omega)))) only [i3_le_t, i3_le_f, i3_lt_t, i3_lt_f, i3_eq_t, i3_eq_f, i3_add, i3_mul, i3_sub, i3_div, i3_dec, i3_m1, m1_i3, m1_eq, i3_ge0, m1_lt, i3_le_m1, ↓reduceIte, rZ_0, rZ_1, bdR_s, bdW_s, ifN_n, ifN_s, ↓fgI_s, ↓fgR_s, ↓rk_s, ↓fpI_s, ↓fpR_s, ↓fpZ_0, ↓fpZ_1, ↓alI_i, ↓alP_i, ↓asI_i, ↓asB_i, ↓asZ_0, ↓asZ_1, ↓aln_i, ↓fca_s, ↓fca_n, bdC_li, bdC_ri, mK_uI, mK_uP, mL_uI, mL_uP, mP_uI, mI_uP, mK_wI, mL_wI, mP_wI, mI_uI_e, mI_uI_c, nwO_s, mK_nA_e, mL_nA_e, w2, w4]
    · clear R I L
      rw [fMd_sweep_l40_S, fMd_sweep_b40_E]
      simp (disch := (first | assumption | omega | decide | (simp only [mK_uI, mK_uP, mL_uI, mL_uP, mK_wI, mL_wI, mK_nA_e, mL_nA_e] <;> (first | assumption | omega)))) only [i3_le_t, i3_le_f, i3_lt_t, i3_lt_f, i3_eq_t, i3_eq_f, i3_add, i3_mul, i3_sub, i3_div, i3_dec, i3_m1, m1_i3, m1_eq, i3_ge0, m1_lt, i3_le_m1, ↓reduceIte, rZ_0, rZ_1, bdR_s, bdW_s, ifN_n, ifN_s, uS_n, uS_e, uS_d, ↓mgF_s, ↓mpF_s, ↓mgA_2, ↓mgA_4, ↓mgA_6, ↓mgA_7, ↓mgA_9, ↓mgA_10, ↓mgA_12, ↓mgA_14, ↓mgA_15, ↓mgA_16, ↓mgA_17, ↓mgA_18, ↓mgA_19, ↓mgA_20, ↓mgA_21, ↓mgA_22, ↓mgA_23, ↓mgA_24, ↓mgA_25, ↓mgA_26, ↓mgA_27, ↓mgA_28, ↓mgA_29, ↓mgA_30, ↓mgA_31, ↓mgA_32, ↓mgA_33, ↓mgA_34, ↓mgA_35, ↓mgA_36, ↓mgA_37, ↓mgA_38, ↓mgA_39, ↓mgA_41, ↓mgA_42, ↓mgA_43, ↓mgA_44, ↓mgA_45, ↓mgA_46, ↓mpA_2, ↓mpA_4, ↓mpA_6, ↓mpA_7, ↓mpA_9, ↓mpA_10, ↓mpA_12, ↓mpA_14, ↓mpA_15, ↓mpA_16, ↓mpZ_17, ↓mpA_18, ↓mpZ_19, ↓mpA_20, ↓mpA_21, ↓mpA_22, ↓mpA_23, ↓mpA_24, ↓mpZ_25, ↓mpA_26, ↓mpA_27, ↓mpA_28, ↓mpA_29, ↓mpA_30, ↓mpA_31, ↓mpA_32, ↓mpA_33, ↓mpA_34, ↓mpZ_35, ↓mpA_36, ↓mpA_37, ↓mpA_38, ↓mpA_39, ↓mpA_41, ↓mpA_42, ↓mpZ_43, ↓mpA_44, ↓mpA_45, ↓mpA_46, hP]
  | succ d ih =>
    intro p k fu σ M hd hfu hk R I hP
    obtain ⟨f, rfl⟩ : ∃ f, fu = f + 1 := ⟨fu - 1, by omega⟩
    have eP : nv (σ 18 r) = P := by rw [hP]; exact nv_i (by omega)
    have w1 := (R.rg r hr).ks
    have w2 := (R.rg r hr).s1
    have L := R.pl r hr
    rw [eP] at L
    have w3 := L.k
    have w4 := L.size
    have w5 := L.get (i := p) (by omega)
    have hp : p < nv (σ 18 r) := by omega
    have A := R.po r hr p hp
    have a1 := A.b.k
    have a2 := A.sw
    have a3 := A.ct
    by_cases hmk : m ≤ k
    · refine ⟨k, M, σ, ?_, ?_, R, I, rfl, rfl, rfl, rfl⟩
      · clear R I L A ih
        rw [fStore_sweepUnused_l4_S, fStore_sweepUnused_b4_E]
        simp (disch := (first | assumption | omega | decide | (simp only [mK_uI, mK_uP, mL_uI, mL_uP, mK_wI, mL_wI, mK_nA_e, mL_nA_e] <;> (first | assumption | omega)))) only [i3_le_t, i3_le_f, i3_lt_t, i3_lt_f, i3_eq_t, i3_eq_f, i3_add, i3_mul, i3_sub, i3_div, i3_dec, i3_m1, m1_i3, m1_eq, i3_ge0, m1_lt, i3_le_m1, ↓reduceIte, rZ_0, rZ_1, bdR_s, bdW_s, ifN_n, ifN_s, ↓fgI_s, ↓fgR_s, ↓rk_s, ↓fpI_s, ↓fpR_s, ↓fpZ_0, ↓fpZ_1, ↓alI_i, ↓alP_i, ↓asI_i, ↓asB_i, ↓asZ_0, ↓asZ_1, ↓aln_i, ↓fca_s, ↓fca_n, bdC_li, bdC_ri, mK_uI, mK_uP, mL_uI, mL_uP, mP_uI, mI_uP, mK_wI, mL_wI, mP_wI, mI_uI_e, mI_uI_c, nwO_s, mK_nA_e, mL_nA_e, w2, w4]
      · clear R I L A ih
        rw [fMd_sweep_l40_S, fMd_sweep_b40_E]
        simp (disch := (first | assumption | omega | decide | (simp only [mK_uI, mK_uP, mL_uI, mL_uP, mK_wI, mL_wI, mK_nA_e, mL_nA_e] <;> (first | assumption | omega)))) only [i3_le_t, i3_le_f, i3_lt_t, i3_lt_f, i3_eq_t, i3_eq_f, i3_add, i3_mul, i3_sub, i3_div, i3_dec, i3_m1, m1_i3, m1_eq, i3_ge0, m1_lt, i3_le_m1, ↓reduceIte, rZ_0, rZ_1, bdR_s, bdW_s, ifN_n, ifN_s, uS_n, uS_e, uS_d, ↓mgF_s, ↓mpF_s, ↓mgA_2, ↓mgA_4, ↓mgA_6, ↓mgA_7, ↓mgA_9, ↓mgA_10, ↓mgA_12, ↓mgA_14, ↓mgA_15, ↓mgA_16, ↓mgA_17, ↓mgA_18, ↓mgA_19, ↓mgA_20, ↓mgA_21, ↓mgA_22, ↓mgA_23, ↓mgA_24, ↓mgA_25, ↓mgA_26, ↓mgA_27, ↓mgA_28, ↓mgA_29, ↓mgA_30, ↓mgA_31, ↓mgA_32, ↓mgA_33, ↓mgA_34, ↓mgA_35, ↓mgA_36, ↓mgA_37, ↓mgA_38, ↓mgA_39, ↓mgA_41, ↓mgA_42, ↓mgA_43, ↓mgA_44, ↓mgA_45, ↓mgA_46, ↓mpA_2, ↓mpA_4, ↓mpA_6, ↓mpA_7, ↓mpA_9, ↓mpA_10, ↓mpA_12, ↓mpA_14, ↓mpA_15, ↓mpA_16, ↓mpZ_17, ↓mpA_18, ↓mpZ_19, ↓mpA_20, ↓mpA_21, ↓mpA_22, ↓mpA_23, ↓mpA_24, ↓mpZ_25, ↓mpA_26, ↓mpA_27, ↓mpA_28, ↓mpA_29, ↓mpA_30, ↓mpA_31, ↓mpA_32, ↓mpA_33, ↓mpA_34, ↓mpZ_35, ↓mpA_36, ↓mpA_37, ↓mpA_38, ↓mpA_39, ↓mpA_41, ↓mpA_42, ↓mpZ_43, ↓mpA_44, ↓mpA_45, ↓mpA_46, hP]
    · by_cases z : σ 19 (90 * r + p) = i3 0
      · by_cases y : σ 20 (90 * r + p) = i3 0
        · -- it is swept
          obtain ⟨M1, e1, e2, e3⟩ := c_loseAll A.b
          have f1 : IOS (fun _ x => pa B r p ≤ x ∧ x ≤ pa B r p + 4) M (uI M1 507 (pa B r p) 0 (i3 1)) := (e2.trans (IOS.uI _ _ _ _)).mono fun cc a z => by omega
          have R2 : RR h own B (uS σ 19 (90 * r + p) (i3 1)) (uI M1 507 (pa B r p) 0 (i3 1)) n := by
            refine R.setp hr hp I.p90 f1 (fun k hk => uS_n _ _ _ (fun w => hk (by unfold PTF; omega))) (fun a ha => ⟨uS_d _ _ _ _ ha, rfl, fun s' hs' => ⟨rfl, rfl⟩, fun j hj => rfl⟩) ?_
            have s0 : ∀ cc a j, a ≠ pa B r p + 3 → (cc ≠ 507 ∨ a ≠ pa B r p) → mI (uI M1 507 (pa B r p) 0 (i3 1)) cc a j = mI M cc a j := fun cc a j h1 h2 => by
              rw [mI_uI, if_neg (by omega)]
              exact e2.2 cc a j (by omega)
            have b' : PRT own (uI M1 507 (pa B r p) 0 (i3 1)) (pa B r p) r := A.b.keep (fun a o => ⟨rfl, f1.K a, f1.L a, fun cc j => f1.P cc a j⟩)
            rw [uS_e]
            refine ⟨b', (s0 _ _ _ (by omega) (by omega)).trans A.nu, (s0 _ _ _ (by omega) (by omega)).trans A.lo, (s0 _ _ _ (by omega) (by omega)).trans A.ct, mI_uI_e _ _ _ _ _, fun j hj => (s0 _ _ _ (by omega) (by omega)).trans (A.by j hj), fun s' hs' => ?_, fun s' hs' y1 y2 => absurd y1 (by decide), fun s' hs' y1 y2 y3 k hk => absurd y1 (by decide)⟩
            rw [mI_uI_a _ _ _ _ (by omega), e3, if_pos hs', if_neg (by decide)]
          have I2 := I.swp hr hp y
          obtain ⟨k', M', σ', g1, g2, g3, g4, g5, g6, g7, g8⟩ := ih (p + 1) (k + 1) f _ _ (by omega) (by omega) (by omega) R2 I2 hP
          refine ⟨k', M', σ', ?_, ?_, g3, g4, g5, g6, g7, g8⟩
          · have a1' : mK M1 (pa B r p) = 5 := (e2.K _).trans a1
            clear R I L A ih R2 I2 g3 g4 e2 e3 f1
            rw [fStore_sweepUnused_l4_S, fStore_sweepUnused_b4_E]
            simp (disch := (first | assumption | omega | decide | (simp only [mK_uI, mK_uP, mL_uI, mL_uP, mK_wI, mL_wI, mK_nA_e, mL_nA_e] <;> (first | assumption | omega)))) only [i3_le_t, i3_le_f, i3_lt_t, i3_lt_f, i3_eq_t, i3_eq_f, i3_add, i3_mul, i3_sub, i3_div, i3_dec, i3_m1, m1_i3, m1_eq, i3_ge0, m1_lt, i3_le_m1, ↓reduceIte, rZ_0, rZ_1, bdR_s, bdW_s, ifN_n, ifN_s, ↓fgI_s, ↓fgR_s, ↓rk_s, ↓fpI_s, ↓fpR_s, ↓fpZ_0, ↓fpZ_1, ↓alI_i, ↓alP_i, ↓asI_i, ↓asB_i, ↓asZ_0, ↓asZ_1, ↓aln_i, ↓fca_s, ↓fca_n, bdC_li, bdC_ri, mK_uI, mK_uP, mL_uI, mL_uP, mP_uI, mI_uP, mK_wI, mL_wI, mP_wI, mI_uI_e, mI_uI_c, nwO_s, mK_nA_e, mL_nA_e, w2, w4, w5, a2, z, a3, y, e1, fStore_sweepUnused_j63_E, g1]
          · clear R I L A ih R2 I2 g3 g4 e2 e3 f1
            rw [fMd_sweep_l40_S, fMd_sweep_b40_E]
            simp (disch := (first | assumption | omega | decide | (simp only [mK_uI, mK_uP, mL_uI, mL_uP, mK_wI, mL_wI, mK_nA_e, mL_nA_e] <;> (first | assumption | omega)))) only [i3_le_t, i3_le_f, i3_lt_t, i3_lt_f, i3_eq_t, i3_eq_f, i3_add, i3_mul, i3_sub, i3_div, i3_dec, i3_m1, m1_i3, m1_eq, i3_ge0, m1_lt, i3_le_m1, ↓reduceIte, rZ_0, rZ_1, bdR_s, bdW_s, ifN_n, ifN_s, uS_n, uS_e, uS_d, ↓mgF_s, ↓mpF_s, ↓mgA_2, ↓mgA_4, ↓mgA_6, ↓mgA_7, ↓mgA_9, ↓mgA_10, ↓mgA_12, ↓mgA_14, ↓mgA_15, ↓mgA_16, ↓mgA_17, ↓mgA_18, ↓mgA_19, ↓mgA_20, ↓mgA_21, ↓mgA_22, ↓mgA_23, ↓mgA_24, ↓mgA_25, ↓mgA_26, ↓mgA_27, ↓mgA_28, ↓mgA_29, ↓mgA_30, ↓mgA_31, ↓mgA_32, ↓mgA_33, ↓mgA_34, ↓mgA_35, ↓mgA_36, ↓mgA_37, ↓mgA_38, ↓mgA_39, ↓mgA_41, ↓mgA_42, ↓mgA_43, ↓mgA_44, ↓mgA_45, ↓mgA_46, ↓mpA_2, ↓mpA_4, ↓mpA_6, ↓mpA_7, ↓mpA_9, ↓mpA_10, ↓mpA_12, ↓mpA_14, ↓mpA_15, ↓mpA_16, ↓mpZ_17, ↓mpA_18, ↓mpZ_19, ↓mpA_20, ↓mpA_21, ↓mpA_22, ↓mpA_23, ↓mpA_24, ↓mpZ_25, ↓mpA_26, ↓mpA_27, ↓mpA_28, ↓mpA_29, ↓mpA_30, ↓mpA_31, ↓mpA_32, ↓mpA_33, ↓mpA_34, ↓mpZ_35, ↓mpA_36, ↓mpA_37, ↓mpA_38, ↓mpA_39, ↓mpA_41, ↓mpA_42, ↓mpZ_43, ↓mpA_44, ↓mpA_45, ↓mpA_46, hP, z, y, fMd_sweep_j90_E, fMd_sweep_j113_E, fMd_sweep_j118_E, fMd_sweep_j130_E, g2]
        · obtain ⟨k', M', σ', g1, g2, g3, g4, g5, g6, g7, g8⟩ := ih (p + 1) k f σ M (by omega) (by omega) (by omega) R I hP
          refine ⟨k', M', σ', ?_, ?_, g3, g4, g5, g6, g7, g8⟩
          · clear R I L A ih g3 g4
            rw [fStore_sweepUnused_l4_S, fStore_sweepUnused_b4_E]
            simp (disch := (first | assumption | omega | decide | (simp only [mK_uI, mK_uP, mL_uI, mL_uP, mK_wI, mL_wI, mK_nA_e, mL_nA_e] <;> (first | assumption | omega)))) only [i3_le_t, i3_le_f, i3_lt_t, i3_lt_f, i3_eq_t, i3_eq_f, i3_add, i3_mul, i3_sub, i3_div, i3_dec, i3_m1, m1_i3, m1_eq, i3_ge0, m1_lt, i3_le_m1, ↓reduceIte, rZ_0, rZ_1, bdR_s, bdW_s, ifN_n, ifN_s, ↓fgI_s, ↓fgR_s, ↓rk_s, ↓fpI_s, ↓fpR_s, ↓fpZ_0, ↓fpZ_1, ↓alI_i, ↓alP_i, ↓asI_i, ↓asB_i, ↓asZ_0, ↓asZ_1, ↓aln_i, ↓fca_s, ↓fca_n, bdC_li, bdC_ri, mK_uI, mK_uP, mL_uI, mL_uP, mP_uI, mI_uP, mK_wI, mL_wI, mP_wI, mI_uI_e, mI_uI_c, nwO_s, mK_nA_e, mL_nA_e, w2, w4, w5, a2, z, a3, y, fStore_sweepUnused_j63_E, g1]
          · have us := uS_same σ 19 (90 * r + p) (i3 0) z.symm
            clear R I L A ih g3 g4
            rw [fMd_sweep_l40_S, fMd_sweep_b40_E]
            simp (disch := (first | assumption | omega | decide | (simp only [mK_uI, mK_uP, mL_uI, mL_uP, mK_wI, mL_wI, mK_nA_e, mL_nA_e] <;> (first | assumption | omega)))) only [i3_le_t, i3_le_f, i3_lt_t, i3_lt_f, i3_eq_t, i3_eq_f, i3_add, i3_mul, i3_sub, i3_div, i3_dec, i3_m1, m1_i3, m1_eq, i3_ge0, m1_lt, i3_le_m1, ↓reduceIte, rZ_0, rZ_1, bdR_s, bdW_s, ifN_n, ifN_s, uS_n, uS_e, uS_d, ↓mgF_s, ↓mpF_s, ↓mgA_2, ↓mgA_4, ↓mgA_6, ↓mgA_7, ↓mgA_9, ↓mgA_10, ↓mgA_12, ↓mgA_14, ↓mgA_15, ↓mgA_16, ↓mgA_17, ↓mgA_18, ↓mgA_19, ↓mgA_20, ↓mgA_21, ↓mgA_22, ↓mgA_23, ↓mgA_24, ↓mgA_25, ↓mgA_26, ↓mgA_27, ↓mgA_28, ↓mgA_29, ↓mgA_30, ↓mgA_31, ↓mgA_32, ↓mgA_33, ↓mgA_34, ↓mgA_35, ↓mgA_36, ↓mgA_37, ↓mgA_38, ↓mgA_39, ↓mgA_41, ↓mgA_42, ↓mgA_43, ↓mgA_44, ↓mgA_45, ↓mgA_46, ↓mpA_2, ↓mpA_4, ↓mpA_6, ↓mpA_7, ↓mpA_9, ↓mpA_10, ↓mpA_12, ↓mpA_14, ↓mpA_15, ↓mpA_16, ↓mpZ_17, ↓mpA_18, ↓mpZ_19, ↓mpA_20, ↓mpA_21, ↓mpA_22, ↓mpA_23, ↓mpA_24, ↓mpZ_25, ↓mpA_26, ↓mpA_27, ↓mpA_28, ↓mpA_29, ↓mpA_30, ↓mpA_31, ↓mpA_32, ↓mpA_33, ↓mpA_34, ↓mpZ_35, ↓mpA_36, ↓mpA_37, ↓mpA_38, ↓mpA_39, ↓mpA_41, ↓mpA_42, ↓mpZ_43, ↓mpA_44, ↓mpA_45, ↓mpA_46, hP, z, y, fMd_sweep_j89_E, fMd_sweep_j90_E, fMd_sweep_j118_E, us, fMd_sweep_j130_E, Nat.add_zero, g2]
      · have z1 : σ 19 (90 * r + p) = i3 1 := by
          obtain ⟨q, hq, hqe⟩ := (I.po r hr p hp).1.sw.to
          rcases (by omega : q = 0 ∨ q = 1) with rfl | rfl
          · exact absurd hqe z
          · exact hqe
        obtain ⟨k', M', σ', g1, g2, g3, g4, g5, g6, g7, g8⟩ := ih (p + 1) k f σ M (by omega) (by omega) (by omega) R I hP
        refine ⟨k', M', σ', ?_, ?_, g3, g4, g5, g6, g7, g8⟩
        · clear R I L A ih g3 g4
          rw [fStore_sweepUnused_l4_S, fStore_sweepUnused_b4_E]
          simp (disch := (first | assumption | omega | decide | (simp only [mK_uI, mK_uP, mL_uI, mL_uP, mK_wI, mL_wI, mK_nA_e, mL_nA_e] <;> (first | assumption | omega)))) only [i3_le_t, i3_le_f, i3_lt_t, i3_lt_f, i3_eq_t, i3_eq_f, i3_add, i3_mul, i3_sub, i3_div, i3_dec, i3_m1, m1_i3, m1_eq, i3_ge0, m1_lt, i3_le_m1, ↓reduceIte, rZ_0, rZ_1, bdR_s, bdW_s, ifN_n, ifN_s, ↓fgI_s, ↓fgR_s, ↓rk_s, ↓fpI_s, ↓fpR_s, ↓fpZ_0, ↓fpZ_1, ↓alI_i, ↓alP_i, ↓asI_i, ↓asB_i, ↓asZ_0, ↓asZ_1, ↓aln_i, ↓fca_s, ↓fca_n, bdC_li, bdC_ri, mK_uI, mK_uP, mL_uI, mL_uP, mP_uI, mI_uP, mK_wI, mL_wI, mP_wI, mI_uI_e, mI_uI_c, nwO_s, mK_nA_e, mL_nA_e, w2, w4, w5, a2, z, fStore_sweepUnused_j63_E, g1]
        · have us := uS_same σ 19 (90 * r + p) (i3 1) z1.symm
          clear R I L A ih g3 g4
          rw [fMd_sweep_l40_S, fMd_sweep_b40_E]
          simp (disch := (first | assumption | omega | decide | (simp only [mK_uI, mK_uP, mL_uI, mL_uP, mK_wI, mL_wI, mK_nA_e, mL_nA_e] <;> (first | assumption | omega)))) only [i3_le_t, i3_le_f, i3_lt_t, i3_lt_f, i3_eq_t, i3_eq_f, i3_add, i3_mul, i3_sub, i3_div, i3_dec, i3_m1, m1_i3, m1_eq, i3_ge0, m1_lt, i3_le_m1, ↓reduceIte, rZ_0, rZ_1, bdR_s, bdW_s, ifN_n, ifN_s, uS_n, uS_e, uS_d, ↓mgF_s, ↓mpF_s, ↓mgA_2, ↓mgA_4, ↓mgA_6, ↓mgA_7, ↓mgA_9, ↓mgA_10, ↓mgA_12, ↓mgA_14, ↓mgA_15, ↓mgA_16, ↓mgA_17, ↓mgA_18, ↓mgA_19, ↓mgA_20, ↓mgA_21, ↓mgA_22, ↓mgA_23, ↓mgA_24, ↓mgA_25, ↓mgA_26, ↓mgA_27, ↓mgA_28, ↓mgA_29, ↓mgA_30, ↓mgA_31, ↓mgA_32, ↓mgA_33, ↓mgA_34, ↓mgA_35, ↓mgA_36, ↓mgA_37, ↓mgA_38, ↓mgA_39, ↓mgA_41, ↓mgA_42, ↓mgA_43, ↓mgA_44, ↓mgA_45, ↓mgA_46, ↓mpA_2, ↓mpA_4, ↓mpA_6, ↓mpA_7, ↓mpA_9, ↓mpA_10, ↓mpA_12, ↓mpA_14, ↓mpA_15, ↓mpA_16, ↓mpZ_17, ↓mpA_18, ↓mpZ_19, ↓mpA_20, ↓mpA_21, ↓mpA_22, ↓mpA_23, ↓mpA_24, ↓mpZ_25, ↓mpA_26, ↓mpA_27, ↓mpA_28, ↓mpA_29, ↓mpA_30, ↓mpA_31, ↓mpA_32, ↓mpA_33, ↓mpA_34, ↓mpZ_35, ↓mpA_36, ↓mpA_37, ↓mpA_38, ↓mpA_39, ↓mpA_41, ↓mpA_42, ↓mpZ_43, ↓mpA_44, ↓mpA_45, ↓mpA_46, hP, z, fMd_sweep_j89_E, fMd_sweep_j90_E, fMd_sweep_j113_E, fMd_sweep_j118_E, us, fMd_sweep_j130_E, Nat.add_zero, g2]
theorem op_sweep (R : RR h own B σ M n) (I : IV c σ) (x1 x2 : Int32) : OPR h c σ n (fHb_sweep h x1 x2 M n) (fMd_sweep x1 x2 σ) (cdf 1 2 0) := by
  have k := R.hb.k
  have hn : n ≤ n + 1 := Nat.le_succ n
  rcases regs x1 with ⟨r, hr, rfl⟩ | ⟨h0, h1⟩
  · have q1 := c_reg (n := n) R hr
    have q2 := m_reg hr
    have q3 := (R.rg r hr).k
    have q4 := (R.rg r hr).p0
    have q5 := (R.rg r hr).ks
    by_cases hx : inR x2 1 99
    · have q6 := inR_c (M := M) (n := n) hx (by omega)
      have q7 := inR_m hx (by omega)
      obtain ⟨m, hm0, hm, rfl⟩ := hx
      obtain ⟨P, h90, hP⟩ := (I.pn r hr).to
      obtain ⟨k', M', σ', g1, g2, g3, g4, g5, g6, g7, g8⟩ := sweep_loop (h := h) (c := c) (n := n) (own := own) (B := B) hr hm h90 P 0 0 FU (uS σ 0 0 (i3 0)) M (by omega) (FU_S (by omega)) (by omega) (R.scf (scf0 _)) (I.scf (scf0 _)) hP
      refine ⟨.inl (i3 k'), M', n, i3 k', σ', ?_, ?_, ⟨by rw [g5]; rfl, rfl⟩, Nat.le_refl n, POT.same (by omega) (by omega) g6 g7 g8, own, B, g3, g4.up0⟩
      · clear R I g3 g4
        simp (disch := (first | assumption | omega | decide | (simp only [mK_uI, mK_uP, mL_uI, mL_uP, mK_wI, mL_wI, mK_nA_e, mL_nA_e] <;> (first | assumption | omega)))) only [i3_le_t, i3_le_f, i3_lt_t, i3_lt_f, i3_eq_t, i3_eq_f, i3_add, i3_mul, i3_sub, i3_div, i3_dec, i3_m1, m1_i3, m1_eq, i3_ge0, m1_lt, i3_le_m1, ↓reduceIte, rZ_0, rZ_1, bdR_s, bdW_s, ifN_n, ifN_s, ↓fgI_s, ↓fgR_s, ↓rk_s, ↓fpI_s, ↓fpR_s, ↓fpZ_0, ↓fpZ_1, ↓alI_i, ↓alP_i, ↓asI_i, ↓asB_i, ↓asZ_0, ↓asZ_1, ↓aln_i, ↓fca_s, ↓fca_n, bdC_li, bdC_ri, mK_uI, mK_uP, mL_uI, mL_uP, mP_uI, mI_uP, mK_wI, mL_wI, mP_wI, mI_uI_e, mI_uI_c, nwO_s, mK_nA_e, mL_nA_e, fHb_sweep_E, q1, q4, q6, fStore_sweepUnused_E, g1]
      · clear R I g3 g4
        simp (disch := (first | assumption | omega | decide | (simp only [mK_uI, mK_uP, mL_uI, mL_uP, mK_wI, mL_wI, mK_nA_e, mL_nA_e] <;> (first | assumption | omega)))) only [i3_le_t, i3_le_f, i3_lt_t, i3_lt_f, i3_eq_t, i3_eq_f, i3_add, i3_mul, i3_sub, i3_div, i3_dec, i3_m1, m1_i3, m1_eq, i3_ge0, m1_lt, i3_le_m1, ↓reduceIte, rZ_0, rZ_1, bdR_s, bdW_s, ifN_n, ifN_s, uS_n, uS_e, uS_d, ↓mgF_s, ↓mpF_s, ↓mgA_2, ↓mgA_4, ↓mgA_6, ↓mgA_7, ↓mgA_9, ↓mgA_10, ↓mgA_12, ↓mgA_14, ↓mgA_15, ↓mgA_16, ↓mgA_17, ↓mgA_18, ↓mgA_19, ↓mgA_20, ↓mgA_21, ↓mgA_22, ↓mgA_23, ↓mgA_24, ↓mgA_25, ↓mgA_26, ↓mgA_27, ↓mgA_28, ↓mgA_29, ↓mgA_30, ↓mgA_31, ↓mgA_32, ↓mgA_33, ↓mgA_34, ↓mgA_35, ↓mgA_36, ↓mgA_37, ↓mgA_38, ↓mgA_39, ↓mgA_41, ↓mgA_42, ↓mgA_43, ↓mgA_44, ↓mgA_45, ↓mgA_46, ↓mpA_2, ↓mpA_4, ↓mpA_6, ↓mpA_7, ↓mpA_9, ↓mpA_10, ↓mpA_12, ↓mpA_14, ↓mpA_15, ↓mpA_16, ↓mpZ_17, ↓mpA_18, ↓mpZ_19, ↓mpA_20, ↓mpA_21, ↓mpA_22, ↓mpA_23, ↓mpA_24, ↓mpZ_25, ↓mpA_26, ↓mpA_27, ↓mpA_28, ↓mpA_29, ↓mpA_30, ↓mpA_31, ↓mpA_32, ↓mpA_33, ↓mpA_34, ↓mpZ_35, ↓mpA_36, ↓mpA_37, ↓mpA_38, ↓mpA_39, ↓mpA_41, ↓mpA_42, ↓mpZ_43, ↓mpA_44, ↓mpA_45, ↓mpA_46, fMd_sweep_E, q2, q7, fMd_sweep_j27_E, m_holds0, g2]
    · have q6 := noR_c (M := M) (n := n) hx (by omega) (by omega)
      have q7 := noR_m hx (by omega) (by omega)
      refine OPR.err R I 1 2 (v := i3 0) ?_ ?_ rfl (by omega) (by omega)
      · simp (disch := (first | assumption | omega | decide | (simp only [mK_uI, mK_uP, mL_uI, mL_uP, mK_wI, mL_wI, mK_nA_e, mL_nA_e] <;> (first | assumption | omega)))) only [i3_le_t, i3_le_f, i3_lt_t, i3_lt_f, i3_eq_t, i3_eq_f, i3_add, i3_mul, i3_sub, i3_div, i3_dec, i3_m1, m1_i3, m1_eq, i3_ge0, m1_lt, i3_le_m1, ↓reduceIte, rZ_0, rZ_1, bdR_s, bdW_s, ifN_n, ifN_s, ↓fgI_s, ↓fgR_s, ↓rk_s, ↓fpI_s, ↓fpR_s, ↓fpZ_0, ↓fpZ_1, ↓alI_i, ↓alP_i, ↓asI_i, ↓asB_i, ↓asZ_0, ↓asZ_1, ↓aln_i, ↓fca_s, ↓fca_n, bdC_li, bdC_ri, mK_uI, mK_uP, mL_uI, mL_uP, mP_uI, mI_uP, mK_wI, mL_wI, mP_wI, mI_uI_e, mI_uI_c, nwO_s, mK_nA_e, mL_nA_e, fHb_sweep_E, q1, q4, q6]
      · simp (disch := (first | assumption | omega | decide | (simp only [mK_uI, mK_uP, mL_uI, mL_uP, mK_wI, mL_wI, mK_nA_e, mL_nA_e] <;> (first | assumption | omega)))) only [i3_le_t, i3_le_f, i3_lt_t, i3_lt_f, i3_eq_t, i3_eq_f, i3_add, i3_mul, i3_sub, i3_div, i3_dec, i3_m1, m1_i3, m1_eq, i3_ge0, m1_lt, i3_le_m1, ↓reduceIte, rZ_0, rZ_1, bdR_s, bdW_s, ifN_n, ifN_s, uS_n, uS_e, uS_d, ↓mgF_s, ↓mpF_s, ↓mgA_2, ↓mgA_4, ↓mgA_6, ↓mgA_7, ↓mgA_9, ↓mgA_10, ↓mgA_12, ↓mgA_14, ↓mgA_15, ↓mgA_16, ↓mgA_17, ↓mgA_18, ↓mgA_19, ↓mgA_20, ↓mgA_21, ↓mgA_22, ↓mgA_23, ↓mgA_24, ↓mgA_25, ↓mgA_26, ↓mgA_27, ↓mgA_28, ↓mgA_29, ↓mgA_30, ↓mgA_31, ↓mgA_32, ↓mgA_33, ↓mgA_34, ↓mgA_35, ↓mgA_36, ↓mgA_37, ↓mgA_38, ↓mgA_39, ↓mgA_41, ↓mgA_42, ↓mgA_43, ↓mgA_44, ↓mgA_45, ↓mgA_46, ↓mpA_2, ↓mpA_4, ↓mpA_6, ↓mpA_7, ↓mpA_9, ↓mpA_10, ↓mpA_12, ↓mpA_14, ↓mpA_15, ↓mpA_16, ↓mpZ_17, ↓mpA_18, ↓mpZ_19, ↓mpA_20, ↓mpA_21, ↓mpA_22, ↓mpA_23, ↓mpA_24, ↓mpZ_25, ↓mpA_26, ↓mpA_27, ↓mpA_28, ↓mpA_29, ↓mpA_30, ↓mpA_31, ↓mpA_32, ↓mpA_33, ↓mpA_34, ↓mpZ_35, ↓mpA_36, ↓mpA_37, ↓mpA_38, ↓mpA_39, ↓mpA_41, ↓mpA_42, ↓mpZ_43, ↓mpA_44, ↓mpA_45, ↓mpA_46, fMd_sweep_E, q2, q7, fMd_sweep_j27_E, m_holdsk]
  · have q1 := c_noreg (h := h) (M := M) (n := n) h0 h1
    have q2 := m_noreg h0 h1
    refine OPR.err R I 0 1 (v := i3 0) ?_ ?_ rfl (by omega) (by omega)
    · simp (disch := (first | assumption | omega | decide | (simp only [mK_uI, mK_uP, mL_uI, mL_uP, mK_wI, mL_wI, mK_nA_e, mL_nA_e] <;> (first | assumption | omega)))) only [i3_le_t, i3_le_f, i3_lt_t, i3_lt_f, i3_eq_t, i3_eq_f, i3_add, i3_mul, i3_sub, i3_div, i3_dec, i3_m1, m1_i3, m1_eq, i3_ge0, m1_lt, i3_le_m1, ↓reduceIte, rZ_0, rZ_1, bdR_s, bdW_s, ifN_n, ifN_s, ↓fgI_s, ↓fgR_s, ↓rk_s, ↓fpI_s, ↓fpR_s, ↓fpZ_0, ↓fpZ_1, ↓alI_i, ↓alP_i, ↓asI_i, ↓asB_i, ↓asZ_0, ↓asZ_1, ↓aln_i, ↓fca_s, ↓fca_n, bdC_li, bdC_ri, mK_uI, mK_uP, mL_uI, mL_uP, mP_uI, mI_uP, mK_wI, mL_wI, mP_wI, mI_uI_e, mI_uI_c, nwO_s, mK_nA_e, mL_nA_e, fHb_sweep_E, q1]
    · simp (disch := (first | assumption | omega | decide | (simp only [mK_uI, mK_uP, mL_uI, mL_uP, mK_wI, mL_wI, mK_nA_e, mL_nA_e] <;> (first | assumption | omega)))) only [i3_le_t, i3_le_f, i3_lt_t, i3_lt_f, i3_eq_t, i3_eq_f, i3_add, i3_mul, i3_sub, i3_div, i3_dec, i3_m1, m1_i3, m1_eq, i3_ge0, m1_lt, i3_le_m1, ↓reduceIte, rZ_0, rZ_1, bdR_s, bdW_s, ifN_n, ifN_s, uS_n, uS_e, uS_d, ↓mgF_s, ↓mpF_s, ↓mgA_2, ↓mgA_4, ↓mgA_6, ↓mgA_7, ↓mgA_9, ↓mgA_10, ↓mgA_12, ↓mgA_14, ↓mgA_15, ↓mgA_16, ↓mgA_17, ↓mgA_18, ↓mgA_19, ↓mgA_20, ↓mgA_21, ↓mgA_22, ↓mgA_23, ↓mgA_24, ↓mgA_25, ↓mgA_26, ↓mgA_27, ↓mgA_28, ↓mgA_29, ↓mgA_30, ↓mgA_31, ↓mgA_32, ↓mgA_33, ↓mgA_34, ↓mgA_35, ↓mgA_36, ↓mgA_37, ↓mgA_38, ↓mgA_39, ↓mgA_41, ↓mgA_42, ↓mgA_43, ↓mgA_44, ↓mgA_45, ↓mgA_46, ↓mpA_2, ↓mpA_4, ↓mpA_6, ↓mpA_7, ↓mpA_9, ↓mpA_10, ↓mpA_12, ↓mpA_14, ↓mpA_15, ↓mpA_16, ↓mpZ_17, ↓mpA_18, ↓mpZ_19, ↓mpA_20, ↓mpA_21, ↓mpA_22, ↓mpA_23, ↓mpA_24, ↓mpZ_25, ↓mpA_26, ↓mpA_27, ↓mpA_28, ↓mpA_29, ↓mpA_30, ↓mpA_31, ↓mpA_32, ↓mpA_33, ↓mpA_34, ↓mpZ_35, ↓mpA_36, ↓mpA_37, ↓mpA_38, ↓mpA_39, ↓mpA_41, ↓mpA_42, ↓mpZ_43, ↓mpA_44, ↓mpA_45, ↓mpA_46, fMd_sweep_E, q2, fMd_sweep_j27_E, m_holdsk]
end SW

set_option maxRecDepth 100000
/-! pass -/
section PA
variable {h c n r : Nat} {own : Nat → Nat} {B : BK} {σ σ' : Sg} {M M' : Mm}
theorem age_i (R : RR h own B σ M n) (I : IV c σ) (hr : r < 2) {j : Nat} (hj : j < nv (σ 13 0)) : ∃ M' σ' B', fRegion_age (gr h r) (some (rl B j)) (σ 11 0) M = some ((), M') ∧ fMd_ages (i3 r) (i3 j) σ = some ((), σ') ∧ RR h own B' σ' M' n ∧ IV c σ' ∧ (∀ f, f < 20 ∨ (20 < f ∧ f < 26) ∨ 34 < f → σ' f = σ f) ∧ B'.2 = B.2 := by
  obtain ⟨V, h40, hV⟩ := (I.vn r hr).to
  have eV : nv (σ 26 r) = V := by rw [hV]; exact nv_i (by omega)
  obtain ⟨M', σ', B', g1, g2, g3, g4, g5, g6⟩ := age_loop hr (j := j) V FU σ M B (FU_S (by omega)) hj (by omega) R I
  have w1 := (R.rg r hr).k
  have w2 := (R.rg r hr).p1
  have L := R.vl r hr
  rw [eV] at L
  have w3 := L.k
  have w4 := L.size
  refine ⟨M', σ', B', ?_, ?_, g3, g4, g5, g6⟩
  · have e : i3 V - i3 1 = cx V := by
      unfold cx
      by_cases z : V = 0
      · subst z; rw [if_pos rfl]; exact i3_dec1
      · rw [if_neg z, i3_sub (by omega)]
    have g1' : fRegion_age_l10 (gr h r) FU (some (rl B j)) (σ 11 0) (i3 V - i3 1) M = some ((), M') := by rw [e]; exact g1
    clear R I L g3 g4
    by_cases z : V = 0
    · subst z
      rw [i3_dec1] at g1'
      simp (disch := (first | assumption | omega | decide | (simp only [mK_uI, mK_uP, mL_uI, mL_uP, mK_wI, mL_wI, mK_nA_e, mL_nA_e] <;> (first | assumption | omega)))) only [i3_le_t, i3_le_f, i3_lt_t, i3_lt_f, i3_eq_t, i3_eq_f, i3_add, i3_mul, i3_sub, i3_div, i3_dec, i3_m1, m1_i3, m1_eq, i3_ge0, m1_lt, i3_le_m1, ↓reduceIte, rZ_0, rZ_1, bdR_s, bdW_s, ifN_n, ifN_s, ↓fgI_s, ↓fgR_s, ↓rk_s, ↓fpI_s, ↓fpR_s, ↓fpZ_0, ↓fpZ_1, ↓alI_i, ↓alP_i, ↓asI_i, ↓asB_i, ↓asZ_0, ↓asZ_1, ↓aln_i, ↓fca_s, ↓fca_n, bdC_li, bdC_ri, mK_uI, mK_uP, mL_uI, mL_uP, mP_uI, mI_uP, mK_wI, mL_wI, mP_wI, mI_uI_e, mI_uI_c, nwO_s, mK_nA_e, mL_nA_e, fRegion_age_E, w2, w4, i3_dec1, g1']
    · rw [i3_sub (by omega)] at g1'
      simp (disch := (first | assumption | omega | decide | (simp only [mK_uI, mK_uP, mL_uI, mL_uP, mK_wI, mL_wI, mK_nA_e, mL_nA_e] <;> (first | assumption | omega)))) only [i3_le_t, i3_le_f, i3_lt_t, i3_lt_f, i3_eq_t, i3_eq_f, i3_add, i3_mul, i3_sub, i3_div, i3_dec, i3_m1, m1_i3, m1_eq, i3_ge0, m1_lt, i3_le_m1, ↓reduceIte, rZ_0, rZ_1, bdR_s, bdW_s, ifN_n, ifN_s, ↓fgI_s, ↓fgR_s, ↓rk_s, ↓fpI_s, ↓fpR_s, ↓fpZ_0, ↓fpZ_1, ↓alI_i, ↓alP_i, ↓asI_i, ↓asB_i, ↓asZ_0, ↓asZ_1, ↓aln_i, ↓fca_s, ↓fca_n, bdC_li, bdC_ri, mK_uI, mK_uP, mL_uI, mL_uP, mP_uI, mI_uP, mK_wI, mL_wI, mP_wI, mI_uI_e, mI_uI_c, nwO_s, mK_nA_e, mL_nA_e, fRegion_age_E, w2, w4, g1']
  · have he := m_endOf hr hV
    have e : i3 (40 * r + V) - i3 1 = mx r V := by
      unfold mx
      by_cases z : V = 0
      · subst z
        rcases (by omega : r = 0 ∨ r = 1) with rfl | rfl
        · rw [if_pos rfl, if_pos rfl]; exact i3_dec1
        · rw [if_pos rfl, if_neg (by decide), i3_sub (by omega)]
      · rw [if_neg z, i3_sub (by omega)]
        have e2 : 40 * r + V - 1 = 40 * r + (V - 1) := by omega
        rw [e2]
    rw [fMd_ages_E, he, bdR_s, e]
    exact g2
theorem RR.setco (R : RR h own B σ M n) {L : Nat} (hL : L < 3) (v : Int32) : RR h own B (uS σ 12 L v) (uI M 0 (h + 41) L v) n := by
  have f : FRM (fun t => t = 5) own M own (uI M 0 (h + 41) L v) := (IOS.uI _ _ _ _).frm fun _ a z _ => by rw [z.2]; exact R.hb.oc
  have hco : ∀ j, j < 3 → mI (uI M 0 (h + 41) L v) 0 (h + 41) j = uS σ 12 L v 12 j := fun j hj => by
    by_cases e : j = L
    · subst e; rw [mI_uI_e, uS_e]
    · rw [mI_uI_j _ _ _ _ e, uS_d _ _ _ _ e]; exact R.co j hj
  exact ⟨R.fr, R.k_em f, R.k_hb f, R.k_rg f, R.k_nm f (by first | omega | (intro z; dsimp only at z; omega)), R.k_dy f (by first | omega | (intro z; dsimp only at z; omega)), R.k_dm f (by first | omega | (intro z; dsimp only at z; omega)), R.k_db f (by first | omega | (intro z; dsimp only at z; omega)), R.k_nb f (by first | omega | (intro z; dsimp only at z; omega)), hco, fun r0 hr0 => R.k_up f hr0 (by first | omega | (intro z; dsimp only at z; omega)), fun r0 hr0 => R.k_hd f hr0 (by first | omega | (intro z; dsimp only at z; omega)), R.k_en f (by first | omega | (intro z; dsimp only at z; omega)), fun r0 hr0 => R.k_vl f hr0 (by first | omega | (intro z; dsimp only at z; omega)), fun r0 hr0 => R.k_vo f hr0 (by first | omega | (intro z; dsimp only at z; omega)), fun r0 hr0 => R.k_kl f hr0 (by first | omega | (intro z; dsimp only at z; omega)), fun r0 hr0 => R.k_pl f hr0 (by first | omega | (intro z; dsimp only at z; omega)), fun r0 hr0 => R.k_po f hr0 (by first | omega | (intro z; dsimp only at z; omega)), R.k_us f (by first | omega | (intro z; dsimp only at z; omega)), fun u0 hu0 => R.k_uo f hu0 (by first | omega | (intro z; dsimp only at z; omega)), R.k_rs f (by first | omega | (intro z; dsimp only at z; omega)), R.k_ro f (by first | omega | (intro z; dsimp only at z; omega))⟩
theorem shr4 : i3 4 >>> (i3 0 &&& i3 31) = i3 4 ∧ i3 4 >>> (i3 1 &&& i3 31) = i3 2 ∧ i3 4 >>> (i3 2 &&& i3 31) = i3 1 := by decide
theorem charge_loop (hr : r < 2) {V : Nat} (h40 : V ≤ 40) (k26 : Int32 → Int32 → Sg → Option (Int32 × Sg)) (k33 : Int32 → Int32 → Int32 → Sg → Option (Int32 × Sg)) (x1 x2 : Int32) : ∀ d i fu (σ : Sg) (M : Mm), d + i = V → d < fu → σ 26 r = i3 V → RR h own B σ M n → IV c σ → ∃ M' σ', fRegion_charge_l2 (gr h r) fu (some (h + 41)) (i3 i) M = some ((), M') ∧ fMd_pass_l44 k26 k33 fu x1 x2 (i3 r) (i3 (40 * r + i)) σ = k33 x1 x2 (i3 (r + 1)) σ' ∧ RR h own B σ' M' n ∧ IV c σ' ∧ ∀ f, f ≠ 12 → σ' f = σ f := by
  intro d
  induction d with
  | zero =>
    intro i fu σ M hd hfu hV R I
    obtain ⟨f, rfl⟩ : ∃ f, fu = f + 1 := ⟨fu - 1, by omega⟩
    have eV : nv (σ 26 r) = V := by rw [hV]; exact nv_i (by omega)
    have w1 := (R.rg r hr).k
    have w2 := (R.rg r hr).p1
    have L := R.vl r hr
    rw [eV] at L
    have w3 := L.k
    have w4 := L.size
    have he := m_endOf hr hV
    refine ⟨M, σ, ?_, ?_, R, I, fun _ _ => rfl⟩
    · rw [fRegion_charge_l2_S, fRegion_charge_b2_E]
      clear R I L
      simp (disch := (first | assumption | omega | decide | (simp only [mK_uI, mK_uP, mL_uI, mL_uP, mK_wI, mL_wI, mK_nA_e, mL_nA_e] <;> (first | assumption | omega)))) only [i3_le_t, i3_le_f, i3_lt_t, i3_lt_f, i3_eq_t, i3_eq_f, i3_add, i3_mul, i3_sub, i3_div, i3_dec, i3_m1, m1_i3, m1_eq, i3_ge0, m1_lt, i3_le_m1, ↓reduceIte, rZ_0, rZ_1, bdR_s, bdW_s, ifN_n, ifN_s, ↓fgI_s, ↓fgR_s, ↓rk_s, ↓fpI_s, ↓fpR_s, ↓fpZ_0, ↓fpZ_1, ↓alI_i, ↓alP_i, ↓asI_i, ↓asB_i, ↓asZ_0, ↓asZ_1, ↓aln_i, ↓fca_s, ↓fca_n, bdC_li, bdC_ri, mK_uI, mK_uP, mL_uI, mL_uP, mP_uI, mI_uP, mK_wI, mL_wI, mP_wI, mI_uI_e, mI_uI_c, nwO_s, mK_nA_e, mL_nA_e, w2, w4]
    · rw [fMd_pass_l44_S, fMd_pass_b44_E]
      clear R I L
      simp (disch := (first | assumption | omega | decide | (simp only [mK_uI, mK_uP, mL_uI, mL_uP, mK_wI, mL_wI, mK_nA_e, mL_nA_e] <;> (first | assumption | omega)))) only [i3_le_t, i3_le_f, i3_lt_t, i3_lt_f, i3_eq_t, i3_eq_f, i3_add, i3_mul, i3_sub, i3_div, i3_dec, i3_m1, m1_i3, m1_eq, i3_ge0, m1_lt, i3_le_m1, ↓reduceIte, rZ_0, rZ_1, bdR_s, bdW_s, ifN_n, ifN_s, uS_n, uS_e, uS_d, ↓mgF_s, ↓mpF_s, ↓mgA_2, ↓mgA_4, ↓mgA_6, ↓mgA_7, ↓mgA_9, ↓mgA_10, ↓mgA_12, ↓mgA_14, ↓mgA_15, ↓mgA_16, ↓mgA_17, ↓mgA_18, ↓mgA_19, ↓mgA_20, ↓mgA_21, ↓mgA_22, ↓mgA_23, ↓mgA_24, ↓mgA_25, ↓mgA_26, ↓mgA_27, ↓mgA_28, ↓mgA_29, ↓mgA_30, ↓mgA_31, ↓mgA_32, ↓mgA_33, ↓mgA_34, ↓mgA_35, ↓mgA_36, ↓mgA_37, ↓mgA_38, ↓mgA_39, ↓mgA_41, ↓mgA_42, ↓mgA_43, ↓mgA_44, ↓mgA_45, ↓mgA_46, ↓mpA_2, ↓mpA_4, ↓mpA_6, ↓mpA_7, ↓mpA_9, ↓mpA_10, ↓mpA_12, ↓mpA_14, ↓mpA_15, ↓mpA_16, ↓mpZ_17, ↓mpA_18, ↓mpZ_19, ↓mpA_20, ↓mpA_21, ↓mpA_22, ↓mpA_23, ↓mpA_24, ↓mpZ_25, ↓mpA_26, ↓mpA_27, ↓mpA_28, ↓mpA_29, ↓mpA_30, ↓mpA_31, ↓mpA_32, ↓mpA_33, ↓mpA_34, ↓mpZ_35, ↓mpA_36, ↓mpA_37, ↓mpA_38, ↓mpA_39, ↓mpA_41, ↓mpA_42, ↓mpZ_43, ↓mpA_44, ↓mpA_45, ↓mpA_46, he]
  | succ d ih =>
    intro i fu σ M hd hfu hV R I
    obtain ⟨f, rfl⟩ : ∃ f, fu = f + 1 := ⟨fu - 1, by omega⟩
    have eV : nv (σ 26 r) = V := by rw [hV]; exact nv_i (by omega)
    have w1 := (R.rg r hr).k
    have w2 := (R.rg r hr).p1
    have L := R.vl r hr
    rw [eV] at L
    have w3 := L.k
    have w4 := L.size
    have w5 := L.get (i := i) (by omega)
    have he := m_endOf hr hV
    have W := R.ver I hr (i := i) (by omega)
    have X := I.vo r hr i (by omega)
    have a1 := W.k
    have a2 := W.p0
    have a3 := W.ek
    have a6 := W.e3
    have a7 := W.bk
    have a8 := W.ma
    have a9 := W.lv
    obtain ⟨Lv, hLv2, hLv⟩ := X.lv.to
    rw [hLv] at a9
    have N2 := Nat.le_trans X.nu.2 I.ev.2
    have eN := X.nu.1
    obtain ⟨N, hN⟩ : ∃ N, N = nv (σ 27 (40 * r + i)) := ⟨_, rfl⟩
    rw [← hN] at a2 a3 a6 a7 a8 N2 eN
    obtain ⟨ev, hev⟩ : ∃ ev, ev = en B N := ⟨_, rfl⟩
    rw [← hev] at a2 a3 a6 a7 a8
    have co := R.co Lv (by omega)
    have ck := R.hb.kc
    have cl := R.hb.lc
    obtain ⟨wt, hwt⟩ : ∃ wt, wt = (if Lv = 0 then i3 4 else if Lv = 1 then i3 2 else i3 1) := ⟨_, rfl⟩
    have hsh : i3 4 >>> (i3 Lv &&& i3 31) = wt := by
      rw [hwt]
      rcases (by omega : Lv = 0 ∨ Lv = 1 ∨ Lv = 2) with rfl | rfl | rfl
      · rw [if_pos rfl]; exact shr4.1
      · rw [if_neg (by decide), if_pos rfl]; exact shr4.2.1
      · rw [if_neg (by decide), if_neg (by decide)]; exact shr4.2.2
    have R1 := R.setco (L := Lv) (by omega) (σ 12 Lv + σ 9 N * wt)
    have I1 : IV c (uS σ 12 Lv (σ 12 Lv + σ 9 N * wt)) := ⟨I.dr, I.db, I.ev, I.dy, I.dc, I.en, I.vn, I.vo, I.vi, I.hd, I.kn, I.ks, I.ko, I.pn, I.po, I.dn, I.un, I.uo, I.uz, I.up, I.rn, I.rk⟩
    obtain ⟨M', σ', g1, g2, g3, g4, g5⟩ := ih (i + 1) f (uS σ 12 Lv (σ 12 Lv + σ 9 N * wt)) (uI M 0 (h + 41) Lv (σ 12 Lv + σ 9 N * wt)) (by omega) (by omega) hV R1 I1
    refine ⟨M', σ', ?_, ?_, g3, g4, fun f hf => (g5 f hf).trans (uS_n _ _ _ hf)⟩
    · rw [fRegion_charge_l2_S, fRegion_charge_b2_E]
      clear R I L W X R1 I1 g3 g4 g5 ih
      simp (disch := (first | assumption | omega | decide | (simp only [mK_uI, mK_uP, mL_uI, mL_uP, mK_wI, mL_wI, mK_nA_e, mL_nA_e] <;> (first | assumption | omega)))) only [i3_le_t, i3_le_f, i3_lt_t, i3_lt_f, i3_eq_t, i3_eq_f, i3_add, i3_mul, i3_sub, i3_div, i3_dec, i3_m1, m1_i3, m1_eq, i3_ge0, m1_lt, i3_le_m1, ↓reduceIte, rZ_0, rZ_1, bdR_s, bdW_s, ifN_n, ifN_s, ↓fgI_s, ↓fgR_s, ↓rk_s, ↓fpI_s, ↓fpR_s, ↓fpZ_0, ↓fpZ_1, ↓alI_i, ↓alP_i, ↓asI_i, ↓asB_i, ↓asZ_0, ↓asZ_1, ↓aln_i, ↓fca_s, ↓fca_n, bdC_li, bdC_ri, mK_uI, mK_uP, mL_uI, mL_uP, mP_uI, mI_uP, mK_wI, mL_wI, mP_wI, mI_uI_e, mI_uI_c, nwO_s, mK_nA_e, mL_nA_e, w2, w4, w5, a9, cl, a2, a6, a8, co, hsh, fRegion_charge_j67_E, g1]
    · rw [fMd_pass_l44_S, fMd_pass_b44_E]
      clear R I L W X R1 I1 g3 g4 g5 ih
      rcases (by omega : Lv = 0 ∨ Lv = 1 ∨ Lv = 2) with rfl | rfl | rfl
      · rw [if_pos rfl] at hwt
        rw [hwt] at g2
        simp (disch := (first | assumption | omega | decide | (simp only [mK_uI, mK_uP, mL_uI, mL_uP, mK_wI, mL_wI, mK_nA_e, mL_nA_e] <;> (first | assumption | omega)))) only [i3_le_t, i3_le_f, i3_lt_t, i3_lt_f, i3_eq_t, i3_eq_f, i3_add, i3_mul, i3_sub, i3_div, i3_dec, i3_m1, m1_i3, m1_eq, i3_ge0, m1_lt, i3_le_m1, ↓reduceIte, rZ_0, rZ_1, bdR_s, bdW_s, ifN_n, ifN_s, uS_n, uS_e, uS_d, ↓mgF_s, ↓mpF_s, ↓mgA_2, ↓mgA_4, ↓mgA_6, ↓mgA_7, ↓mgA_9, ↓mgA_10, ↓mgA_12, ↓mgA_14, ↓mgA_15, ↓mgA_16, ↓mgA_17, ↓mgA_18, ↓mgA_19, ↓mgA_20, ↓mgA_21, ↓mgA_22, ↓mgA_23, ↓mgA_24, ↓mgA_25, ↓mgA_26, ↓mgA_27, ↓mgA_28, ↓mgA_29, ↓mgA_30, ↓mgA_31, ↓mgA_32, ↓mgA_33, ↓mgA_34, ↓mgA_35, ↓mgA_36, ↓mgA_37, ↓mgA_38, ↓mgA_39, ↓mgA_41, ↓mgA_42, ↓mgA_43, ↓mgA_44, ↓mgA_45, ↓mgA_46, ↓mpA_2, ↓mpA_4, ↓mpA_6, ↓mpA_7, ↓mpA_9, ↓mpA_10, ↓mpA_12, ↓mpA_14, ↓mpA_15, ↓mpA_16, ↓mpZ_17, ↓mpA_18, ↓mpZ_19, ↓mpA_20, ↓mpA_21, ↓mpA_22, ↓mpA_23, ↓mpA_24, ↓mpZ_25, ↓mpA_26, ↓mpA_27, ↓mpA_28, ↓mpA_29, ↓mpA_30, ↓mpA_31, ↓mpA_32, ↓mpA_33, ↓mpA_34, ↓mpZ_35, ↓mpA_36, ↓mpA_37, ↓mpA_38, ↓mpA_39, ↓mpA_41, ↓mpA_42, ↓mpZ_43, ↓mpA_44, ↓mpA_45, ↓mpA_46, he, hLv, eN, fMd_pass_j109_E, Nat.add_assoc, g2]
      · rw [if_neg (by decide), if_pos rfl] at hwt
        rw [hwt] at g2
        simp (disch := (first | assumption | omega | decide | (simp only [mK_uI, mK_uP, mL_uI, mL_uP, mK_wI, mL_wI, mK_nA_e, mL_nA_e] <;> (first | assumption | omega)))) only [i3_le_t, i3_le_f, i3_lt_t, i3_lt_f, i3_eq_t, i3_eq_f, i3_add, i3_mul, i3_sub, i3_div, i3_dec, i3_m1, m1_i3, m1_eq, i3_ge0, m1_lt, i3_le_m1, ↓reduceIte, rZ_0, rZ_1, bdR_s, bdW_s, ifN_n, ifN_s, uS_n, uS_e, uS_d, ↓mgF_s, ↓mpF_s, ↓mgA_2, ↓mgA_4, ↓mgA_6, ↓mgA_7, ↓mgA_9, ↓mgA_10, ↓mgA_12, ↓mgA_14, ↓mgA_15, ↓mgA_16, ↓mgA_17, ↓mgA_18, ↓mgA_19, ↓mgA_20, ↓mgA_21, ↓mgA_22, ↓mgA_23, ↓mgA_24, ↓mgA_25, ↓mgA_26, ↓mgA_27, ↓mgA_28, ↓mgA_29, ↓mgA_30, ↓mgA_31, ↓mgA_32, ↓mgA_33, ↓mgA_34, ↓mgA_35, ↓mgA_36, ↓mgA_37, ↓mgA_38, ↓mgA_39, ↓mgA_41, ↓mgA_42, ↓mgA_43, ↓mgA_44, ↓mgA_45, ↓mgA_46, ↓mpA_2, ↓mpA_4, ↓mpA_6, ↓mpA_7, ↓mpA_9, ↓mpA_10, ↓mpA_12, ↓mpA_14, ↓mpA_15, ↓mpA_16, ↓mpZ_17, ↓mpA_18, ↓mpZ_19, ↓mpA_20, ↓mpA_21, ↓mpA_22, ↓mpA_23, ↓mpA_24, ↓mpZ_25, ↓mpA_26, ↓mpA_27, ↓mpA_28, ↓mpA_29, ↓mpA_30, ↓mpA_31, ↓mpA_32, ↓mpA_33, ↓mpA_34, ↓mpZ_35, ↓mpA_36, ↓mpA_37, ↓mpA_38, ↓mpA_39, ↓mpA_41, ↓mpA_42, ↓mpZ_43, ↓mpA_44, ↓mpA_45, ↓mpA_46, he, hLv, eN, fMd_pass_j109_E, Nat.add_assoc, g2]
      · rw [if_neg (by decide), if_neg (by decide)] at hwt
        rw [hwt] at g2
        simp (disch := (first | assumption | omega | decide | (simp only [mK_uI, mK_uP, mL_uI, mL_uP, mK_wI, mL_wI, mK_nA_e, mL_nA_e] <;> (first | assumption | omega)))) only [i3_le_t, i3_le_f, i3_lt_t, i3_lt_f, i3_eq_t, i3_eq_f, i3_add, i3_mul, i3_sub, i3_div, i3_dec, i3_m1, m1_i3, m1_eq, i3_ge0, m1_lt, i3_le_m1, ↓reduceIte, rZ_0, rZ_1, bdR_s, bdW_s, ifN_n, ifN_s, uS_n, uS_e, uS_d, ↓mgF_s, ↓mpF_s, ↓mgA_2, ↓mgA_4, ↓mgA_6, ↓mgA_7, ↓mgA_9, ↓mgA_10, ↓mgA_12, ↓mgA_14, ↓mgA_15, ↓mgA_16, ↓mgA_17, ↓mgA_18, ↓mgA_19, ↓mgA_20, ↓mgA_21, ↓mgA_22, ↓mgA_23, ↓mgA_24, ↓mgA_25, ↓mgA_26, ↓mgA_27, ↓mgA_28, ↓mgA_29, ↓mgA_30, ↓mgA_31, ↓mgA_32, ↓mgA_33, ↓mgA_34, ↓mgA_35, ↓mgA_36, ↓mgA_37, ↓mgA_38, ↓mgA_39, ↓mgA_41, ↓mgA_42, ↓mgA_43, ↓mgA_44, ↓mgA_45, ↓mgA_46, ↓mpA_2, ↓mpA_4, ↓mpA_6, ↓mpA_7, ↓mpA_9, ↓mpA_10, ↓mpA_12, ↓mpA_14, ↓mpA_15, ↓mpA_16, ↓mpZ_17, ↓mpA_18, ↓mpZ_19, ↓mpA_20, ↓mpA_21, ↓mpA_22, ↓mpA_23, ↓mpA_24, ↓mpZ_25, ↓mpA_26, ↓mpA_27, ↓mpA_28, ↓mpA_29, ↓mpA_30, ↓mpA_31, ↓mpA_32, ↓mpA_33, ↓mpA_34, ↓mpZ_35, ↓mpA_36, ↓mpA_37, ↓mpA_38, ↓mpA_39, ↓mpA_41, ↓mpA_42, ↓mpZ_43, ↓mpA_44, ↓mpA_45, ↓mpA_46, he, hLv, eN, fMd_pass_j109_E, Nat.add_assoc, g2]
theorem charge_i (R : RR h own B σ M n) (I : IV c σ) (hr : r < 2) (k26 : Int32 → Int32 → Sg → Option (Int32 × Sg)) (k33 : Int32 → Int32 → Int32 → Sg → Option (Int32 × Sg)) (x1 x2 : Int32) : ∃ M' σ', fRegion_charge (gr h r) (some (h + 41)) M = some ((), M') ∧ fMd_pass_l44 k26 k33 FU x1 x2 (i3 r) (i3 (40 * r)) σ = k33 x1 x2 (i3 (r + 1)) σ' ∧ RR h own B σ' M' n ∧ IV c σ' ∧ ∀ f, f ≠ 12 → σ' f = σ f := by
  obtain ⟨V, h40, hV⟩ := (I.vn r hr).to
  obtain ⟨M', σ', g1, g2, g3, g4, g5⟩ := charge_loop (h := h) (c := c) (n := n) (own := own) (B := B) hr h40 k26 k33 x1 x2 V 0 FU σ M (by omega) (FU_S (by omega)) hV R I
  exact ⟨M', σ', by rw [fRegion_charge_E]; exact g1, g2, g3, g4, g5⟩
theorem rules_loop {L : Nat} (hL6 : L ≤ 6) (k26 : Int32 → Int32 → Sg → Option (Int32 × Sg)) (x1 x2 : Int32) : ∀ d j fu (σ : Sg) (M : Mm) (B : BK), d + j = L → d < fu → σ 13 0 = i3 L → RR h own B σ M n → IV c σ → ∃ M' σ' B', fHb_beginDay_l2 h fu (i3 j) M = some ((), M') ∧ fMd_pass_l136 k26 fu x1 x2 (i3 j) σ = k26 x1 (x2 + i3 1) σ' ∧ RR h own B' σ' M' n ∧ IV c σ' ∧ (∀ f, f < 20 ∨ (20 < f ∧ f < 26) ∨ 34 < f → σ' f = σ f) := by
  intro d
  induction d with
  | zero =>
    intro j fu σ M B hd hfu hL R I
    obtain ⟨f, rfl⟩ : ∃ f, fu = f + 1 := ⟨fu - 1, by omega⟩
    have eL : nv (σ 13 0) = L := by rw [hL]; exact nv_i (by omega)
    have k := R.hb.k
    have w1 := R.hb.p6
    have LR := R.rs
    rw [eL] at LR
    have w2 := LR.k
    have w3 := LR.size
    refine ⟨M, σ, B, ?_, ?_, R, I, fun _ _ => rfl⟩
    · rw [fHb_beginDay_l2_S, fHb_beginDay_b2_E]
      clear R I LR
      simp (disch := (first | assumption | omega | decide | (simp only [mK_uI, mK_uP, mL_uI, mL_uP, mK_wI, mL_wI, mK_nA_e, mL_nA_e] <;> (first | assumption | omega)))) only [i3_le_t, i3_le_f, i3_lt_t, i3_lt_f, i3_eq_t, i3_eq_f, i3_add, i3_mul, i3_sub, i3_div, i3_dec, i3_m1, m1_i3, m1_eq, i3_ge0, m1_lt, i3_le_m1, ↓reduceIte, rZ_0, rZ_1, bdR_s, bdW_s, ifN_n, ifN_s, ↓fgI_s, ↓fgR_s, ↓rk_s, ↓fpI_s, ↓fpR_s, ↓fpZ_0, ↓fpZ_1, ↓alI_i, ↓alP_i, ↓asI_i, ↓asB_i, ↓asZ_0, ↓asZ_1, ↓aln_i, ↓fca_s, ↓fca_n, bdC_li, bdC_ri, mK_uI, mK_uP, mL_uI, mL_uP, mP_uI, mI_uP, mK_wI, mL_wI, mP_wI, mI_uI_e, mI_uI_c, nwO_s, mK_nA_e, mL_nA_e, w1, w3]
    · rw [fMd_pass_l136_S, fMd_pass_b136_E]
      clear R I LR
      simp (disch := (first | assumption | omega | decide | (simp only [mK_uI, mK_uP, mL_uI, mL_uP, mK_wI, mL_wI, mK_nA_e, mL_nA_e] <;> (first | assumption | omega)))) only [i3_le_t, i3_le_f, i3_lt_t, i3_lt_f, i3_eq_t, i3_eq_f, i3_add, i3_mul, i3_sub, i3_div, i3_dec, i3_m1, m1_i3, m1_eq, i3_ge0, m1_lt, i3_le_m1, ↓reduceIte, rZ_0, rZ_1, bdR_s, bdW_s, ifN_n, ifN_s, uS_n, uS_e, uS_d, ↓mgF_s, ↓mpF_s, ↓mgA_2, ↓mgA_4, ↓mgA_6, ↓mgA_7, ↓mgA_9, ↓mgA_10, ↓mgA_12, ↓mgA_14, ↓mgA_15, ↓mgA_16, ↓mgA_17, ↓mgA_18, ↓mgA_19, ↓mgA_20, ↓mgA_21, ↓mgA_22, ↓mgA_23, ↓mgA_24, ↓mgA_25, ↓mgA_26, ↓mgA_27, ↓mgA_28, ↓mgA_29, ↓mgA_30, ↓mgA_31, ↓mgA_32, ↓mgA_33, ↓mgA_34, ↓mgA_35, ↓mgA_36, ↓mgA_37, ↓mgA_38, ↓mgA_39, ↓mgA_41, ↓mgA_42, ↓mgA_43, ↓mgA_44, ↓mgA_45, ↓mgA_46, ↓mpA_2, ↓mpA_4, ↓mpA_6, ↓mpA_7, ↓mpA_9, ↓mpA_10, ↓mpA_12, ↓mpA_14, ↓mpA_15, ↓mpA_16, ↓mpZ_17, ↓mpA_18, ↓mpZ_19, ↓mpA_20, ↓mpA_21, ↓mpA_22, ↓mpA_23, ↓mpA_24, ↓mpZ_25, ↓mpA_26, ↓mpA_27, ↓mpA_28, ↓mpA_29, ↓mpA_30, ↓mpA_31, ↓mpA_32, ↓mpA_33, ↓mpA_34, ↓mpZ_35, ↓mpA_36, ↓mpA_37, ↓mpA_38, ↓mpA_39, ↓mpA_41, ↓mpA_42, ↓mpZ_43, ↓mpA_44, ↓mpA_45, ↓mpA_46, hL]
  | succ d ih =>
    intro j fu σ M B hd hfu hL R I
    obtain ⟨f, rfl⟩ : ∃ f, fu = f + 1 := ⟨fu - 1, by omega⟩
    have eL : nv (σ 13 0) = L := by rw [hL]; exact nv_i (by omega)
    have hj : j < nv (σ 13 0) := by omega
    have k := R.hb.k
    have p0 := R.hb.p0
    have w1 := R.hb.p6
    have dy := R.dy
    have LR := R.rs
    rw [eL] at LR
    have w2 := LR.k
    have w3 := LR.size
    have w4 := LR.get (i := j) (by omega)
    have rk := (R.ro j hj).b.k
    have g0 := (R.rg 0 (by omega)).k
    obtain ⟨M1, σ1, B1, s1, s2, R1, I1, s3, s4⟩ := age_i R I (r := 0) (by omega) hj
    have hL1 : σ1 13 0 = i3 L := by rw [s3 13 (by omega)]; exact hL
    have eL1 : nv (σ1 13 0) = L := by rw [hL1]; exact nv_i (by omega)
    have k1 := R1.hb.k
    have p1 := R1.hb.p1
    have v1 := R1.hb.p6
    have dy1 := R1.dy
    have LR1 := R1.rs
    rw [eL1] at LR1
    have v2 := LR1.k
    have v4 := LR1.get (i := j) (by omega)
    have rk1 := (R1.ro j (by rw [eL1]; omega)).b.k
    have g1 := (R1.rg 1 (by omega)).k
    obtain ⟨M2, σ2, B2, t1, t2, R2, I2, t3, t4⟩ := age_i R1 I1 (r := 1) (by omega) (j := j) (by rw [eL1]; omega)
    obtain ⟨M', σ', B', u1, u2, u3, u4, u5⟩ := ih (j + 1) f σ2 M2 B2 (by omega) (by omega) (by rw [t3 13 (by omega)]; exact hL1) R2 I2
    have e0 : gr h 0 = h + 1 := rfl
    have e1 : gr h 1 = h + 17 := rfl
    rw [e0] at s1 g0
    rw [e1] at t1 g1
    refine ⟨M', σ', B', ?_, ?_, u3, u4, fun f hf => (u5 f hf).trans ((t3 f hf).trans (s3 f hf))⟩
    · rw [fHb_beginDay_l2_S, fHb_beginDay_b2_E]
      clear R I LR R1 I1 LR1 R2 I2 u3 u4 u5 ih
      simp (disch := (first | assumption | omega | decide | (simp only [mK_uI, mK_uP, mL_uI, mL_uP, mK_wI, mL_wI, mK_nA_e, mL_nA_e] <;> (first | assumption | omega)))) only [i3_le_t, i3_le_f, i3_lt_t, i3_lt_f, i3_eq_t, i3_eq_f, i3_add, i3_mul, i3_sub, i3_div, i3_dec, i3_m1, m1_i3, m1_eq, i3_ge0, m1_lt, i3_le_m1, ↓reduceIte, rZ_0, rZ_1, bdR_s, bdW_s, ifN_n, ifN_s, ↓fgI_s, ↓fgR_s, ↓rk_s, ↓fpI_s, ↓fpR_s, ↓fpZ_0, ↓fpZ_1, ↓alI_i, ↓alP_i, ↓asI_i, ↓asB_i, ↓asZ_0, ↓asZ_1, ↓aln_i, ↓fca_s, ↓fca_n, bdC_li, bdC_ri, mK_uI, mK_uP, mL_uI, mL_uP, mP_uI, mI_uP, mK_wI, mL_wI, mP_wI, mI_uI_e, mI_uI_c, nwO_s, mK_nA_e, mL_nA_e, w1, w3, p0, w4, dy, s1, p1, v1, v4, dy1, t1, u1]
    · rw [fMd_pass_l136_S, fMd_pass_b136_E]
      clear R I LR R1 I1 LR1 R2 I2 u3 u4 u5 ih
      simp (disch := (first | assumption | omega | decide | (simp only [mK_uI, mK_uP, mL_uI, mL_uP, mK_wI, mL_wI, mK_nA_e, mL_nA_e] <;> (first | assumption | omega)))) only [i3_le_t, i3_le_f, i3_lt_t, i3_lt_f, i3_eq_t, i3_eq_f, i3_add, i3_mul, i3_sub, i3_div, i3_dec, i3_m1, m1_i3, m1_eq, i3_ge0, m1_lt, i3_le_m1, ↓reduceIte, rZ_0, rZ_1, bdR_s, bdW_s, ifN_n, ifN_s, uS_n, uS_e, uS_d, ↓mgF_s, ↓mpF_s, ↓mgA_2, ↓mgA_4, ↓mgA_6, ↓mgA_7, ↓mgA_9, ↓mgA_10, ↓mgA_12, ↓mgA_14, ↓mgA_15, ↓mgA_16, ↓mgA_17, ↓mgA_18, ↓mgA_19, ↓mgA_20, ↓mgA_21, ↓mgA_22, ↓mgA_23, ↓mgA_24, ↓mgA_25, ↓mgA_26, ↓mgA_27, ↓mgA_28, ↓mgA_29, ↓mgA_30, ↓mgA_31, ↓mgA_32, ↓mgA_33, ↓mgA_34, ↓mgA_35, ↓mgA_36, ↓mgA_37, ↓mgA_38, ↓mgA_39, ↓mgA_41, ↓mgA_42, ↓mgA_43, ↓mgA_44, ↓mgA_45, ↓mgA_46, ↓mpA_2, ↓mpA_4, ↓mpA_6, ↓mpA_7, ↓mpA_9, ↓mpA_10, ↓mpA_12, ↓mpA_14, ↓mpA_15, ↓mpA_16, ↓mpZ_17, ↓mpA_18, ↓mpZ_19, ↓mpA_20, ↓mpA_21, ↓mpA_22, ↓mpA_23, ↓mpA_24, ↓mpZ_25, ↓mpA_26, ↓mpA_27, ↓mpA_28, ↓mpA_29, ↓mpA_30, ↓mpA_31, ↓mpA_32, ↓mpA_33, ↓mpA_34, ↓mpZ_35, ↓mpA_36, ↓mpA_37, ↓mpA_38, ↓mpA_39, ↓mpA_41, ↓mpA_42, ↓mpZ_43, ↓mpA_44, ↓mpA_45, ↓mpA_46, hL, s2, t2, u2]
theorem RR.setdy (R : RR h own B σ M n) (v : Int32) : RR h own B (uS σ 11 0 v) (uI M 1109 h 0 v) n := by
  have f : FRM (fun t => t = 1) own M own (uI M 1109 h 0 v) := (IOS.uI _ _ _ _).frm fun _ a z _ => by rw [z.2]; exact R.hb.o
  have hdy : mI (uI M 1109 h 0 v) 1109 h 0 = uS σ 11 0 v 11 0 := by rw [mI_uI_e, uS_e]
  have hnm : mI (uI M 1109 h 0 v) 1108 h 0 = σ 8 0 := by rw [mI_uI_c _ _ _ _ (by decide)]; exact R.nm
  exact ⟨R.fr, R.k_em f, R.k_hb f, R.k_rg f, hnm, hdy, R.k_dm f (by first | omega | (intro z; dsimp only at z; omega)), R.k_db f (by first | omega | (intro z; dsimp only at z; omega)), R.k_nb f (by first | omega | (intro z; dsimp only at z; omega)), R.k_co f (by first | omega | (intro z; dsimp only at z; omega)), fun r0 hr0 => R.k_up f hr0 (by first | omega | (intro z; dsimp only at z; omega)), fun r0 hr0 => R.k_hd f hr0 (by first | omega | (intro z; dsimp only at z; omega)), R.k_en f (by first | omega | (intro z; dsimp only at z; omega)), fun r0 hr0 => R.k_vl f hr0 (by first | omega | (intro z; dsimp only at z; omega)), fun r0 hr0 => R.k_vo f hr0 (by first | omega | (intro z; dsimp only at z; omega)), fun r0 hr0 => R.k_kl f hr0 (by first | omega | (intro z; dsimp only at z; omega)), fun r0 hr0 => R.k_pl f hr0 (by first | omega | (intro z; dsimp only at z; omega)), fun r0 hr0 => R.k_po f hr0 (by first | omega | (intro z; dsimp only at z; omega)), R.k_us f (by first | omega | (intro z; dsimp only at z; omega)), fun u0 hu0 => R.k_uo f hu0 (by first | omega | (intro z; dsimp only at z; omega)), R.k_rs f (by first | omega | (intro z; dsimp only at z; omega)), R.k_ro f (by first | omega | (intro z; dsimp only at z; omega))⟩
theorem IV.setdy (I : IV c σ) {D : Nat} (hD : σ 11 0 = i3 D) (h1 : D + 1 ≤ 20000) (h2 : D + 1 ≤ 30 * c) : IV c (uS σ 11 0 (i3 (D + 1))) := by
  have eD : nv (σ 11 0) = D := by rw [hD]; exact nv_i (by omega)
  have e2 : nv (uS σ 11 0 (i3 (D + 1)) 11 0) = D + 1 := by rw [uS_e]; exact nv_i (by omega)
  have hdy : NB 20000 (uS σ 11 0 (i3 (D + 1)) 11 0) := by rw [uS_e]; exact NB.of h1 (by omega)
  have hdc : nv (uS σ 11 0 (i3 (D + 1)) 11 0) ≤ 30 * c := by rw [e2]; exact h2
  have hen : ∀ k, 1 ≤ k → k ≤ nv (σ 8 0) → IVE (uS σ 11 0 (i3 (D + 1))) k := fun k k1 k2 => by
    have E := I.en k k1 k2
    refine ⟨E.ma, E.by, E.ke, ?_⟩
    have d := E.da
    rw [eD] at d
    show NB (nv (uS σ 11 0 (i3 (D + 1)) 11 0)) (σ 39 k)
    rw [e2]; exact d.mono (by omega)
  have hvo : ∀ r, r < 2 → ∀ i, i < nv (σ 26 r) → IVV (uS σ 11 0 (i3 (D + 1))) r (40 * r + i) := fun r hr i hi => by
    obtain ⟨x1, x2, x3, x4, x5, x6, x7, x8, x9, x10, x11⟩ := I.vo r hr i hi
    refine ⟨x1, x2, x3, x4, x5, ?_, x7, x8, x9, x10, x11⟩
    rcases x6 with x6 | ⟨x6, x6'⟩
    · exact Or.inl x6
    · right
      refine ⟨?_, x6'⟩
      rw [eD] at x6
      rw [e2]; exact x6.mono (by omega)
  exact ⟨I.dr, I.db, I.ev, hdy, hdc, hen, I.vn, hvo, I.vi, I.hd, I.kn, I.ks, I.ko, I.pn, I.po, I.dn, I.un, I.uo, I.uz, I.up, I.rn, I.rk⟩
theorem day_c {M1 M2 M4 : Mm} {f m x D : Nat} (hx : x < m) (hm : m ≤ 30) (hD : D < 30000) (k : mK M h = 11) (p0 : mP M 1100 h 0 = some (h + 1)) (p7 : mP M 1107 h 0 = some (h + 41)) (g0 : mK M (h + 1) = 6) (s1 : fRegion_charge (h + 1) (some (h + 41)) M = some ((), M1)) (k1 : mK M1 h = 11) (p1 : mP M1 1101 h 0 = some (h + 17)) (p71 : mP M1 1107 h 0 = some (h + 41)) (g1 : mK M1 (h + 17) = 6) (t1 : fRegion_charge (h + 17) (some (h + 41)) M1 = some ((), M2)) (k2 : mK M2 h = 11) (dy2 : mI M2 1109 h 0 = i3 D) (u1 : fHb_beginDay h (uI M2 1109 h 0 (i3 (D + 1))) = some ((), M4)) : fHb_pass_l9 h (f + 1) (i3 m) (i3 x) M n = fHb_pass_l9 h f (i3 m) (i3 (x + 1)) M4 n := by
  have k3 : mK (uI M2 1109 h 0 (i3 (D + 1))) h = 11 := k2
  rw [fHb_pass_l9_S, fHb_pass_b9_E]
  simp (disch := (first | assumption | omega | decide | (simp only [mK_uI, mK_uP, mL_uI, mL_uP, mK_wI, mL_wI, mK_nA_e, mL_nA_e] <;> (first | assumption | omega)))) only [i3_le_t, i3_le_f, i3_lt_t, i3_lt_f, i3_eq_t, i3_eq_f, i3_add, i3_mul, i3_sub, i3_div, i3_dec, i3_m1, m1_i3, m1_eq, i3_ge0, m1_lt, i3_le_m1, ↓reduceIte, rZ_0, rZ_1, bdR_s, bdW_s, ifN_n, ifN_s, ↓fgI_s, ↓fgR_s, ↓rk_s, ↓fpI_s, ↓fpR_s, ↓fpZ_0, ↓fpZ_1, ↓alI_i, ↓alP_i, ↓asI_i, ↓asB_i, ↓asZ_0, ↓asZ_1, ↓aln_i, ↓fca_s, ↓fca_n, bdC_li, bdC_ri, mK_uI, mK_uP, mL_uI, mL_uP, mP_uI, mI_uP, mK_wI, mL_wI, mP_wI, mI_uI_e, mI_uI_c, nwO_s, mK_nA_e, mL_nA_e, p0, p7, s1, p1, p71, t1, dy2, u1]
theorem day_m {σ1 σ2 σ4 : Sg} {f F m x D : Nat} (hF : FU = F + 1 + 1 + 1) (hx : x < m) (hm : m ≤ 30) (s2 : fMd_pass_l44 (fMd_pass_l26 f) (fMd_pass_l33 (fMd_pass_l26 f) (F + 1 + 1)) FU (i3 m) (i3 x) (i3 0) (i3 0) σ = fMd_pass_l33 (fMd_pass_l26 f) (F + 1 + 1) (i3 m) (i3 x) (i3 1) σ1) (t2 : fMd_pass_l44 (fMd_pass_l26 f) (fMd_pass_l33 (fMd_pass_l26 f) (F + 1)) FU (i3 m) (i3 x) (i3 1) (i3 40) σ1 = fMd_pass_l33 (fMd_pass_l26 f) (F + 1) (i3 m) (i3 x) (i3 2) σ2) (hD2 : σ2 11 0 = i3 D) (u2 : fMd_pass_l136 (fMd_pass_l26 f) FU (i3 m) (i3 x) (i3 0) (uS σ2 11 0 (i3 (D + 1))) = fMd_pass_l26 f (i3 m) (i3 (x + 1)) σ4) : fMd_pass_l26 (f + 1) (i3 m) (i3 x) σ = fMd_pass_l26 f (i3 m) (i3 (x + 1)) σ4 := by
  have c0 : ¬ i3 m ≤ i3 x := fun z => absurd ((i3_le (by omega) (by omega)).mp z) (by omega)
  have c1 : ¬ i3 2 ≤ i3 0 := by decide
  have c2 : ¬ i3 2 ≤ i3 1 := by decide
  have c3 : i3 2 ≤ i3 2 := by decide
  have m0 : i3 40 * i3 0 = i3 0 := by decide
  have m1' : i3 40 * i3 1 = i3 40 := by decide
  rw [fMd_pass_l26_S, fMd_pass_b26_E, if_neg c0, hF, fMd_pass_l33_S, fMd_pass_b33_E, if_neg c1, m0, s2, fMd_pass_l33_S, fMd_pass_b33_E, if_neg c2, m1', t2, fMd_pass_l33_S, fMd_pass_b33_E, if_pos c3, mgF_s, mpF_s, hD2, i3_add, u2]
theorem days_loop {m : Nat} (hm : m ≤ 30) : ∀ d x D fu (σ : Sg) (M : Mm) (B : BK), d + x = m → d < fu → RR h own B σ M n → IV c σ → σ 11 0 = i3 D → D + d ≤ 20000 → D + d ≤ 30 * c → ∃ M' σ' B', fHb_pass_l9 h fu (i3 m) (i3 x) M n = some (.inl (i3 (D + d)), M', n) ∧ fMd_pass_l26 fu (i3 m) (i3 x) σ = some (i3 (D + d), σ') ∧ RR h own B' σ' M' n ∧ IV c σ' ∧ σ' 0 = σ 0 ∧ σ' 36 = σ 36 ∧ σ' 18 = σ 18 ∧ σ' 8 = σ 8 := by
  intro d
  induction d with
  | zero =>
    intro x D fu σ M B hd hfu R I hD h1 h2
    obtain ⟨f, rfl⟩ : ∃ f, fu = f + 1 := ⟨fu - 1, by omega⟩
    have k := R.hb.k
    have dy := R.dy
    rw [hD] at dy
    refine ⟨M, σ, B, ?_, ?_, R, I, rfl, rfl, rfl, rfl⟩
    · rw [fHb_pass_l9_S, fHb_pass_b9_E]
      clear R I
      simp (disch := (first | assumption | omega | decide | (simp only [mK_uI, mK_uP, mL_uI, mL_uP, mK_wI, mL_wI, mK_nA_e, mL_nA_e] <;> (first | assumption | omega)))) only [i3_le_t, i3_le_f, i3_lt_t, i3_lt_f, i3_eq_t, i3_eq_f, i3_add, i3_mul, i3_sub, i3_div, i3_dec, i3_m1, m1_i3, m1_eq, i3_ge0, m1_lt, i3_le_m1, ↓reduceIte, rZ_0, rZ_1, bdR_s, bdW_s, ifN_n, ifN_s, ↓fgI_s, ↓fgR_s, ↓rk_s, ↓fpI_s, ↓fpR_s, ↓fpZ_0, ↓fpZ_1, ↓alI_i, ↓alP_i, ↓asI_i, ↓asB_i, ↓asZ_0, ↓asZ_1, ↓aln_i, ↓fca_s, ↓fca_n, bdC_li, bdC_ri, mK_uI, mK_uP, mL_uI, mL_uP, mP_uI, mI_uP, mK_wI, mL_wI, mP_wI, mI_uI_e, mI_uI_c, nwO_s, mK_nA_e, mL_nA_e, dy, Nat.add_zero]
    · rw [fMd_pass_l26_S, fMd_pass_b26_E]
      clear R I
      simp (disch := (first | assumption | omega | decide | (simp only [mK_uI, mK_uP, mL_uI, mL_uP, mK_wI, mL_wI, mK_nA_e, mL_nA_e] <;> (first | assumption | omega)))) only [i3_le_t, i3_le_f, i3_lt_t, i3_lt_f, i3_eq_t, i3_eq_f, i3_add, i3_mul, i3_sub, i3_div, i3_dec, i3_m1, m1_i3, m1_eq, i3_ge0, m1_lt, i3_le_m1, ↓reduceIte, rZ_0, rZ_1, bdR_s, bdW_s, ifN_n, ifN_s, uS_n, uS_e, uS_d, ↓mgF_s, ↓mpF_s, ↓mgA_2, ↓mgA_4, ↓mgA_6, ↓mgA_7, ↓mgA_9, ↓mgA_10, ↓mgA_12, ↓mgA_14, ↓mgA_15, ↓mgA_16, ↓mgA_17, ↓mgA_18, ↓mgA_19, ↓mgA_20, ↓mgA_21, ↓mgA_22, ↓mgA_23, ↓mgA_24, ↓mgA_25, ↓mgA_26, ↓mgA_27, ↓mgA_28, ↓mgA_29, ↓mgA_30, ↓mgA_31, ↓mgA_32, ↓mgA_33, ↓mgA_34, ↓mgA_35, ↓mgA_36, ↓mgA_37, ↓mgA_38, ↓mgA_39, ↓mgA_41, ↓mgA_42, ↓mgA_43, ↓mgA_44, ↓mgA_45, ↓mgA_46, ↓mpA_2, ↓mpA_4, ↓mpA_6, ↓mpA_7, ↓mpA_9, ↓mpA_10, ↓mpA_12, ↓mpA_14, ↓mpA_15, ↓mpA_16, ↓mpZ_17, ↓mpA_18, ↓mpZ_19, ↓mpA_20, ↓mpA_21, ↓mpA_22, ↓mpA_23, ↓mpA_24, ↓mpZ_25, ↓mpA_26, ↓mpA_27, ↓mpA_28, ↓mpA_29, ↓mpA_30, ↓mpA_31, ↓mpA_32, ↓mpA_33, ↓mpA_34, ↓mpZ_35, ↓mpA_36, ↓mpA_37, ↓mpA_38, ↓mpA_39, ↓mpA_41, ↓mpA_42, ↓mpZ_43, ↓mpA_44, ↓mpA_45, ↓mpA_46, hD, Nat.add_zero]
  | succ d ih =>
    intro x D fu σ M B hd hfu R I hD h1 h2
    obtain ⟨f, rfl⟩ : ∃ f, fu = f + 1 := ⟨fu - 1, by omega⟩
    obtain ⟨F, hF⟩ : ∃ F, FU = F + 1 + 1 + 1 := ⟨99997, rfl⟩
    have k := R.hb.k
    have p0 := R.hb.p0
    have p7 := R.hb.p7
    have g0 := (R.rg 0 (by omega)).k
    obtain ⟨M1, σ1, s1, s2, R1, I1, s3⟩ := charge_i R I (r := 0) (by omega) (fMd_pass_l26 f) (fMd_pass_l33 (fMd_pass_l26 f) (F + 1 + 1)) (i3 m) (i3 x)
    have k1 := R1.hb.k
    have p1 := R1.hb.p1
    have p71 := R1.hb.p7
    have g1 := (R1.rg 1 (by omega)).k
    obtain ⟨M2, σ2, t1, t2, R2, I2, t3⟩ := charge_i R1 I1 (r := 1) (by omega) (fMd_pass_l26 f) (fMd_pass_l33 (fMd_pass_l26 f) (F + 1)) (i3 m) (i3 x)
    have k2 := R2.hb.k
    have hD2 : σ2 11 0 = i3 D := by rw [t3 11 (by decide), s3 11 (by decide)]; exact hD
    have dy2 := R2.dy
    rw [hD2] at dy2
    have R3 := R2.setdy (i3 (D + 1))
    have I3 := I2.setdy hD2 (by omega) (by omega)
    obtain ⟨L, hL6, hL⟩ := I3.rn.to
    obtain ⟨M4, σ4, B4, u1, u2, R4, I4, u3⟩ := rules_loop (h := h) (c := c) (n := n) (own := own) hL6 (fMd_pass_l26 f) (i3 m) (i3 x) L 0 FU _ _ B (by omega) (FU_S (by omega)) hL R3 I3
    have k3 : mK (uI M2 1109 h 0 (i3 (D + 1))) h = 11 := k2
    have hD4 : σ4 11 0 = i3 (D + 1) := by rw [u3 11 (by omega), uS_e]
    obtain ⟨M', σ', B', v1, v2, v3, v4, v5, v6, v7, v8⟩ := ih (x + 1) (D + 1) f σ4 M4 B4 (by omega) (by omega) R4 I4 hD4 (by omega) (by omega)
    have e0 : gr h 0 = h + 1 := rfl
    have e1 : gr h 1 = h + 17 := rfl
    rw [e0] at s1 g0
    rw [e1] at t1 g1
    have eD : D + 1 + d = D + (d + 1) := by omega
    rw [eD] at v1 v2
    have fin : ∀ k, k ≠ 11 → k ≠ 12 → (k < 20 ∨ (20 < k ∧ k < 26) ∨ 34 < k) → σ4 k = σ k := fun k h11 h12 hk => by
      rw [u3 k hk, uS_n _ _ _ h11, t3 k h12, s3 k h12]
    refine ⟨M', σ', B', ?_, ?_, v3, v4, v5.trans (fin 0 (by decide) (by decide) (by omega)), v6.trans (fin 36 (by decide) (by decide) (by omega)), v7.trans (fin 18 (by decide) (by decide) (by omega)), v8.trans (fin 8 (by decide) (by decide) (by omega))⟩
    · have dc := day_c (n := n) (f := f) (m := m) (x := x) (D := D) (by omega) hm (by omega) k p0 p7 g0 s1 k1 p1 p71 g1 t1 k2 dy2 (by rw [fHb_beginDay_E]; exact u1)
      rw [dc]; exact v1
    · have m0 : i3 (40 * 0) = i3 0 := rfl
      rw [m0] at s2
      rw [i3_add] at u2
      have dm := day_m (f := f) (F := F) (m := m) (x := x) (D := D) hF (by omega) hm s2 t2 hD2 u2
      rw [dm]; exact v2
theorem op_pass (R : RR h own B σ M n) (I : IV c σ) (hc : c ≤ 600) (x1 : Int32) : OPR h c σ n (fHb_pass h x1 M n) (fMd_pass x1 σ) (cdf 0 1 0) := by
  have hn : n ≤ n + 1 := Nat.le_succ n
  by_cases hx : inR x1 1 30
  · have q6 := inR_c (M := M) (n := n) hx (by omega)
    have q7 := inR_m hx (by omega)
    obtain ⟨m, hm1, hm, rfl⟩ := hx
    obtain ⟨D, hD2, hD⟩ := I.dy.to
    have eD : nv (σ 11 0) = D := by rw [hD]; exact nv_i (by omega)
    have dc := I.dc
    rw [eD] at dc
    obtain ⟨M', σ', B', g1, g2, g3, g4, g5, g6, g7, g8⟩ := days_loop (h := h) (c := c + 1) (n := n) (own := own) hm m 0 D FU (uS σ 0 0 (i3 0)) M B (by omega) (FU_S (by omega)) (R.scf (scf0 _)) (I.scf (scf0 _)).up0 hD (by omega) (by omega)
    refine ⟨.inl (i3 (D + m)), M', n, i3 (D + m), σ', ?_, ?_, ⟨by rw [g5]; rfl, rfl⟩, Nat.le_refl n, POT.same (by omega) (by omega) g6 g7 g8, own, B', g3, g4⟩
    · clear R I g3 g4
      simp (disch := (first | assumption | omega | decide | (simp only [mK_uI, mK_uP, mL_uI, mL_uP, mK_wI, mL_wI, mK_nA_e, mL_nA_e] <;> (first | assumption | omega)))) only [i3_le_t, i3_le_f, i3_lt_t, i3_lt_f, i3_eq_t, i3_eq_f, i3_add, i3_mul, i3_sub, i3_div, i3_dec, i3_m1, m1_i3, m1_eq, i3_ge0, m1_lt, i3_le_m1, ↓reduceIte, rZ_0, rZ_1, bdR_s, bdW_s, ifN_n, ifN_s, ↓fgI_s, ↓fgR_s, ↓rk_s, ↓fpI_s, ↓fpR_s, ↓fpZ_0, ↓fpZ_1, ↓alI_i, ↓alP_i, ↓asI_i, ↓asB_i, ↓asZ_0, ↓asZ_1, ↓aln_i, ↓fca_s, ↓fca_n, bdC_li, bdC_ri, mK_uI, mK_uP, mL_uI, mL_uP, mP_uI, mI_uP, mK_wI, mL_wI, mP_wI, mI_uI_e, mI_uI_c, nwO_s, mK_nA_e, mL_nA_e, fHb_pass_E, q6, g1]
    · clear R I g3 g4
      simp (disch := (first | assumption | omega | decide | (simp only [mK_uI, mK_uP, mL_uI, mL_uP, mK_wI, mL_wI, mK_nA_e, mL_nA_e] <;> (first | assumption | omega)))) only [i3_le_t, i3_le_f, i3_lt_t, i3_lt_f, i3_eq_t, i3_eq_f, i3_add, i3_mul, i3_sub, i3_div, i3_dec, i3_m1, m1_i3, m1_eq, i3_ge0, m1_lt, i3_le_m1, ↓reduceIte, rZ_0, rZ_1, bdR_s, bdW_s, ifN_n, ifN_s, uS_n, uS_e, uS_d, ↓mgF_s, ↓mpF_s, ↓mgA_2, ↓mgA_4, ↓mgA_6, ↓mgA_7, ↓mgA_9, ↓mgA_10, ↓mgA_12, ↓mgA_14, ↓mgA_15, ↓mgA_16, ↓mgA_17, ↓mgA_18, ↓mgA_19, ↓mgA_20, ↓mgA_21, ↓mgA_22, ↓mgA_23, ↓mgA_24, ↓mgA_25, ↓mgA_26, ↓mgA_27, ↓mgA_28, ↓mgA_29, ↓mgA_30, ↓mgA_31, ↓mgA_32, ↓mgA_33, ↓mgA_34, ↓mgA_35, ↓mgA_36, ↓mgA_37, ↓mgA_38, ↓mgA_39, ↓mgA_41, ↓mgA_42, ↓mgA_43, ↓mgA_44, ↓mgA_45, ↓mgA_46, ↓mpA_2, ↓mpA_4, ↓mpA_6, ↓mpA_7, ↓mpA_9, ↓mpA_10, ↓mpA_12, ↓mpA_14, ↓mpA_15, ↓mpA_16, ↓mpZ_17, ↓mpA_18, ↓mpZ_19, ↓mpA_20, ↓mpA_21, ↓mpA_22, ↓mpA_23, ↓mpA_24, ↓mpZ_25, ↓mpA_26, ↓mpA_27, ↓mpA_28, ↓mpA_29, ↓mpA_30, ↓mpA_31, ↓mpA_32, ↓mpA_33, ↓mpA_34, ↓mpZ_35, ↓mpA_36, ↓mpA_37, ↓mpA_38, ↓mpA_39, ↓mpA_41, ↓mpA_42, ↓mpZ_43, ↓mpA_44, ↓mpA_45, ↓mpA_46, fMd_pass_E, q7, fMd_pass_j16_E, m_holds0, g2]
  · have q6 := noR_c (M := M) (n := n) hx (by omega) (by omega)
    have q7 := noR_m hx (by omega) (by omega)
    refine OPR.err R I 1 1 (v := i3 0) ?_ ?_ rfl (by omega) (by omega)
    · simp (disch := (first | assumption | omega | decide | (simp only [mK_uI, mK_uP, mL_uI, mL_uP, mK_wI, mL_wI, mK_nA_e, mL_nA_e] <;> (first | assumption | omega)))) only [i3_le_t, i3_le_f, i3_lt_t, i3_lt_f, i3_eq_t, i3_eq_f, i3_add, i3_mul, i3_sub, i3_div, i3_dec, i3_m1, m1_i3, m1_eq, i3_ge0, m1_lt, i3_le_m1, ↓reduceIte, rZ_0, rZ_1, bdR_s, bdW_s, ifN_n, ifN_s, ↓fgI_s, ↓fgR_s, ↓rk_s, ↓fpI_s, ↓fpR_s, ↓fpZ_0, ↓fpZ_1, ↓alI_i, ↓alP_i, ↓asI_i, ↓asB_i, ↓asZ_0, ↓asZ_1, ↓aln_i, ↓fca_s, ↓fca_n, bdC_li, bdC_ri, mK_uI, mK_uP, mL_uI, mL_uP, mP_uI, mI_uP, mK_wI, mL_wI, mP_wI, mI_uI_e, mI_uI_c, nwO_s, mK_nA_e, mL_nA_e, fHb_pass_E, q6]
    · simp (disch := (first | assumption | omega | decide | (simp only [mK_uI, mK_uP, mL_uI, mL_uP, mK_wI, mL_wI, mK_nA_e, mL_nA_e] <;> (first | assumption | omega)))) only [i3_le_t, i3_le_f, i3_lt_t, i3_lt_f, i3_eq_t, i3_eq_f, i3_add, i3_mul, i3_sub, i3_div, i3_dec, i3_m1, m1_i3, m1_eq, i3_ge0, m1_lt, i3_le_m1, ↓reduceIte, rZ_0, rZ_1, bdR_s, bdW_s, ifN_n, ifN_s, uS_n, uS_e, uS_d, ↓mgF_s, ↓mpF_s, ↓mgA_2, ↓mgA_4, ↓mgA_6, ↓mgA_7, ↓mgA_9, ↓mgA_10, ↓mgA_12, ↓mgA_14, ↓mgA_15, ↓mgA_16, ↓mgA_17, ↓mgA_18, ↓mgA_19, ↓mgA_20, ↓mgA_21, ↓mgA_22, ↓mgA_23, ↓mgA_24, ↓mgA_25, ↓mgA_26, ↓mgA_27, ↓mgA_28, ↓mgA_29, ↓mgA_30, ↓mgA_31, ↓mgA_32, ↓mgA_33, ↓mgA_34, ↓mgA_35, ↓mgA_36, ↓mgA_37, ↓mgA_38, ↓mgA_39, ↓mgA_41, ↓mgA_42, ↓mgA_43, ↓mgA_44, ↓mgA_45, ↓mgA_46, ↓mpA_2, ↓mpA_4, ↓mpA_6, ↓mpA_7, ↓mpA_9, ↓mpA_10, ↓mpA_12, ↓mpA_14, ↓mpA_15, ↓mpA_16, ↓mpZ_17, ↓mpA_18, ↓mpZ_19, ↓mpA_20, ↓mpA_21, ↓mpA_22, ↓mpA_23, ↓mpA_24, ↓mpZ_25, ↓mpA_26, ↓mpA_27, ↓mpA_28, ↓mpA_29, ↓mpA_30, ↓mpA_31, ↓mpA_32, ↓mpA_33, ↓mpA_34, ↓mpZ_35, ↓mpA_36, ↓mpA_37, ↓mpA_38, ↓mpA_39, ↓mpA_41, ↓mpA_42, ↓mpZ_43, ↓mpA_44, ↓mpA_45, ↓mpA_46, fMd_pass_E, q7, fMd_pass_j16_E, m_holdsk]
end PA

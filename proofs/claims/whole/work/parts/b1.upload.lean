set_option maxRecDepth 100000
/-! upload -/
section UP
variable {h c n r : Nat} {own : Nat → Nat} {B : BK} {σ : Sg} {M : Mm}
/-- the pieces made so far -/
def PCS (M : Mm) (u k : Nat) : Prop := ∀ j, j < k → mP M 0 (u + 1) j = some (u + 2 + 2 * j) ∧ mK M (u + 2 + 2 * j) = 1 ∧ mP M 100 (u + 2 + 2 * j) 0 = some (u + 2 + 2 * j + 1) ∧ mK M (u + 2 + 2 * j + 1) = 20 ∧ mL M (u + 2 + 2 * j + 1) = 40 ∧ mI M 101 (u + 2 + 2 * j) 0 = i3 0
theorem up_loop {u : Nat} : ∀ d k fu (M : Mm), d + k = 9 → d < fu → mK M u = 9 → mP M 902 u 0 = some (u + 1) → mK M (u + 1) = 24 → mL M (u + 1) = 9 → PCS M u k → ∃ M', fUpload_init_l25 u fu (i3 k) M (u + 2 + 2 * k) = some (.inl (), M', u + 20) ∧ PCS M' u 9 ∧ NEWM u M M' ∧ SAM M M' u ∧ mK M' (u + 1) = 24 ∧ mL M' (u + 1) = 9 := by
  intro d
  induction d with
  | zero =>
    intro k fu M hd hfu h1 h2 h3 h4 h5
    obtain ⟨f, rfl⟩ : ∃ f, fu = f + 1 := ⟨fu - 1, by omega⟩
    have hk : k = 9 := by omega
    subst hk
    refine ⟨M, ?_, h5, NEWM.refl, SAM.rfl', h3, h4⟩
    rw [fUpload_init_l25_S, fUpload_init_b25_E]
    simp (disch := (first | assumption | omega | decide | (simp only [mK_uI, mK_uP, mL_uI, mL_uP, mK_wI, mL_wI, mK_nA_e, mL_nA_e] <;> (first | assumption | omega)))) only [i3_le_t, i3_le_f, i3_lt_t, i3_lt_f, i3_eq_t, i3_eq_f, i3_add, i3_mul, i3_sub, i3_div, i3_dec, i3_m1, m1_i3, m1_eq, i3_ge0, m1_lt, i3_le_m1, ↓reduceIte, rZ_0, rZ_1, bdR_s, bdW_s, ifN_n, ifN_s, ↓fgI_s, ↓fgR_s, ↓rk_s, ↓fpI_s, ↓fpR_s, ↓fpZ_0, ↓fpZ_1, ↓alI_i, ↓alP_i, ↓asI_i, ↓asB_i, ↓asZ_0, ↓asZ_1, ↓aln_i, ↓fca_s, ↓fca_n, bdC_li, bdC_ri, mK_uI, mK_uP, mL_uI, mL_uP, mP_uI, mI_uP, mK_wI, mL_wI, mP_wI, mI_uI_e, mI_uI_c, nwO_s, mK_nA_e, mL_nA_e, h2, h4]
  | succ d ih =>
    intro k fu M hd hfu h1 h2 h3 h4 h5
    obtain ⟨f, rfl⟩ : ∃ f, fu = f + 1 := ⟨fu - 1, by omega⟩
    obtain ⟨n, hn⟩ : ∃ n, n = u + 2 + 2 * k := ⟨_, rfl⟩
    have b0 : mK (nA M n 1 0) n = 1 := mK_nA_e _ _ _ _
    have b1 := bytes_init (M := nA M n 1 0) (n := n + 1) (a0 := n) b0 (Nat.lt_succ_self n)
    obtain ⟨M2, hM2⟩ : ∃ M2, M2 = uP (nA (nA M n 1 0) (n + 1) 20 40) 100 n 0 (some (n + 1)) := ⟨_, rfl⟩
    rw [← hM2] at b1
    have hN : NEWM n M M2 := by
      rw [hM2]
      exact ((NEWM.nA (Nat.le_refl n)).trans (NEWM.nA (Nat.le_succ n))).trans (NEWM.uP (Nat.le_refl n))
    have k1 : mK M2 n = 1 ∧ mP M2 100 n 0 = some (n + 1) ∧ mK M2 (n + 1) = 20 ∧ mL M2 (n + 1) = 40 ∧ mI M2 101 n 0 = i3 0 := by
      rw [hM2]
      refine ⟨?_, ?_, ?_, ?_, ?_⟩
      · rw [mK_uP, mK_nA, if_neg (by omega), mK_nA_e]
      · rw [mP_uP, if_pos ⟨rfl, rfl, rfl⟩]
      · rw [mK_uP, mK_nA_e]
      · rw [mL_uP, mL_nA_e]
      · rw [mI_uP, mI_nA, if_neg (by omega), mI_nA, if_pos rfl]; rfl
    clear hM2
    have u1 := hN u (by omega)
    have u2 := hN (u + 1) (by omega)
    have c1 : mK M2 u = 9 := u1.1.trans h1
    have c2 : mP M2 902 u 0 = some (u + 1) := (u1.2.2.1 _ _).trans h2
    have c3 : mK M2 (u + 1) = 24 := u2.1.trans h3
    have c4 : mL M2 (u + 1) = 9 := u2.2.1.trans h4
    have pk : pok 24 (some n) M2 = true := by
      show (if (24 : Nat) = 24 then decide (mK M2 n = 1) else decide (1 ≤ mK M2 n ∧ mK M2 n ≤ 12)) = true
      rw [if_pos rfl]; exact decide_eq_true k1.1
    have e1 : ∀ f1 : Mm → Option ((Unit ⊕ Nat) × Mm × Nat), asP 24 (some (u + 1)) (i3 k) (some n) M2 f1 = f1 (uP M2 0 (u + 1) k (some n)) := fun f1 => asP_i c3 pk (by omega) (by omega)
    obtain ⟨M3, hM3⟩ : ∃ M3, M3 = uP M2 0 (u + 1) k (some n) := ⟨_, rfl⟩
    have s3 : ∀ a, a ≠ u + 1 → SAM M2 M3 a := fun a ha => by
      rw [hM3]
      exact ⟨rfl, rfl, fun c j => by rw [mP_uP, if_neg (fun z => ha z.2.1)], fun c j => rfl⟩
    have p3 : ∀ j, mP M3 0 (u + 1) j = if j = k then some n else mP M2 0 (u + 1) j := fun j => by
      rw [hM3, mP_uP]
      by_cases z : j = k
      · rw [if_pos z, if_pos ⟨rfl, rfl, z⟩]
      · rw [if_neg z, if_neg (fun w => z w.2.2)]
    have k3 : mK M3 (u + 1) = 24 ∧ mL M3 (u + 1) = 9 := by rw [hM3]; exact ⟨c3, c4⟩
    have e1' := e1
    rw [← hM3] at e1'
    clear hM3 e1
    have d1 : mK M3 u = 9 := (s3 u (by omega)).1.trans c1
    have d2 : mP M3 902 u 0 = some (u + 1) := ((s3 u (by omega)).2.2.1 _ _).trans c2
    have hp : PCS M3 u (k + 1) := fun j hj => by
      by_cases z : j = k
      · subst z
        rw [p3, if_pos rfl, ← hn]
        have s := s3 n (by omega)
        have s' := s3 (n + 1) (by omega)
        exact ⟨rfl, s.1.trans k1.1, (s.2.2.1 _ _).trans k1.2.1, s'.1.trans k1.2.2.1, s'.2.1.trans k1.2.2.2.1, (s.2.2.2 _ _).trans k1.2.2.2.2⟩
      · obtain ⟨x1, x2, x3, x4, x5, x6⟩ := h5 j (by omega)
        have s := (hN (u + 2 + 2 * j) (by omega)).trans (s3 _ (by omega))
        have s' := (hN (u + 2 + 2 * j + 1) (by omega)).trans (s3 _ (by omega))
        refine ⟨?_, s.1.trans x2, (s.2.2.1 _ _).trans x3, s'.1.trans x4, s'.2.1.trans x5, (s.2.2.2 _ _).trans x6⟩
        rw [p3, if_neg z, u2.2.2.1]; exact x1
    obtain ⟨M', g1, g2, g3, g4, g5, g6⟩ := ih (k + 1) f M3 (by omega) (by omega) d1 d2 k3.1 k3.2 hp
    have en : u + 2 + 2 * (k + 1) = n + 1 + 1 := by omega
    rw [en] at g1
    refine ⟨M', ?_, g2, ?_, (u1.trans (s3 u (by omega))).trans g4, g5, g6⟩
    · have k1' := k1.1
      have le1 : n + 1 ≤ n + 1 + 1 := by omega
      rw [fUpload_init_l25_S, fUpload_init_b25_E, ← hn]
      clear ih hp p3 s3 hN u1 u2 h5 g2 g3 g4 c1 c2 d1 d2 k3
      have bd : ∀ f1 : Unit → Mm → Nat → Option ((Unit ⊕ Nat) × Mm × Nat), bdN (some ((.inl () : Unit ⊕ Nat), M2, n + 1 + 1)) (n + 1) f1 = f1 () M2 (n + 1 + 1) := fun f1 => bdN_l le1
      simp (disch := (first | assumption | omega | decide | (simp only [mK_uI, mK_uP, mL_uI, mL_uP, mK_wI, mL_wI, mK_nA_e, mL_nA_e] <;> (first | assumption | omega)))) only [i3_le_t, i3_le_f, i3_lt_t, i3_lt_f, i3_eq_t, i3_eq_f, i3_add, i3_mul, i3_sub, i3_div, i3_dec, i3_m1, m1_i3, m1_eq, i3_ge0, m1_lt, i3_le_m1, ↓reduceIte, rZ_0, rZ_1, bdR_s, bdW_s, ifN_n, ifN_s, ↓fgI_s, ↓fgR_s, ↓rk_s, ↓fpI_s, ↓fpR_s, ↓fpZ_0, ↓fpZ_1, ↓alI_i, ↓alP_i, ↓asI_i, ↓asB_i, ↓asZ_0, ↓asZ_1, ↓aln_i, ↓fca_s, ↓fca_n, bdC_li, bdC_ri, mK_uI, mK_uP, mL_uI, mL_uP, mP_uI, mI_uP, mK_wI, mL_wI, mP_wI, mI_uI_e, mI_uI_c, nwO_s, mK_nA_e, mL_nA_e, h2, h4, b1, bd, e1', g1]
    · exact fun a ha => ((hN a (by omega)).trans (s3 a (by omega))).trans (g3 a ha)
theorem op_upload (R : RR h own B σ M n) (I : IV c σ) (x1 x2 : Int32) : OPR h c σ n (fHb_upload h x1 x2 M n) (fMd_upload x1 x2 σ) (cdf 1 2 3) := by
  have k := R.hb.k
  have hn : n ≤ n + 1 := Nat.le_succ n
  rcases regs x1 with ⟨r, hr, rfl⟩ | ⟨h0, h1⟩
  · have q1 := c_reg (n := n) R hr
    have q2 := m_reg hr
    rcases key_c x2 with ⟨k1, k2⟩ | ⟨k1, k2⟩
    · have q3 := c_key (M := M) (n := n) k1
      have w1 := R.hb.p5
      obtain ⟨L, hL12, hL⟩ := I.un.to
      have eL : nv (σ 40 0) = L := by rw [hL]; exact nv_i (by omega)
      have LR := R.us
      rw [eL] at LR
      have w2 := LR.k
      have w3 := LR.size
      by_cases z : L = 12
      · refine OPR.err R I 2 3 (v := i3 0) ?_ ?_ rfl (by omega) (by omega)
        · clear R I LR
          simp (disch := (first | assumption | omega | decide | (simp only [mK_uI, mK_uP, mL_uI, mL_uP, mK_wI, mL_wI, mK_nA_e, mL_nA_e] <;> (first | assumption | omega)))) only [i3_le_t, i3_le_f, i3_lt_t, i3_lt_f, i3_eq_t, i3_eq_f, i3_add, i3_mul, i3_sub, i3_div, i3_dec, i3_m1, m1_i3, m1_eq, i3_ge0, m1_lt, i3_le_m1, ↓reduceIte, rZ_0, rZ_1, bdR_s, bdW_s, ifN_n, ifN_s, ↓fgI_s, ↓fgR_s, ↓rk_s, ↓fpI_s, ↓fpR_s, ↓fpZ_0, ↓fpZ_1, ↓alI_i, ↓alP_i, ↓asI_i, ↓asB_i, ↓asZ_0, ↓asZ_1, ↓aln_i, ↓fca_s, ↓fca_n, bdC_li, bdC_ri, mK_uI, mK_uP, mL_uI, mL_uP, mP_uI, mI_uP, mK_wI, mL_wI, mP_wI, mI_uI_e, mI_uI_c, nwO_s, mK_nA_e, mL_nA_e, fHb_upload_E, q1, q3, w1, w3, fHb_upload_j27_E, c_st0]
        · clear R I LR
          simp (disch := (first | assumption | omega | decide | (simp only [mK_uI, mK_uP, mL_uI, mL_uP, mK_wI, mL_wI, mK_nA_e, mL_nA_e] <;> (first | assumption | omega)))) only [i3_le_t, i3_le_f, i3_lt_t, i3_lt_f, i3_eq_t, i3_eq_f, i3_add, i3_mul, i3_sub, i3_div, i3_dec, i3_m1, m1_i3, m1_eq, i3_ge0, m1_lt, i3_le_m1, ↓reduceIte, rZ_0, rZ_1, bdR_s, bdW_s, ifN_n, ifN_s, uS_n, uS_e, uS_d, ↓mgF_s, ↓mpF_s, ↓mgA_2, ↓mgA_4, ↓mgA_6, ↓mgA_7, ↓mgA_9, ↓mgA_10, ↓mgA_12, ↓mgA_14, ↓mgA_15, ↓mgA_16, ↓mgA_17, ↓mgA_18, ↓mgA_19, ↓mgA_20, ↓mgA_21, ↓mgA_22, ↓mgA_23, ↓mgA_24, ↓mgA_25, ↓mgA_26, ↓mgA_27, ↓mgA_28, ↓mgA_29, ↓mgA_30, ↓mgA_31, ↓mgA_32, ↓mgA_33, ↓mgA_34, ↓mgA_35, ↓mgA_36, ↓mgA_37, ↓mgA_38, ↓mgA_39, ↓mgA_41, ↓mgA_42, ↓mgA_43, ↓mgA_44, ↓mgA_45, ↓mgA_46, ↓mpA_2, ↓mpA_4, ↓mpA_6, ↓mpA_7, ↓mpA_9, ↓mpA_10, ↓mpA_12, ↓mpA_14, ↓mpA_15, ↓mpA_16, ↓mpZ_17, ↓mpA_18, ↓mpZ_19, ↓mpA_20, ↓mpA_21, ↓mpA_22, ↓mpA_23, ↓mpA_24, ↓mpZ_25, ↓mpA_26, ↓mpA_27, ↓mpA_28, ↓mpA_29, ↓mpA_30, ↓mpA_31, ↓mpA_32, ↓mpA_33, ↓mpA_34, ↓mpZ_35, ↓mpA_36, ↓mpA_37, ↓mpA_38, ↓mpA_39, ↓mpA_41, ↓mpA_42, ↓mpZ_43, ↓mpA_44, ↓mpA_45, ↓mpA_46, fMd_upload_E, q2, k2, hL, z, fMd_upload_j37_E, m_holdsk]
      · obtain ⟨M1, hM1⟩ : ∃ M1, M1 = uI (uP (uP (nA (nA M n 9 0) (n + 1) 24 9) 902 n 0 (some (n + 1))) 900 n 0 (some (gr h r))) 901 n 0 x2 := ⟨_, rfl⟩
        have hN1 : NEWM n M M1 := by
          rw [hM1]
          exact ((((NEWM.nA (Nat.le_refl n)).trans (NEWM.nA (Nat.le_succ n))).trans (NEWM.uP (Nat.le_refl n))).trans (NEWM.uP (Nat.le_refl n))).trans (NEWM.uI (Nat.le_refl n))
        have hne : ¬ n = n + 1 := by omega
        have f1 : mK M1 n = 9 ∧ mP M1 902 n 0 = some (n + 1) ∧ mP M1 900 n 0 = some (gr h r) ∧ mK M1 (n + 1) = 24 ∧ mL M1 (n + 1) = 9 ∧ mI M1 901 n 0 = x2 ∧ mI M1 903 n 0 = i3 0 := by
          rw [hM1]
          refine ⟨?_, ?_, ?_, ?_, ?_, ?_, ?_⟩
          · rw [mK_uI, mK_uP, mK_uP, mK_nA, if_neg hne, mK_nA_e]
          · rw [mP_uI, mP_uP, if_neg (by omega), mP_uP, if_pos ⟨rfl, rfl, rfl⟩]
          · rw [mP_uI, mP_uP, if_pos ⟨rfl, rfl, rfl⟩]
          · rw [mK_uI, mK_uP, mK_uP, mK_nA_e]
          · rw [mL_uI, mL_uP, mL_uP, mL_nA_e]
          · rw [mI_uI_e]
          · rw [mI_uI_c _ _ _ _ (by decide), mI_uP, mI_uP, mI_nA, if_neg hne, mI_nA, if_pos rfl]; rfl
        obtain ⟨M2, g1, g2, g3, g4, g5, g6⟩ := up_loop (u := n) 9 0 FU M1 (by omega) (FU_S (by omega)) f1.1 f1.2.1 f1.2.2.2.1 f1.2.2.2.2.1 (fun j hj => by omega)
        have e1 : fUpload_init n (some (gr h r)) x2 (nA M n 9 0) (n + 1) = some (.inl (), M2, n + 20) := by
          have kk : mK (nA (nA M n 9 0) (n + 1) 24 9) n = 9 := by rw [mK_nA, if_neg hne, mK_nA_e]
          rw [hM1] at g1
          clear R I LR hN1 f1 g2 g3 g4
          simp (disch := (first | assumption | omega | decide | (simp only [mK_uI, mK_uP, mL_uI, mL_uP, mK_wI, mL_wI, mK_nA_e, mL_nA_e] <;> (first | assumption | omega)))) only [i3_le_t, i3_le_f, i3_lt_t, i3_lt_f, i3_eq_t, i3_eq_f, i3_add, i3_mul, i3_sub, i3_div, i3_dec, i3_m1, m1_i3, m1_eq, i3_ge0, m1_lt, i3_le_m1, ↓reduceIte, rZ_0, rZ_1, bdR_s, bdW_s, ifN_n, ifN_s, ↓fgI_s, ↓fgR_s, ↓rk_s, ↓fpI_s, ↓fpR_s, ↓fpZ_0, ↓fpZ_1, ↓alI_i, ↓alP_i, ↓asI_i, ↓asB_i, ↓asZ_0, ↓asZ_1, ↓aln_i, ↓fca_s, ↓fca_n, bdC_li, bdC_ri, mK_uI, mK_uP, mL_uI, mL_uP, mP_uI, mI_uP, mK_wI, mL_wI, mP_wI, mI_uI_e, mI_uI_c, nwO_s, mK_nA_e, mL_nA_e, fUpload_init_E, ↓nwA_i]
          exact g1
        have hN : NEWM n M M2 := hN1.trans g3
        have f2 : mK M2 n = 9 ∧ mP M2 902 n 0 = some (n + 1) ∧ mP M2 900 n 0 = some (gr h r) ∧ mI M2 901 n 0 = x2 ∧ mI M2 903 n 0 = i3 0 := ⟨g4.1.trans f1.1, (g4.2.2.1 _ _).trans f1.2.1, (g4.2.2.1 _ _).trans f1.2.2.1, (g4.2.2.2 _ _).trans f1.2.2.2.2.2.1, (g4.2.2.2 _ _).trans f1.2.2.2.2.2.2⟩
        clear hN1 f1 g1 g3 g4 hM1
        have fm1 : FRM (fun _ => False) own M (oR own n (n + 20) (30 + L)) M2 := hN.frm R.fr fun x hx => oR_n hx
        have L1 : LST (oR own n (n + 20) (30 + L)) M2 (h + 39) 22 L (ul B) := by
          have := R.k_us fm1 (fun z => z)
          rw [eL] at this; exact this
        have el : ELS (oR own n (n + 20) (30 + L)) M2 L (ul B) := fun i hi => by
          have x := R.k_uo fm1 (u := i) (by rw [eL]; exact hi) (fun z => z)
          have o := x.b.o
          have kk := x.b.k
          exact ⟨by rw [o]; omega, by rw [kk]; omega, by rw [kk]; omega⟩
        have on : ∀ i, i < 20 → oR own n (n + 20) (30 + L) (n + i) = 30 + L := fun i hi => oR_e (by omega) (by omega)
        have on0 : oR own n (n + 20) (30 + L) n = 30 + L := on 0 (by omega)
        obtain ⟨own2, M3, n3, e2, h5, h6, fr2, f3, L2⟩ := add1_i L1 (R.k_em fm1) (R.fr.oR (30 + L) (by omega)) el (by omega) (by omega) (x := n) (by rw [f2.1]; omega) (by rw [f2.1]; omega) (by rw [on0]; omega) (by rw [on0]; omega)
        have f : FRM (fun t => t = 22) own M own2 M3 := (fm1.trans f3).mono fun t z => z.elim (fun w => w.elim) id
        have sn : ∀ i, i < 20 → own2 (n + i) = 30 + L ∧ SAM M2 M3 (n + i) := fun i hi => by
          have s := f3 (n + i) (by rw [on i hi]; omega)
          rw [on i hi] at s
          exact ⟨s.1, s.2.1 (by omega)⟩
        have hb3 := R.k_hb f
        have v1 := hb3.k
        have v2 := hb3.p5
        have v3 := L2.k
        have v4 := L2.size
        have v5 := L1.k
        have s0 := sn 0 (by omega)
        have s1 := sn 1 (by omega)
        rw [Nat.add_zero] at s0
        have hup : UPC own2 M3 n (30 + L) (gr h r) x2 (i3 0) (fun k => σ 44 (9 * L + k)) (fun k j => σ 45 (40 * (9 * L + k) + j)) := by
          refine ⟨⟨s0.2.1.trans f2.1, (s0.2.2.2.1 _ _).trans f2.2.2.1, (s0.2.2.2.1 _ _).trans f2.2.1, s0.1, s1.2.1.trans g5, s1.2.2.1.trans g6, s1.1⟩, (s0.2.2.2.2 _ _).trans f2.2.2.2.1, (s0.2.2.2.2 _ _).trans f2.2.2.2.2, fun k hk => ?_⟩
          obtain ⟨y1, y2, y3, y4, y5, y6⟩ := g2 k hk
          have a1 := sn (2 + 2 * k) (by omega)
          have a2 := sn (2 + 2 * k + 1) (by omega)
          have ea1 : n + (2 + 2 * k) = n + 2 + 2 * k := by omega
          have ea2 : n + (2 + 2 * k + 1) = n + 2 + 2 * k + 1 := by omega
          rw [ea1] at a1
          rw [ea2] at a2
          have hz := (I.uz L (by rw [eL]; omega) (by omega)).2 k hk
          refine ⟨(s1.2.2.2.1 _ _).trans y1, ⟨a1.2.1.trans y2, (a1.2.2.2.1 _ _).trans y3, a2.2.1.trans y4, a2.2.2.1.trans y5, a1.1, a2.1⟩, ?_, fun j hj => ?_⟩
          · show _ = σ 44 (9 * L + k)
            rw [hz]; exact (a1.2.2.2.2 _ _).trans y6
          · have hj : j < nv (σ 44 (9 * L + k)) := hj
            rw [hz, nv0] at hj; omega
        refine ⟨.inl (i3 L), M3, n3, i3 L, uS (uS (uS (uS σ 0 0 (i3 0)) 41 L (i3 r)) 42 L x2) 40 0 (i3 (L + 1)), ?_, ?_, ⟨rfl, rfl⟩, by omega, POT.same (by omega) (by omega) rfl rfl rfl, own2, (B.1, B.2.1, B.2.2.1, (fun j => if j = L then n else ul B j), B.2.2.2.2), ?_, ?_⟩
        · have f21 := f2.1
          have le1 : n + 1 ≤ n + 20 := by omega
          have bd : ∀ f1 : Unit → Mm → Nat → Option ((Int32 ⊕ Nat) × Mm × Nat), bdN (some ((.inl () : Unit ⊕ Nat), M2, n + 20)) (n + 1) f1 = f1 () M2 (n + 20) := fun f1 => bdN_l le1
          have e5 : L + 1 - 1 = L := by omega
          clear R I LR L1 L2 f f2 fm1 f3 hN hb3 el on sn s0 s1 hup g2
          simp (disch := (first | assumption | omega | decide | (simp only [mK_uI, mK_uP, mL_uI, mL_uP, mK_wI, mL_wI, mK_nA_e, mL_nA_e] <;> (first | assumption | omega)))) only [i3_le_t, i3_le_f, i3_lt_t, i3_lt_f, i3_eq_t, i3_eq_f, i3_add, i3_mul, i3_sub, i3_div, i3_dec, i3_m1, m1_i3, m1_eq, i3_ge0, m1_lt, i3_le_m1, ↓reduceIte, rZ_0, rZ_1, bdR_s, bdW_s, ifN_n, ifN_s, ↓fgI_s, ↓fgR_s, ↓rk_s, ↓fpI_s, ↓fpR_s, ↓fpZ_0, ↓fpZ_1, ↓alI_i, ↓alP_i, ↓asI_i, ↓asB_i, ↓asZ_0, ↓asZ_1, ↓aln_i, ↓fca_s, ↓fca_n, bdC_li, bdC_ri, mK_uI, mK_uP, mL_uI, mL_uP, mP_uI, mI_uP, mK_wI, mL_wI, mP_wI, mI_uI_e, mI_uI_c, nwO_s, mK_nA_e, mL_nA_e, fHb_upload_E, q1, q3, w1, w3, fHb_upload_j27_E, c_st1, e1, bd, e2, v2, v4, e5]
        · have e5 : L + 1 - 1 = L := by omega
          clear R I LR L1 L2 f f2 fm1 f3 hN hb3 el on sn s0 s1 hup g2
          simp (disch := (first | assumption | omega | decide | (simp only [mK_uI, mK_uP, mL_uI, mL_uP, mK_wI, mL_wI, mK_nA_e, mL_nA_e] <;> (first | assumption | omega)))) only [i3_le_t, i3_le_f, i3_lt_t, i3_lt_f, i3_eq_t, i3_eq_f, i3_add, i3_mul, i3_sub, i3_div, i3_dec, i3_m1, m1_i3, m1_eq, i3_ge0, m1_lt, i3_le_m1, ↓reduceIte, rZ_0, rZ_1, bdR_s, bdW_s, ifN_n, ifN_s, uS_n, uS_e, uS_d, ↓mgF_s, ↓mpF_s, ↓mgA_2, ↓mgA_4, ↓mgA_6, ↓mgA_7, ↓mgA_9, ↓mgA_10, ↓mgA_12, ↓mgA_14, ↓mgA_15, ↓mgA_16, ↓mgA_17, ↓mgA_18, ↓mgA_19, ↓mgA_20, ↓mgA_21, ↓mgA_22, ↓mgA_23, ↓mgA_24, ↓mgA_25, ↓mgA_26, ↓mgA_27, ↓mgA_28, ↓mgA_29, ↓mgA_30, ↓mgA_31, ↓mgA_32, ↓mgA_33, ↓mgA_34, ↓mgA_35, ↓mgA_36, ↓mgA_37, ↓mgA_38, ↓mgA_39, ↓mgA_41, ↓mgA_42, ↓mgA_43, ↓mgA_44, ↓mgA_45, ↓mgA_46, ↓mpA_2, ↓mpA_4, ↓mpA_6, ↓mpA_7, ↓mpA_9, ↓mpA_10, ↓mpA_12, ↓mpA_14, ↓mpA_15, ↓mpA_16, ↓mpZ_17, ↓mpA_18, ↓mpZ_19, ↓mpA_20, ↓mpA_21, ↓mpA_22, ↓mpA_23, ↓mpA_24, ↓mpZ_25, ↓mpA_26, ↓mpA_27, ↓mpA_28, ↓mpA_29, ↓mpA_30, ↓mpA_31, ↓mpA_32, ↓mpA_33, ↓mpA_34, ↓mpZ_35, ↓mpA_36, ↓mpA_37, ↓mpA_38, ↓mpA_39, ↓mpA_41, ↓mpA_42, ↓mpZ_43, ↓mpA_44, ↓mpA_45, ↓mpA_46, fMd_upload_E, q2, k2, hL, fMd_upload_j37_E, m_holds0, e5]
        · have e40 : nv (uS (uS (uS (uS σ 0 0 (i3 0)) 41 L (i3 r)) 42 L x2) 40 0 (i3 (L + 1)) 40 0) = L + 1 := by rw [uS_e]; exact nv_i (by omega)
          have hus : LST own2 M3 (h + 39) 22 (nv (uS (uS (uS (uS σ 0 0 (i3 0)) 41 L (i3 r)) 42 L x2) 40 0 (i3 (L + 1)) 40 0)) (fun j => if j = L then n else ul B j) := by rw [e40]; exact L2
          have huo : ∀ u, u < nv (uS (uS (uS (uS σ 0 0 (i3 0)) 41 L (i3 r)) 42 L x2) 40 0 (i3 (L + 1)) 40 0) → UPC own2 M3 (if u = L then n else ul B u) (30 + u) (gr h (nv (uS (uS (uS (uS σ 0 0 (i3 0)) 41 L (i3 r)) 42 L x2) 40 0 (i3 (L + 1)) 41 u))) (uS (uS (uS (uS σ 0 0 (i3 0)) 41 L (i3 r)) 42 L x2) 40 0 (i3 (L + 1)) 42 u) (σ 43 u) (fun k => σ 44 (9 * u + k)) (fun k j => σ 45 (40 * (9 * u + k) + j)) := fun u hu => by
            rw [e40] at hu
            by_cases w : u = L
            · subst w
              rw [if_pos rfl, uS_n _ _ _ (show (41 : Nat) ≠ 40 by decide), uS_n _ _ _ (show (41 : Nat) ≠ 42 by decide), uS_e, uS_n _ _ _ (show (42 : Nat) ≠ 40 by decide), uS_e, nv_i (by omega), (I.uz u (by rw [eL]; omega) (by omega)).1]
              exact hup
            · rw [if_neg w, uS_n _ _ _ (show (41 : Nat) ≠ 40 by decide), uS_n _ _ _ (show (41 : Nat) ≠ 42 by decide), uS_d _ _ _ _ w, uS_n _ _ _ (show (42 : Nat) ≠ 40 by decide), uS_d _ _ _ _ w]
              exact R.k_uo f (by rw [eL]; omega) (by omega)
          exact ⟨fr2, R.k_em f, R.k_hb f, R.k_rg f, R.k_nm f (by first | omega | (intro z; dsimp only at z; omega)), R.k_dy f (by first | omega | (intro z; dsimp only at z; omega)), R.k_dm f (by first | omega | (intro z; dsimp only at z; omega)), R.k_db f (by first | omega | (intro z; dsimp only at z; omega)), R.k_nb f (by first | omega | (intro z; dsimp only at z; omega)), R.k_co f (by first | omega | (intro z; dsimp only at z; omega)), fun r0 hr0 => R.k_up f hr0 (by first | omega | (intro z; dsimp only at z; omega)), fun r0 hr0 => R.k_hd f hr0 (by first | omega | (intro z; dsimp only at z; omega)), R.k_en f (by first | omega | (intro z; dsimp only at z; omega)), fun r0 hr0 => R.k_vl f hr0 (by first | omega | (intro z; dsimp only at z; omega)), fun r0 hr0 => R.k_vo f hr0 (by first | omega | (intro z; dsimp only at z; omega)), fun r0 hr0 => R.k_kl f hr0 (by first | omega | (intro z; dsimp only at z; omega)), fun r0 hr0 => R.k_pl f hr0 (by first | omega | (intro z; dsimp only at z; omega)), fun r0 hr0 => R.k_po f hr0 (by first | omega | (intro z; dsimp only at z; omega)), hus, huo, R.k_rs f (by first | omega | (intro z; dsimp only at z; omega)), R.k_ro f (by first | omega | (intro z; dsimp only at z; omega))⟩
        · have e40 : nv (uS (uS (uS (uS σ 0 0 (i3 0)) 41 L (i3 r)) 42 L x2) 40 0 (i3 (L + 1)) 40 0) = L + 1 := by rw [uS_e]; exact nv_i (by omega)
          have hun : NB 12 (uS (uS (uS (uS σ 0 0 (i3 0)) 41 L (i3 r)) 42 L x2) 40 0 (i3 (L + 1)) 40 0) := by rw [uS_e]; exact NB.of (by omega) (by omega)
          have huo : ∀ u, u < nv (uS (uS (uS (uS σ 0 0 (i3 0)) 41 L (i3 r)) 42 L x2) 40 0 (i3 (L + 1)) 40 0) → IVU (uS (uS (uS (uS σ 0 0 (i3 0)) 41 L (i3 r)) 42 L x2) 40 0 (i3 (L + 1))) u := fun u hu => by
            rw [e40] at hu
            by_cases w : u = L
            · subst w
              refine ⟨?_, ?_, ?_⟩
              · rw [uS_n _ _ _ (show (41 : Nat) ≠ 40 by decide), uS_n _ _ _ (show (41 : Nat) ≠ 42 by decide), uS_e]; exact NB.of (by omega) (by omega)
              · rw [uS_n _ _ _ (show (42 : Nat) ≠ 40 by decide), uS_e]; exact k1
              · show NB 1 (σ 43 u)
                rw [(I.uz u (by rw [eL]; omega) (by omega)).1]; exact NB.of (by omega) (by omega)
            · have x := I.uo u (by rw [eL]; omega)
              refine ⟨?_, ?_, x.ov⟩
              · rw [uS_n _ _ _ (show (41 : Nat) ≠ 40 by decide), uS_n _ _ _ (show (41 : Nat) ≠ 42 by decide), uS_d _ _ _ _ w]; exact x.re
              · rw [uS_n _ _ _ (show (42 : Nat) ≠ 40 by decide), uS_d _ _ _ _ w]; exact x.ke
          have huz : ∀ u, nv (uS (uS (uS (uS σ 0 0 (i3 0)) 41 L (i3 r)) 42 L x2) 40 0 (i3 (L + 1)) 40 0) ≤ u → u < 12 → σ 43 u = i3 0 ∧ ∀ k, k < 9 → σ 44 (9 * u + k) = i3 0 := fun u hu hu2 => by
            rw [e40] at hu
            exact I.uz u (by rw [eL]; omega) hu2
          exact ⟨I.up0.dr, I.up0.db, I.up0.ev, I.up0.dy, I.up0.dc, I.up0.en, I.up0.vn, I.up0.vo, I.up0.vi, I.up0.hd, I.up0.kn, I.up0.ks, I.up0.ko, I.up0.pn, I.up0.po, I.up0.dn, hun, huo, huz, I.up0.up, I.up0.rn, I.up0.rk⟩
    · have q3 := c_nokey (M := M) (n := n) k1
      refine OPR.err R I 1 2 (v := i3 0) ?_ ?_ rfl (by omega) (by omega)
      · simp (disch := (first | assumption | omega | decide | (simp only [mK_uI, mK_uP, mL_uI, mL_uP, mK_wI, mL_wI, mK_nA_e, mL_nA_e] <;> (first | assumption | omega)))) only [i3_le_t, i3_le_f, i3_lt_t, i3_lt_f, i3_eq_t, i3_eq_f, i3_add, i3_mul, i3_sub, i3_div, i3_dec, i3_m1, m1_i3, m1_eq, i3_ge0, m1_lt, i3_le_m1, ↓reduceIte, rZ_0, rZ_1, bdR_s, bdW_s, ifN_n, ifN_s, ↓fgI_s, ↓fgR_s, ↓rk_s, ↓fpI_s, ↓fpR_s, ↓fpZ_0, ↓fpZ_1, ↓alI_i, ↓alP_i, ↓asI_i, ↓asB_i, ↓asZ_0, ↓asZ_1, ↓aln_i, ↓fca_s, ↓fca_n, bdC_li, bdC_ri, mK_uI, mK_uP, mL_uI, mL_uP, mP_uI, mI_uP, mK_wI, mL_wI, mP_wI, mI_uI_e, mI_uI_c, nwO_s, mK_nA_e, mL_nA_e, fHb_upload_E, q1, q3]
      · simp (disch := (first | assumption | omega | decide | (simp only [mK_uI, mK_uP, mL_uI, mL_uP, mK_wI, mL_wI, mK_nA_e, mL_nA_e] <;> (first | assumption | omega)))) only [i3_le_t, i3_le_f, i3_lt_t, i3_lt_f, i3_eq_t, i3_eq_f, i3_add, i3_mul, i3_sub, i3_div, i3_dec, i3_m1, m1_i3, m1_eq, i3_ge0, m1_lt, i3_le_m1, ↓reduceIte, rZ_0, rZ_1, bdR_s, bdW_s, ifN_n, ifN_s, uS_n, uS_e, uS_d, ↓mgF_s, ↓mpF_s, ↓mgA_2, ↓mgA_4, ↓mgA_6, ↓mgA_7, ↓mgA_9, ↓mgA_10, ↓mgA_12, ↓mgA_14, ↓mgA_15, ↓mgA_16, ↓mgA_17, ↓mgA_18, ↓mgA_19, ↓mgA_20, ↓mgA_21, ↓mgA_22, ↓mgA_23, ↓mgA_24, ↓mgA_25, ↓mgA_26, ↓mgA_27, ↓mgA_28, ↓mgA_29, ↓mgA_30, ↓mgA_31, ↓mgA_32, ↓mgA_33, ↓mgA_34, ↓mgA_35, ↓mgA_36, ↓mgA_37, ↓mgA_38, ↓mgA_39, ↓mgA_41, ↓mgA_42, ↓mgA_43, ↓mgA_44, ↓mgA_45, ↓mgA_46, ↓mpA_2, ↓mpA_4, ↓mpA_6, ↓mpA_7, ↓mpA_9, ↓mpA_10, ↓mpA_12, ↓mpA_14, ↓mpA_15, ↓mpA_16, ↓mpZ_17, ↓mpA_18, ↓mpZ_19, ↓mpA_20, ↓mpA_21, ↓mpA_22, ↓mpA_23, ↓mpA_24, ↓mpZ_25, ↓mpA_26, ↓mpA_27, ↓mpA_28, ↓mpA_29, ↓mpA_30, ↓mpA_31, ↓mpA_32, ↓mpA_33, ↓mpA_34, ↓mpZ_35, ↓mpA_36, ↓mpA_37, ↓mpA_38, ↓mpA_39, ↓mpA_41, ↓mpA_42, ↓mpZ_43, ↓mpA_44, ↓mpA_45, ↓mpA_46, fMd_upload_E, q2, k2, fMd_upload_j37_E, m_holdsk]
  · have q1 := c_noreg (h := h) (M := M) (n := n) h0 h1
    have q2 := m_noreg h0 h1
    refine OPR.err R I 0 1 (v := i3 0) ?_ ?_ rfl (by omega) (by omega)
    · simp (disch := (first | assumption | omega | decide | (simp only [mK_uI, mK_uP, mL_uI, mL_uP, mK_wI, mL_wI, mK_nA_e, mL_nA_e] <;> (first | assumption | omega)))) only [i3_le_t, i3_le_f, i3_lt_t, i3_lt_f, i3_eq_t, i3_eq_f, i3_add, i3_mul, i3_sub, i3_div, i3_dec, i3_m1, m1_i3, m1_eq, i3_ge0, m1_lt, i3_le_m1, ↓reduceIte, rZ_0, rZ_1, bdR_s, bdW_s, ifN_n, ifN_s, ↓fgI_s, ↓fgR_s, ↓rk_s, ↓fpI_s, ↓fpR_s, ↓fpZ_0, ↓fpZ_1, ↓alI_i, ↓alP_i, ↓asI_i, ↓asB_i, ↓asZ_0, ↓asZ_1, ↓aln_i, ↓fca_s, ↓fca_n, bdC_li, bdC_ri, mK_uI, mK_uP, mL_uI, mL_uP, mP_uI, mI_uP, mK_wI, mL_wI, mP_wI, mI_uI_e, mI_uI_c, nwO_s, mK_nA_e, mL_nA_e, fHb_upload_E, q1]
    · simp (disch := (first | assumption | omega | decide | (simp only [mK_uI, mK_uP, mL_uI, mL_uP, mK_wI, mL_wI, mK_nA_e, mL_nA_e] <;> (first | assumption | omega)))) only [i3_le_t, i3_le_f, i3_lt_t, i3_lt_f, i3_eq_t, i3_eq_f, i3_add, i3_mul, i3_sub, i3_div, i3_dec, i3_m1, m1_i3, m1_eq, i3_ge0, m1_lt, i3_le_m1, ↓reduceIte, rZ_0, rZ_1, bdR_s, bdW_s, ifN_n, ifN_s, uS_n, uS_e, uS_d, ↓mgF_s, ↓mpF_s, ↓mgA_2, ↓mgA_4, ↓mgA_6, ↓mgA_7, ↓mgA_9, ↓mgA_10, ↓mgA_12, ↓mgA_14, ↓mgA_15, ↓mgA_16, ↓mgA_17, ↓mgA_18, ↓mgA_19, ↓mgA_20, ↓mgA_21, ↓mgA_22, ↓mgA_23, ↓mgA_24, ↓mgA_25, ↓mgA_26, ↓mgA_27, ↓mgA_28, ↓mgA_29, ↓mgA_30, ↓mgA_31, ↓mgA_32, ↓mgA_33, ↓mgA_34, ↓mgA_35, ↓mgA_36, ↓mgA_37, ↓mgA_38, ↓mgA_39, ↓mgA_41, ↓mgA_42, ↓mgA_43, ↓mgA_44, ↓mgA_45, ↓mgA_46, ↓mpA_2, ↓mpA_4, ↓mpA_6, ↓mpA_7, ↓mpA_9, ↓mpA_10, ↓mpA_12, ↓mpA_14, ↓mpA_15, ↓mpA_16, ↓mpZ_17, ↓mpA_18, ↓mpZ_19, ↓mpA_20, ↓mpA_21, ↓mpA_22, ↓mpA_23, ↓mpA_24, ↓mpZ_25, ↓mpA_26, ↓mpA_27, ↓mpA_28, ↓mpA_29, ↓mpA_30, ↓mpA_31, ↓mpA_32, ↓mpA_33, ↓mpA_34, ↓mpZ_35, ↓mpA_36, ↓mpA_37, ↓mpA_38, ↓mpA_39, ↓mpA_41, ↓mpA_42, ↓mpZ_43, ↓mpA_44, ↓mpA_45, ↓mpA_46, fMd_upload_E, q2, fMd_upload_j37_E, m_holdsk]
end UP

set_option maxRecDepth 100000
/-! a region's bytes and counts agree: the check, and the call -/
section AM
variable {h c n r : Nat} {own : Nat → Nat} {B : BK} {σ : Sg} {M M' : Mm}
theorem sc46 {σ' : Sg} (e : ∀ k, k ≠ 46 → σ' k = σ k) : ∀ k, ¬ SCF k → σ' k = σ k := fun k hk => e k (fun z => hk (by unfold SCF; omega))
theorem m_agree_b (R : RR h own B σ M n) (I : IV c σ) (hr : r < 2) {i : Nat} (hi : i < nv (σ 26 r)) (k28 : Int32 → Int32 → Int32 → Sg → Option (Int32 × Sg)) : ∀ d x fu (σ1 : Sg), d + x = nv (σ 9 (nv (σ 27 (40 * r + i)))) → d < fu → (∀ k, k ≠ 46 → σ1 k = σ k) → ∃ σ', fMd_agrees_l44 k28 fu (i3 r) (i3 1) (i3 (40 * r + i)) (i3 x) σ1 = k28 (i3 r) (i3 1) (i3 (40 * r + i + 1)) σ' ∧ ∀ k, k ≠ 46 → σ' k = σ k := by
  have X := I.vo r hr i hi
  have i40 := (I.vn r hr).2
  obtain ⟨N, hN200, hN⟩ := X.nu.to
  have eN : nv (σ 27 (40 * r + i)) = N := by rw [hN]; exact nv_i (by have := I.ev.2; omega)
  have hN2 : N ≤ 200 := by have := I.ev.2; omega
  have hN1 : 1 ≤ N := by have := X.n1; omega
  obtain ⟨L, hL40, hL⟩ := (I.en N hN1 (by have := X.nu.2; omega)).ma.to
  have eL : nv (σ 9 N) = L := by rw [hL]; exact nv_i (by omega)
  have n10 : ¬ i3 1 = i3 0 := by decide
  rw [eN, eL]
  intro d
  induction d with
  | zero =>
    intro x fu σ1 hd hfu e
    obtain ⟨f, rfl⟩ : ∃ f, fu = f + 1 := ⟨fu - 1, by omega⟩
    refine ⟨σ1, ?_, e⟩
    rw [fMd_agrees_l44_S, fMd_agrees_b44_E, mgA_27 (by omega), e 27 (by decide), hN, mgA_9 (by omega), e 9 (by decide), hL, if_pos ((i3_le (by omega) (by omega)).mpr (by omega)), fMd_agrees_j115_E, i3_add]
  | succ d ih =>
    intro x fu σ1 hd hfu e
    obtain ⟨f, rfl⟩ : ∃ f, fu = f + 1 := ⟨fu - 1, by omega⟩
    have R1 := R.scf (sc46 e)
    have I1 := I.scf (sc46 e)
    obtain ⟨w, M1, σ2, -, -, a3, a4, a5⟩ := both_byte R1 I1 hr (i := i) (x := x) (by rw [e 26 (by decide)]; exact hi) (by rw [e 27 (by decide), eN, e 9 (by decide), eL]; omega)
    have e2 : ∀ k, k ≠ 46 → σ2 k = σ k := fun k hk => (a4 k hk).trans (e k hk)
    rw [e 27 (by decide), eN, e 10 (by decide)] at a5
    obtain ⟨σ', b1, b2⟩ := ih (x + 1) f σ2 (by omega) (by omega) e2
    refine ⟨σ', ?_, b2⟩
    have c0 : ¬ i3 L ≤ i3 x := fun w => absurd ((i3_le (by omega) (by omega)).mp w) (by omega)
    rw [fMd_agrees_l44_S, fMd_agrees_b44_E, mgA_27 (by omega), e 27 (by decide), hN, mgA_9 (by omega), e 9 (by decide), hL, if_neg c0, if_neg n10, a3, bdW_s]
    by_cases z : w = m4
    · rw [if_pos z, fMd_agrees_j103_E, fMd_agrees_j108_E, i3_add, b1]
    · have a6 : w = σ 10 (40 * N + x) := a5.resolve_left z
      rw [if_neg z, mgA_27 (by omega), e2 27 (by decide), hN, i3_mul, i3_add, mgA_10 (by omega), e2 10 (by decide), if_pos a6, fMd_agrees_j103_E, fMd_agrees_j108_E, i3_add, b1]
theorem m_count_l {a p : Nat} (ha : a < 80) {pc : Nat} (hpc : σ 33 a = i3 pc) (hpc20 : pc ≤ 20) (k123 : Int32 → Int32 → Int32 → Sg → Option (Int32 × Sg)) (k146 : Int32 → Int32 → Int32 → Int32 → Sg → Option (Int32 × Sg)) (x1 : Int32) : ∀ d q fu k, d + q = pc → d < fu → fMd_agrees_l159 k123 k146 fu x1 (i3 p) (i3 k) (i3 a) (i3 q) σ = k146 x1 (i3 p) (i3 (k + cntF (fun q => decide (σ 34 (20 * a + q) = i3 p)) q d)) (i3 (a + 1)) σ := by
  intro d
  induction d with
  | zero =>
    intro q fu k hd hfu
    obtain ⟨f, rfl⟩ : ∃ f, fu = f + 1 := ⟨fu - 1, by omega⟩
    rw [fMd_agrees_l159_S, fMd_agrees_b159_E, mgA_33 (by omega), hpc, if_pos ((i3_le (by omega) (by omega)).mpr (by omega)), i3_add]
    rfl
  | succ d ih =>
    intro q fu k hd hfu
    obtain ⟨f, rfl⟩ : ∃ f, fu = f + 1 := ⟨fu - 1, by omega⟩
    have c0 : ¬ i3 pc ≤ i3 q := fun w => absurd ((i3_le (by omega) (by omega)).mp w) (by omega)
    rw [fMd_agrees_l159_S, fMd_agrees_b159_E, mgA_33 (by omega), hpc, if_neg c0, i3_mul, i3_add, mgA_34 (by omega), cntF_S]
    by_cases z : σ 34 (20 * a + q) = i3 p
    · rw [if_pos z, fMd_agrees_j195_E, i3_add, i3_add, ih (q + 1) f (k + 1) (by omega) (by omega), if_pos (decide_eq_true z), Nat.add_assoc]
    · rw [if_neg z, fMd_agrees_j195_E, i3_add, i3_add, ih (q + 1) f (k + 0) (by omega) (by omega), if_neg (fun w => z (of_decide_eq_true w)), Nat.zero_add, Nat.add_zero]
theorem m_uses_l (I : IV c σ) (hr : r < 2) {p : Nat} (hp : p < nv (σ 18 r)) (k123 : Int32 → Int32 → Int32 → Sg → Option (Int32 × Sg)) : ∀ d i fu, d + i = nv (σ 26 r) → d < fu → fMd_agrees_l146 k123 fu (i3 r) (i3 p) (i3 (uses (σ 33) (σ 34) r p i)) (i3 (40 * r + i)) σ = k123 (i3 r) (i3 1) (i3 (p + 1)) σ := by
  obtain ⟨V, h40, hV⟩ := (I.vn r hr).to
  have eV : nv (σ 26 r) = V := by rw [hV]; exact nv_i (by omega)
  have me := m_endOf hr hV
  have p90 := (I.pn r hr).2
  intro d
  induction d with
  | zero =>
    intro i fu hd hfu
    obtain ⟨f, rfl⟩ : ∃ f, fu = f + 1 := ⟨fu - 1, by omega⟩
    obtain ⟨X1, X2⟩ := I.po r hr p hp
    rw [Nat.zero_add] at hd
    have e : σ 20 (90 * r + p) = i3 (uses (σ 33) (σ 34) r p i) := by rw [hd, ← X2]; exact X1.ct.1
    rw [fMd_agrees_l146_S, fMd_agrees_b146_E, me, bdR_s, if_pos ((i3_le (by omega) (by omega)).mpr (by omega)), i3_mul, i3_add, mgA_19 (by omega), mgA_20 (by omega), if_pos e, fMd_agrees_j240_E, fMd_agrees_j245_E, i3_add]
    by_cases z : σ 19 (90 * r + p) = i3 0
    · rw [if_pos z]
    · rw [if_neg z]
  | succ d ih =>
    intro i fu hd hfu
    obtain ⟨f, rfl⟩ : ∃ f, fu = f + 1 := ⟨fu - 1, by omega⟩
    obtain ⟨pc, hpc, hpe⟩ := (I.vo r hr i (by omega)).pc.to
    have epc : nv (σ 33 (40 * r + i)) = pc := by rw [hpe]; exact nv_i (by omega)
    have c0 : ¬ i3 (40 * r + V) ≤ i3 (40 * r + i) := fun w => absurd ((i3_le (by omega) (by omega)).mp w) (by omega)
    have cl := m_count_l (σ := σ) (a := 40 * r + i) (p := p) (by omega) hpe hpc k123 (fMd_agrees_l146 k123 f) (i3 r) pc 0 FU (uses (σ 33) (σ 34) r p i) (by omega) (FU_S (by omega))
    have ih' := ih (i + 1) f (by omega) (by omega)
    have eu : uses (σ 33) (σ 34) r p (i + 1) = uses (σ 33) (σ 34) r p i + cntF (fun q => decide (σ 34 (20 * (40 * r + i) + q) = i3 p)) 0 pc := by rw [← epc]; rfl
    rw [eu] at ih'
    rw [fMd_agrees_l146_S, fMd_agrees_b146_E, me, bdR_s, if_neg c0, cl]
    exact ih'
theorem m_parts_l (I : IV c σ) (hr : r < 2) : ∀ d p fu, d + p = nv (σ 18 r) → d < fu → fMd_agrees_l123 fu (i3 r) (i3 1) (i3 p) σ = some (i3 1, σ) := by
  obtain ⟨P, h90, hP⟩ := (I.pn r hr).to
  have eP : nv (σ 18 r) = P := by rw [hP]; exact nv_i (by omega)
  have v40 := (I.vn r hr).2
  have n10 : ¬ i3 1 = i3 0 := by decide
  intro d
  induction d with
  | zero =>
    intro p fu hd hfu
    obtain ⟨f, rfl⟩ : ∃ f, fu = f + 1 := ⟨fu - 1, by omega⟩
    rw [fMd_agrees_l123_S, fMd_agrees_b123_E, mgA_18 (by omega), hP, if_pos ((i3_le (by omega) (by omega)).mpr (by omega))]
    rfl
  | succ d ih =>
    intro p fu hd hfu
    obtain ⟨f, rfl⟩ : ∃ f, fu = f + 1 := ⟨fu - 1, by omega⟩
    have c0 : ¬ i3 P ≤ i3 p := fun w => absurd ((i3_le (by omega) (by omega)).mp w) (by omega)
    have mu := m_uses_l I hr (p := p) (by omega) (fMd_agrees_l123 f) (nv (σ 26 r)) 0 FU rfl (FU_S (by omega))
    have e0 : uses (σ 33) (σ 34) r p 0 = 0 := rfl
    rw [e0, Nat.add_zero] at mu
    rw [fMd_agrees_l123_S, fMd_agrees_b123_E, mgA_18 (by omega), hP, if_neg c0, if_neg n10, i3_mul, mu]
    exact ih (p + 1) f (by omega) (by omega)
theorem m_agree_l (R : RR h own B σ M n) (I : IV c σ) (hr : r < 2) : ∀ d i fu (σ1 : Sg), d + i = nv (σ 26 r) → d < fu → (∀ k, k ≠ 46 → σ1 k = σ k) → ∃ σ', fMd_agrees_l28 fu (i3 r) (i3 1) (i3 (40 * r + i)) σ1 = some (i3 1, σ') ∧ ∀ k, k ≠ 46 → σ' k = σ k := by
  obtain ⟨V, h40, hV⟩ := (I.vn r hr).to
  have eV : nv (σ 26 r) = V := by rw [hV]; exact nv_i (by omega)
  have n10 : ¬ i3 1 = i3 0 := by decide
  intro d
  induction d with
  | zero =>
    intro i fu σ1 hd hfu e
    obtain ⟨f, rfl⟩ : ∃ f, fu = f + 1 := ⟨fu - 1, by omega⟩
    have me := m_endOf (σ := σ1) hr (by rw [e 26 (by decide)]; exact hV)
    have mp := m_parts_l (I.scf (sc46 e)) hr (nv (σ1 18 r)) 0 FU rfl (FU_S (by rw [e 18 (by decide)]; have := (I.pn r hr).2; omega))
    refine ⟨σ1, ?_, e⟩
    rw [fMd_agrees_l28_S, fMd_agrees_b28_E, me, bdR_s, if_pos ((i3_le (by omega) (by omega)).mpr (by omega)), fMd_agrees_j121_E, mp]
  | succ d ih =>
    intro i fu σ1 hd hfu e
    obtain ⟨f, rfl⟩ : ∃ f, fu = f + 1 := ⟨fu - 1, by omega⟩
    have me := m_endOf (σ := σ1) hr (by rw [e 26 (by decide)]; exact hV)
    have c0 : ¬ i3 (40 * r + V) ≤ i3 (40 * r + i) := fun w => absurd ((i3_le (by omega) (by omega)).mp w) (by omega)
    have X := I.vo r hr i (by omega)
    obtain ⟨σ2, a1, a2⟩ := m_agree_b R I hr (i := i) (by omega) (fMd_agrees_l28 f) (nv (σ 9 (nv (σ 27 (40 * r + i))))) 0 FU σ1 rfl (FU_S (by have := (I.en _ X.n1 X.nu.2).ma.2; omega)) e
    obtain ⟨σ', b1, b2⟩ := ih (i + 1) f σ2 (by omega) (by omega) a2
    refine ⟨σ', ?_, b2⟩
    rw [fMd_agrees_l28_S, fMd_agrees_b28_E, me, bdR_s, if_neg c0, if_neg n10, a1]
    exact b1
theorem op_agrees (R : RR h own B σ M n) (I : IV c σ) (x1 : Int32) : OPR h c σ n (fHb_agrees h x1 M n) (fMd_agrees x1 σ) (cdf 1 0 0) := by
  have k := R.hb.k
  have n10 : ¬ i3 1 = i3 0 := by decide
  rcases regs x1 with ⟨r, hr, rfl⟩ | ⟨h0, h1⟩
  · have q1 := c_reg (n := n) R hr
    have q2 := m_reg hr
    have G := R.rg r hr
    obtain ⟨M', a1, a2⟩ := c_sound R I hr
    have e0 : ∀ k, ¬ SCF k → uS σ 0 0 (i3 0) k = σ k := scf0 _
    obtain ⟨σ', b1, b2⟩ := m_agree_l (R.scf e0) (I.scf e0) hr (nv (uS σ 0 0 (i3 0) 26 r)) 0 FU (uS σ 0 0 (i3 0)) rfl (FU_S (by rw [uS_n _ _ _ (by decide)]; have := (I.vn r hr).2; omega)) (fun _ _ => rfl)
    have e2 : ∀ k, ¬ SCF k → σ' k = σ k := fun k hk => (sc46 b2 k hk).trans (e0 k hk)
    rw [Nat.add_zero] at b1
    refine OPR.same R I (T := fun t => t = 10 + r) (o := .inl (i3 1)) (v := i3 1) (M' := M') (n' := n) (σ' := σ') ?_ ?_ (a2.frm fun cc a z _ => ?_) (fun x hx => by omega) e2 ⟨by rw [b2 0 (by decide)]; rfl, rfl⟩ (Nat.le_refl n) (by omega)
    · rw [fHb_agrees_E, rk_s k, q1, bdC_l (Nat.le_refl n), rk_s G.k, a1, bdW_s]
      rfl
    · rw [fMd_agrees_E, q2, bdR_s, if_neg n10, fMd_agrees_j13_E, m_holds0, bdW_s, if_neg n10, i3_mul, b1]
    · obtain ⟨-, z1, z2⟩ := z
      rcases (by omega : a = gr h r + 8 ∨ a = gr h r + 9 ∨ a = gr h r + 10 ∨ a = gr h r + 11 ∨ a = gr h r + 12) with rfl | rfl | rfl | rfl | rfl
      · exact G.o8
      · exact G.o9
      · exact G.o10
      · exact G.o11
      · exact G.o12
  · have q1 := c_noreg (h := h) (M := M) (n := n) h0 h1
    have q2 := m_noreg h0 h1
    refine OPR.err R I 0 1 (v := i3 0) ?_ ?_ rfl (by omega) (by omega)
    · simp (disch := (first | assumption | omega | decide | (simp only [mK_uI, mK_uP, mL_uI, mL_uP, mK_wI, mL_wI, mK_nA_e, mL_nA_e] <;> (first | assumption | omega)))) only [i3_le_t, i3_le_f, i3_lt_t, i3_lt_f, i3_eq_t, i3_eq_f, i3_add, i3_mul, i3_sub, i3_div, i3_dec, i3_m1, m1_i3, m1_eq, i3_ge0, m1_lt, i3_le_m1, ↓reduceIte, rZ_0, rZ_1, bdR_s, bdW_s, ifN_n, ifN_s, ↓fgI_s, ↓fgR_s, ↓rk_s, ↓fpI_s, ↓fpR_s, ↓fpZ_0, ↓fpZ_1, ↓alI_i, ↓alP_i, ↓asI_i, ↓asB_i, ↓asZ_0, ↓asZ_1, ↓aln_i, ↓fca_s, ↓fca_n, bdC_li, bdC_ri, mK_uI, mK_uP, mL_uI, mL_uP, mP_uI, mI_uP, mK_wI, mL_wI, mP_wI, mI_uI_e, mI_uI_c, nwO_s, mK_nA_e, mL_nA_e, fHb_agrees_E, q1]
    · simp (disch := (first | assumption | omega | decide | (simp only [mK_uI, mK_uP, mL_uI, mL_uP, mK_wI, mL_wI, mK_nA_e, mL_nA_e] <;> (first | assumption | omega)))) only [i3_le_t, i3_le_f, i3_lt_t, i3_lt_f, i3_eq_t, i3_eq_f, i3_add, i3_mul, i3_sub, i3_div, i3_dec, i3_m1, m1_i3, m1_eq, i3_ge0, m1_lt, i3_le_m1, ↓reduceIte, rZ_0, rZ_1, bdR_s, bdW_s, ifN_n, ifN_s, uS_n, uS_e, uS_d, ↓mgF_s, ↓mpF_s, ↓mgA_2, ↓mgA_4, ↓mgA_6, ↓mgA_7, ↓mgA_9, ↓mgA_10, ↓mgA_12, ↓mgA_14, ↓mgA_15, ↓mgA_16, ↓mgA_17, ↓mgA_18, ↓mgA_19, ↓mgA_20, ↓mgA_21, ↓mgA_22, ↓mgA_23, ↓mgA_24, ↓mgA_25, ↓mgA_26, ↓mgA_27, ↓mgA_28, ↓mgA_29, ↓mgA_30, ↓mgA_31, ↓mgA_32, ↓mgA_33, ↓mgA_34, ↓mgA_35, ↓mgA_36, ↓mgA_37, ↓mgA_38, ↓mgA_39, ↓mgA_41, ↓mgA_42, ↓mgA_43, ↓mgA_44, ↓mgA_45, ↓mgA_46, ↓mpA_2, ↓mpA_4, ↓mpA_6, ↓mpA_7, ↓mpA_9, ↓mpA_10, ↓mpA_12, ↓mpA_14, ↓mpA_15, ↓mpA_16, ↓mpZ_17, ↓mpA_18, ↓mpZ_19, ↓mpA_20, ↓mpA_21, ↓mpA_22, ↓mpA_23, ↓mpA_24, ↓mpZ_25, ↓mpA_26, ↓mpA_27, ↓mpA_28, ↓mpA_29, ↓mpA_30, ↓mpA_31, ↓mpA_32, ↓mpA_33, ↓mpA_34, ↓mpZ_35, ↓mpA_36, ↓mpA_37, ↓mpA_38, ↓mpA_39, ↓mpA_41, ↓mpA_42, ↓mpZ_43, ↓mpA_44, ↓mpA_45, ↓mpA_46, fMd_agrees_E, q2, fMd_agrees_j13_E, m_holdsk]
end AM

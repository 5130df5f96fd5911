set_option maxRecDepth 100000
/-! decode -/
section DC
variable {h c n r : Nat} {own : Nat → Nat} {B : BK} {σ σ' : Sg} {M M' : Mm}
theorem nthF_lt {p : Nat → Bool} : ∀ {d i k x : Nat}, nthF p i d k = some x → i ≤ x ∧ x < i + d ∧ p x = true := by
  intro d
  induction d with
  | zero => intro i k x h; cases h
  | succ d ih =>
    intro i k x h
    rw [nthF_S] at h
    by_cases z : p i = true
    · rw [if_pos z] at h
      by_cases y : k = 0
      · rw [if_pos y] at h; cases h; exact ⟨Nat.le_refl _, by omega, z⟩
      · rw [if_neg y] at h
        obtain ⟨a, b, e⟩ := ih h
        exact ⟨by omega, by omega, e⟩
    · rw [if_neg z] at h
      obtain ⟨a, b, e⟩ := ih h
      exact ⟨by omega, by omega, e⟩
theorem nthF_some {p : Nat → Bool} : ∀ {d i k : Nat}, k < cntF p i d → ∃ x, nthF p i d k = some x := by
  intro d
  induction d with
  | zero => intro i k h; exact absurd h (Nat.not_lt_zero k)
  | succ d ih =>
    intro i k h
    rw [cntF_S] at h
    rw [nthF_S]
    by_cases z : p i = true
    · rw [if_pos z] at h
      rw [if_pos z]
      by_cases y : k = 0
      · rw [if_pos y]; exact ⟨i, rfl⟩
      · rw [if_neg y]; exact ih (by omega)
    · rw [if_neg z] at h
      rw [if_neg z]; exact ih (by omega)
theorem nthF_mono {p : Nat → Bool} : ∀ {d i k x y : Nat}, nthF p i d k = some x → nthF p i d (k + 1) = some y → x < y := by
  intro d
  induction d with
  | zero => intro i k x y h; cases h
  | succ d ih =>
    intro i k x y h1 h2
    rw [nthF_S] at h1 h2
    by_cases z : p i = true
    · rw [if_pos z] at h1 h2
      rw [if_neg (Nat.succ_ne_zero k), Nat.add_sub_cancel] at h2
      by_cases w : k = 0
      · rw [if_pos w] at h1
        cases h1
        have := (nthF_lt h2).1
        omega
      · rw [if_neg w] at h1
        obtain ⟨m, rfl⟩ : ∃ m, k = m + 1 := ⟨k - 1, by omega⟩
        rw [Nat.add_sub_cancel] at h1
        exact ih h1 h2
    · rw [if_neg z] at h1 h2
      exact ih h1 h2
/-- where the scratch of a region's code changes, nothing else does -/
theorem RR.code (R : RR h own B σ M n) (hr : r < 2) (f : IOS (fun cc x => cc = 0 ∧ gr h r + 8 ≤ x ∧ x ≤ gr h r + 11) M M') : RR h own B σ M' n := by
  have G := R.rg r hr
  refine R.scr (T := fun t => t = 10 + r) (f.frm fun cc a z _ => ?_) (fun x hx => by omega)
  obtain ⟨-, z1, z2⟩ := z
  rcases (by omega : a = gr h r + 8 ∨ a = gr h r + 9 ∨ a = gr h r + 10 ∨ a = gr h r + 11) with rfl | rfl | rfl | rfl
  · exact G.o8
  · exact G.o9
  · exact G.o10
  · exact G.o11
theorem c_findLowest_l (hr : r < 2) {p : Nat} (hp : p < nv (σ 18 r)) (hw : σ 19 (90 * r + p) = i3 0) : ∀ d s k fu (M : Mm), d + s = 5 → d < fu → k ≤ 3 → RR h own B σ M n → ∃ M', fCode_findLowest_l4 (gr h r + 7) fu (some (pa B r p)) (i3 k) (i3 s) M = some (if 3 ≤ k + cntF (gdb σ (90 * r + p)) s d then i3 1 else i3 0, M') ∧ IOS (fun cc x => cc = 0 ∧ x = gr h r + 10) M M' ∧ (∀ j, j < k → mI M' 0 (gr h r + 10) j = mI M 0 (gr h r + 10) j) ∧ ∀ j x, k ≤ j → j < 3 → nthF (gdb σ (90 * r + p)) s d (j - k) = some x → mI M' 0 (gr h r + 10) j = i3 x := by
  intro d
  induction d with
  | zero =>
    intro s k fu M hd hfu hk R
    obtain ⟨f, rfl⟩ : ∃ f, fu = f + 1 := ⟨fu - 1, by omega⟩
    have k7 := (R.rg r hr).k7
    have d2 := (R.rg r hr).d2
    have k10 := (R.rg r hr).k10
    have l10 := (R.rg r hr).l10
    refine ⟨M, ?_, IOS.refl, fun _ _ => rfl, fun j x _ _ hx => by cases hx⟩
    rw [fCode_findLowest_l4_S, fCode_findLowest_b4_E]
    show _ = some (if 3 ≤ k + 0 then i3 1 else i3 0, M)
    clear R
    by_cases z : k = 3
    · subst z
      simp (disch := (first | assumption | omega | decide | (simp only [mK_uI, mK_uP, mL_uI, mL_uP, mK_wI, mL_wI, mK_nA_e, mL_nA_e] <;> (first | assumption | omega)))) only [i3_le_t, i3_le_f, i3_lt_t, i3_lt_f, i3_eq_t, i3_eq_f, i3_add, i3_mul, i3_sub, i3_div, i3_dec, i3_m1, m1_i3, m1_eq, i3_ge0, m1_lt, i3_le_m1, ↓reduceIte, rZ_0, rZ_1, bdR_s, bdW_s, ifN_n, ifN_s, ↓fgI_s, ↓fgR_s, ↓rk_s, ↓fpI_s, ↓fpR_s, ↓fpZ_0, ↓fpZ_1, ↓alI_i, ↓alP_i, ↓asI_i, ↓asB_i, ↓asZ_0, ↓asZ_1, ↓aln_i, ↓fca_s, ↓fca_n, bdC_li, bdC_ri, mK_uI, mK_uP, mL_uI, mL_uP, mP_uI, mI_uP, mK_wI, mL_wI, mP_wI, mI_uI_e, mI_uI_c, nwO_s, mK_nA_e, mL_nA_e, fCode_findLowest_j42_E, d2, l10, Nat.add_zero, Nat.le_refl]
    · have z2 : ¬ 3 ≤ k + 0 := by omega
      simp (disch := (first | assumption | omega | decide | (simp only [mK_uI, mK_uP, mL_uI, mL_uP, mK_wI, mL_wI, mK_nA_e, mL_nA_e] <;> (first | assumption | omega)))) only [i3_le_t, i3_le_f, i3_lt_t, i3_lt_f, i3_eq_t, i3_eq_f, i3_add, i3_mul, i3_sub, i3_div, i3_dec, i3_m1, m1_i3, m1_eq, i3_ge0, m1_lt, i3_le_m1, ↓reduceIte, rZ_0, rZ_1, bdR_s, bdW_s, ifN_n, ifN_s, ↓fgI_s, ↓fgR_s, ↓rk_s, ↓fpI_s, ↓fpR_s, ↓fpZ_0, ↓fpZ_1, ↓alI_i, ↓alP_i, ↓asI_i, ↓asB_i, ↓asZ_0, ↓asZ_1, ↓aln_i, ↓fca_s, ↓fca_n, bdC_li, bdC_ri, mK_uI, mK_uP, mL_uI, mL_uP, mP_uI, mI_uP, mK_wI, mL_wI, mP_wI, mI_uI_e, mI_uI_c, nwO_s, mK_nA_e, mL_nA_e, fCode_findLowest_j42_E, d2, l10, z2]
  | succ d ih =>
    intro s k fu M hd hfu hk R
    obtain ⟨f, rfl⟩ : ∃ f, fu = f + 1 := ⟨fu - 1, by omega⟩
    have k7 := (R.rg r hr).k7
    have d2 := (R.rg r hr).d2
    have k10 := (R.rg r hr).k10
    have l10 := (R.rg r hr).l10
    have pk := (R.po r hr p hp).b.k
    by_cases z : k = 3
    · subst z
      refine ⟨M, ?_, IOS.refl, fun _ _ => rfl, fun j x _ _ hx => by omega⟩
      have z2 : 3 ≤ 3 + cntF (gdb σ (90 * r + p)) s (d + 1) := by omega
      rw [fCode_findLowest_l4_S, fCode_findLowest_b4_E]
      clear R ih
      simp (disch := (first | assumption | omega | decide | (simp only [mK_uI, mK_uP, mL_uI, mL_uP, mK_wI, mL_wI, mK_nA_e, mL_nA_e] <;> (first | assumption | omega)))) only [i3_le_t, i3_le_f, i3_lt_t, i3_lt_f, i3_eq_t, i3_eq_f, i3_add, i3_mul, i3_sub, i3_div, i3_dec, i3_m1, m1_i3, m1_eq, i3_ge0, m1_lt, i3_le_m1, ↓reduceIte, rZ_0, rZ_1, bdR_s, bdW_s, ifN_n, ifN_s, ↓fgI_s, ↓fgR_s, ↓rk_s, ↓fpI_s, ↓fpR_s, ↓fpZ_0, ↓fpZ_1, ↓alI_i, ↓alP_i, ↓asI_i, ↓asB_i, ↓asZ_0, ↓asZ_1, ↓aln_i, ↓fca_s, ↓fca_n, bdC_li, bdC_ri, mK_uI, mK_uP, mL_uI, mL_uP, mP_uI, mI_uP, mK_wI, mL_wI, mP_wI, mI_uI_e, mI_uI_c, nwO_s, mK_nA_e, mL_nA_e, fCode_findLowest_j42_E, d2, l10, z2]
    · have g := c_isGood R hr hp (s := s) (by omega) hw
      by_cases y : gdb σ (90 * r + p) s = true
      · rw [if_pos y] at g
        have R2 := R.code hr (M' := uI M 0 (gr h r + 10) k (i3 s)) ((IOS.uI _ _ _ _).mono fun cc x w => by omega)
        obtain ⟨M', e1, e2, e3, e4⟩ := ih (s + 1) (k + 1) f _ (by omega) (by omega) (by omega) R2
        refine ⟨M', ?_, (IOS.uI _ _ _ _).then e2, fun j hj => ?_, fun j x h1 h2 hx => ?_⟩
        · rw [cntF_S, if_pos y]
          have e5 : k + (1 + cntF (gdb σ (90 * r + p)) (s + 1) d) = k + 1 + cntF (gdb σ (90 * r + p)) (s + 1) d := by omega
          rw [e5, fCode_findLowest_l4_S, fCode_findLowest_b4_E]
          clear R ih R2 e2 e3 e4
          simp (disch := (first | assumption | omega | decide | (simp only [mK_uI, mK_uP, mL_uI, mL_uP, mK_wI, mL_wI, mK_nA_e, mL_nA_e] <;> (first | assumption | omega)))) only [i3_le_t, i3_le_f, i3_lt_t, i3_lt_f, i3_eq_t, i3_eq_f, i3_add, i3_mul, i3_sub, i3_div, i3_dec, i3_m1, m1_i3, m1_eq, i3_ge0, m1_lt, i3_le_m1, ↓reduceIte, rZ_0, rZ_1, bdR_s, bdW_s, ifN_n, ifN_s, ↓fgI_s, ↓fgR_s, ↓rk_s, ↓fpI_s, ↓fpR_s, ↓fpZ_0, ↓fpZ_1, ↓alI_i, ↓alP_i, ↓asI_i, ↓asB_i, ↓asZ_0, ↓asZ_1, ↓aln_i, ↓fca_s, ↓fca_n, bdC_li, bdC_ri, mK_uI, mK_uP, mL_uI, mL_uP, mP_uI, mI_uP, mK_wI, mL_wI, mP_wI, mI_uI_e, mI_uI_c, nwO_s, mK_nA_e, mL_nA_e, d2, l10, g, fCode_findLowest_j36_E, e1]
        · rw [e3 j (by omega), mI_uI_j _ _ _ _ (by omega)]
        · rw [nthF_S, if_pos y] at hx
          by_cases w : j = k
          · subst w
            rw [Nat.sub_self, if_pos rfl] at hx
            cases hx
            rw [e3 j (by omega), mI_uI_e]
          · rw [if_neg (by omega)] at hx
            have e6 : j - k - 1 = j - (k + 1) := by omega
            rw [e6] at hx
            exact e4 j x (by omega) h2 hx
      · rw [if_neg y] at g
        obtain ⟨M', e1, e2, e3, e4⟩ := ih (s + 1) k f M (by omega) (by omega) hk R
        refine ⟨M', ?_, e2, e3, fun j x h1 h2 hx => ?_⟩
        · rw [cntF_S, if_neg y, Nat.zero_add, fCode_findLowest_l4_S, fCode_findLowest_b4_E]
          clear R ih e2 e3 e4
          simp (disch := (first | assumption | omega | decide | (simp only [mK_uI, mK_uP, mL_uI, mL_uP, mK_wI, mL_wI, mK_nA_e, mL_nA_e] <;> (first | assumption | omega)))) only [i3_le_t, i3_le_f, i3_lt_t, i3_lt_f, i3_eq_t, i3_eq_f, i3_add, i3_mul, i3_sub, i3_div, i3_dec, i3_m1, m1_i3, m1_eq, i3_ge0, m1_lt, i3_le_m1, ↓reduceIte, rZ_0, rZ_1, bdR_s, bdW_s, ifN_n, ifN_s, ↓fgI_s, ↓fgR_s, ↓rk_s, ↓fpI_s, ↓fpR_s, ↓fpZ_0, ↓fpZ_1, ↓alI_i, ↓alP_i, ↓asI_i, ↓asB_i, ↓asZ_0, ↓asZ_1, ↓aln_i, ↓fca_s, ↓fca_n, bdC_li, bdC_ri, mK_uI, mK_uP, mL_uI, mL_uP, mP_uI, mI_uP, mK_wI, mL_wI, mP_wI, mI_uI_e, mI_uI_c, nwO_s, mK_nA_e, mL_nA_e, d2, l10, g, fCode_findLowest_j36_E, e1]
        · rw [nthF_S, if_neg y] at hx
          exact e4 j x h1 h2 hx
theorem c_shardByte {a s k : Nat} (A : PRT own M a r) (hs : s < 5) (hk : k < 2) : fPart_shardByte a (i3 s) (i3 k) M = some (mI M 0 (a + 2) (2 * s + k)) := by
  have k1 := A.k
  have p3 := A.p3
  have k2 := A.k2
  have l2 := A.l2
  have e : s * 2 + k = 2 * s + k := by omega
  clear A
  simp (disch := (first | assumption | omega | decide | (simp only [mK_uI, mK_uP, mL_uI, mL_uP, mK_wI, mL_wI, mK_nA_e, mL_nA_e] <;> (first | assumption | omega)))) only [i3_le_t, i3_le_f, i3_lt_t, i3_lt_f, i3_eq_t, i3_eq_f, i3_add, i3_mul, i3_sub, i3_div, i3_dec, i3_m1, m1_i3, m1_eq, i3_ge0, m1_lt, i3_le_m1, ↓reduceIte, rZ_0, rZ_1, bdR_s, bdW_s, ifN_n, ifN_s, ↓fgI_s, ↓fgR_s, ↓rk_s, ↓fpI_s, ↓fpR_s, ↓fpZ_0, ↓fpZ_1, ↓alI_i, ↓alP_i, ↓asI_i, ↓asB_i, ↓asZ_0, ↓asZ_1, ↓aln_i, ↓fca_s, ↓fca_n, bdC_li, bdC_ri, mK_uI, mK_uP, mL_uI, mL_uP, mP_uI, mI_uP, mK_wI, mL_wI, mP_wI, mI_uI_e, mI_uI_c, nwO_s, mK_nA_e, mL_nA_e, fPart_shardByte_E, e, p3, l2]
/-- one byte out of three shards -/
theorem c_solve {lo p q k : Nat} {g : Nat → Int32} {s0 s1 s2 : Nat} (R : RR h own B σ M n) (hr : r < 2) (hp : p < nv (σ 18 r)) (hg : ∀ j, j < lo → NB 15 (g j)) (hs : ∀ i, i < 3 → mI M 0 (gr h r + 10) i = i3 (f3 s0 s1 s2 i)) (h01 : s0 < s1) (h12 : s1 < s2) (h2 : s2 < 5) (hb : ∀ i, i < 3 → mI M 0 (pa B r p + 2) (2 * f3 s0 s1 s2 i + k) = i3 (mde lo g (f3 s0 s1 s2 i) k)) (hq : q < 3) (n0 : q ≠ s0) (n1 : q ≠ s1) (n2 : q ≠ s2) (hk : k < 2) : ∃ M', fCode_solve (gr h r + 7) (some (pa B r p)) (i3 q) (i3 k) M = some (i3 (dat lo g (2 * q + k)), M') ∧ IOS (fun cc x => cc = 0 ∧ x = gr h r + 11) M M' := by
  have f5 : ∀ i, i < 3 → f3 s0 s1 s2 i < 5 := fun i hi => by
    unfold f3
    split
    · omega
    · split <;> omega
  have lp : ∀ d i fu (M1 : Mm), d + i = 3 → d < fu → IOS (fun cc x => cc = 0 ∧ x = gr h r + 11) M M1 → (∀ j, j < i → mI M1 0 (gr h r + 11) j = i3 (mde lo g (f3 s0 s1 s2 j) k)) → ∃ M', fCode_solve_l3 (gr h r + 7) fu (some (pa B r p)) (i3 q) (i3 k) (i3 i) M1 = some (i3 (dat lo g (2 * q + k)), M') ∧ IOS (fun cc x => cc = 0 ∧ x = gr h r + 11) M M' := by
    intro d
    induction d with
    | zero =>
      intro i fu M1 hd hfu fM hv
      obtain ⟨f, rfl⟩ : ∃ f, fu = f + 1 := ⟨fu - 1, by omega⟩
      have hi : i = 3 := by omega
      subst hi
      have R1 : RR h own B σ M1 n := R.code hr (fM.mono fun cc x w => by omega)
      have G := R1.rg r hr
      have k7 := G.k7
      have k10 := G.k10
      have l10 := G.l10
      have k11 := G.k11
      have l11 := G.l11
      have hs' : ∀ i, i < 3 → mI M1 0 (gr h r + 10) i = i3 (f3 s0 s1 s2 i) ∧ f3 s0 s1 s2 i < 5 := fun i hi => ⟨(fM.2 _ _ _ (by omega)).trans (hs i hi), f5 i hi⟩
      have v16 : ∀ i, i < 3 → mde lo g (f3 s0 s1 s2 i) k < 16 := fun i _ => mde_lt hg
      obtain ⟨t1, t2⟩ := c_det (q := q) k7 G.d2 G.d3 k10 l10 k11 l11 hs' hv v16 (by omega)
      obtain ⟨t3, t4⟩ := c_det (q := 3) k7 G.d2 G.d3 k10 l10 k11 l11 hs' hv v16 (by omega)
      obtain ⟨t5, t6⟩ := cramer h01 h12 h2 hq n0 n1 n2 (dat_lt hg (j := k)) (dat_lt hg (j := 2 + k)) (dat_lt hg (j := 4 + k)) (fun i => mde lo g (f3 s0 s1 s2 i) k) (fun i _ => rfl)
      have e1 : qi q = i3 q := if_neg (by omega)
      have e3 : qi 3 = m1 := if_pos rfl
      rw [e1] at t1
      rw [e3] at t3
      have t7 := (inv_at t4).2.2 t6
      have t7' : fCode_inverse (i3 (dt3 (f3 s0 s1 s2) (fun i => mde lo g (f3 s0 s1 s2 i) k) 3)) = some (i3 (inv (dt3 (f3 s0 s1 s2) (fun i => mde lo g (f3 s0 s1 s2 i) k) 3))) := t7
      have t8 := c_times t2 (inv_at t4).2.1
      rw [t5] at t8
      have e4 : f3 (dat lo g k) (dat lo g (2 + k)) (dat lo g (4 + k)) q = dat lo g (2 * q + k) := by
        rcases (by omega : q = 0 ∨ q = 1 ∨ q = 2) with rfl | rfl | rfl
        · show dat lo g k = dat lo g (2 * 0 + k)
          rw [Nat.mul_zero, Nat.zero_add]
        · rfl
        · rfl
      rw [e4] at t8
      refine ⟨M1, ?_, fM⟩
      have dd := G.d3
      have c3 : i3 3 ≤ i3 3 := by decide
      rw [fCode_solve_l3_S, fCode_solve_b3_E, fgR_s k7, dd, aln_i k11 (by decide) (by decide), l11, if_pos c3, rk_s k7, t1, bdR_s, rk_s k7, t3, bdR_s, t7', bdR_s, t8, bdR_s]
    | succ d ih =>
      intro i fu M1 hd hfu fM hv
      obtain ⟨f, rfl⟩ : ∃ f, fu = f + 1 := ⟨fu - 1, by omega⟩
      have R1 : RR h own B σ M1 n := R.code hr (fM.mono fun cc x w => by omega)
      have G := R1.rg r hr
      have k7 := G.k7
      have d2 := G.d2
      have d3 := G.d3
      have k10 := G.k10
      have l10 := G.l10
      have k11 := G.k11
      have l11 := G.l11
      have A := (R1.po r hr p hp).b
      have pk := A.k
      have sb := c_shardByte A (f5 i (by omega)) hk
      have ne : pa B r p + 2 ≠ gr h r + 11 := fun e => by
        have o1 := A.o2
        rw [e, G.o11] at o1
        omega
      have s1' : mI M1 0 (gr h r + 10) i = i3 (f3 s0 s1 s2 i) := (fM.2 _ _ _ (by omega)).trans (hs i (by omega))
      have b1 : mI M1 0 (pa B r p + 2) (2 * f3 s0 s1 s2 i + k) = i3 (mde lo g (f3 s0 s1 s2 i) k) := (fM.2 _ _ _ (by omega)).trans (hb i (by omega))
      rw [b1] at sb
      obtain ⟨M', e1, e2⟩ := ih (i + 1) f (uI M1 0 (gr h r + 11) i (i3 (mde lo g (f3 s0 s1 s2 i) k))) (by omega) (by omega) (fM.then (IOS.uI _ _ _ _)) (fun j hj => by
        by_cases w : j = i
        · subst w; rw [mI_uI_e]
        · rw [mI_uI_j _ _ _ _ w]; exact hv j (by omega))
      refine ⟨M', ?_, e2⟩
      rw [fCode_solve_l3_S, fCode_solve_b3_E]
      clear R R1 G A ih hv hs hb fM e2
      simp (disch := (first | assumption | omega | decide | (simp only [mK_uI, mK_uP, mL_uI, mL_uP, mK_wI, mL_wI, mK_nA_e, mL_nA_e] <;> (first | assumption | omega)))) only [i3_le_t, i3_le_f, i3_lt_t, i3_lt_f, i3_eq_t, i3_eq_f, i3_add, i3_mul, i3_sub, i3_div, i3_dec, i3_m1, m1_i3, m1_eq, i3_ge0, m1_lt, i3_le_m1, ↓reduceIte, rZ_0, rZ_1, bdR_s, bdW_s, ifN_n, ifN_s, ↓fgI_s, ↓fgR_s, ↓rk_s, ↓fpI_s, ↓fpR_s, ↓fpZ_0, ↓fpZ_1, ↓alI_i, ↓alP_i, ↓asI_i, ↓asB_i, ↓asZ_0, ↓asZ_1, ↓aln_i, ↓fca_s, ↓fca_n, bdC_li, bdC_ri, mK_uI, mK_uP, mL_uI, mL_uP, mP_uI, mI_uP, mK_wI, mL_wI, mP_wI, mI_uI_e, mI_uI_c, nwO_s, mK_nA_e, mL_nA_e, d3, l11, d2, l10, s1', sb, e1]
  obtain ⟨M', e1, e2⟩ := lp 3 0 FU M (by omega) (FU_S (by omega)) IOS.refl (fun j hj => by omega)
  refine ⟨M', ?_, e2⟩
  rw [fCode_solve_E]; exact e1
/-- a part read from its shards -/
theorem c_decode (R : RR h own B σ M n) (hr : r < 2) {p : Nat} (hp : p < nv (σ 18 r)) (hw : σ 19 (90 * r + p) = i3 0) (X : IVP σ r (90 * r + p)) : ∃ M', fCode_decode (gr h r + 7) (some (pa B r p)) M = some (if 3 ≤ gcn σ (90 * r + p) then i3 1 else i3 0, M') ∧ IOS (fun cc x => cc = 0 ∧ gr h r + 8 ≤ x ∧ x ≤ gr h r + 11) M M' ∧ (3 ≤ gcn σ (90 * r + p) → ∀ j, j < 6 → mI M' 0 (gr h r + 8) j = i3 (dat (nv (σ 21 (90 * r + p))) (fun j => σ 22 (6 * (90 * r + p) + j)) j)) := by
  obtain ⟨M1, e1, e2, -, e4⟩ := c_findLowest_l hr hp hw 5 0 0 FU M (by omega) (FU_S (by omega)) (by omega) R
  rw [Nat.zero_add] at e1
  have k7 := (R.rg r hr).k7
  have e1' : fCode_findLowest (gr h r + 7) (some (pa B r p)) M = some (if 3 ≤ gcn σ (90 * r + p) then i3 1 else i3 0, M1) := by rw [fCode_findLowest_E]; exact e1
  by_cases z : 3 ≤ gcn σ (90 * r + p)
  · rw [if_pos z] at e1' ⊢
    obtain ⟨s0, hs0⟩ := nthF_some (p := gdb σ (90 * r + p)) (i := 0) (d := 5) (k := 0) (by unfold gcn at z; omega)
    obtain ⟨s1, hs1⟩ := nthF_some (p := gdb σ (90 * r + p)) (i := 0) (d := 5) (k := 1) (by unfold gcn at z; omega)
    obtain ⟨s2, hs2⟩ := nthF_some (p := gdb σ (90 * r + p)) (i := 0) (d := 5) (k := 2) (by unfold gcn at z; omega)
    have h01 := nthF_mono hs0 hs1
    have h12 := nthF_mono hs1 hs2
    have t0 := nthF_lt hs0
    have t1 := nthF_lt hs1
    have t2 := nthF_lt hs2
    obtain ⟨lo, hlo⟩ : ∃ lo, lo = nv (σ 21 (90 * r + p)) := ⟨_, rfl⟩
    obtain ⟨g, hg⟩ : ∃ g : Nat → Int32, g = fun j => σ 22 (6 * (90 * r + p) + j) := ⟨_, rfl⟩
    have hg15 : ∀ j, j < lo → NB 15 (g j) := fun j hj => by rw [hg]; exact X.by j (by rw [← hlo]; exact hj)
    rw [← hlo, ← hg]
    have Xsb : ∀ s, s < 5 → gdb σ (90 * r + p) s = true → ∀ k, k < 2 → σ 24 (10 * (90 * r + p) + (2 * s + k)) = i3 (mde lo g s k) := fun s hs hgd k hk => by
      have w := of_decide_eq_true hgd
      rw [hlo, hg]
      exact X.sb s hs w.1 w.2 k hk
    have R1 : RR h own B σ M1 n := R.code hr (e2.mono fun cc x w => by omega)
    have low : ∀ i, i < 3 → mI M1 0 (gr h r + 10) i = i3 (f3 s0 s1 s2 i) ∧ f3 s0 s1 s2 i < 5 ∧ gdb σ (90 * r + p) (f3 s0 s1 s2 i) = true := fun i hi => by
      rcases (by omega : i = 0 ∨ i = 1 ∨ i = 2) with rfl | rfl | rfl
      · exact ⟨e4 0 s0 (by omega) (by omega) hs0, by have := t0.2.1; show s0 < 5; omega, t0.2.2⟩
      · exact ⟨e4 1 s1 (by omega) (by omega) hs1, by have := t1.2.1; show s1 < 5; omega, t1.2.2⟩
      · exact ⟨e4 2 s2 (by omega) (by omega) hs2, by have := t2.2.1; show s2 < 5; omega, t2.2.2⟩
    have lp : ∀ d x fu (M2 : Mm), d + x = 6 → d < fu → IOS (fun cc x => cc = 0 ∧ gr h r + 8 ≤ x ∧ x ≤ gr h r + 11) M1 M2 → (∀ i, i < 3 → mI M2 0 (gr h r + 10) i = i3 (f3 s0 s1 s2 i)) → (∀ j, j < x → mI M2 0 (gr h r + 8) j = i3 (dat lo g j)) → ∃ M', fCode_decode_l12 (gr h r + 7) fu (some (pa B r p)) (i3 x) M2 = some (i3 1, M') ∧ IOS (fun cc x => cc = 0 ∧ gr h r + 8 ≤ x ∧ x ≤ gr h r + 11) M1 M' ∧ ∀ j, j < 6 → mI M' 0 (gr h r + 8) j = i3 (dat lo g j) := by
      intro d
      induction d with
      | zero =>
        intro x fu M2 hd hfu fM hl hv
        obtain ⟨f, rfl⟩ : ∃ f, fu = f + 1 := ⟨fu - 1, by omega⟩
        have hx : x = 6 := by omega
        subst hx
        have G := (R1.code hr fM).rg r hr
        have k7 := G.k7
        have d0 := G.d0
        have k8 := G.k8
        have l8 := G.l8
        refine ⟨M2, ?_, fM, hv⟩
        rw [fCode_decode_l12_S, fCode_decode_b12_E]
        clear R R1 G X hl hv low Xsb fM e2 e4
        simp (disch := (first | assumption | omega | decide | (simp only [mK_uI, mK_uP, mL_uI, mL_uP, mK_wI, mL_wI, mK_nA_e, mL_nA_e] <;> (first | assumption | omega)))) only [i3_le_t, i3_le_f, i3_lt_t, i3_lt_f, i3_eq_t, i3_eq_f, i3_add, i3_mul, i3_sub, i3_div, i3_dec, i3_m1, m1_i3, m1_eq, i3_ge0, m1_lt, i3_le_m1, ↓reduceIte, rZ_0, rZ_1, bdR_s, bdW_s, ifN_n, ifN_s, ↓fgI_s, ↓fgR_s, ↓rk_s, ↓fpI_s, ↓fpR_s, ↓fpZ_0, ↓fpZ_1, ↓alI_i, ↓alP_i, ↓asI_i, ↓asB_i, ↓asZ_0, ↓asZ_1, ↓aln_i, ↓fca_s, ↓fca_n, bdC_li, bdC_ri, mK_uI, mK_uP, mL_uI, mL_uP, mP_uI, mI_uP, mK_wI, mL_wI, mP_wI, mI_uI_e, mI_uI_c, nwO_s, mK_nA_e, mL_nA_e, d0, l8]
      | succ d ih =>
        intro x fu M2 hd hfu fM hl hv
        obtain ⟨f, rfl⟩ : ∃ f, fu = f + 1 := ⟨fu - 1, by omega⟩
        have R2 := R1.code hr fM
        have G := R2.rg r hr
        have k7 := G.k7
        have d0 := G.d0
        have k8 := G.k8
        have l8 := G.l8
        have A := R2.po r hr p hp
        have pk := A.b.k
        have gd := c_isGood R2 hr hp (s := x / 2) (by omega) hw
        obtain ⟨q, hq⟩ : ∃ q, q = x / 2 := ⟨_, rfl⟩
        obtain ⟨k, hk⟩ : ∃ k, k = x - x / 2 * 2 := ⟨_, rfl⟩
        have hxq : x = 2 * q + k := by omega
        have hk2 : k < 2 := by omega
        have hq3 : q < 3 := by omega
        have sbs : ∀ s, s < 5 → gdb σ (90 * r + p) s = true → mI M2 0 (pa B r p + 2) (2 * s + k) = i3 (mde lo g s k) := fun s hs hgd => by
          have w := of_decide_eq_true hgd
          rw [A.sb s hs hw w.1 w.2 k hk2]
          exact Xsb s hs hgd k hk2
        have dl := dat_lt hg15 (j := x)
        -- the byte is laid, and on
        have lay : ∀ M3, IOS (fun cc x => cc = 0 ∧ x = gr h r + 11) M2 M3 → ∃ M', fCode_decode_l12 (gr h r + 7) f (some (pa B r p)) (i3 (x + 1)) (uI M3 0 (gr h r + 8) x (i3 (dat lo g x))) = some (i3 1, M') ∧ IOS (fun cc x => cc = 0 ∧ gr h r + 8 ≤ x ∧ x ≤ gr h r + 11) M1 M' ∧ ∀ j, j < 6 → mI M' 0 (gr h r + 8) j = i3 (dat lo g j) := fun M3 f3' => by
          refine ih (x + 1) f _ (by omega) (by omega) ((fM.trans (f3'.trans (IOS.uI _ _ _ _))).mono fun cc y w => by omega) (fun i hi => ?_) (fun j hj => ?_)
          · rw [mI_uI_a _ _ _ _ (by omega), f3'.2 _ _ _ (by omega)]; exact hl i hi
          · by_cases w : j = x
            · subst w; rw [mI_uI_e]
            · rw [mI_uI_j _ _ _ _ w, f3'.2 _ _ _ (by omega)]; exact hv j (by omega)
        by_cases y : gdb σ (90 * r + p) q = true
        · rw [← hq, if_pos y] at gd
          have sb := c_shardByte A.b (s := q) (k := k) (by omega) hk2
          rw [sbs q (by omega) y] at sb
          have em : mde lo g q k = dat lo g x := by
            rw [hxq]
            have td : ∀ a, a < 16 → tm 1 a = a ∧ tm 0 a = 0 := by decide +kernel
            have u0 := td _ (dat_lt hg15 (j := k))
            have u1 := td _ (dat_lt hg15 (j := 2 + k))
            have u2 := td _ (dat_lt hg15 (j := 4 + k))
            rcases (by omega : q = 0 ∨ q = 1 ∨ q = 2) with e | e | e
            · rw [e]
              show tm 1 _ ^^^ tm 0 _ ^^^ tm 0 _ = _
              rw [u0.1, u1.2, u2.2, Nat.xor_zero, Nat.xor_zero, Nat.mul_zero, Nat.zero_add]
            · rw [e]
              show tm 0 _ ^^^ tm 1 _ ^^^ tm 0 _ = _
              rw [u0.2, u1.1, u2.2, Nat.zero_xor, Nat.xor_zero]
            · rw [e]
              show tm 0 _ ^^^ tm 0 _ ^^^ tm 1 _ = _
              rw [u0.2, u1.2, u2.1, Nat.zero_xor, Nat.zero_xor]
          rw [em] at sb
          obtain ⟨M', g1, g2, g3⟩ := lay M2 IOS.refl
          refine ⟨M', ?_, g2, g3⟩
          rw [fCode_decode_l12_S, fCode_decode_b12_E]
          clear R R1 R2 G A X hl hv low Xsb fM e2 e4 ih lay sbs g2 g3
          simp (disch := (first | assumption | omega | decide | (simp only [mK_uI, mK_uP, mL_uI, mL_uP, mK_wI, mL_wI, mK_nA_e, mL_nA_e] <;> (first | assumption | omega)))) only [i3_le_t, i3_le_f, i3_lt_t, i3_lt_f, i3_eq_t, i3_eq_f, i3_add, i3_mul, i3_sub, i3_div, i3_dec, i3_m1, m1_i3, m1_eq, i3_ge0, m1_lt, i3_le_m1, ↓reduceIte, rZ_0, rZ_1, bdR_s, bdW_s, ifN_n, ifN_s, ↓fgI_s, ↓fgR_s, ↓rk_s, ↓fpI_s, ↓fpR_s, ↓fpZ_0, ↓fpZ_1, ↓alI_i, ↓alP_i, ↓asI_i, ↓asB_i, ↓asZ_0, ↓asZ_1, ↓aln_i, ↓fca_s, ↓fca_n, bdC_li, bdC_ri, mK_uI, mK_uP, mL_uI, mL_uP, mP_uI, mI_uP, mK_wI, mL_wI, mP_wI, mI_uI_e, mI_uI_c, nwO_s, mK_nA_e, mL_nA_e, d0, l8, hq.symm, (show x - q * 2 = k by omega), gd, sb, fCode_decode_j61_E, i3_small, g1]
        · rw [← hq, if_neg y] at gd
          have n0 : q ≠ s0 := fun e => y (by rw [e]; exact t0.2.2)
          have n1 : q ≠ s1 := fun e => y (by rw [e]; exact t1.2.2)
          have n2 : q ≠ s2 := fun e => y (by rw [e]; exact t2.2.2)
          obtain ⟨M3, g4, g5⟩ := c_solve R2 hr hp hg15 hl h01 h12 (by have := t2.2.1; omega) (fun i hi => sbs _ (low i hi).2.1 (low i hi).2.2) hq3 n0 n1 n2 hk2
          rw [← hxq] at g4
          obtain ⟨M', g1, g2, g3⟩ := lay M3 g5
          have k8' : mK M3 (gr h r + 8) = 20 := (g5.K _).trans k8
          have l8' : mL M3 (gr h r + 8) = 6 := (g5.L _).trans l8
          refine ⟨M', ?_, g2, g3⟩
          rw [fCode_decode_l12_S, fCode_decode_b12_E]
          clear R R1 R2 G A X hl hv low Xsb fM e2 e4 ih lay sbs g2 g3 g5
          simp (disch := (first | assumption | omega | decide | (simp only [mK_uI, mK_uP, mL_uI, mL_uP, mK_wI, mL_wI, mK_nA_e, mL_nA_e] <;> (first | assumption | omega)))) only [i3_le_t, i3_le_f, i3_lt_t, i3_lt_f, i3_eq_t, i3_eq_f, i3_add, i3_mul, i3_sub, i3_div, i3_dec, i3_m1, m1_i3, m1_eq, i3_ge0, m1_lt, i3_le_m1, ↓reduceIte, rZ_0, rZ_1, bdR_s, bdW_s, ifN_n, ifN_s, ↓fgI_s, ↓fgR_s, ↓rk_s, ↓fpI_s, ↓fpR_s, ↓fpZ_0, ↓fpZ_1, ↓alI_i, ↓alP_i, ↓asI_i, ↓asB_i, ↓asZ_0, ↓asZ_1, ↓aln_i, ↓fca_s, ↓fca_n, bdC_li, bdC_ri, mK_uI, mK_uP, mL_uI, mL_uP, mP_uI, mI_uP, mK_wI, mL_wI, mP_wI, mI_uI_e, mI_uI_c, nwO_s, mK_nA_e, mL_nA_e, d0, l8, hq.symm, (show x - q * 2 = k by omega), gd, g4, fCode_decode_j61_E, i3_small, g1]
    obtain ⟨M', g1, g2, g3⟩ := lp 6 0 FU M1 (by omega) (FU_S (by omega)) IOS.refl (fun i hi => (low i hi).1) (fun j hj => by omega)
    refine ⟨M', ?_, ((e2.mono fun cc x w => by omega : IOS (fun cc x => cc = 0 ∧ gr h r + 8 ≤ x ∧ x ≤ gr h r + 11) M M1).then g2), fun _ => g3⟩
    clear R R1 X lp low Xsb e2 e4 g2 g3
    simp (disch := (first | assumption | omega | decide | (simp only [mK_uI, mK_uP, mL_uI, mL_uP, mK_wI, mL_wI, mK_nA_e, mL_nA_e] <;> (first | assumption | omega)))) only [i3_le_t, i3_le_f, i3_lt_t, i3_lt_f, i3_eq_t, i3_eq_f, i3_add, i3_mul, i3_sub, i3_div, i3_dec, i3_m1, m1_i3, m1_eq, i3_ge0, m1_lt, i3_le_m1, ↓reduceIte, rZ_0, rZ_1, bdR_s, bdW_s, ifN_n, ifN_s, ↓fgI_s, ↓fgR_s, ↓rk_s, ↓fpI_s, ↓fpR_s, ↓fpZ_0, ↓fpZ_1, ↓alI_i, ↓alP_i, ↓asI_i, ↓asB_i, ↓asZ_0, ↓asZ_1, ↓aln_i, ↓fca_s, ↓fca_n, bdC_li, bdC_ri, mK_uI, mK_uP, mL_uI, mL_uP, mP_uI, mI_uP, mK_wI, mL_wI, mP_wI, mI_uI_e, mI_uI_c, nwO_s, mK_nA_e, mL_nA_e, fCode_decode_E, e1', g1]
  · rw [if_neg z] at e1' ⊢
    refine ⟨M1, ?_, e2.mono fun cc x w => by omega, fun w => absurd w z⟩
    clear R X e2 e4
    simp (disch := (first | assumption | omega | decide | (simp only [mK_uI, mK_uP, mL_uI, mL_uP, mK_wI, mL_wI, mK_nA_e, mL_nA_e] <;> (first | assumption | omega)))) only [i3_le_t, i3_le_f, i3_lt_t, i3_lt_f, i3_eq_t, i3_eq_f, i3_add, i3_mul, i3_sub, i3_div, i3_dec, i3_m1, m1_i3, m1_eq, i3_ge0, m1_lt, i3_le_m1, ↓reduceIte, rZ_0, rZ_1, bdR_s, bdW_s, ifN_n, ifN_s, ↓fgI_s, ↓fgR_s, ↓rk_s, ↓fpI_s, ↓fpR_s, ↓fpZ_0, ↓fpZ_1, ↓alI_i, ↓alP_i, ↓asI_i, ↓asB_i, ↓asZ_0, ↓asZ_1, ↓aln_i, ↓fca_s, ↓fca_n, bdC_li, bdC_ri, mK_uI, mK_uP, mL_uI, mL_uP, mP_uI, mI_uP, mK_wI, mL_wI, mP_wI, mI_uI_e, mI_uI_c, nwO_s, mK_nA_e, mL_nA_e, fCode_decode_E, e1']
end DC

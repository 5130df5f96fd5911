set_option maxRecDepth 100000
/-! a version is taken out: both sides -/
section TO
variable {h c n r : Nat} {own : Nat → Nat} {B : BK} {σ σ' : Sg} {M M' : Mm}
theorem partsum_mv {s21 s34 s34' : Nat → Int32} {r x y m : Nat} (e : ∀ q, q < m → s34' (20 * y + q) = s34 (20 * x + q)) : ∀ q, q ≤ m → partsum s21 s34' r y q = partsum s21 s34 r x q := by
  intro q
  induction q with
  | zero => intro _; rfl
  | succ q ih =>
    intro hq
    show partsum s21 s34' r y q + nv (s21 (90 * r + nv (s34' (20 * y + q)))) = partsum s21 s34 r x q + nv (s21 (90 * r + nv (s34 (20 * x + q))))
    rw [ih (by omega), e q (by omega)]
theorem IVV.mv {x y : Nat} (X : IVV σ r x) (e8 : σ' 8 = σ 8) (e9 : σ' 9 = σ 9) (e10 : σ' 10 = σ 10) (e11 : σ' 11 = σ 11) (e18 : σ' 18 = σ 18) (e19 : σ' 19 = σ 19) (e21 : σ' 21 = σ 21) (e22 : σ' 22 = σ 22) (e35 : σ' 35 = σ 35) (e38 : σ' 38 = σ 38) (e39 : σ' 39 = σ 39) (ev : ∀ f, 27 ≤ f → f ≤ 33 → σ' f y = σ f x) (ep : ∀ q, q < nv (σ 33 x) → σ' 34 (20 * y + q) = σ 34 (20 * x + q)) : IVV σ' r y := by
  have v27 := ev 27 (by decide) (by decide)
  have v28 := ev 28 (by decide) (by decide)
  have v29 := ev 29 (by decide) (by decide)
  have v30 := ev 30 (by decide) (by decide)
  have v32 := ev 32 (by decide) (by decide)
  have v33 := ev 33 (by decide) (by decide)
  obtain ⟨x1, x2, x3, x4, x5, x6, x7, x8, x9, x10, x11⟩ := X
  have ps := partsum_mv (s21 := σ 21) (s34 := σ 34) (s34' := σ' 34) (r := r) ep
  unfold IVV
  rw [e8, e9, e10, e11, e18, e19, e21, e22, e35, e38, e39, v27, v28, v29, v30, v32, v33]
  refine ⟨x1, x2, x3, x4, x5, x6, x7, fun q hq => ?_, ?_, x10, x11⟩
  · rw [ep q hq, ps q (by omega)]
    exact x8 q hq
  · rw [ps _ (Nat.le_refl _)]; exact x9
def cI (s33 s34 : Nat → Int32) (r p i : Nat) : Nat := cntF (fun q => decide (s34 (20 * (40 * r + i) + q) = i3 p)) 0 (nv (s33 (40 * r + i)))
theorem uses_S {s33 s34 : Nat → Int32} {r p i : Nat} : uses s33 s34 r p (i + 1) = uses s33 s34 r p i + cI s33 s34 r p i := rfl
theorem uses_congr {s33 s34 s33' s34' : Nat → Int32} {r p : Nat} : ∀ m, (∀ j, j < m → cI s33' s34' r p j = cI s33 s34 r p j) → uses s33' s34' r p m = uses s33 s34 r p m := by
  intro m
  induction m with
  | zero => intro _; rfl
  | succ m ih => intro hh; rw [uses_S, uses_S, ih fun j hj => hh j (by omega), hh m (by omega)]
theorem uses_del {s33 s34 s33' s34' : Nat → Int32} {r p i : Nat} : ∀ d, (∀ j, j < i → cI s33' s34' r p j = cI s33 s34 r p j) → (∀ j, i ≤ j → j < i + d → cI s33' s34' r p j = cI s33 s34 r p (j + 1)) → uses s33' s34' r p (i + d) + cI s33 s34 r p i = uses s33 s34 r p (i + d + 1) := by
  intro d
  induction d with
  | zero => intro h1 _; rw [Nat.add_zero, uses_congr i h1, uses_S]
  | succ d ih =>
    intro h1 h2
    have := ih h1 fun j h3 h4 => h2 j h3 (by omega)
    show uses s33' s34' r p (i + d + 1) + _ = uses s33 s34 r p (i + d + 1 + 1)
    rw [uses_S, uses_S (i := i + d + 1), h2 (i + d) (by omega) (by omega)]
    omega
theorem cI_le {s33 s34 : Nat → Int32} {r p V : Nat} : ∀ {i}, i < V → cI s33 s34 r p i ≤ uses s33 s34 r p V := by
  induction V with
  | zero => intro i hi; omega
  | succ V ih =>
    intro i hi
    rw [uses_S]
    by_cases e : i = V
    · subst e; omega
    · have := ih (i := i) (by omega); omega
theorem takeOut_l (R : RR h own B σ M n) (I : IV c σ) (hr : r < 2) {i V : Nat} (hi : i < V) (hV : nv (σ 26 r) = V) (h40 : V ≤ 40) {M1 M2 : Mm} {x : Option Nat} (e1 : fStore_letGo (gr h r + 1) (some (ve B r i + 1)) M = some ((), M1)) (k1 : mK M1 (gr h r) = 6) (p1 : mP M1 601 (gr h r) 0 = some (gr h r + 13)) (l1 : mK M1 (gr h r + 13) = 12) (e2 : fAl_remove (gr h r + 13) (i3 i) M1 = some (x, M2)) : ∀ d fu, i + d < V → d < fu → fRegion_takeOut_l10 (gr h r) fu (some (ve B r i)) (i3 (i + d)) M = some ((), M2) := by
  have hk := (R.rg r hr).k
  have hp := (R.rg r hr).p1
  have hp0 := (R.rg r hr).p0
  have hs := (R.rg r hr).ks
  have L := R.vl r hr
  rw [hV] at L
  have hl := L.k
  have Wi := R.ver I hr (i := i) (by omega)
  have a1 := Wi.k
  have a2 := Wi.p0
  have a3 := Wi.ek
  have a4 := Wi.nu
  have a5 := Wi.p1
  intro d
  induction d with
  | zero =>
    intro fu hd hfu
    obtain ⟨f, rfl⟩ : ∃ f, fu = f + 1 := ⟨fu - 1, by omega⟩
    have g := L.get hi
    rw [fRegion_takeOut_l10_S, fRegion_takeOut_b10_E]
    generalize en B (nv (σ 27 (40 * r + i))) = ev at *
    clear R I L Wi
    simp (disch := (first | assumption | omega | decide | (simp only [mK_uI, mK_uP, mL_uI, mL_uP, mK_wI, mL_wI, mK_nA_e, mL_nA_e] <;> (first | assumption | omega)))) only [i3_le_t, i3_le_f, i3_lt_t, i3_lt_f, i3_eq_t, i3_eq_f, i3_add, i3_mul, i3_sub, i3_div, i3_dec, i3_m1, m1_i3, m1_eq, i3_ge0, m1_lt, i3_le_m1, ↓reduceIte, rZ_0, rZ_1, bdR_s, bdW_s, ifN_n, ifN_s, ↓fgI_s, ↓fgR_s, ↓rk_s, ↓fpI_s, ↓fpR_s, ↓fpZ_0, ↓fpZ_1, ↓alI_i, ↓alP_i, ↓asI_i, ↓asB_i, ↓asZ_0, ↓asZ_1, ↓aln_i, ↓fca_s, ↓fca_n, bdC_li, bdC_ri, mK_uI, mK_uP, mL_uI, mL_uP, mP_uI, mI_uP, mK_wI, mL_wI, mP_wI, mI_uI_e, mI_uI_c, nwO_s, mK_nA_e, mL_nA_e, Nat.add_zero, hp, g, a2, a4, hp0, a5, e1, p1, e2]
  | succ d ih =>
    intro fu hd hfu
    obtain ⟨f, rfl⟩ : ∃ f, fu = f + 1 := ⟨fu - 1, by omega⟩
    have g := L.get (i := i + (d + 1)) (by omega)
    have Wj := R.ver I hr (i := i + (d + 1)) (by omega)
    have b1 := Wj.k
    have b2 := Wj.p0
    have b3 := Wj.ek
    have b4 := Wj.nu
    have ih' := ih f (by omega) (by omega)
    have lt := I.vi r hr i (i + (d + 1)) (by omega) (by omega)
    have ne : ¬ σ 27 (40 * r + (i + (d + 1))) = σ 27 (40 * r + i) := fun e => by rw [e] at lt; omega
    have e5 : i + (d + 1) - 1 = i + d := by omega
    rw [fRegion_takeOut_l10_S, fRegion_takeOut_b10_E]
    generalize en B (nv (σ 27 (40 * r + i))) = ev at *
    generalize en B (nv (σ 27 (40 * r + (i + (d + 1))))) = ev2 at *
    clear R I L Wi Wj ih
    simp (disch := (first | assumption | omega | decide | (simp only [mK_uI, mK_uP, mL_uI, mL_uP, mK_wI, mL_wI, mK_nA_e, mL_nA_e] <;> (first | assumption | omega)))) only [i3_le_t, i3_le_f, i3_lt_t, i3_lt_f, i3_eq_t, i3_eq_f, i3_add, i3_mul, i3_sub, i3_div, i3_dec, i3_m1, m1_i3, m1_eq, i3_ge0, m1_lt, i3_le_m1, ↓reduceIte, rZ_0, rZ_1, bdR_s, bdW_s, ifN_n, ifN_s, ↓fgI_s, ↓fgR_s, ↓rk_s, ↓fpI_s, ↓fpR_s, ↓fpZ_0, ↓fpZ_1, ↓alI_i, ↓alP_i, ↓asI_i, ↓asB_i, ↓asZ_0, ↓asZ_1, ↓aln_i, ↓fca_s, ↓fca_n, bdC_li, bdC_ri, mK_uI, mK_uP, mL_uI, mL_uP, mP_uI, mI_uP, mK_wI, mL_wI, mP_wI, mI_uI_e, mI_uI_c, nwO_s, mK_nA_e, mL_nA_e, hp, g, b2, b4, a2, a4, ne, e5, ih']
theorem takeOut_i (R : RR h own B σ M n) (I : IV c σ) (hr : r < 2) {i V : Nat} (hi : i < V) (hV : σ 26 r = i3 V) (h40 : V ≤ 40) : ∃ M' σ' B', fRegion_takeOut (gr h r) (some (ve B r i)) M = some ((), M') ∧ fMd_goes (i3 r) (i3 (40 * r + i)) σ = some ((), σ') ∧ RR h own B' σ' M' n ∧ IV c σ' ∧ (∀ f, f < 20 ∨ (20 < f ∧ f < 26) ∨ 34 < f → σ' f = σ f) ∧ σ' 26 r = i3 (V - 1) ∧ (∀ r0, r0 ≠ r → σ' 26 r0 = σ 26 r0) ∧ B'.2 = B.2 := by
  have eV : nv (σ 26 r) = V := by rw [hV]; exact nv_i (by omega)
  obtain ⟨P, h90, hP⟩ := (I.pn r hr).to
  have eP : nv (σ 18 r) = P := by rw [hP]; exact nv_i (by omega)
  have X := I.vo r hr i (by omega)
  obtain ⟨pc, hpc20, hpc⟩ := X.pc.to
  have epc : nv (σ 33 (40 * r + i)) = pc := by rw [hpc]; exact nv_i (by omega)
  have hpt : ∀ q, q < pc → ∃ p, p < P ∧ σ 34 (20 * (40 * r + i) + q) = i3 p ∧ σ 19 (90 * r + p) = i3 0 := fun q hq => by
    obtain ⟨y1, y2, y3, y4⟩ := X.pt q (by rw [epc]; exact hq)
    exact ⟨_, by rw [← eP]; exact y2, y1.1, y3⟩
  have hct : ∀ p, p < P → nv (σ 20 (90 * r + p)) ≤ 800 ∧ cntF (fun q' => decide (σ 34 (20 * (40 * r + i) + q') = i3 p)) 0 pc ≤ nv (σ 20 (90 * r + p)) := fun p hp => by
    obtain ⟨Y, y2⟩ := I.po r hr p (by omega)
    refine ⟨Y.ct.2, ?_⟩
    rw [y2, eV]
    have := cI_le (s33 := σ 33) (s34 := σ 34) (r := r) (p := p) hi
    unfold cI at this
    rw [epc] at this
    exact this
  have c0 : cs σ r (40 * r + i) P 0 = σ := cs_0 σ fun p hp => (I.po r hr p (by omega)).1.ct.1
  obtain ⟨M1, e1, e2, R1⟩ := let_loop hr hi h40 hV hP h90 I.p90 hpc hpc20 hpt hct pc 0 FU (FU - pc) M (by omega) (FU_S (by omega)) (by rw [c0]; exact R)
  rw [c0] at e2
  have eFU : FU - pc + pc = FU := Nat.sub_add_cancel (Nat.le_of_lt (FU_S (by omega)))
  rw [eFU] at e2
  -- the list
  have LV := R1.vl r hr
  rw [cs_n _ _ _ _ _ (show (26 : Nat) ≠ 20 by decide), eV] at LV
  have el : ELS own M1 V (ve B r) := fun j hj => by
    have Z := R1.vo r hr j (by rw [cs_n _ _ _ _ _ (by decide), eV]; exact hj)
    have o := Z.b.o
    have kk := Z.b.k
    exact ⟨by rw [o]; omega, by rw [kk]; omega, by rw [kk]; omega⟩
  obtain ⟨M2, e3, f2, L2⟩ := remove_i LV el (by omega) hi
  have e1' : fStore_letGo (gr h r + 1) (some (ve B r i + 1)) M = some ((), M1) := by rw [fStore_letGo_E]; exact e1
  have tl := takeOut_l R I hr hi eV h40 e1' (R1.rg r hr).k (R1.rg r hr).p1 LV.k e3 (V - 1 - i) FU (by omega) (FU_S (by omega))
  have eTop : i + (V - 1 - i) = V - 1 := by omega
  rw [eTop] at tl
  -- the check's rows
  obtain ⟨s3, hs3⟩ : ∃ s3, s3 = uS (cs σ r (40 * r + i) P pc) 26 r (i3 (V - 1)) := ⟨_, rfl⟩
  have s3n : ∀ f, f ≠ 20 → f ≠ 26 → s3 f = σ f := fun f h1 h2 => by rw [hs3, uS_n _ _ _ h2, cs_n _ _ _ _ _ h1]
  have s3r : s3 26 r = i3 (V - 1) := by rw [hs3, uS_e]
  have s3o : ∀ r0, r0 ≠ r → s3 26 r0 = σ 26 r0 := fun r0 h0 => by rw [hs3, uS_d _ _ _ _ h0, cs_n _ _ _ _ _ (by decide)]
  have s3c : s3 20 = cs σ r (40 * r + i) P pc 20 := by rw [hs3, uS_n _ _ _ (by decide)]
  have hpcs : ∀ j, j < 40 * r + V → 40 * r ≤ j → ∃ pc, pc ≤ 20 ∧ s3 33 j = i3 pc := fun j h1 h2 => by
    obtain ⟨w, w1, w2⟩ := (I.vo r hr (j - 40 * r) (by omega)).pc.to
    have e : 40 * r + (j - 40 * r) = j := by omega
    rw [e] at w2
    exact ⟨w, w1, by rw [s3n 33 (by decide) (by decide)]; exact w2⟩
  obtain ⟨σ', g1, S⟩ := shd_loop (σ := s3) (a := 40 * r + i) (V := V) hr (by omega) h40 (by omega) hpcs s3r (V - 1 - i) (40 * r + i) FU s3 (by omega) (FU_S (by omega)) (Nat.le_refl _) SHD.refl
  have go : fMd_goes (i3 r) (i3 (40 * r + i)) σ = some ((), σ') := by
    obtain ⟨f, hf⟩ : ∃ f, FU - pc = f + 1 := ⟨FU - pc - 1, by have := FU_S (k := 21) (by omega); omega⟩
    rw [fMd_goes_E, e2, hf, fMd_goes_l2_S, fMd_goes_b2_E]
    have e33 : cs σ r (40 * r + i) P pc 33 (40 * r + i) = i3 pc := by rw [cs_n _ _ _ _ _ (by decide)]; exact hpc
    have e26 : cs σ r (40 * r + i) P pc 26 r = i3 V := by rw [cs_n _ _ _ _ _ (by decide)]; exact hV
    rw [hs3] at g1
    clear R I R1 LV el f2 L2 S X hpt hct hs3 s3n s3r s3o s3c hpcs
    simp (disch := (first | assumption | omega | decide | (simp only [mK_uI, mK_uP, mL_uI, mL_uP, mK_wI, mL_wI, mK_nA_e, mL_nA_e] <;> (first | assumption | omega)))) only [i3_le_t, i3_le_f, i3_lt_t, i3_lt_f, i3_eq_t, i3_eq_f, i3_add, i3_mul, i3_sub, i3_div, i3_dec, i3_m1, m1_i3, m1_eq, i3_ge0, m1_lt, i3_le_m1, ↓reduceIte, rZ_0, rZ_1, bdR_s, bdW_s, ifN_n, ifN_s, uS_n, uS_e, uS_d, ↓mgF_s, ↓mpF_s, ↓mgA_2, ↓mgA_4, ↓mgA_6, ↓mgA_7, ↓mgA_9, ↓mgA_10, ↓mgA_12, ↓mgA_14, ↓mgA_15, ↓mgA_16, ↓mgA_17, ↓mgA_18, ↓mgA_19, ↓mgA_20, ↓mgA_21, ↓mgA_22, ↓mgA_23, ↓mgA_24, ↓mgA_25, ↓mgA_26, ↓mgA_27, ↓mgA_28, ↓mgA_29, ↓mgA_30, ↓mgA_31, ↓mgA_32, ↓mgA_33, ↓mgA_34, ↓mgA_35, ↓mgA_36, ↓mgA_37, ↓mgA_38, ↓mgA_39, ↓mgA_41, ↓mgA_42, ↓mgA_43, ↓mgA_44, ↓mgA_45, ↓mgA_46, ↓mpA_2, ↓mpA_4, ↓mpA_6, ↓mpA_7, ↓mpA_9, ↓mpA_10, ↓mpA_12, ↓mpA_14, ↓mpA_15, ↓mpA_16, ↓mpZ_17, ↓mpA_18, ↓mpZ_19, ↓mpA_20, ↓mpA_21, ↓mpA_22, ↓mpA_23, ↓mpA_24, ↓mpZ_25, ↓mpA_26, ↓mpA_27, ↓mpA_28, ↓mpA_29, ↓mpA_30, ↓mpA_31, ↓mpA_32, ↓mpA_33, ↓mpA_34, ↓mpZ_35, ↓mpA_36, ↓mpA_37, ↓mpA_38, ↓mpA_39, ↓mpA_41, ↓mpA_42, ↓mpZ_43, ↓mpA_44, ↓mpA_45, ↓mpA_46, e33, e26, g1]
  have out : ∀ f, f ≠ 20 → f ≠ 26 → (f < 27 ∨ 34 < f) → σ' f = σ f := fun f h1 h2 h3 => by rw [S.o f h3, s3n f h1 h2]
  have o26r : σ' 26 r = i3 (V - 1) := by rw [S.o 26 (Or.inl (by decide))]; exact s3r
  have o26o : ∀ r0, r0 ≠ r → σ' 26 r0 = σ 26 r0 := fun r0 h0 => by rw [S.o 26 (Or.inl (by decide))]; exact s3o r0 h0
  have o20 : σ' 20 = cs σ r (40 * r + i) P pc 20 := by rw [S.o 20 (Or.inl (by decide))]; exact s3c
  obtain ⟨X1, hX1⟩ : ∃ X1 : Nat → Nat → Nat, X1 = fun r0 j => if r0 = r then (if j < i then j else j + 1) else j := ⟨_, rfl⟩
  have xr1 : ∀ j, j < i → X1 r j = j := fun j hj => by rw [hX1]; show (if r = r then (if j < i then j else j + 1) else j) = j; rw [if_pos rfl, if_pos hj]
  have xr2 : ∀ j, i ≤ j → X1 r j = j + 1 := fun j hj => by rw [hX1]; show (if r = r then (if j < i then j else j + 1) else j) = j + 1; rw [if_pos rfl, if_neg (by omega)]
  have xo : ∀ r0 j, r0 ≠ r → X1 r0 j = j := fun r0 j h0 => by rw [hX1]; exact if_neg h0
  have n26 : ∀ r0, r0 < 2 → nv (σ' 26 r0) ≤ 40 ∧ ∀ j, j < nv (σ' 26 r0) → X1 r0 j < nv (σ 26 r0) := fun r0 hr0 => by
    by_cases e : r0 = r
    · subst e
      rw [o26r, nv_i (by omega), eV]
      refine ⟨by omega, fun j hj => ?_⟩
      by_cases w : j < i
      · rw [xr1 j w]; omega
      · rw [xr2 j (by omega)]; omega
    · rw [o26o r0 e]
      exact ⟨(I.vn r0 hr0).2, fun j hj => by rw [xo r0 j e]; exact hj⟩
  have sv : ∀ r0, r0 < 2 → ∀ j, j < nv (σ' 26 r0) → (∀ f, 27 ≤ f → f ≤ 33 → σ' f (40 * r0 + j) = σ f (40 * r0 + X1 r0 j)) ∧ ∀ q, q < nv (σ 33 (40 * r0 + X1 r0 j)) → σ' 34 (20 * (40 * r0 + j) + q) = σ 34 (20 * (40 * r0 + X1 r0 j) + q) := fun r0 hr0 j hj => by
    obtain ⟨n1, n2⟩ := n26 r0 hr0
    have n3 := n2 j hj
    have n4 := (I.vn r0 hr0).2
    have key : ∀ f, 27 ≤ f → f ≤ 33 → σ' f (40 * r0 + j) = σ f (40 * r0 + X1 r0 j) := fun f h1 h2 => by
      rw [S.v f h1 h2, s3n f (by omega) (by omega)]
      by_cases e : r0 = r
      · subst e
        by_cases w : j < i
        · rw [xr1 j w, if_neg (by omega)]
        · rw [xr2 j (by omega), if_pos]
          · rw [Nat.add_assoc]
          · rw [o26r, nv_i (by omega)] at hj; omega
      · rw [xo r0 j e, if_neg (by omega)]
    refine ⟨key, fun q hq => ?_⟩
    have q20 : q < 20 := Nat.lt_of_lt_of_le hq (I.vo r0 hr0 _ n3).pc.2
    rw [S.p (40 * r0 + j) (by omega) q (by rw [key 33 (by decide) (by decide)]; exact hq) q20, s3n 34 (by decide) (by decide)]
    by_cases e : r0 = r
    · subst e
      by_cases w : j < i
      · rw [xr1 j w, if_neg (by omega)]
      · rw [xr2 j (by omega), if_pos]
        · rw [Nat.add_assoc]
        · rw [o26r, nv_i (by omega)] at hj; omega
    · rw [xo r0 j e, if_neg (by omega)]
  -- the relation
  have hvl : ∀ r0, r0 < 2 → LST own M2 (gr h r0 + 13) (14 + r0) (nv (σ' 26 r0)) (fun j => ve B r0 (X1 r0 j)) := fun r0 hr0 => by
    by_cases e : r0 = r
    · subst e
      rw [o26r, nv_i (by omega)]
      refine L2.congr fun j hj => ?_
      show (if j < i then ve B r0 j else ve B r0 (j + 1)) = ve B r0 (X1 r0 j)
      by_cases w : j < i
      · rw [if_pos w, xr1 j w]
      · rw [if_neg w, xr2 j (by omega)]
    · have z := R1.k_vl f2 hr0 (by omega)
      rw [cs_n _ _ _ _ _ (by decide)] at z
      rw [o26o r0 e]
      exact z.congr fun j hj => by rw [xo r0 j e]
  have hvo : ∀ r0, r0 < 2 → ∀ j, j < nv (σ' 26 r0) → VEC own M2 (ve B r0 (X1 r0 j)) r0 (en B (nv (σ' 27 (40 * r0 + j)))) (nv (σ' 33 (40 * r0 + j))) (σ' 30 (40 * r0 + j)) (σ' 31 (40 * r0 + j)) (σ' 32 (40 * r0 + j)) (fun q => σ' 34 (20 * (40 * r0 + j) + q)) := fun r0 hr0 j hj => by
    obtain ⟨v1, v2⟩ := sv r0 hr0 j hj
    have W := R1.k_vo f2 hr0 (by omega) (X1 r0 j) (by rw [cs_n _ _ _ _ _ (by decide)]; exact (n26 r0 hr0).2 j hj)
    rw [cs_n _ _ _ _ _ (show (27 : Nat) ≠ 20 by decide), cs_n _ _ _ _ _ (show (33 : Nat) ≠ 20 by decide), cs_n _ _ _ _ _ (show (30 : Nat) ≠ 20 by decide), cs_n _ _ _ _ _ (show (31 : Nat) ≠ 20 by decide), cs_n _ _ _ _ _ (show (32 : Nat) ≠ 20 by decide), cs_n _ _ _ _ _ (show (34 : Nat) ≠ 20 by decide)] at W
    rw [v1 27 (by decide) (by decide), v1 33 (by decide) (by decide), v1 30 (by decide) (by decide), v1 31 (by decide) (by decide), v1 32 (by decide) (by decide)]
    exact ⟨W.b, W.lv, W.lk, W.ak, fun q hq => (W.pt q hq).trans (v2 q hq).symm⟩
  have RZ : RR h own ((fun r0 j => ve B r0 (X1 r0 j)), B.2) (fun f => if 26 ≤ f ∧ f ≤ 34 then σ' f else cs σ r (40 * r + i) P pc f) M2 n := ⟨R1.fr, R1.k_em f2, R1.k_hb f2, R1.k_rg f2, R1.k_nm f2 (by first | omega | (intro z; dsimp only at z; omega)), R1.k_dy f2 (by first | omega | (intro z; dsimp only at z; omega)), R1.k_dm f2 (by first | omega | (intro z; dsimp only at z; omega)), R1.k_db f2 (by first | omega | (intro z; dsimp only at z; omega)), R1.k_nb f2 (by first | omega | (intro z; dsimp only at z; omega)), R1.k_co f2 (by first | omega | (intro z; dsimp only at z; omega)), fun r0 hr0 => R1.k_up f2 hr0 (by first | omega | (intro z; dsimp only at z; omega)), fun r0 hr0 => R1.k_hd f2 hr0 (by first | omega | (intro z; dsimp only at z; omega)), R1.k_en f2 (by first | omega | (intro z; dsimp only at z; omega)), hvl, hvo, fun r0 hr0 => R1.k_kl f2 hr0 (by first | omega | (intro z; dsimp only at z; omega)), fun r0 hr0 => R1.k_pl f2 hr0 (by first | omega | (intro z; dsimp only at z; omega)), fun r0 hr0 => R1.k_po f2 hr0 (by first | omega | (intro z; dsimp only at z; omega)), R1.k_us f2 (by first | omega | (intro z; dsimp only at z; omega)), fun u0 hu0 => R1.k_uo f2 hu0 (by first | omega | (intro z; dsimp only at z; omega)), R1.k_rs f2 (by first | omega | (intro z; dsimp only at z; omega)), R1.k_ro f2 (by first | omega | (intro z; dsimp only at z; omega))⟩
  have ez : (fun f => if 26 ≤ f ∧ f ≤ 34 then σ' f else cs σ r (40 * r + i) P pc f) = σ' := funext fun f => by
    by_cases w : 26 ≤ f ∧ f ≤ 34
    · rw [if_pos w]
    · rw [if_neg w]
      by_cases w2 : f = 20
      · rw [w2]; exact o20.symm
      · rw [cs_n _ _ _ _ _ w2, out f w2 (by omega) (by omega)]
  rw [ez] at RZ
  -- what always holds
  have ivn : ∀ r0, r0 < 2 → NB 40 (σ' 26 r0) := fun r0 hr0 => by
    by_cases e : r0 = r
    · subst e; rw [o26r]; exact NB.of (by omega) (by omega)
    · rw [o26o r0 e]; exact I.vn r0 hr0
  have ivo : ∀ r0, r0 < 2 → ∀ j, j < nv (σ' 26 r0) → IVV σ' r0 (40 * r0 + j) := fun r0 hr0 j hj => by
    obtain ⟨v1, v2⟩ := sv r0 hr0 j hj
    exact (I.vo r0 hr0 (X1 r0 j) ((n26 r0 hr0).2 j hj)).mv (out 8 (by decide) (by decide) (by omega)) (out 9 (by decide) (by decide) (by omega)) (out 10 (by decide) (by decide) (by omega)) (out 11 (by decide) (by decide) (by omega)) (out 18 (by decide) (by decide) (by omega)) (out 19 (by decide) (by decide) (by omega)) (out 21 (by decide) (by decide) (by omega)) (out 22 (by decide) (by decide) (by omega)) (out 35 (by decide) (by decide) (by omega)) (out 38 (by decide) (by decide) (by omega)) (out 39 (by decide) (by decide) (by omega)) v1 v2
  have ivi : ∀ r0, r0 < 2 → ∀ j k, j < k → k < nv (σ' 26 r0) → nv (σ' 27 (40 * r0 + j)) < nv (σ' 27 (40 * r0 + k)) := fun r0 hr0 j k hjk hk => by
    rw [(sv r0 hr0 j (by omega)).1 27 (by decide) (by decide), (sv r0 hr0 k hk).1 27 (by decide) (by decide)]
    refine I.vi r0 hr0 _ _ ?_ ((n26 r0 hr0).2 k hk)
    by_cases e : r0 = r
    · subst e
      by_cases w : j < i
      · rw [xr1 j w]
        by_cases w2 : k < i
        · rw [xr1 k w2]; exact hjk
        · rw [xr2 k (by omega)]; omega
      · rw [xr2 j (by omega), xr2 k (by omega)]; omega
    · rw [xo r0 j e, xo r0 k e]; exact hjk
  have icI : ∀ r0, r0 < 2 → ∀ p j, j < nv (σ' 26 r0) → cI (σ' 33) (σ' 34) r0 p j = cI (σ 33) (σ 34) r0 p (X1 r0 j) := fun r0 hr0 p j hj => by
    obtain ⟨v1, v2⟩ := sv r0 hr0 j hj
    unfold cI
    rw [v1 33 (by decide) (by decide)]
    refine cntF_congr fun q _ hq => ?_
    show decide _ = decide _
    rw [v2 q (by omega)]
  have ipo : ∀ r0, r0 < 2 → ∀ p, p < nv (σ 18 r0) → IVP (fun f => if f = 20 ∨ (26 ≤ f ∧ f ≤ 34) then σ' f else σ f) r0 (90 * r0 + p) ∧ nv (σ' 20 (90 * r0 + p)) = uses (σ' 33) (σ' 34) r0 p (nv (σ' 26 r0)) := fun r0 hr0 p hp => by
    obtain ⟨Y, y2⟩ := I.po r0 hr0 p hp
    have p90 := I.p90 r0 hr0
    by_cases e : r0 = r
    · subst e
      have ev : σ' 20 (90 * r0 + p) = i3 (nv (σ 20 (90 * r0 + p)) - cI (σ 33) (σ 34) r0 p i) := by
        rw [o20]
        show (if 20 = 20 ∧ 90 * r0 ≤ 90 * r0 + p ∧ 90 * r0 + p < 90 * r0 + P then i3 (nv (σ 20 (90 * r0 + p)) - cntF (fun q' => decide (σ 34 (20 * (40 * r0 + i) + q') = i3 (90 * r0 + p - 90 * r0))) 0 pc) else _) = _
        have e3 : 90 * r0 + p - 90 * r0 = p := by omega
        rw [if_pos ⟨rfl, by omega, by omega⟩, e3]
        unfold cI
        rw [epc]
      have c8 := Y.ct.2
      have hnb : NB 800 (σ' 20 (90 * r0 + p)) := by rw [ev]; exact NB.of (by omega) (by omega)
      refine ⟨⟨hnb, Y.l1, Y.lo, Y.by, Y.sw, Y.nd, Y.ro, Y.sb⟩, ?_⟩
      rw [ev, nv_i (by omega), o26r, nv_i (by omega), y2, eV]
      have ud := uses_del (s33 := σ 33) (s34 := σ 34) (s33' := σ' 33) (s34' := σ' 34) (r := r0) (p := p) (i := i) (V - 1 - i) (fun j hj => by rw [icI r0 hr0 p j (by rw [o26r, nv_i (by omega)]; omega), xr1 j hj]) (fun j h1 h2 => by rw [icI r0 hr0 p j (by rw [o26r, nv_i (by omega)]; omega), xr2 j h1])
      have e1 : i + (V - 1 - i) + 1 = V := by omega
      have e2 : i + (V - 1 - i) = V - 1 := by omega
      rw [e1, e2] at ud
      omega
    · have ev : σ' 20 (90 * r0 + p) = σ 20 (90 * r0 + p) := by
        rw [o20]
        exact if_neg (by omega)
      have hnb : NB 800 (σ' 20 (90 * r0 + p)) := by rw [ev]; exact Y.ct
      refine ⟨⟨hnb, Y.l1, Y.lo, Y.by, Y.sw, Y.nd, Y.ro, Y.sb⟩, ?_⟩
      rw [ev, y2, o26o r0 e]
      exact (uses_congr _ fun j hj => by rw [icI r0 hr0 p j (by rw [o26o r0 e]; exact hj), xo r0 j e]).symm
  have ivo2 : ∀ r0, r0 < 2 → ∀ j, j < nv (σ' 26 r0) → IVV (fun f => if f = 20 ∨ (26 ≤ f ∧ f ≤ 34) then σ' f else σ f) r0 (40 * r0 + j) := fun r0 hr0 j hj => by
    have ez2 : (fun f => if f = 20 ∨ (26 ≤ f ∧ f ≤ 34) then σ' f else σ f) = σ' := funext fun f => by
      by_cases w : f = 20 ∨ (26 ≤ f ∧ f ≤ 34)
      · rw [if_pos w]
      · rw [if_neg w, out f (by omega) (by omega) (by omega)]
    rw [ez2]; exact ivo r0 hr0 j hj
  have IZ : IV c (fun f => if f = 20 ∨ (26 ≤ f ∧ f ≤ 34) then σ' f else σ f) := ⟨I.dr, I.db, I.ev, I.dy, I.dc, I.en, ivn, ivo2, ivi, I.hd, I.kn, I.ks, I.ko, I.pn, ipo, I.dn, I.un, I.uo, I.uz, I.up, I.rn, I.rk⟩
  have ez2 : (fun f => if f = 20 ∨ (26 ≤ f ∧ f ≤ 34) then σ' f else σ f) = σ' := funext fun f => by
    by_cases w : f = 20 ∨ (26 ≤ f ∧ f ≤ 34)
    · rw [if_pos w]
    · rw [if_neg w, out f (by omega) (by omega) (by omega)]
  rw [ez2] at IZ
  refine ⟨M2, σ', _, ?_, go, RZ, IZ, fun f hf => out f (by omega) (by omega) (by omega), o26r, o26o, rfl⟩
  have q0 := (R.rg r hr).k
  have q1 := (R.rg r hr).p1
  have LR := R.vl r hr
  rw [eV] at LR
  have q2 := LR.k
  have q3 := LR.size
  clear R I R1 LV el f2 L2 S X hpt hct hs3 s3n s3r s3o s3c hpcs LR RZ IZ hvl hvo ivn ivo ivi icI ipo ivo2 sv n26 e2 e1 go out
  simp (disch := (first | assumption | omega | decide | (simp only [mK_uI, mK_uP, mL_uI, mL_uP, mK_wI, mL_wI, mK_nA_e, mL_nA_e] <;> (first | assumption | omega)))) only [i3_le_t, i3_le_f, i3_lt_t, i3_lt_f, i3_eq_t, i3_eq_f, i3_add, i3_mul, i3_sub, i3_div, i3_dec, i3_m1, m1_i3, m1_eq, i3_ge0, m1_lt, i3_le_m1, ↓reduceIte, rZ_0, rZ_1, bdR_s, bdW_s, ifN_n, ifN_s, ↓fgI_s, ↓fgR_s, ↓rk_s, ↓fpI_s, ↓fpR_s, ↓fpZ_0, ↓fpZ_1, ↓alI_i, ↓alP_i, ↓asI_i, ↓asB_i, ↓asZ_0, ↓asZ_1, ↓aln_i, ↓fca_s, ↓fca_n, bdC_li, bdC_ri, mK_uI, mK_uP, mL_uI, mL_uP, mP_uI, mI_uP, mK_wI, mL_wI, mP_wI, mI_uI_e, mI_uI_c, nwO_s, mK_nA_e, mL_nA_e, fRegion_takeOut_E, q1, q3, tl]
end TO

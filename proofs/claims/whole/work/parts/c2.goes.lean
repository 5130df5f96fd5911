set_option maxRecDepth 100000
/-! a version goes: counts, and those behind it move down -/
section GO
variable {h c n r : Nat} {own : Nat → Nat} {B : BK} {σ σ' : Sg} {M M' : Mm}
theorem RR.setc (R : RR h own B σ M n) (hr : r < 2) {p : Nat} (hp : p < nv (σ 18 r)) (h90 : ∀ r, r < 2 → nv (σ 18 r) ≤ 90) (v : Int32) : RR h own B (uS σ 20 (90 * r + p) v) (uI M 506 (pa B r p) 0 v) n := by
  have A := R.po r hr p hp
  have f : IOS (fun _ x => pa B r p ≤ x ∧ x ≤ pa B r p + 4) M (uI M 506 (pa B r p) 0 v) := (IOS.uI _ _ _ _).mono fun cc a z => by omega
  refine R.setp hr hp h90 f (fun k hk => uS_n _ _ _ (fun w => hk (by unfold PTF; omega))) (fun a ha => ⟨rfl, uS_d _ _ _ _ ha, fun s' hs' => ⟨rfl, rfl⟩, fun j hj => rfl⟩) ?_
  have b' : PRT own (uI M 506 (pa B r p) 0 v) (pa B r p) r := A.b.keep (fun a o => ⟨rfl, f.K a, f.L a, fun cc j => f.P cc a j⟩)
  rw [uS_e]
  refine ⟨b', A.nu, A.lo, mI_uI_e _ _ _ _ _, A.sw, A.by, A.nd, A.ro, A.sb⟩
/-- the counts when q parts of a version have been let go -/
def cs (σ : Sg) (r a P q : Nat) : Sg := fun f x => if f = 20 ∧ 90 * r ≤ x ∧ x < 90 * r + P then i3 (nv (σ 20 x) - cntF (fun q' => decide (σ 34 (20 * a + q') = i3 (x - 90 * r))) 0 q) else σ f x
theorem cs_n (σ : Sg) (r a P q : Nat) {f : Nat} (hf : f ≠ 20) : cs σ r a P q f = σ f := funext fun x => if_neg fun w => hf w.1
theorem cs_0 (σ : Sg) {r a P : Nat} (hb : ∀ p, p < P → σ 20 (90 * r + p) = i3 (nv (σ 20 (90 * r + p)))) : cs σ r a P 0 = σ := funext fun f => funext fun x => by
  show (if f = 20 ∧ 90 * r ≤ x ∧ x < 90 * r + P then i3 (nv (σ 20 x) - 0) else σ f x) = σ f x
  by_cases z : f = 20 ∧ 90 * r ≤ x ∧ x < 90 * r + P
  · rw [if_pos z, Nat.sub_zero, z.1]
    have e : x = 90 * r + (x - 90 * r) := by omega
    rw [e]; exact (hb _ (by omega)).symm
  · rw [if_neg z]
theorem cs_S (σ : Sg) {r a P q p : Nat} (hp : p < P) (hP : P ≤ 90) (hq : σ 34 (20 * a + q) = i3 p) : uS (cs σ r a P q) 20 (90 * r + p) (i3 (nv (σ 20 (90 * r + p)) - cntF (fun q' => decide (σ 34 (20 * a + q') = i3 p)) 0 q - 1)) = cs σ r a P (q + 1) := funext fun f => funext fun x => by
  show (if f = 20 ∧ x = 90 * r + p then _ else (if f = 20 ∧ 90 * r ≤ x ∧ x < 90 * r + P then i3 (nv (σ 20 x) - cntF (fun q' => decide (σ 34 (20 * a + q') = i3 (x - 90 * r))) 0 q) else σ f x)) = (if f = 20 ∧ 90 * r ≤ x ∧ x < 90 * r + P then i3 (nv (σ 20 x) - cntF (fun q' => decide (σ 34 (20 * a + q') = i3 (x - 90 * r))) 0 (q + 1)) else σ f x)
  by_cases z : f = 20 ∧ x = 90 * r + p
  · obtain ⟨rfl, rfl⟩ := z
    have e : 90 * r + p - 90 * r = p := by omega
    rw [if_pos ⟨rfl, rfl⟩, if_pos (by omega), cntF_up, Nat.zero_add, e, if_pos (decide_eq_true hq), Nat.sub_sub]
  · rw [if_neg z]
    by_cases w : f = 20 ∧ 90 * r ≤ x ∧ x < 90 * r + P
    · have ne : ¬ σ 34 (20 * a + q) = i3 (x - 90 * r) := fun e => by
        rw [hq] at e
        have := (i3_inj (by omega) (by omega)).mp e
        omega
      rw [if_pos w, if_pos w, cntF_up, Nat.zero_add, if_neg (by rw [decide_eq_true_eq]; exact ne), Nat.add_zero]
    · rw [if_neg w, if_neg w]
theorem let_loop {V i P pc : Nat} (hr : r < 2) (hi : i < V) (h40 : V ≤ 40) (hV : σ 26 r = i3 V) (hP : σ 18 r = i3 P) (h90 : P ≤ 90) (hp90 : ∀ r, r < 2 → nv (σ 18 r) ≤ 90) (hpc : σ 33 (40 * r + i) = i3 pc) (hpc20 : pc ≤ 20) (hpt : ∀ q, q < pc → ∃ p, p < P ∧ σ 34 (20 * (40 * r + i) + q) = i3 p ∧ σ 19 (90 * r + p) = i3 0) (hct : ∀ p, p < P → nv (σ 20 (90 * r + p)) ≤ 800 ∧ cntF (fun q' => decide (σ 34 (20 * (40 * r + i) + q') = i3 p)) 0 pc ≤ nv (σ 20 (90 * r + p))) : ∀ d q fu fu2 (M : Mm), d + q = pc → d < fu → RR h own B (cs σ r (40 * r + i) P q) M n → ∃ M', fStore_letGo_l2 (gr h r + 1) fu (some (ve B r i + 1)) (i3 q) M = some ((), M') ∧ fMd_goes_l2 (fu2 + d) (i3 r) (i3 (40 * r + i)) (i3 q) (cs σ r (40 * r + i) P q) = fMd_goes_l2 fu2 (i3 r) (i3 (40 * r + i)) (i3 pc) (cs σ r (40 * r + i) P pc) ∧ RR h own B (cs σ r (40 * r + i) P pc) M' n := by
  intro d
  induction d with
  | zero =>
    intro q fu fu2 M hd hfu R
    obtain ⟨f, rfl⟩ : ∃ f, fu = f + 1 := ⟨fu - 1, by omega⟩
    have hq : q = pc := by omega
    subst hq
    have V1 := R.vo r hr i (by rw [cs_n _ _ _ _ _ (by decide), hV, nv_i (by omega)]; exact hi)
    have v1 := V1.b.rk
    have v2 := V1.b.rl
    rw [cs_n _ _ _ _ _ (by decide), hpc, nv_i (by omega)] at v2
    refine ⟨M, ?_, rfl, R⟩
    rw [fStore_letGo_l2_S, fStore_letGo_b2_E]
    clear V1 R hpt hct
    simp (disch := (first | assumption | omega | decide | (simp only [mK_uI, mK_uP, mL_uI, mL_uP, mK_wI, mL_wI, mK_nA_e, mL_nA_e] <;> (first | assumption | omega)))) only [i3_le_t, i3_le_f, i3_lt_t, i3_lt_f, i3_eq_t, i3_eq_f, i3_add, i3_mul, i3_sub, i3_div, i3_dec, i3_m1, m1_i3, m1_eq, i3_ge0, m1_lt, i3_le_m1, ↓reduceIte, rZ_0, rZ_1, bdR_s, bdW_s, ifN_n, ifN_s, ↓fgI_s, ↓fgR_s, ↓rk_s, ↓fpI_s, ↓fpR_s, ↓fpZ_0, ↓fpZ_1, ↓alI_i, ↓alP_i, ↓asI_i, ↓asB_i, ↓asZ_0, ↓asZ_1, ↓aln_i, ↓fca_s, ↓fca_n, bdC_li, bdC_ri, mK_uI, mK_uP, mL_uI, mL_uP, mP_uI, mI_uP, mK_wI, mL_wI, mP_wI, mI_uI_e, mI_uI_c, nwO_s, mK_nA_e, mL_nA_e, v2]
  | succ d ih =>
    intro q fu fu2 M hd hfu R
    obtain ⟨f, rfl⟩ : ∃ f, fu = f + 1 := ⟨fu - 1, by omega⟩
    obtain ⟨p, hp, hq, hsw⟩ := hpt q (by omega)
    obtain ⟨c8, cP⟩ := hct p hp
    have V1 := R.vo r hr i (by rw [cs_n _ _ _ _ _ (by decide), hV, nv_i (by omega)]; exact hi)
    have v1 := V1.b.rk
    have v2 := V1.b.rl
    rw [cs_n _ _ _ _ _ (by decide), hpc, nv_i (by omega)] at v2
    have v3 := V1.pt q (by rw [cs_n _ _ _ _ _ (by decide), hpc, nv_i (by omega)]; omega)
    have v3 : mI M 0 (ve B r i + 1) q = cs σ r (40 * r + i) P q 34 (20 * (40 * r + i) + q) := v3
    rw [cs_n _ _ _ _ _ (by decide), hq] at v3
    have P1 : nv (cs σ r (40 * r + i) P q 18 r) = P := by rw [cs_n _ _ _ _ _ (by decide), hP, nv_i (by omega)]
    have pa1 := c_partAt_i R hr (P := P) (by rw [cs_n _ _ _ _ _ (by decide)]; exact hP) h90 hp
    rw [cs_n _ _ _ _ _ (show (19 : Nat) ≠ 20 by decide), if_pos hsw] at pa1
    have A := R.po r hr p (by rw [P1]; exact hp)
    have a1 := A.b.k
    have a2 := A.ct
    have e20 : cs σ r (40 * r + i) P q 20 (90 * r + p) = i3 (nv (σ 20 (90 * r + p)) - cntF (fun q' => decide (σ 34 (20 * (40 * r + i) + q') = i3 p)) 0 q) := by
      show (if 20 = 20 ∧ 90 * r ≤ 90 * r + p ∧ 90 * r + p < 90 * r + P then i3 (nv (σ 20 (90 * r + p)) - cntF (fun q' => decide (σ 34 (20 * (40 * r + i) + q') = i3 (90 * r + p - 90 * r))) 0 q) else _) = _
      have e : 90 * r + p - 90 * r = p := by omega
      rw [if_pos ⟨rfl, by omega, by omega⟩, e]
    have up : cntF (fun q' => decide (σ 34 (20 * (40 * r + i) + q') = i3 p)) 0 q + 1 ≤ nv (σ 20 (90 * r + p)) := by
      have mono : ∀ d, cntF (fun q' => decide (σ 34 (20 * (40 * r + i) + q') = i3 p)) 0 q + 1 ≤ cntF (fun q' => decide (σ 34 (20 * (40 * r + i) + q') = i3 p)) 0 (q + 1 + d) := by
        intro d
        induction d with
        | zero =>
          show _ ≤ cntF _ 0 (q + 1)
          rw [cntF_up, Nat.zero_add, if_pos (decide_eq_true hq)]
          omega
        | succ d ih2 =>
          show _ ≤ cntF _ 0 (q + 1 + d + 1)
          rw [cntF_up]
          omega
      have e : q + 1 + (pc - (q + 1)) = pc := by omega
      have := mono (pc - (q + 1))
      rw [e] at this
      omega
    obtain ⟨Cn, hCn⟩ : ∃ Cn, Cn = nv (σ 20 (90 * r + p)) - cntF (fun q' => decide (σ 34 (20 * (40 * r + i) + q') = i3 p)) 0 q := ⟨_, rfl⟩
    have st := cs_S σ (r := r) (a := 40 * r + i) (P := P) (q := q) hp h90 hq
    rw [← hCn] at st e20
    rw [e20] at a2
    have R2 := R.setc hr (p := p) (by rw [P1]; exact hp) (fun r hr => by rw [cs_n _ _ _ _ _ (by decide)]; exact hp90 r hr) (i3 (Cn - 1))
    rw [st] at R2
    obtain ⟨M', g1, g2, g3⟩ := ih (q + 1) f fu2 _ (by omega) (by omega) R2
    have hk := (R.rg r hr).ks
    refine ⟨M', ?_, ?_, g3⟩
    · rw [fStore_letGo_l2_S, fStore_letGo_b2_E]
      clear V1 R R2 A ih hpt hct g3 P1
      simp (disch := (first | assumption | omega | decide | (simp only [mK_uI, mK_uP, mL_uI, mL_uP, mK_wI, mL_wI, mK_nA_e, mL_nA_e] <;> (first | assumption | omega)))) only [i3_le_t, i3_le_f, i3_lt_t, i3_lt_f, i3_eq_t, i3_eq_f, i3_add, i3_mul, i3_sub, i3_div, i3_dec, i3_m1, m1_i3, m1_eq, i3_ge0, m1_lt, i3_le_m1, ↓reduceIte, rZ_0, rZ_1, bdR_s, bdW_s, ifN_n, ifN_s, ↓fgI_s, ↓fgR_s, ↓rk_s, ↓fpI_s, ↓fpR_s, ↓fpZ_0, ↓fpZ_1, ↓alI_i, ↓alP_i, ↓asI_i, ↓asB_i, ↓asZ_0, ↓asZ_1, ↓aln_i, ↓fca_s, ↓fca_n, bdC_li, bdC_ri, mK_uI, mK_uP, mL_uI, mL_uP, mP_uI, mI_uP, mK_wI, mL_wI, mP_wI, mI_uI_e, mI_uI_c, nwO_s, mK_nA_e, mL_nA_e, v2, v3, pa1, a2, fStore_letGo_j30_E, g1]
    · have ef : fu2 + (d + 1) = fu2 + d + 1 := by omega
      rw [ef, fMd_goes_l2_S, fMd_goes_b2_E]
      have e33 : cs σ r (40 * r + i) P q 33 (40 * r + i) = i3 pc := by rw [cs_n _ _ _ _ _ (by decide)]; exact hpc
      have e34 : cs σ r (40 * r + i) P q 34 (20 * (40 * r + i) + q) = i3 p := by rw [cs_n _ _ _ _ _ (by decide)]; exact hq
      clear V1 R R2 A ih hpt hct g3 P1
      simp (disch := (first | assumption | omega | decide | (simp only [mK_uI, mK_uP, mL_uI, mL_uP, mK_wI, mL_wI, mK_nA_e, mL_nA_e] <;> (first | assumption | omega)))) only [i3_le_t, i3_le_f, i3_lt_t, i3_lt_f, i3_eq_t, i3_eq_f, i3_add, i3_mul, i3_sub, i3_div, i3_dec, i3_m1, m1_i3, m1_eq, i3_ge0, m1_lt, i3_le_m1, ↓reduceIte, rZ_0, rZ_1, bdR_s, bdW_s, ifN_n, ifN_s, uS_n, uS_e, uS_d, ↓mgF_s, ↓mpF_s, ↓mgA_2, ↓mgA_4, ↓mgA_6, ↓mgA_7, ↓mgA_9, ↓mgA_10, ↓mgA_12, ↓mgA_14, ↓mgA_15, ↓mgA_16, ↓mgA_17, ↓mgA_18, ↓mgA_19, ↓mgA_20, ↓mgA_21, ↓mgA_22, ↓mgA_23, ↓mgA_24, ↓mgA_25, ↓mgA_26, ↓mgA_27, ↓mgA_28, ↓mgA_29, ↓mgA_30, ↓mgA_31, ↓mgA_32, ↓mgA_33, ↓mgA_34, ↓mgA_35, ↓mgA_36, ↓mgA_37, ↓mgA_38, ↓mgA_39, ↓mgA_41, ↓mgA_42, ↓mgA_43, ↓mgA_44, ↓mgA_45, ↓mgA_46, ↓mpA_2, ↓mpA_4, ↓mpA_6, ↓mpA_7, ↓mpA_9, ↓mpA_10, ↓mpA_12, ↓mpA_14, ↓mpA_15, ↓mpA_16, ↓mpZ_17, ↓mpA_18, ↓mpZ_19, ↓mpA_20, ↓mpA_21, ↓mpA_22, ↓mpA_23, ↓mpA_24, ↓mpZ_25, ↓mpA_26, ↓mpA_27, ↓mpA_28, ↓mpA_29, ↓mpA_30, ↓mpA_31, ↓mpA_32, ↓mpA_33, ↓mpA_34, ↓mpZ_35, ↓mpA_36, ↓mpA_37, ↓mpA_38, ↓mpA_39, ↓mpA_41, ↓mpA_42, ↓mpZ_43, ↓mpA_44, ↓mpA_45, ↓mpA_46, e33, e34, e20, st, g2]
def SHD (σ : Sg) (σ' : Sg) (a e : Nat) : Prop := (∀ f, f < 27 ∨ 34 < f → σ' f = σ f) ∧
  (∀ f, 27 ≤ f → f ≤ 33 → ∀ j, σ' f j = if a ≤ j ∧ j < e then σ f (j + 1) else σ f j) ∧
  (∀ j, j < 80 → ∀ q, q < nv (σ' 33 j) → q < 20 → σ' 34 (20 * j + q) = if a ≤ j ∧ j < e then σ 34 (20 * (j + 1) + q) else σ 34 (20 * j + q))
theorem SHD.o {σ : Sg} {σ' : Sg} {a e : Nat} (Z : SHD σ σ' a e) : ∀ f, f < 27 ∨ 34 < f → σ' f = σ f := Z.1
theorem SHD.v {σ : Sg} {σ' : Sg} {a e : Nat} (Z : SHD σ σ' a e) : ∀ f, 27 ≤ f → f ≤ 33 → ∀ j, σ' f j = if a ≤ j ∧ j < e then σ f (j + 1) else σ f j := Z.2.1
theorem SHD.p {σ : Sg} {σ' : Sg} {a e : Nat} (Z : SHD σ σ' a e) : ∀ j, j < 80 → ∀ q, q < nv (σ' 33 j) → q < 20 → σ' 34 (20 * j + q) = if a ≤ j ∧ j < e then σ 34 (20 * (j + 1) + q) else σ 34 (20 * j + q) := Z.2.2
theorem SHD.refl {a : Nat} : SHD σ σ a a := ⟨fun _ _ => rfl, fun _ _ _ j => by rw [if_neg (by omega)], fun j _ q _ _ => by rw [if_neg (by omega)]⟩
theorem shd_loop {a V : Nat} (hr : r < 2) (hV0 : 0 < V) (h40 : V ≤ 40) (ha : 40 * r ≤ a) (hpc : ∀ j, j < 40 * r + V → 40 * r ≤ j → ∃ pc, pc ≤ 20 ∧ σ 33 j = i3 pc) (hV : σ 26 r = i3 (V - 1)) : ∀ d k fu (σk : Sg), d + k = 40 * r + (V - 1) → d < fu → a ≤ k → SHD σ σk a k → ∃ σ', fMd_goes_l55 fu (i3 r) (i3 k) σk = some ((), σ') ∧ SHD σ σ' a (40 * r + (V - 1)) := by
  intro d
  induction d with
  | zero =>
    intro k fu σk hd hfu hk S
    obtain ⟨f, rfl⟩ : ∃ f, fu = f + 1 := ⟨fu - 1, by omega⟩
    have hk2 : k = 40 * r + (V - 1) := by omega
    subst hk2
    refine ⟨σk, ?_, S⟩
    have e26 : σk 26 r = i3 (V - 1) := by rw [S.o 26 (Or.inl (by decide))]; exact hV
    rw [fMd_goes_l55_S, fMd_goes_b55_E]
    clear S hpc
    simp (disch := (first | assumption | omega | decide | (simp only [mK_uI, mK_uP, mL_uI, mL_uP, mK_wI, mL_wI, mK_nA_e, mL_nA_e] <;> (first | assumption | omega)))) only [i3_le_t, i3_le_f, i3_lt_t, i3_lt_f, i3_eq_t, i3_eq_f, i3_add, i3_mul, i3_sub, i3_div, i3_dec, i3_m1, m1_i3, m1_eq, i3_ge0, m1_lt, i3_le_m1, ↓reduceIte, rZ_0, rZ_1, bdR_s, bdW_s, ifN_n, ifN_s, uS_n, uS_e, uS_d, ↓mgF_s, ↓mpF_s, ↓mgA_2, ↓mgA_4, ↓mgA_6, ↓mgA_7, ↓mgA_9, ↓mgA_10, ↓mgA_12, ↓mgA_14, ↓mgA_15, ↓mgA_16, ↓mgA_17, ↓mgA_18, ↓mgA_19, ↓mgA_20, ↓mgA_21, ↓mgA_22, ↓mgA_23, ↓mgA_24, ↓mgA_25, ↓mgA_26, ↓mgA_27, ↓mgA_28, ↓mgA_29, ↓mgA_30, ↓mgA_31, ↓mgA_32, ↓mgA_33, ↓mgA_34, ↓mgA_35, ↓mgA_36, ↓mgA_37, ↓mgA_38, ↓mgA_39, ↓mgA_41, ↓mgA_42, ↓mgA_43, ↓mgA_44, ↓mgA_45, ↓mgA_46, ↓mpA_2, ↓mpA_4, ↓mpA_6, ↓mpA_7, ↓mpA_9, ↓mpA_10, ↓mpA_12, ↓mpA_14, ↓mpA_15, ↓mpA_16, ↓mpZ_17, ↓mpA_18, ↓mpZ_19, ↓mpA_20, ↓mpA_21, ↓mpA_22, ↓mpA_23, ↓mpA_24, ↓mpZ_25, ↓mpA_26, ↓mpA_27, ↓mpA_28, ↓mpA_29, ↓mpA_30, ↓mpA_31, ↓mpA_32, ↓mpA_33, ↓mpA_34, ↓mpZ_35, ↓mpA_36, ↓mpA_37, ↓mpA_38, ↓mpA_39, ↓mpA_41, ↓mpA_42, ↓mpZ_43, ↓mpA_44, ↓mpA_45, ↓mpA_46, e26]
  | succ d ih =>
    intro k fu σk hd hfu hk S
    obtain ⟨f, rfl⟩ : ∃ f, fu = f + 1 := ⟨fu - 1, by omega⟩
    have e26 : σk 26 r = i3 (V - 1) := by rw [S.o 26 (Or.inl (by decide))]; exact hV
    obtain ⟨pc, hp20, hpe⟩ := hpc (k + 1) (by omega) (by omega)
    have e33 : σk 33 (k + 1) = i3 pc := by rw [S.v 33 (by decide) (by decide), if_neg (by omega)]; exact hpe
    have mv := m_moves (σ := σk) (x := k + 1) (y := k) (pc := pc) (by omega) (by omega) (by omega) hp20 e33
    have S2 : SHD σ (mvv σk (k + 1) k pc) a (k + 1) := by
      refine ⟨fun f hf => funext fun j => ?_, fun f h1 h2 j => ?_, fun j hj q hq hq20 => ?_⟩
      · show (if 27 ≤ f ∧ f ≤ 33 ∧ j = k then σk f (k + 1) else if f = 34 ∧ 20 * k ≤ j ∧ j < 20 * k + pc then _ else σk f j) = σ f j
        rw [if_neg (by omega), if_neg (by omega), S.o f hf]
      · show (if 27 ≤ f ∧ f ≤ 33 ∧ j = k then σk f (k + 1) else if f = 34 ∧ 20 * k ≤ j ∧ j < 20 * k + pc then _ else σk f j) = _
        by_cases e : j = k
        · subst e
          rw [if_pos ⟨h1, h2, rfl⟩, if_pos (by omega), S.v f h1 h2, if_neg (by omega)]
        · rw [if_neg (by omega), if_neg (by omega), S.v f h1 h2]
          by_cases w : a ≤ j ∧ j < k
          · rw [if_pos w, if_pos (by omega)]
          · rw [if_neg w, if_neg (by omega)]
      · have hq : q < nv (if 27 ≤ 33 ∧ 33 ≤ 33 ∧ j = k then σk 33 (k + 1) else if 33 = 34 ∧ 20 * k ≤ j ∧ j < 20 * k + pc then σk 34 (20 * (k + 1) + (j - 20 * k)) else σk 33 j) := hq
        show (if 27 ≤ 34 ∧ 34 ≤ 33 ∧ 20 * j + q = k then σk 34 (k + 1) else if 34 = 34 ∧ 20 * k ≤ 20 * j + q ∧ 20 * j + q < 20 * k + pc then σk 34 (20 * (k + 1) + (20 * j + q - 20 * k)) else σk 34 (20 * j + q)) = _
        rw [if_neg (by omega)]
        by_cases e : j = k
        · subst e
          rw [if_pos ⟨by decide, by decide, rfl⟩, e33, nv_i (by omega)] at hq
          have e2 : 20 * (j + 1) + (20 * j + q - 20 * j) = 20 * (j + 1) + q := by omega
          rw [if_pos ⟨rfl, by omega, by omega⟩, if_pos (by omega), e2, S.p (j + 1) (by omega) q (by rw [e33, nv_i (by omega)]; exact hq) hq20, if_neg (by omega)]
        · rw [if_neg (by omega), if_neg (by omega)] at hq
          rw [if_neg (by omega), S.p j hj q hq hq20]
          by_cases w : a ≤ j ∧ j < k
          · rw [if_pos w, if_pos (by omega)]
          · rw [if_neg w, if_neg (by omega)]
    obtain ⟨σ', g1, g2⟩ := ih (k + 1) f _ (by omega) (by omega) (by omega) S2
    refine ⟨σ', ?_, g2⟩
    rw [fMd_goes_l55_S, fMd_goes_b55_E]
    clear S S2 g2 hpc ih
    simp (disch := (first | assumption | omega | decide | (simp only [mK_uI, mK_uP, mL_uI, mL_uP, mK_wI, mL_wI, mK_nA_e, mL_nA_e] <;> (first | assumption | omega)))) only [i3_le_t, i3_le_f, i3_lt_t, i3_lt_f, i3_eq_t, i3_eq_f, i3_add, i3_mul, i3_sub, i3_div, i3_dec, i3_m1, m1_i3, m1_eq, i3_ge0, m1_lt, i3_le_m1, ↓reduceIte, rZ_0, rZ_1, bdR_s, bdW_s, ifN_n, ifN_s, uS_n, uS_e, uS_d, ↓mgF_s, ↓mpF_s, ↓mgA_2, ↓mgA_4, ↓mgA_6, ↓mgA_7, ↓mgA_9, ↓mgA_10, ↓mgA_12, ↓mgA_14, ↓mgA_15, ↓mgA_16, ↓mgA_17, ↓mgA_18, ↓mgA_19, ↓mgA_20, ↓mgA_21, ↓mgA_22, ↓mgA_23, ↓mgA_24, ↓mgA_25, ↓mgA_26, ↓mgA_27, ↓mgA_28, ↓mgA_29, ↓mgA_30, ↓mgA_31, ↓mgA_32, ↓mgA_33, ↓mgA_34, ↓mgA_35, ↓mgA_36, ↓mgA_37, ↓mgA_38, ↓mgA_39, ↓mgA_41, ↓mgA_42, ↓mgA_43, ↓mgA_44, ↓mgA_45, ↓mgA_46, ↓mpA_2, ↓mpA_4, ↓mpA_6, ↓mpA_7, ↓mpA_9, ↓mpA_10, ↓mpA_12, ↓mpA_14, ↓mpA_15, ↓mpA_16, ↓mpZ_17, ↓mpA_18, ↓mpZ_19, ↓mpA_20, ↓mpA_21, ↓mpA_22, ↓mpA_23, ↓mpA_24, ↓mpZ_25, ↓mpA_26, ↓mpA_27, ↓mpA_28, ↓mpA_29, ↓mpA_30, ↓mpA_31, ↓mpA_32, ↓mpA_33, ↓mpA_34, ↓mpZ_35, ↓mpA_36, ↓mpA_37, ↓mpA_38, ↓mpA_39, ↓mpA_41, ↓mpA_42, ↓mpZ_43, ↓mpA_44, ↓mpA_45, ↓mpA_46, e26, mv, g1]
end GO

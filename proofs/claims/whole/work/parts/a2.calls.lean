set_option maxRecDepth 100000
/-! a call on both sides -/
def cdf (a b c k : Nat) : Int32 := if k = 0 then i3 a else if k = 1 then i3 b else if k = 2 then i3 c else i3 0
def AGR (cd : Nat → Int32) (o : Int32 ⊕ Nat) (v t : Int32) : Prop := match o with
  | .inl w => t = i3 0 ∧ w = v
  | .inr k => t = cd k ∧ t ≠ i3 0
def INV (h c : Nat) (σ : Sg) (M : Mm) (n : Nat) : Prop := ∃ own B, RR h own B σ M n ∧ IV c σ
def kpt (σ : Sg) : Nat := nv (σ 36 0) + nv (σ 36 1)
def ppt (σ : Sg) : Nat := 6 * (nv (σ 18 0) + nv (σ 18 1)) + 12 * nv (σ 8 0)
def POT (σ : Sg) (n : Nat) (σ' : Sg) (n' : Nat) : Prop := n' + 4 * kpt σ' + ppt σ ≤ n + 4 * kpt σ + ppt σ' + 25
def OPR (h c : Nat) (σ : Sg) (n : Nat) (x : Option ((Int32 ⊕ Nat) × Mm × Nat)) (y : Option (Int32 × Sg)) (cd : Nat → Int32) : Prop := ∃ o M' n' v σ', x = some (o, M', n') ∧ y = some (v, σ') ∧ AGR cd o v (σ' 0 0) ∧ n ≤ n' ∧ POT σ n σ' n' ∧ INV h (c + 1) σ' M' n'
section OP
variable {h c n : Nat} {own : Nat → Nat} {B : BK} {σ : Sg} {M : Mm}
theorem NB.mono {a b : Nat} {x : Int32} (h : NB a x) (k : a ≤ b) : NB b x := ⟨h.1, Nat.le_trans h.2 k⟩
theorem IV.up0 (I : IV c σ) : IV (c + 1) σ := ⟨I.dr, I.db, I.ev, I.dy, by have := I.dc; omega, I.en, I.vn, I.vo, I.vi, I.hd, I.kn, I.ks, I.ko, I.pn, I.po, I.dn, I.un, I.uo, I.uz, I.up, I.rn, I.rk⟩
/-- scratch of the check: what no promise rests on -/
def SCF (k : Nat) : Prop := k = 0 ∨ k = 3 ∨ k = 4 ∨ k = 5 ∨ k = 6 ∨ k = 7 ∨ k = 46
theorem IV.scf {σ' : Sg} (I : IV c σ) (e : ∀ k, ¬ SCF k → σ' k = σ k) : IV c σ' := by
  have e1 := e 1 (by unfold SCF; omega)
  have e2 := e 2 (by unfold SCF; omega)
  have e8 := e 8 (by unfold SCF; omega)
  have e9 := e 9 (by unfold SCF; omega)
  have e10 := e 10 (by unfold SCF; omega)
  have e11 := e 11 (by unfold SCF; omega)
  have e13 := e 13 (by unfold SCF; omega)
  have e14 := e 14 (by unfold SCF; omega)
  have e15 := e 15 (by unfold SCF; omega)
  have e16 := e 16 (by unfold SCF; omega)
  have e17 := e 17 (by unfold SCF; omega)
  have e18 := e 18 (by unfold SCF; omega)
  have e19 := e 19 (by unfold SCF; omega)
  have e20 := e 20 (by unfold SCF; omega)
  have e21 := e 21 (by unfold SCF; omega)
  have e22 := e 22 (by unfold SCF; omega)
  have e23 := e 23 (by unfold SCF; omega)
  have e24 := e 24 (by unfold SCF; omega)
  have e25 := e 25 (by unfold SCF; omega)
  have e26 := e 26 (by unfold SCF; omega)
  have e27 := e 27 (by unfold SCF; omega)
  have e28 := e 28 (by unfold SCF; omega)
  have e29 := e 29 (by unfold SCF; omega)
  have e30 := e 30 (by unfold SCF; omega)
  have e31 := e 31 (by unfold SCF; omega)
  have e32 := e 32 (by unfold SCF; omega)
  have e33 := e 33 (by unfold SCF; omega)
  have e34 := e 34 (by unfold SCF; omega)
  have e35 := e 35 (by unfold SCF; omega)
  have e36 := e 36 (by unfold SCF; omega)
  have e37 := e 37 (by unfold SCF; omega)
  have e38 := e 38 (by unfold SCF; omega)
  have e39 := e 39 (by unfold SCF; omega)
  have e40 := e 40 (by unfold SCF; omega)
  have e41 := e 41 (by unfold SCF; omega)
  have e42 := e 42 (by unfold SCF; omega)
  have e43 := e 43 (by unfold SCF; omega)
  have e44 := e 44 (by unfold SCF; omega)
  have e45 := e 45 (by unfold SCF; omega)
  revert I
  unfold IV IVE IVV IVP IVU
  simp only [e1, e2, e8, e9, e10, e11, e13, e14, e15, e16, e17, e18, e19, e20, e21, e22, e23, e24, e25, e26, e27, e28, e29, e30, e31, e32, e33, e34, e35, e36, e37, e38, e39, e40, e41, e42, e43, e44, e45]
  exact id
theorem RR.scf {σ' : Sg} (R : RR h own B σ M n) (e : ∀ k, ¬ SCF k → σ' k = σ k) : RR h own B σ' M n := by
  have e1 := e 1 (by unfold SCF; omega)
  have e2 := e 2 (by unfold SCF; omega)
  have e8 := e 8 (by unfold SCF; omega)
  have e9 := e 9 (by unfold SCF; omega)
  have e10 := e 10 (by unfold SCF; omega)
  have e11 := e 11 (by unfold SCF; omega)
  have e12 := e 12 (by unfold SCF; omega)
  have e13 := e 13 (by unfold SCF; omega)
  have e14 := e 14 (by unfold SCF; omega)
  have e15 := e 15 (by unfold SCF; omega)
  have e16 := e 16 (by unfold SCF; omega)
  have e17 := e 17 (by unfold SCF; omega)
  have e18 := e 18 (by unfold SCF; omega)
  have e19 := e 19 (by unfold SCF; omega)
  have e20 := e 20 (by unfold SCF; omega)
  have e21 := e 21 (by unfold SCF; omega)
  have e22 := e 22 (by unfold SCF; omega)
  have e23 := e 23 (by unfold SCF; omega)
  have e24 := e 24 (by unfold SCF; omega)
  have e25 := e 25 (by unfold SCF; omega)
  have e26 := e 26 (by unfold SCF; omega)
  have e27 := e 27 (by unfold SCF; omega)
  have e30 := e 30 (by unfold SCF; omega)
  have e31 := e 31 (by unfold SCF; omega)
  have e32 := e 32 (by unfold SCF; omega)
  have e33 := e 33 (by unfold SCF; omega)
  have e34 := e 34 (by unfold SCF; omega)
  have e35 := e 35 (by unfold SCF; omega)
  have e36 := e 36 (by unfold SCF; omega)
  have e37 := e 37 (by unfold SCF; omega)
  have e38 := e 38 (by unfold SCF; omega)
  have e39 := e 39 (by unfold SCF; omega)
  have e40 := e 40 (by unfold SCF; omega)
  have e41 := e 41 (by unfold SCF; omega)
  have e42 := e 42 (by unfold SCF; omega)
  have e43 := e 43 (by unfold SCF; omega)
  have e44 := e 44 (by unfold SCF; omega)
  have e45 := e 45 (by unfold SCF; omega)
  revert R
  unfold RR
  simp only [e1, e2, e8, e9, e10, e11, e12, e13, e14, e15, e16, e17, e18, e19, e20, e21, e22, e23, e24, e25, e26, e27, e30, e31, e32, e33, e34, e35, e36, e37, e38, e39, e40, e41, e42, e43, e44, e45]
  exact id
theorem scf0 (t : Int32) : ∀ k, ¬ SCF k → uS σ 0 0 t k = σ k := fun k hk => uS_n σ 0 t (fun z => hk (Or.inl z))
/-- a call that changes nothing that counts -/
theorem OPR.same {σ' : Sg} {x : Option ((Int32 ⊕ Nat) × Mm × Nat)} {y : Option (Int32 × Sg)} {cd : Nat → Int32} (R : RR h own B σ M n) (I : IV c σ) {M' : Mm} {n' : Nat} {o : Int32 ⊕ Nat} {v : Int32} {T : Nat → Prop} (hx : x = some (o, M', n')) (hy : y = some (v, σ')) (f : FRM T own M own M') (t : ∀ x, T x → x = 3 ∨ x = 10 ∨ x = 11) (e : ∀ k, ¬ SCF k → σ' k = σ k) (ha : AGR cd o v (σ' 0 0)) (hn : n ≤ n') (hn2 : n' ≤ n + 25) : OPR h c σ n x y cd := by
  refine ⟨o, M', n', v, σ', hx, hy, ha, hn, ?_, own, B, ?_, (I.scf e).up0⟩
  · unfold POT kpt ppt
    rw [e 36 (by unfold SCF; omega), e 18 (by unfold SCF; omega), e 8 (by unfold SCF; omega)]
    omega
  · have R2 := (R.scr f t).scf e
    exact ⟨fun a ha2 => R2.fr a (by omega), R2.2⟩
theorem OPR.same0 {σ' : Sg} {x : Option ((Int32 ⊕ Nat) × Mm × Nat)} {y : Option (Int32 × Sg)} {cd : Nat → Int32} (R : RR h own B σ M n) (I : IV c σ) {n' : Nat} {o : Int32 ⊕ Nat} {v : Int32} (hx : x = some (o, M, n')) (hy : y = some (v, σ')) (e : ∀ k, ¬ SCF k → σ' k = σ k) (ha : AGR cd o v (σ' 0 0)) (hn : n ≤ n') (hn2 : n' ≤ n + 25) : OPR h c σ n x y cd :=
  OPR.same R I hx hy (FRM.refl (T := fun _ => False)) (fun _ z => z.elim) e ha hn hn2
/-! the checks ahead, both sides -/
theorem reg_cases (x : Int32) : (x = i3 0 ∨ x = i3 1) ∨ (x ≠ i3 0 ∧ x ≠ i3 1) := by
  by_cases a : x = i3 0
  · exact Or.inl (Or.inl a)
  · by_cases b : x = i3 1
    · exact Or.inl (Or.inr b)
    · exact Or.inr ⟨a, b⟩
theorem c_reg (R : RR h own B σ M n) {r : Nat} (hr : r < 2) : fHb_regionOf h (i3 r) M n = some (.inl (some (gr h r)), M, n) := by
  have k := R.hb.k
  have p0 := R.hb.p0
  have p1 := R.hb.p1
  have q : fHb_checkIndex (i3 1) M n = some (.inl (), M, n) := rfl
  have hn : n ≤ n := Nat.le_refl n
  clear R
  rcases (by omega : r = 0 ∨ r = 1) with rfl | rfl
  · simp (disch := (first | assumption | omega | decide | (simp only [mK_uI, mK_uP, mL_uI, mL_uP, mK_wI, mL_wI, mK_nA_e, mL_nA_e] <;> (first | assumption | omega)))) only [i3_le_t, i3_le_f, i3_lt_t, i3_lt_f, i3_eq_t, i3_eq_f, i3_add, i3_mul, i3_sub, i3_div, i3_dec, i3_m1, m1_i3, m1_eq, i3_ge0, m1_lt, i3_le_m1, ↓reduceIte, rZ_0, rZ_1, bdR_s, bdW_s, ifN_n, ifN_s, ↓fgI_s, ↓fgR_s, ↓rk_s, ↓fpI_s, ↓fpR_s, ↓fpZ_0, ↓fpZ_1, ↓alI_i, ↓alP_i, ↓asI_i, ↓asB_i, ↓asZ_0, ↓asZ_1, ↓aln_i, ↓fca_s, ↓fca_n, bdC_li, bdC_ri, mK_uI, mK_uP, mL_uI, mL_uP, mP_uI, mI_uP, mK_wI, mL_wI, mP_wI, mI_uI_e, mI_uI_c, nwO_s, mK_nA_e, mL_nA_e, fHb_regionOf_E, fHb_regionOf_j9_E, fHb_regionOf_j14_E, q, p0, gr, Nat.mul_zero, Nat.add_zero]
  · simp (disch := (first | assumption | omega | decide | (simp only [mK_uI, mK_uP, mL_uI, mL_uP, mK_wI, mL_wI, mK_nA_e, mL_nA_e] <;> (first | assumption | omega)))) only [i3_le_t, i3_le_f, i3_lt_t, i3_lt_f, i3_eq_t, i3_eq_f, i3_add, i3_mul, i3_sub, i3_div, i3_dec, i3_m1, m1_i3, m1_eq, i3_ge0, m1_lt, i3_le_m1, ↓reduceIte, rZ_0, rZ_1, bdR_s, bdW_s, ifN_n, ifN_s, ↓fgI_s, ↓fgR_s, ↓rk_s, ↓fpI_s, ↓fpR_s, ↓fpZ_0, ↓fpZ_1, ↓alI_i, ↓alP_i, ↓asI_i, ↓asB_i, ↓asZ_0, ↓asZ_1, ↓aln_i, ↓fca_s, ↓fca_n, bdC_li, bdC_ri, mK_uI, mK_uP, mL_uI, mL_uP, mP_uI, mI_uP, mK_wI, mL_wI, mP_wI, mI_uI_e, mI_uI_c, nwO_s, mK_nA_e, mL_nA_e, fHb_regionOf_E, fHb_regionOf_j9_E, fHb_regionOf_j14_E, q, p1, gr, Nat.mul_one]
theorem c_noreg {x : Int32} (h0 : x ≠ i3 0) (h1 : x ≠ i3 1) : fHb_regionOf h x M n = some (.inr 0, M, n + 1) := by
  have q : fHb_checkIndex (i3 0) M n = some (.inr 0, M, n + 1) := rfl
  have hn : n ≤ n + 1 := Nat.le_succ n
  simp (disch := (first | assumption | omega | decide | (simp only [mK_uI, mK_uP, mL_uI, mL_uP, mK_wI, mL_wI, mK_nA_e, mL_nA_e] <;> (first | assumption | omega)))) only [i3_le_t, i3_le_f, i3_lt_t, i3_lt_f, i3_eq_t, i3_eq_f, i3_add, i3_mul, i3_sub, i3_div, i3_dec, i3_m1, m1_i3, m1_eq, i3_ge0, m1_lt, i3_le_m1, ↓reduceIte, rZ_0, rZ_1, bdR_s, bdW_s, ifN_n, ifN_s, ↓fgI_s, ↓fgR_s, ↓rk_s, ↓fpI_s, ↓fpR_s, ↓fpZ_0, ↓fpZ_1, ↓alI_i, ↓alP_i, ↓asI_i, ↓asB_i, ↓asZ_0, ↓asZ_1, ↓aln_i, ↓fca_s, ↓fca_n, bdC_li, bdC_ri, mK_uI, mK_uP, mL_uI, mL_uP, mP_uI, mI_uP, mK_wI, mL_wI, mP_wI, mI_uI_e, mI_uI_c, nwO_s, mK_nA_e, mL_nA_e, fHb_regionOf_E, fHb_regionOf_j9_E, fHb_regionOf_j14_E, q, h0, h1]
theorem m_reg {r : Nat} (hr : r < 2) : fMd_isRegion (i3 r) = some (i3 1) := by
  rcases (by omega : r = 0 ∨ r = 1) with rfl | rfl <;> rfl
theorem m_noreg {x : Int32} (h0 : x ≠ i3 0) (h1 : x ≠ i3 1) : fMd_isRegion x = some (i3 0) := by
  have e : fMd_isIn x (i3 0) (i3 1) = some (i3 0) := by
    rcases i3_cases x with a | ⟨k, hk, rfl⟩
    · simp (disch := (first | assumption | omega | decide | (simp only [mK_uI, mK_uP, mL_uI, mL_uP, mK_wI, mL_wI, mK_nA_e, mL_nA_e] <;> (first | assumption | omega)))) only [i3_le_t, i3_le_f, i3_lt_t, i3_lt_f, i3_eq_t, i3_eq_f, i3_add, i3_mul, i3_sub, i3_div, i3_dec, i3_m1, m1_i3, m1_eq, i3_ge0, m1_lt, i3_le_m1, ↓reduceIte, rZ_0, rZ_1, bdR_s, bdW_s, ifN_n, ifN_s, fMd_isIn_E, a]
    · by_cases z : k < 2
      · exfalso
        rcases (by omega : k = 0 ∨ k = 1) with rfl | rfl
        · exact h0 rfl
        · exact h1 rfl
      · simp (disch := (first | assumption | omega | decide | (simp only [mK_uI, mK_uP, mL_uI, mL_uP, mK_wI, mL_wI, mK_nA_e, mL_nA_e] <;> (first | assumption | omega)))) only [i3_le_t, i3_le_f, i3_lt_t, i3_lt_f, i3_eq_t, i3_eq_f, i3_add, i3_mul, i3_sub, i3_div, i3_dec, i3_m1, m1_i3, m1_eq, i3_ge0, m1_lt, i3_le_m1, ↓reduceIte, rZ_0, rZ_1, bdR_s, bdW_s, ifN_n, ifN_s, fMd_isIn_E]
  simp (disch := (first | assumption | omega | decide | (simp only [mK_uI, mK_uP, mL_uI, mL_uP, mK_wI, mL_wI, mK_nA_e, mL_nA_e] <;> (first | assumption | omega)))) only [i3_le_t, i3_le_f, i3_lt_t, i3_lt_f, i3_eq_t, i3_eq_f, i3_add, i3_mul, i3_sub, i3_div, i3_dec, i3_m1, m1_i3, m1_eq, i3_ge0, m1_lt, i3_le_m1, ↓reduceIte, rZ_0, rZ_1, bdR_s, bdW_s, ifN_n, ifN_s, fMd_isRegion_E, e]
/-- a number between bounds, or not -/
def inR (x : Int32) (lo hi : Nat) : Prop := ∃ k, lo ≤ k ∧ k ≤ hi ∧ x = i3 k
theorem inR_c {x : Int32} {lo hi : Nat} (hx : inR x lo hi) (hb : hi < 2147483648) : fHb_checkRange x (i3 lo) (i3 hi) M n = some (.inl (), M, n) := by
  obtain ⟨k, h1, h2, rfl⟩ := hx
  rw [ck_rng, if_neg]
  rintro (z | z)
  · exact absurd ((i3_lt (by omega) (by omega)).mp z) (by omega)
  · exact absurd ((i3_lt (by omega) (by omega)).mp z) (by omega)
theorem inR_m {x : Int32} {lo hi : Nat} (hx : inR x lo hi) (hb : hi < 2147483648) : fMd_isIn x (i3 lo) (i3 hi) = some (i3 1) := by
  obtain ⟨k, h1, h2, rfl⟩ := hx
  simp (disch := (first | assumption | omega | decide | (simp only [mK_uI, mK_uP, mL_uI, mL_uP, mK_wI, mL_wI, mK_nA_e, mL_nA_e] <;> (first | assumption | omega)))) only [i3_le_t, i3_le_f, i3_lt_t, i3_lt_f, i3_eq_t, i3_eq_f, i3_add, i3_mul, i3_sub, i3_div, i3_dec, i3_m1, m1_i3, m1_eq, i3_ge0, m1_lt, i3_le_m1, ↓reduceIte, rZ_0, rZ_1, bdR_s, bdW_s, ifN_n, ifN_s, fMd_isIn_E]
theorem noR {x : Int32} {lo hi : Nat} (hx : ¬ inR x lo hi) (hb : hi < 2147483648) (hl : lo < 2147483648) : x < i3 lo ∨ i3 hi < x := by
  rcases i3_cases x with a | ⟨k, hk, rfl⟩
  · exact Or.inl (Int32.lt_of_lt_of_le a (nn_pos hl))
  · by_cases z : k < lo
    · exact Or.inl ((i3_lt hk hl).mpr z)
    · by_cases w : hi < k
      · exact Or.inr ((i3_lt hb hk).mpr w)
      · exact absurd ⟨k, by omega, by omega, rfl⟩ hx
theorem noR_c {x : Int32} {lo hi : Nat} (hx : ¬ inR x lo hi) (hb : hi < 2147483648) (hl : lo < 2147483648) : fHb_checkRange x (i3 lo) (i3 hi) M n = some (.inr 1, M, n + 1) := by
  rw [ck_rng, if_pos (noR hx hb hl)]
theorem noR_m {x : Int32} {lo hi : Nat} (hx : ¬ inR x lo hi) (hb : hi < 2147483648) (hl : lo < 2147483648) : fMd_isIn x (i3 lo) (i3 hi) = some (i3 0) := by
  rcases noR hx hb hl with a | a
  · simp (disch := (first | assumption | omega | decide | (simp only [mK_uI, mK_uP, mL_uI, mL_uP, mK_wI, mL_wI, mK_nA_e, mL_nA_e] <;> (first | assumption | omega)))) only [i3_le_t, i3_le_f, i3_lt_t, i3_lt_f, i3_eq_t, i3_eq_f, i3_add, i3_mul, i3_sub, i3_div, i3_dec, i3_m1, m1_i3, m1_eq, i3_ge0, m1_lt, i3_le_m1, ↓reduceIte, rZ_0, rZ_1, bdR_s, bdW_s, ifN_n, ifN_s, fMd_isIn_E, a]
  · rw [fMd_isIn_E]
    by_cases z : x < i3 lo
    · simp (disch := (first | assumption | omega | decide | (simp only [mK_uI, mK_uP, mL_uI, mL_uP, mK_wI, mL_wI, mK_nA_e, mL_nA_e] <;> (first | assumption | omega)))) only [i3_le_t, i3_le_f, i3_lt_t, i3_lt_f, i3_eq_t, i3_eq_f, i3_add, i3_mul, i3_sub, i3_div, i3_dec, i3_m1, m1_i3, m1_eq, i3_ge0, m1_lt, i3_le_m1, ↓reduceIte, rZ_0, rZ_1, bdR_s, bdW_s, ifN_n, ifN_s, z]
    · simp (disch := (first | assumption | omega | decide | (simp only [mK_uI, mK_uP, mL_uI, mL_uP, mK_wI, mL_wI, mK_nA_e, mL_nA_e] <;> (first | assumption | omega)))) only [i3_le_t, i3_le_f, i3_lt_t, i3_lt_f, i3_eq_t, i3_eq_f, i3_add, i3_mul, i3_sub, i3_div, i3_dec, i3_m1, m1_i3, m1_eq, i3_ge0, m1_lt, i3_le_m1, ↓reduceIte, rZ_0, rZ_1, bdR_s, bdW_s, ifN_n, ifN_s, z, a]
theorem key_c (x : Int32) : (fKeys_isKey x = some (i3 1) ∧ fMd_isKey x = some (i3 1)) ∨ (fKeys_isKey x = some (i3 0) ∧ fMd_isKey x = some (i3 0)) := by
  have e := key_all x
  rcases key_bits x with k | ⟨k, -⟩
  · exact Or.inr ⟨k, e.symm.trans k⟩
  · exact Or.inl ⟨k, e.symm.trans k⟩
theorem c_key {x : Int32} (k : fKeys_isKey x = some (i3 1)) : fHb_checkKey x M n = some (.inl (), M, n) := by
  have q : fHb_checkArgument (i3 1) M n = some (.inl (), M, n) := rfl
  have hn : n ≤ n := Nat.le_refl n
  simp (disch := (first | assumption | omega | decide | (simp only [mK_uI, mK_uP, mL_uI, mL_uP, mK_wI, mL_wI, mK_nA_e, mL_nA_e] <;> (first | assumption | omega)))) only [i3_le_t, i3_le_f, i3_lt_t, i3_lt_f, i3_eq_t, i3_eq_f, i3_add, i3_mul, i3_sub, i3_div, i3_dec, i3_m1, m1_i3, m1_eq, i3_ge0, m1_lt, i3_le_m1, ↓reduceIte, rZ_0, rZ_1, bdR_s, bdW_s, ifN_n, ifN_s, ↓fgI_s, ↓fgR_s, ↓rk_s, ↓fpI_s, ↓fpR_s, ↓fpZ_0, ↓fpZ_1, ↓alI_i, ↓alP_i, ↓asI_i, ↓asB_i, ↓asZ_0, ↓asZ_1, ↓aln_i, ↓fca_s, ↓fca_n, bdC_li, bdC_ri, mK_uI, mK_uP, mL_uI, mL_uP, mP_uI, mI_uP, mK_wI, mL_wI, mP_wI, mI_uI_e, mI_uI_c, nwO_s, mK_nA_e, mL_nA_e, fHb_checkKey_E, k, q]
theorem c_nokey {x : Int32} (k : fKeys_isKey x = some (i3 0)) : fHb_checkKey x M n = some (.inr 1, M, n + 1) := by
  have q : fHb_checkArgument (i3 0) M n = some (.inr 1, M, n + 1) := rfl
  have hn : n ≤ n + 1 := Nat.le_succ n
  simp (disch := (first | assumption | omega | decide | (simp only [mK_uI, mK_uP, mL_uI, mL_uP, mK_wI, mL_wI, mK_nA_e, mL_nA_e] <;> (first | assumption | omega)))) only [i3_le_t, i3_le_f, i3_lt_t, i3_lt_f, i3_eq_t, i3_eq_f, i3_add, i3_mul, i3_sub, i3_div, i3_dec, i3_m1, m1_i3, m1_eq, i3_ge0, m1_lt, i3_le_m1, ↓reduceIte, rZ_0, rZ_1, bdR_s, bdW_s, ifN_n, ifN_s, ↓fgI_s, ↓fgR_s, ↓rk_s, ↓fpI_s, ↓fpR_s, ↓fpZ_0, ↓fpZ_1, ↓alI_i, ↓alP_i, ↓asI_i, ↓asB_i, ↓asZ_0, ↓asZ_1, ↓aln_i, ↓fca_s, ↓fca_n, bdC_li, bdC_ri, mK_uI, mK_uP, mL_uI, mL_uP, mP_uI, mI_uP, mK_wI, mL_wI, mP_wI, mI_uI_e, mI_uI_c, nwO_s, mK_nA_e, mL_nA_e, fHb_checkKey_E, k, q]
theorem c_idx1 : fHb_checkIndex (i3 1) M n = some (.inl (), M, n) := rfl
theorem c_idx0 : fHb_checkIndex (i3 0) M n = some (.inr 0, M, n + 1) := rfl
theorem c_arg1 : fHb_checkArgument (i3 1) M n = some (.inl (), M, n) := rfl
theorem c_arg0 : fHb_checkArgument (i3 0) M n = some (.inr 1, M, n + 1) := rfl
theorem c_st1 : fHb_checkState (i3 1) M n = some (.inl (), M, n) := rfl
theorem c_st0 : fHb_checkState (i3 0) M n = some (.inr 2, M, n + 1) := rfl
theorem m_holds0 : fMd_holds (i3 0) σ = some (i3 1, uS σ 0 0 (i3 0)) := rfl
theorem m_holdsk {k : Nat} (h0 : k ≠ 0) (hk : k < 10) : fMd_holds (i3 k) σ = some (i3 0, uS σ 0 0 (i3 k)) := by
  simp (disch := (first | assumption | omega | decide | (simp only [mK_uI, mK_uP, mL_uI, mL_uP, mK_wI, mL_wI, mK_nA_e, mL_nA_e] <;> (first | assumption | omega)))) only [i3_le_t, i3_le_f, i3_lt_t, i3_lt_f, i3_eq_t, i3_eq_f, i3_add, i3_mul, i3_sub, i3_div, i3_dec, i3_m1, m1_i3, m1_eq, i3_ge0, m1_lt, i3_le_m1, ↓reduceIte, rZ_0, rZ_1, bdR_s, bdW_s, ifN_n, ifN_s, uS_n, uS_e, uS_d, ↓mgF_s, ↓mpF_s, ↓mgA_2, ↓mgA_4, ↓mgA_6, ↓mgA_7, ↓mgA_9, ↓mgA_10, ↓mgA_12, ↓mgA_14, ↓mgA_15, ↓mgA_16, ↓mgA_17, ↓mgA_18, ↓mgA_19, ↓mgA_20, ↓mgA_21, ↓mgA_22, ↓mgA_23, ↓mgA_24, ↓mgA_25, ↓mgA_26, ↓mgA_27, ↓mgA_28, ↓mgA_29, ↓mgA_30, ↓mgA_31, ↓mgA_32, ↓mgA_33, ↓mgA_34, ↓mgA_35, ↓mgA_36, ↓mgA_37, ↓mgA_38, ↓mgA_39, ↓mgA_41, ↓mgA_42, ↓mgA_43, ↓mgA_44, ↓mgA_45, ↓mgA_46, ↓mpA_2, ↓mpA_4, ↓mpA_6, ↓mpA_7, ↓mpA_9, ↓mpA_10, ↓mpA_12, ↓mpA_14, ↓mpA_15, ↓mpA_16, ↓mpZ_17, ↓mpA_18, ↓mpZ_19, ↓mpA_20, ↓mpA_21, ↓mpA_22, ↓mpA_23, ↓mpA_24, ↓mpZ_25, ↓mpA_26, ↓mpA_27, ↓mpA_28, ↓mpA_29, ↓mpA_30, ↓mpA_31, ↓mpA_32, ↓mpA_33, ↓mpA_34, ↓mpZ_35, ↓mpA_36, ↓mpA_37, ↓mpA_38, ↓mpA_39, ↓mpA_41, ↓mpA_42, ↓mpZ_43, ↓mpA_44, ↓mpA_45, ↓mpA_46, fMd_holds_E]
end OP

set_option maxRecDepth 100000
/-! the check reads one byte of a part -/
section RB
variable {σ σ' : Sg} {r a : Nat}
theorem mwg_c : ((List.range 5).all fun s => (List.range 3).all fun d => decide (fMd_weight (i3 s) (i3 d) = some (i3 (wgt s d)))) = true := by decide +kernel
theorem mwg {s d : Nat} (hs : s < 5) (hd : d < 3) : fMd_weight (i3 s) (i3 d) = some (i3 (wgt s d)) := of_decide_eq_true (List.all_eq_true.mp (List.all_eq_true.mp mwg_c s (List.mem_range.mpr hs)) d (List.mem_range.mpr hd))
def RW (σ : Sg) (i : Nat) (w : Nat → Nat) (v : Int32) : Prop := (∀ k, k < 3 → σ 46 (4 * i + k) = i3 (w k)) ∧ σ 46 (4 * i + 3) = v
theorem m_row1 {i s d F : Nat} {x1 x2 : Int32} (hi : i < 3) (hs : s < 5) (hd : d < 3) (k5 : Int32 → Int32 → Int32 → Int32 → Sg → Option (Int32 × Sg)) : fMd_readAt_l29 k5 (F + 1) x1 x2 (i3 i) (i3 s) (i3 d) σ = fMd_readAt_l29 k5 F x1 x2 (i3 i) (i3 s) (i3 (d + 1)) (uS σ 46 (4 * i + d) (i3 (wgt s d))) := by
  have n3 : ¬ i3 3 ≤ i3 d := fun z => absurd ((i3_le (by omega) (by omega)).mp z) (by omega)
  rw [fMd_readAt_l29_S, fMd_readAt_b29_E, if_neg n3, mwg hs hd, bdR_s]
  simp only [i3_mul, i3_add]
  rw [mpA_46 (by omega)]
theorem m_row {i s pl : Nat} (ha : a < 180) (hi : i < 3) (hs : s < 5) (hp : pl < 6) (k5 : Int32 → Int32 → Int32 → Int32 → Sg → Option (Int32 × Sg)) : ∃ σ', fMd_readAt_l29 k5 FU (i3 a) (i3 pl) (i3 i) (i3 s) (i3 0) σ = k5 (i3 a) (i3 pl) (i3 (i + 1)) (i3 (s + 1)) σ' ∧ (∀ k, k ≠ 46 → σ' k = σ k) ∧ (∀ j, j < 4 * i ∨ 4 * i + 4 ≤ j → σ' 46 j = σ 46 j) ∧ RW σ' i (wgt s) (σ 24 (10 * a + (2 * s + pl % 2))) := by
  obtain ⟨F, hF⟩ : ∃ F, FU = F + 1 + 1 + 1 + 1 := ⟨99996, rfl⟩
  refine ⟨uS (uS (uS (uS σ 46 (4 * i + 0) (i3 (wgt s 0))) 46 (4 * i + 1) (i3 (wgt s 1))) 46 (4 * i + 2) (i3 (wgt s 2))) 46 (4 * i + 3) (σ 24 (10 * a + (2 * s + pl % 2))), ?_, fun k hk => by rw [uS_n _ _ _ hk, uS_n _ _ _ hk, uS_n _ _ _ hk, uS_n _ _ _ hk], fun j hj => by rw [uS_d _ _ _ _ (by omega), uS_d _ _ _ _ (by omega), uS_d _ _ _ _ (by omega), uS_d _ _ _ _ (by omega)], fun k hk => ?_, uS_e _ _ _ _⟩
  · have q : i3 pl - i3 pl / i3 2 * i3 2 = i3 (pl % 2) := by
      rw [i3_div (by omega) (by omega), i3_mul, i3_sub (by omega)]
      congr 1
      omega
    have q2 : i3 2 * (i3 5 * i3 a + i3 s) + i3 (pl % 2) = i3 (10 * a + (2 * s + pl % 2)) := by
      simp only [i3_mul, i3_add]
      congr 1
      omega
    rw [hF, m_row1 hi hs (by omega), m_row1 hi hs (by omega), m_row1 hi hs (by omega), fMd_readAt_l29_S, fMd_readAt_b29_E, if_pos (by decide), q, q2, mgA_24 (by omega), uS_n _ _ _ (by decide), uS_n _ _ _ (by decide), uS_n _ _ _ (by decide), i3_mul, i3_add, mpA_46 (by omega), fMd_readAt_j89_E]
    simp only [i3_add]
  · rw [uS_d _ _ _ _ (by omega)]
    rcases (by omega : k = 0 ∨ k = 1 ∨ k = 2) with rfl | rfl | rfl
    · rw [uS_d _ _ _ _ (by omega), uS_d _ _ _ _ (by omega), uS_e]
    · rw [uS_d _ _ _ _ (by omega), uS_e]
    · rw [uS_e]
theorem gdb_e {σk : Sg} (e : ∀ k, k ≠ 46 → σk k = σ k) : gdb σk a = gdb σ a := by
  show (fun s => decide (σk 23 (5 * a + s) ≠ m1 ∧ σk 25 (5 * a + s) = i3 0)) = fun s => decide (σ 23 (5 * a + s) ≠ m1 ∧ σ 25 (5 * a + s) = i3 0)
  rw [e 23 (by decide), e 25 (by decide)]
theorem m_rows {pl : Nat} (ha : a < 180) (hp : pl < 6) : ∀ d s i fu (σk : Sg), d + s = 5 → d < fu → i ≤ 3 → (∀ k, k ≠ 46 → σk k = σ k) → ∃ σ', fMd_readAt_l5 fu (i3 a) (i3 pl) (i3 i) (i3 s) σk = fMd_readAt_j95 (i3 pl) σ' ∧ (∀ k, k ≠ 46 → σ' k = σ k) ∧ (∀ j, j < 4 * i → σ' 46 j = σk 46 j) ∧ ∀ j x, i ≤ j → j < 3 → nthF (gdb σ a) s d (j - i) = some x → RW σ' j (wgt x) (σ 24 (10 * a + (2 * x + pl % 2))) := by
  intro d
  induction d with
  | zero =>
    intro s i fu σk hd hfu hi e
    obtain ⟨f, rfl⟩ : ∃ f, fu = f + 1 := ⟨fu - 1, by omega⟩
    obtain rfl : s = 5 := by omega
    exact ⟨σk, by rw [fMd_readAt_l5_S, fMd_readAt_b5_E, if_pos (by decide)], e, fun _ _ => rfl, fun j x _ _ hx => by cases hx⟩
  | succ d ih =>
    intro s i fu σk hd hfu hi e
    obtain ⟨f, rfl⟩ : ∃ f, fu = f + 1 := ⟨fu - 1, by omega⟩
    have n5 : ¬ i3 5 ≤ i3 s := fun z => absurd ((i3_le (by omega) (by omega)).mp z) (by omega)
    by_cases z : i = 3
    · subst z
      exact ⟨σk, by rw [fMd_readAt_l5_S, fMd_readAt_b5_E, if_neg n5, if_pos (by decide)], e, fun _ _ => rfl, fun j x _ _ _ => by omega⟩
    · have n3 : ¬ i3 3 ≤ i3 i := fun z => absurd ((i3_le (by omega) (by omega)).mp z) (by omega)
      have g := m_isGood (σ := σk) ha (s := s) (by omega)
      rw [gdb_e e] at g
      by_cases y : gdb σ a s = true
      · rw [if_pos y] at g
        obtain ⟨σ1, a1, a2, a3, a4⟩ := m_row (σ := σk) ha (i := i) (s := s) (pl := pl) (by omega) (by omega) hp (fMd_readAt_l5 f)
        obtain ⟨σ', b1, b2, b3, b4⟩ := ih (s + 1) (i + 1) f σ1 (by omega) (by omega) (by omega) (fun k hk => (a2 k hk).trans (e k hk))
        refine ⟨σ', ?_, b2, fun j hj => (b3 j (by omega)).trans (a3 j (Or.inl hj)), fun j x h1 h2 hx => ?_⟩
        · have c : ¬ i3 1 = i3 0 := by decide
          rw [fMd_readAt_l5_S, fMd_readAt_b5_E, if_neg n5, if_neg n3, g, bdR_s, if_neg c, a1, b1]
        · rw [nthF_S, if_pos y] at hx
          by_cases w : j = i
          · subst w
            rw [Nat.sub_self, if_pos rfl] at hx
            cases hx
            rw [e 24 (by decide)] at a4
            exact ⟨fun k hk => (b3 _ (by omega)).trans (a4.1 k hk), (b3 _ (by omega)).trans a4.2⟩
          · rw [if_neg (by omega), show j - i - 1 = j - (i + 1) by omega] at hx
            exact b4 j x (by omega) h2 hx
      · rw [if_neg y] at g
        obtain ⟨σ', b1, b2, b3, b4⟩ := ih (s + 1) i f σk (by omega) (by omega) hi e
        refine ⟨σ', ?_, b2, b3, fun j x h1 h2 hx => ?_⟩
        · rw [fMd_readAt_l5_S, fMd_readAt_b5_E, if_neg n5, if_neg n3, g, bdR_s, if_pos rfl, fMd_readAt_j89_E, i3_add, b1]
        · rw [nthF_S, if_neg y] at hx
          exact b4 j x h1 h2 hx
theorem m_readAt {pl : Nat} (X : IVP σ r a) (ha : a < 180) (h3 : 3 ≤ gcn σ a) (hp : pl < 6) : ∃ σ', fMd_readAt (i3 a) (i3 pl) σ = some (i3 (dat (nv (σ 21 a)) (fun j => σ 22 (6 * a + j)) pl), σ') ∧ ∀ k, k ≠ 46 → σ' k = σ k := by
  have h3' : 3 ≤ cntF (gdb σ a) 0 5 := h3
  obtain ⟨x0, y0⟩ := nthF_some (p := gdb σ a) (d := 5) (i := 0) (k := 0) (by omega)
  obtain ⟨x1, y1⟩ := nthF_some (p := gdb σ a) (d := 5) (i := 0) (k := 1) (by omega)
  obtain ⟨x2, y2⟩ := nthF_some (p := gdb σ a) (d := 5) (i := 0) (k := 2) (by omega)
  have l0 := nthF_lt y0
  have l1 := nthF_lt y1
  have l2 := nthF_lt y2
  have m01 := nthF_mono y0 y1
  have m12 := nthF_mono y1 y2
  obtain ⟨σ1, a1, a2, -, a4⟩ := m_rows (σ := σ) (a := a) (pl := pl) ha hp 5 0 0 FU σ (by omega) (FU_S (by omega)) (by omega) (fun _ _ => rfl)
  have w0 := a4 0 x0 (by omega) (by omega) y0
  have w1 := a4 1 x1 (by omega) (by omega) y1
  have w2 := a4 2 x2 (by omega) (by omega) y2
  have hg : ∀ j, j < nv (σ 21 a) → NB 15 (σ 22 (6 * a + j)) := X.by
  have sb : ∀ x, x < 5 → gdb σ a x = true → σ 24 (10 * a + (2 * x + pl % 2)) = i3 (mde (nv (σ 21 a)) (fun j => σ 22 (6 * a + j)) x (pl % 2)) := fun x hx hb => by
    have z := of_decide_eq_true hb
    exact X.sb x hx z.1 z.2 (pl % 2) (by omega)
  have row : ∀ i x, i < 3 → x < 5 → gdb σ a x = true → RW σ1 i (wgt x) (σ 24 (10 * a + (2 * x + pl % 2))) → (∀ k, k < 3 → σ1 46 (4 * i + k) = i3 (wgt x k) ∧ wgt x k < 16) ∧ σ1 46 (4 * i + 3) = i3 (rh (wgt x 0) (wgt x 1) (wgt x 2) (dat (nv (σ 21 a)) (fun j => σ 22 (6 * a + j)) (pl % 2)) (dat (nv (σ 21 a)) (fun j => σ 22 (6 * a + j)) (2 + pl % 2)) (dat (nv (σ 21 a)) (fun j => σ 22 (6 * a + j)) (4 + pl % 2))) := fun i x hi hx hb w => by
    refine ⟨fun k hk => ⟨w.1 k hk, wgt_lt hk⟩, ?_⟩
    rw [w.2, sb x hx hb]
    exact congrArg i3 mde_rh
  have gs : GS σ1 (fun i k => wgt (f3 x0 x1 x2 i) k) (dat (nv (σ 21 a)) (fun j => σ 22 (6 * a + j)) (pl % 2)) (dat (nv (σ 21 a)) (fun j => σ 22 (6 * a + j)) (2 + pl % 2)) (dat (nv (σ 21 a)) (fun j => σ 22 (6 * a + j)) (4 + pl % 2)) := fun i hi => by
    rcases (by omega : i = 0 ∨ i = 1 ∨ i = 2) with rfl | rfl | rfl
    · exact row 0 x0 (by omega) (by omega) l0.2.2 w0
    · exact row 1 x1 (by omega) (by omega) l1.2.2 w1
    · exact row 2 x2 (by omega) (by omega) l2.2.2 w2
  obtain ⟨σ', b1, b2⟩ := m_gauss gs m01 m12 (by omega) (dat_lt hg) (dat_lt hg) (dat_lt hg) hp
  refine ⟨σ', ?_, fun k hk => (b2 k hk).trans (a2 k hk)⟩
  have fin : f3 (dat (nv (σ 21 a)) (fun j => σ 22 (6 * a + j)) (pl % 2)) (dat (nv (σ 21 a)) (fun j => σ 22 (6 * a + j)) (2 + pl % 2)) (dat (nv (σ 21 a)) (fun j => σ 22 (6 * a + j)) (4 + pl % 2)) (pl / 2) = dat (nv (σ 21 a)) (fun j => σ 22 (6 * a + j)) pl := by
    generalize nv (σ 21 a) = lo
    generalize (fun j => σ 22 (6 * a + j)) = g
    rcases (by omega : pl = 0 ∨ pl = 1 ∨ pl = 2 ∨ pl = 3 ∨ pl = 4 ∨ pl = 5) with rfl | rfl | rfl | rfl | rfl | rfl <;> rfl
  rw [fMd_readAt_E, a1, b1, fin]
end RB

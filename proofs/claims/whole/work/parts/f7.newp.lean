set_option maxRecDepth 100000
/-! a part made anew -/
section NP
variable {h c n r : Nat} {own : Nat → Nat} {B : BK} {σ σ' : Sg} {M M' : Mm}
theorem part_init {b t m s l P : Nat} {g : Nat → Int32} (Y : BY own M b t m g) (h40 : m ≤ 40) (hb : b + 1 < n) (hl1 : 1 ≤ l) (hl : l ≤ 6) (hs : s + l ≤ m) (hg : ∀ j, j < m → NB 15 (g j)) : ∃ M', fPart_init n (i3 P) (some b) (i3 s) (i3 (s + l)) (nA M n 5 0) (n + 1) = some (.inl (), M', n + 5) ∧ NEWM n M M' ∧ (mK M' n = 5 ∧ mP M' 502 n 0 = some (n + 1) ∧ mP M' 503 n 0 = some (n + 2) ∧ mP M' 504 n 0 = some (n + 3) ∧ mP M' 505 n 0 = some (n + 4)) ∧ (mK M' (n + 1) = 20 ∧ mL M' (n + 1) = 6 ∧ mK M' (n + 2) = 20 ∧ mL M' (n + 2) = 10 ∧ mK M' (n + 3) = 21 ∧ mL M' (n + 3) = 5 ∧ mK M' (n + 4) = 22 ∧ mL M' (n + 4) = 5) ∧ (mI M' 500 n 0 = i3 P ∧ mI M' 501 n 0 = i3 l ∧ mI M' 506 n 0 = i3 0 ∧ mI M' 507 n 0 = i3 0) ∧ (∀ j, j < 6 → mI M' 0 (n + 1) j = if j < l then g (s + j) else i3 0) ∧ ∀ x, x < 5 → mI M' 0 (n + 3) x = m1 := by
  obtain ⟨M1, h1⟩ : ∃ M1, M1 = nA (nA M n 5 0) (n + 1) 20 6 := ⟨_, rfl⟩
  have k1 : mK M1 n = 5 := by rw [h1, mK_nA, if_neg (by omega), mK_nA_e]
  obtain ⟨M3, h3⟩ : ∃ M3, M3 = nA (uP M1 502 n 0 (some (n + 1))) (n + 2) 20 10 := ⟨_, rfl⟩
  have k3 : mK M3 n = 5 := by rw [h3, mK_nA, if_neg (by omega)]; exact k1
  obtain ⟨M5, h5⟩ : ∃ M5, M5 = nA (uP M3 503 n 0 (some (n + 2))) (n + 3) 21 5 := ⟨_, rfl⟩
  have k5 : mK M5 n = 5 := by rw [h5, mK_nA, if_neg (by omega)]; exact k3
  obtain ⟨M7, h7⟩ : ∃ M7, M7 = nA (uP M5 504 n 0 (some (n + 3))) (n + 4) 22 5 := ⟨_, rfl⟩
  have k7 : mK M7 n = 5 := by rw [h7, mK_nA, if_neg (by omega)]; exact k5
  obtain ⟨M8, h8⟩ : ∃ M8, M8 = uI (uI (uP M7 505 n 0 (some (n + 4))) 500 n 0 (i3 P)) 501 n 0 (i3 l) := ⟨_, rfl⟩
  have N8 : NEWM n M M8 := by
    rw [h8, h7, h5, h3, h1]
    exact ((((((((((NEWM.nA (Nat.le_refl n)).trans (NEWM.nA (by omega))).trans (NEWM.uP (Nat.le_refl n))).trans (NEWM.nA (by omega))).trans (NEWM.uP (Nat.le_refl n))).trans (NEWM.nA (by omega))).trans (NEWM.uP (Nat.le_refl n))).trans (NEWM.nA (by omega))).trans (NEWM.uP (Nat.le_refl n))).trans (NEWM.uI (Nat.le_refl n))).trans (NEWM.uI (Nat.le_refl n))
  have K8 : ∀ a, mK M8 a = if a = n + 4 then 22 else if a = n + 3 then 21 else if a = n + 2 then 20 else if a = n + 1 then 20 else if a = n then 5 else mK M a := fun a => by
    rw [h8, mK_uI, mK_uI, mK_uP, h7, mK_nA, mK_uP, h5, mK_nA, mK_uP, h3, mK_nA, mK_uP, h1, mK_nA, mK_nA]
  have L8 : ∀ a, mL M8 a = if a = n + 4 then 5 else if a = n + 3 then 5 else if a = n + 2 then 10 else if a = n + 1 then 6 else if a = n then 0 else mL M a := fun a => by
    rw [h8, mL_uI, mL_uI, mL_uP, h7, mL_nA, mL_uP, h5, mL_nA, mL_uP, h3, mL_nA, mL_uP, h1, mL_nA, mL_nA]
  have P8 : mP M8 502 n 0 = some (n + 1) ∧ mP M8 503 n 0 = some (n + 2) ∧ mP M8 504 n 0 = some (n + 3) ∧ mP M8 505 n 0 = some (n + 4) := by
    refine ⟨?_, ?_, ?_, ?_⟩
    · rw [h8, mP_uI, mP_uI, mP_uP, if_neg (by omega), h7, mP_nA, if_neg (by omega), mP_uP, if_neg (by omega), h5, mP_nA, if_neg (by omega), mP_uP, if_neg (by omega), h3, mP_nA, if_neg (by omega), mP_uP, if_pos ⟨rfl, rfl, rfl⟩]
    · rw [h8, mP_uI, mP_uI, mP_uP, if_neg (by omega), h7, mP_nA, if_neg (by omega), mP_uP, if_neg (by omega), h5, mP_nA, if_neg (by omega), mP_uP, if_pos ⟨rfl, rfl, rfl⟩]
    · rw [h8, mP_uI, mP_uI, mP_uP, if_neg (by omega), h7, mP_nA, if_neg (by omega), mP_uP, if_pos ⟨rfl, rfl, rfl⟩]
    · rw [h8, mP_uI, mP_uI, mP_uP, if_pos ⟨rfl, rfl, rfl⟩]
  have Z8 : ∀ cc a j, n ≤ a → a ≤ n + 4 → cc ≠ 500 → cc ≠ 501 → mI M8 cc a j = i3 0 := fun cc a j a1 a2 c1 c2 => by
    rw [h8, mI_uI_c _ _ _ _ c2, mI_uI_c _ _ _ _ c1, mI_uP, h7, mI_nA]
    by_cases z : a = n + 4
    · rw [if_pos z]; rfl
    · rw [if_neg z, mI_uP, h5, mI_nA]
      by_cases y : a = n + 3
      · rw [if_pos y]; rfl
      · rw [if_neg y, mI_uP, h3, mI_nA]
        by_cases x : a = n + 2
        · rw [if_pos x]; rfl
        · rw [if_neg x, mI_uP, h1, mI_nA]
          by_cases w : a = n + 1
          · rw [if_pos w]; rfl
          · rw [if_neg w, mI_nA, if_pos (by omega)]; rfl
  have I8 : mI M8 500 n 0 = i3 P ∧ mI M8 501 n 0 = i3 l := by
    refine ⟨?_, ?_⟩
    · rw [h8, mI_uI_c _ _ _ _ (by decide), mI_uI_e]
    · rw [h8, mI_uI_e]
  have run : fPart_init n (i3 P) (some b) (i3 s) (i3 (s + l)) (nA M n 5 0) (n + 1) = fPart_init_l50 n FU (some b) (i3 s) (i3 0) M8 (n + 5) := by
    have k8 : mK (uP M7 505 n 0 (some (n + 4))) n = 5 := k7
    have k9 : mK (uI (uP M7 505 n 0 (some (n + 4))) 500 n 0 (i3 P)) n = 5 := k7
    rw [fPart_init_E, nwA_i (by omega) (by omega), ← h1, fpR_s k1, nwA_i (by omega) (by omega)]
    show (fpR 5 503 (some n) (some (n + 2)) (nA (uP M1 502 n 0 (some (n + 1))) (n + 2) 20 10) fun M8 => _) = _
    rw [← h3, fpR_s k3]
    show (nwA 21 300 (i3 5) (uP M3 503 n 0 (some (n + 2))) (n + 3) fun y9 M10 n11 => _) = _
    rw [nwA_i (by omega) (by omega), ← h5, fpR_s k5]
    show (nwA 22 300 (i3 5) (uP M5 504 n 0 (some (n + 3))) (n + 4) fun y13 M14 n15 => _) = _
    rw [nwA_i (by omega) (by omega), ← h7, fpR_s k7, fpI_s k8, fpI_s k9, i3_sub (by omega), Nat.add_sub_cancel_left, ← h8]
  have fin : ∀ M2 : Mm, IOS (fun cc x => cc = 0 ∧ (x = n + 1 ∨ x = n + 3)) M8 M2 → (∀ x, x < l → mI M2 0 (n + 1) x = g (s + x)) → (∀ x, l ≤ x → mI M2 0 (n + 1) x = i3 0) → ∃ M', fPart_init_j91 n M2 (n + 5) = some (.inl (), M', n + 5) ∧ IOS (fun cc x => cc = 0 ∧ (x = n + 1 ∨ x = n + 3)) M8 M' ∧ (∀ x, x < l → mI M' 0 (n + 1) x = g (s + x)) ∧ (∀ x, l ≤ x → mI M' 0 (n + 1) x = i3 0) ∧ ∀ x, x < 5 → mI M' 0 (n + 3) x = m1 := fun M2 f2 v2 w2 => by
    have kn : mK M2 n = 5 := by rw [f2.K, K8, if_neg (by omega), if_neg (by omega), if_neg (by omega), if_neg (by omega), if_pos rfl]
    have k3 : mK M2 (n + 3) = 21 := by rw [f2.K, K8, if_neg (by omega), if_pos rfl]
    have l3 : mL M2 (n + 3) = 5 := by rw [f2.L, L8, if_neg (by omega), if_pos rfl]
    have p3 : mP M2 504 n 0 = some (n + 3) := by rw [f2.P]; exact P8.2.2.1
    obtain ⟨M3', e1, e2, e3⟩ := c_fill (v := m1) k3 l3 (by omega)
    refine ⟨M3', ?_, (f2.trans e2).mono fun cc x z => by omega, fun x hx => by rw [e2.2 _ _ _ (by omega)]; exact v2 x hx, fun x hx => by rw [e2.2 _ _ _ (by omega)]; exact w2 x hx, fun x hx => by rw [e3, if_pos hx]⟩
    rw [fPart_init_j91_E, fgR_s kn, p3, e1, bdW_s]
  have lp : ∀ d j fu (M2 : Mm), d + j = l → d < fu → IOS (fun cc x => cc = 0 ∧ (x = n + 1 ∨ x = n + 3)) M8 M2 → (∀ x, x < j → mI M2 0 (n + 1) x = g (s + x)) → (∀ x, j ≤ x → mI M2 0 (n + 1) x = i3 0) → ∃ M', fPart_init_l50 n fu (some b) (i3 s) (i3 j) M2 (n + 5) = some (.inl (), M', n + 5) ∧ IOS (fun cc x => cc = 0 ∧ (x = n + 1 ∨ x = n + 3)) M8 M' ∧ (∀ x, x < l → mI M' 0 (n + 1) x = g (s + x)) ∧ (∀ x, l ≤ x → mI M' 0 (n + 1) x = i3 0) ∧ ∀ x, x < 5 → mI M' 0 (n + 3) x = m1 := by
    intro d
    induction d with
    | zero =>
      intro j fu M2 hd hfu f2 v2 w2
      obtain ⟨f, rfl⟩ : ∃ f, fu = f + 1 := ⟨fu - 1, by omega⟩
      have kn : mK M2 n = 5 := by rw [f2.K, K8, if_neg (by omega), if_neg (by omega), if_neg (by omega), if_neg (by omega), if_pos rfl]
      have i1 : mI M2 501 n 0 = i3 l := by rw [f2.2 _ _ _ (by omega)]; exact I8.2
      have hj : j = l := by omega
      subst hj
      rw [fPart_init_l50_S, fPart_init_b50_E, fgI_s kn, i1, if_pos ((i3_le (by omega) (by omega)).mpr (Nat.le_refl j))]
      exact fin M2 f2 v2 w2
    | succ d ih =>
      intro j fu M2 hd hfu f2 v2 w2
      obtain ⟨f, rfl⟩ : ∃ f, fu = f + 1 := ⟨fu - 1, by omega⟩
      have kn : mK M2 n = 5 := by rw [f2.K, K8, if_neg (by omega), if_neg (by omega), if_neg (by omega), if_neg (by omega), if_pos rfl]
      have i1 : mI M2 501 n 0 = i3 l := by rw [f2.2 _ _ _ (by omega)]; exact I8.2
      have k1' : mK M2 (n + 1) = 20 := by rw [f2.K, K8, if_neg (by omega), if_neg (by omega), if_neg (by omega), if_pos rfl]
      have l1' : mL M2 (n + 1) = 6 := by rw [f2.L, L8, if_neg (by omega), if_neg (by omega), if_neg (by omega), if_pos rfl]
      have p1 : mP M2 502 n 0 = some (n + 1) := by rw [f2.P]; exact P8.1
      have gb := hg (s + j) (by omega)
      obtain ⟨w, hw15, hwe⟩ := gb.to
      have bat : fBytes_at b (i3 (s + j)) M2 = some (i3 w) := by
        have N0 := N8 b (by omega)
        have N1 := N8 (b + 1) (by omega)
        have y1 : mK M2 b = 1 := (f2.K b).trans (N0.1.trans Y.b.k)
        have y2 : mP M2 100 b 0 = some (b + 1) := (f2.P _ _ _).trans ((N0.2.2.1 _ _).trans Y.b.p)
        have y3 : mK M2 (b + 1) = 20 := (f2.K _).trans (N1.1.trans Y.b.rk)
        have y4 : mL M2 (b + 1) = 40 := (f2.L _).trans (N1.2.1.trans Y.b.rl)
        have y5 : mI M2 0 (b + 1) (s + j) = i3 w := by rw [f2.2 _ _ _ (by omega), N1.2.2.2, Y.by _ (by omega), hwe]
        rw [fBytes_at_E, if_neg (fun w => absurd ((i3_lt (by omega) (by omega)).mp w) (by omega)), fgR_s y1, y2, aln_i y3 (by decide) (by decide), y4, if_neg (fun w => absurd ((i3_le (by omega) (by omega)).mp w) (by omega)), fgR_s y1, y2, alI_i y3 (by rw [y4]; omega) (by omega), y5]
      have bk : mK M2 b = 1 := (f2.K b).trans ((N8 b (by omega)).1.trans Y.b.k)
      obtain ⟨M', a1, a2, a3, a4, a5⟩ := ih (j + 1) f (uI M2 0 (n + 1) j (i3 w)) (by omega) (by omega) ((f2.trans (IOS.uI _ _ _ _)).mono fun cc x z => by omega) (fun x hx => by
        by_cases z : x = j
        · subst z; rw [mI_uI_e, hwe]
        · rw [mI_uI_j _ _ _ _ z]; exact v2 x (by omega)) (fun x hx => by rw [mI_uI_j _ _ _ _ (by omega)]; exact w2 x (by omega))
      refine ⟨M', ?_, a2, a3, a4, a5⟩
      rw [fPart_init_l50_S, fPart_init_b50_E, fgI_s kn, i1, if_neg (fun w => absurd ((i3_le (by omega) (by omega)).mp w) (by omega)), fgR_s kn, p1, aln_i k1' (by decide) (by decide), l1', if_neg (fun w => absurd ((i3_le (by omega) (by omega)).mp w) (by omega)), fgR_s kn, p1, rk_s bk, i3_add, bat, bdR_s, asB_i k1' (by rw [l1']; omega) (by omega), i3_small (by omega), i3_small (by omega), i3_add]
      exact a1
  obtain ⟨M', a1, a2, a3, a4, a5⟩ := lp l 0 FU M8 (by omega) (FU_S (by omega)) IOS.refl (fun x hx => by omega) (fun x _ => Z8 _ _ _ (by omega) (by omega) (by decide) (by decide))
  refine ⟨M', run.trans a1, fun a ha => (N8 a ha).trans ⟨a2.K a, a2.L a, fun cc j => a2.P cc a j, fun cc j => a2.2 cc a j (by omega)⟩, ⟨?_, ?_, ?_, ?_, ?_⟩, ⟨?_, ?_, ?_, ?_, ?_, ?_, ?_, ?_⟩, ⟨?_, ?_, ?_, ?_⟩, fun j hj => ?_, a5⟩
  · rw [a2.K, K8, if_neg (by omega), if_neg (by omega), if_neg (by omega), if_neg (by omega), if_pos rfl]
  · rw [a2.P]; exact P8.1
  · rw [a2.P]; exact P8.2.1
  · rw [a2.P]; exact P8.2.2.1
  · rw [a2.P]; exact P8.2.2.2
  · rw [a2.K, K8, if_neg (by omega), if_neg (by omega), if_neg (by omega), if_pos rfl]
  · rw [a2.L, L8, if_neg (by omega), if_neg (by omega), if_neg (by omega), if_pos rfl]
  · rw [a2.K, K8, if_neg (by omega), if_neg (by omega), if_pos rfl]
  · rw [a2.L, L8, if_neg (by omega), if_neg (by omega), if_pos rfl]
  · rw [a2.K, K8, if_neg (by omega), if_pos rfl]
  · rw [a2.L, L8, if_neg (by omega), if_pos rfl]
  · rw [a2.K, K8, if_pos rfl]
  · rw [a2.L, L8, if_pos rfl]
  · rw [a2.2 _ _ _ (by omega)]; exact I8.1
  · rw [a2.2 _ _ _ (by omega)]; exact I8.2
  · rw [a2.2 _ _ _ (by omega)]; exact Z8 _ _ _ (by omega) (by omega) (by decide) (by decide)
  · rw [a2.2 _ _ _ (by omega)]; exact Z8 _ _ _ (by omega) (by omega) (by decide) (by decide)
  · by_cases z : j < l
    · rw [if_pos z]; exact a3 j z
    · rw [if_neg z]; exact a4 j (by omega)
/-- a part that comes anew, its shards aside -/
def nwP (σ : Sg) (r P s l : Nat) (g : Nat → Int32) : Sg := fun k j => if k = 18 ∧ j = r then i3 (P + 1) else if k = 19 ∧ j = 90 * r + P then i3 0 else if k = 20 ∧ j = 90 * r + P then i3 0 else if k = 21 ∧ j = 90 * r + P then i3 l else if k = 22 ∧ 6 * (90 * r + P) ≤ j ∧ j < 6 * (90 * r + P) + l then g (s + (j - 6 * (90 * r + P))) else σ k j
theorem nwP_n {P s l k : Nat} {g : Nat → Int32} (h1 : k < 18 ∨ 22 < k) : nwP σ r P s l g k = σ k := funext fun j => by
  show (if k = 18 ∧ j = r then i3 (P + 1) else if k = 19 ∧ j = 90 * r + P then i3 0 else if k = 20 ∧ j = 90 * r + P then i3 0 else if k = 21 ∧ j = 90 * r + P then i3 l else if k = 22 ∧ 6 * (90 * r + P) ≤ j ∧ j < 6 * (90 * r + P) + l then g (s + (j - 6 * (90 * r + P))) else σ k j) = σ k j
  rw [if_neg (by omega), if_neg (by omega), if_neg (by omega), if_neg (by omega), if_neg (by omega)]
theorem nwP_o {P s l k j : Nat} {g : Nat → Int32} (h18 : k = 18 → j ≠ r) (h1 : k ≠ 22 → j ≠ 90 * r + P ∨ k = 18) (h22 : k = 22 → ¬ (6 * (90 * r + P) ≤ j ∧ j < 6 * (90 * r + P) + l)) : nwP σ r P s l g k j = σ k j := by
  show (if k = 18 ∧ j = r then i3 (P + 1) else if k = 19 ∧ j = 90 * r + P then i3 0 else if k = 20 ∧ j = 90 * r + P then i3 0 else if k = 21 ∧ j = 90 * r + P then i3 l else if k = 22 ∧ 6 * (90 * r + P) ≤ j ∧ j < 6 * (90 * r + P) + l then g (s + (j - 6 * (90 * r + P))) else σ k j) = σ k j
  rw [if_neg (fun z => h18 z.1 z.2), if_neg (fun z => by have := h1 (by omega); omega), if_neg (fun z => by have := h1 (by omega); omega), if_neg (fun z => by have := h1 (by omega); omega), if_neg (fun z => h22 z.1 z.2)]
theorem nwP_18 {P s l : Nat} {g : Nat → Int32} : nwP σ r P s l g 18 r = i3 (P + 1) := if_pos ⟨rfl, rfl⟩
theorem nwP_19 {P s l : Nat} {g : Nat → Int32} : nwP σ r P s l g 19 (90 * r + P) = i3 0 := by
  show (if 19 = 18 ∧ 90 * r + P = r then i3 (P + 1) else if 19 = 19 ∧ 90 * r + P = 90 * r + P then i3 0 else _) = _
  rw [if_neg (by omega), if_pos ⟨rfl, rfl⟩]
theorem nwP_20 {P s l : Nat} {g : Nat → Int32} : nwP σ r P s l g 20 (90 * r + P) = i3 0 := by
  show (if 20 = 18 ∧ 90 * r + P = r then i3 (P + 1) else if 20 = 19 ∧ 90 * r + P = 90 * r + P then i3 0 else if 20 = 20 ∧ 90 * r + P = 90 * r + P then i3 0 else _) = _
  rw [if_neg (by omega), if_neg (by omega), if_pos ⟨rfl, rfl⟩]
theorem nwP_21 {P s l : Nat} {g : Nat → Int32} : nwP σ r P s l g 21 (90 * r + P) = i3 l := by
  show (if 21 = 18 ∧ 90 * r + P = r then i3 (P + 1) else if 21 = 19 ∧ 90 * r + P = 90 * r + P then i3 0 else if 21 = 20 ∧ 90 * r + P = 90 * r + P then i3 0 else if 21 = 21 ∧ 90 * r + P = 90 * r + P then i3 l else _) = _
  rw [if_neg (by omega), if_neg (by omega), if_neg (by omega), if_pos ⟨rfl, rfl⟩]
theorem nwP_22 {P s l j : Nat} {g : Nat → Int32} (hj : j < l) : nwP σ r P s l g 22 (6 * (90 * r + P) + j) = g (s + j) := by
  show (if 22 = 18 ∧ 6 * (90 * r + P) + j = r then i3 (P + 1) else if 22 = 19 ∧ 6 * (90 * r + P) + j = 90 * r + P then i3 0 else if 22 = 20 ∧ 6 * (90 * r + P) + j = 90 * r + P then i3 0 else if 22 = 21 ∧ 6 * (90 * r + P) + j = 90 * r + P then i3 l else if 22 = 22 ∧ 6 * (90 * r + P) ≤ 6 * (90 * r + P) + j ∧ 6 * (90 * r + P) + j < 6 * (90 * r + P) + l then g (s + (6 * (90 * r + P) + j - 6 * (90 * r + P))) else _) = _
  rw [if_neg (by omega), if_neg (by omega), if_neg (by omega), if_neg (by omega), if_pos ⟨rfl, by omega, by omega⟩, Nat.add_sub_cancel_left]
/-- the address book with one more part -/
def bkP (B : BK) (r P n : Nat) : BK := (B.1, B.2.1, (fun r0 p0 => if r0 = r ∧ p0 = P then n else pa B r0 p0), B.2.2.2)
theorem addp_i {b t m s l : Nat} {g : Nat → Int32} (R : RR h own B σ M n) (hr : r < 2) {P : Nat} (hP : σ 18 r = i3 P) (hP90 : P < 90) (h90 : ∀ r, r < 2 → nv (σ 18 r) ≤ 90) (Y : BY own M b t m g) (t0 : t ≠ 0) (h40 : m ≤ 40) (hl1 : 1 ≤ l) (hl : l ≤ 6) (hs : s + l ≤ m) (hg : ∀ j, j < m → NB 15 (g j)) (hf : fStore_find (gr h r + 1) (some b) (i3 s) (i3 (s + l)) M = some none) : ∃ own' M' n', fStore_findOrAdd (gr h r + 1) (some b) (i3 s) (i3 (s + l)) M n = some (.inl (some n), M', n') ∧ n + 5 ≤ n' ∧ n' ≤ n + 6 ∧ RR h own' (bkP B r P n) (los (nwP σ r P s l g) (90 * r + P)) M' n' ∧ FRM (fun t => t = 26 + r ∨ t = 10 + r ∨ t = 20 + r) own M own' M' ∧ KPC h r M M' := by
  have hb : b + 1 < n := R.fr.lt (by rw [Y.b.ro]; exact t0)
  have G := R.rg r hr
  have eP : nv (σ 18 r) = P := by rw [hP]; exact nv_i (by omega)
  have L := R.pl r hr
  rw [eP] at L
  obtain ⟨M1, e1, N1, ⟨a1, a2, a3, a4, a5⟩, ⟨b1, b2, b3, b4, b5, b6, b7, b8⟩, ⟨c1, c2, c3, c4⟩, d1, d2⟩ := part_init (P := P) Y h40 hb hl1 hl hs hg
  have fm1 : FRM (fun _ => False) own M (oR own n (n + 5) (26 + r)) M1 := N1.frm R.fr fun x hx => oR_n hx
  have L1 : LST (oR own n (n + 5) (26 + r)) M1 (gr h r + 3) (20 + r) P (pa B r) := by
    have := R.k_pl fm1 hr (fun z => z)
    rw [eP] at this; exact this
  have el : ELS (oR own n (n + 5) (26 + r)) M1 P (pa B r) := fun i hi => by
    have x := R.k_po fm1 hr (fun z => z) i (by rw [eP]; exact hi)
    have o := x.b.o
    have kk := x.b.k
    exact ⟨by rw [o]; omega, by rw [kk]; omega, by rw [kk]; omega⟩
  have on : ∀ i, i < 5 → oR own n (n + 5) (26 + r) (n + i) = 26 + r := fun i hi => oR_e (by omega) (by omega)
  have on0 : oR own n (n + 5) (26 + r) n = 26 + r := on 0 (by omega)
  obtain ⟨own2, M2, n2, e2, h5, h6, fr2, f2, L2⟩ := add1_i L1 (R.k_em fm1) (R.fr.oR (26 + r) (by omega)) el (by omega) (by omega) (x := n) (by rw [a1]; omega) (by rw [a1]; omega) (by rw [on0]; omega) (by rw [on0]; omega)
  have f : FRM (fun t => t = 20 + r) own M own2 M2 := (fm1.trans f2).mono fun t z => z.elim (fun w => w.elim) id
  have sn : ∀ i, i < 5 → own2 (n + i) = 26 + r ∧ SAM M1 M2 (n + i) := fun i hi => by
    have s := f2 (n + i) (by rw [on i hi]; omega)
    rw [on i hi] at s
    exact ⟨s.1, s.2.1 (by omega)⟩
  have s0 := sn 0 (by omega)
  have s1 := sn 1 (by omega)
  have s2 := sn 2 (by omega)
  have s3 := sn 3 (by omega)
  have s4 := sn 4 (by omega)
  rw [Nat.add_zero] at s0
  refine ⟨own2, M2, n2, ?_, by omega, by omega, ?_, f.mono fun t z => Or.inr (Or.inr z), fun x a b => f.dyM (KPC.oo G a b) (by omega) (by omega)⟩
  · have kn : mK (nA M n 5 0) (gr h r + 1) = 8 := by rw [mK_nA, if_neg (by have := R.fr.lt (a := gr h r + 1) (by rw [G.os]; omega); omega)]; exact G.ks
    have pn : mP (nA M n 5 0) 801 (gr h r + 1) 0 = some (gr h r + 3) := by rw [mP_nA, if_neg (by have := R.fr.lt (a := gr h r + 1) (by rw [G.os]; omega); omega)]; exact G.s1
    have ln : (gr h r + 3) < n := R.fr.lt (by rw [L.2.1]; omega)
    have rowk : LST own (nA M n 5 0) (gr h r + 3) (20 + r) P (pa B r) := by
      have fmn : FRM (fun _ => False) own M own (nA M n 5 0) := (NEWM.nA (Nat.le_refl n)).frm R.fr fun x _ => rfl
      have := R.k_pl fmn hr (fun z => z)
      rw [eP] at this; exact this
    have nk : mK (nA M n 5 0) n = 5 := mK_nA_e _ _ _ _
    have gs := (R.k_rg fm1 r hr)
    have L1k := L1.k
    rw [fStore_findOrAdd_E, rk_s G.ks, hf, bdR_s, ifN_n, nwO_s, fgR_s kn, pn, rk_s rowk.k, rowk.size, bdR_s, rk_s nk, e1, bdN_l (by omega), fgR_s gs.ks, gs.s1, rk_s L1k, e2, bdC_li h5]
  · have l18 : ∀ r0, los (nwP σ r P s l g) (90 * r + P) 18 r0 = if r0 = r then i3 (P + 1) else σ 18 r0 := fun r0 => by
      rw [los_n (by decide) (by decide)]
      by_cases z : r0 = r
      · subst z; rw [if_pos rfl, nwP_18]
      · rw [if_neg z, nwP_o (fun _ => z) (fun _ => Or.inr rfl) (fun w => absurd w (by decide))]
    have hpl : ∀ r0, r0 < 2 → LST own2 M2 (gr h r0 + 3) (20 + r0) (nv (los (nwP σ r P s l g) (90 * r + P) 18 r0)) (fun p0 => if r0 = r ∧ p0 = P then n else pa B r0 p0) := fun r0 hr0 => by
      rw [l18]
      by_cases z : r0 = r
      · subst z
        rw [if_pos rfl, nv_i (by omega)]
        refine L2.congr fun i hi => ?_
        by_cases w : i = P
        · rw [if_pos w, if_pos ⟨rfl, w⟩]
        · rw [if_neg w, if_neg (fun v => w v.2)]
      · rw [if_neg z]
        exact (R.k_pl f hr0 (by omega)).congr fun i hi => by rw [if_neg (fun v => z v.1)]
    have hpo : ∀ r0, r0 < 2 → ∀ p0, p0 < nv (los (nwP σ r P s l g) (90 * r + P) 18 r0) → PAC own2 M2 (if r0 = r ∧ p0 = P then n else pa B r0 p0) r0 p0 (los (nwP σ r P s l g) (90 * r + P) 20 (90 * r0 + p0)) (los (nwP σ r P s l g) (90 * r + P) 21 (90 * r0 + p0)) (los (nwP σ r P s l g) (90 * r + P) 19 (90 * r0 + p0)) (fun j => los (nwP σ r P s l g) (90 * r + P) 22 (6 * (90 * r0 + p0) + j)) (fun s' => los (nwP σ r P s l g) (90 * r + P) 23 (5 * (90 * r0 + p0) + s')) (fun s' => los (nwP σ r P s l g) (90 * r + P) 25 (5 * (90 * r0 + p0) + s')) (fun j => los (nwP σ r P s l g) (90 * r + P) 24 (10 * (90 * r0 + p0) + j)) := fun r0 hr0 p0 hp0 => by
      rw [l18] at hp0
      by_cases z : r0 = r ∧ p0 = P
      · obtain ⟨rfl, rfl⟩ := z
        rw [if_pos ⟨rfl, rfl⟩, los_n (k := 20) (by decide) (by decide), los_n (k := 21) (by decide) (by decide), los_n (k := 19) (by decide) (by decide), los_n (k := 22) (by decide) (by decide), los_n (k := 24) (by decide) (by decide), nwP_20, nwP_21, nwP_19]
        have l23 : ∀ s', s' < 5 → los (nwP σ r0 p0 s l g) (90 * r0 + p0) 23 (5 * (90 * r0 + p0) + s') = m1 := fun s' hs' => by rw [los_23, if_pos (by omega)]
        refine ⟨⟨s0.2.1.trans a1, (s0.2.2.2.1 _ _).trans a2, (s0.2.2.2.1 _ _).trans a3, (s0.2.2.2.1 _ _).trans a4, (s0.2.2.2.1 _ _).trans a5, s0.1, s1.2.1.trans b1, s1.2.2.1.trans b2, s1.1, s2.2.1.trans b3, s2.2.2.1.trans b4, s2.1, s3.2.1.trans b5, s3.2.2.1.trans b6, s3.1, s4.2.1.trans b7, s4.2.2.1.trans b8, s4.1⟩, (s0.2.2.2.2 _ _).trans c1, (s0.2.2.2.2 _ _).trans c2, (s0.2.2.2.2 _ _).trans c3, (s0.2.2.2.2 _ _).trans c4, fun j hj => ?_, fun s' hs' => ?_, fun s' hs' w1 w2 => absurd (l23 s' hs') w2, fun s' hs' w1 w2 => absurd (l23 s' hs') w2⟩
        · rw [(s1.2.2.2.2 _ _), d1 j hj, nv_i (by omega)]
          by_cases w : j < l
          · rw [if_pos w, if_pos w]; exact (nwP_22 w).symm
          · rw [if_neg w, if_neg w]
        · rw [if_pos rfl, (s3.2.2.2.2 _ _), d2 s' hs']; exact (l23 s' hs').symm
      · have hp0' : p0 < nv (σ 18 r0) := by
          by_cases w : r0 = r
          · subst w
            rw [if_pos rfl, nv_i (by omega)] at hp0
            rw [eP]
            have : p0 ≠ P := fun v => z ⟨rfl, v⟩
            omega
          · rw [if_neg w] at hp0; exact hp0
        have p90 := h90 r0 hr0
        have X := R.k_po f hr0 (by omega) p0 hp0'
        rw [if_neg z]
        have ne : 90 * r0 + p0 ≠ 90 * r + P := by omega
        have e19 : los (nwP σ r P s l g) (90 * r + P) 19 (90 * r0 + p0) = σ 19 (90 * r0 + p0) := by rw [los_n (by decide) (by decide), nwP_o (fun w => absurd w (by decide)) (fun _ => Or.inl ne) (fun w => absurd w (by decide))]
        have e20 : los (nwP σ r P s l g) (90 * r + P) 20 (90 * r0 + p0) = σ 20 (90 * r0 + p0) := by rw [los_n (by decide) (by decide), nwP_o (fun w => absurd w (by decide)) (fun _ => Or.inl ne) (fun w => absurd w (by decide))]
        have e21 : los (nwP σ r P s l g) (90 * r + P) 21 (90 * r0 + p0) = σ 21 (90 * r0 + p0) := by rw [los_n (by decide) (by decide), nwP_o (fun w => absurd w (by decide)) (fun _ => Or.inl ne) (fun w => absurd w (by decide))]
        have e22 : ∀ j, j < 6 → los (nwP σ r P s l g) (90 * r + P) 22 (6 * (90 * r0 + p0) + j) = σ 22 (6 * (90 * r0 + p0) + j) := fun j hj => by rw [los_n (by decide) (by decide), nwP_o (fun w => absurd w (by decide)) (fun w => absurd rfl w) (fun _ => by omega)]
        have e23 : ∀ j, j < 5 → los (nwP σ r P s l g) (90 * r + P) 23 (5 * (90 * r0 + p0) + j) = σ 23 (5 * (90 * r0 + p0) + j) := fun j hj => by rw [los_23, if_neg (by omega), nwP_n (Or.inr (by decide))]
        have e25 : ∀ j, j < 5 → los (nwP σ r P s l g) (90 * r + P) 25 (5 * (90 * r0 + p0) + j) = σ 25 (5 * (90 * r0 + p0) + j) := fun j hj => by rw [los_25, if_neg (by omega), nwP_n (Or.inr (by decide))]
        have e24 : los (nwP σ r P s l g) (90 * r + P) 24 = σ 24 := by rw [los_n (by decide) (by decide), nwP_n (Or.inr (by decide))]
        rw [e19, e20, e21, e24]
        refine ⟨X.b, X.nu, X.lo, X.ct, X.sw, fun j hj => ?_, fun s' hs' => ?_, fun s' hs' w1 w2 => ?_, fun s' hs' w1 w2 w3 => ?_⟩
        · rw [X.by j hj]
          show _ = if j < nv (σ 21 (90 * r0 + p0)) then los (nwP σ r P s l g) (90 * r + P) 22 (6 * (90 * r0 + p0) + j) else i3 0
          rw [e22 j hj]
        · rw [X.nd s' hs']
          show _ = if σ 19 (90 * r0 + p0) = i3 0 then los (nwP σ r P s l g) (90 * r + P) 23 (5 * (90 * r0 + p0) + s') else m1
          rw [e23 s' hs']
        · have w2 : los (nwP σ r P s l g) (90 * r + P) 23 (5 * (90 * r0 + p0) + s') ≠ m1 := w2
          rw [e23 s' hs'] at w2
          rw [X.ro s' hs' w1 w2]
          exact (e25 s' hs').symm
        · have w2 : los (nwP σ r P s l g) (90 * r + P) 23 (5 * (90 * r0 + p0) + s') ≠ m1 := w2
          have w3 : los (nwP σ r P s l g) (90 * r + P) 25 (5 * (90 * r0 + p0) + s') = i3 0 := w3
          rw [e23 s' hs'] at w2
          rw [e25 s' hs'] at w3
          exact X.sb s' hs' w1 w2 w3
    have RZ : RR h own2 (bkP B r P n) (fun k => if 18 ≤ k ∧ k ≤ 25 then los (nwP σ r P s l g) (90 * r + P) k else σ k) M2 n2 := ⟨fr2, R.k_em f, R.k_hb f, R.k_rg f, R.k_nm f (by first | omega | (intro z; dsimp only at z; omega)), R.k_dy f (by first | omega | (intro z; dsimp only at z; omega)), R.k_dm f (by first | omega | (intro z; dsimp only at z; omega)), R.k_db f (by first | omega | (intro z; dsimp only at z; omega)), R.k_nb f (by first | omega | (intro z; dsimp only at z; omega)), R.k_co f (by first | omega | (intro z; dsimp only at z; omega)), fun r0 hr0 => R.k_up f hr0 (by first | omega | (intro z; dsimp only at z; omega)), fun r0 hr0 => R.k_hd f hr0 (by first | omega | (intro z; dsimp only at z; omega)), R.k_en f (by first | omega | (intro z; dsimp only at z; omega)), fun r0 hr0 => R.k_vl f hr0 (by first | omega | (intro z; dsimp only at z; omega)), fun r0 hr0 => R.k_vo f hr0 (by first | omega | (intro z; dsimp only at z; omega)), fun r0 hr0 => R.k_kl f hr0 (by first | omega | (intro z; dsimp only at z; omega)), hpl, hpo, R.k_us f (by first | omega | (intro z; dsimp only at z; omega)), fun u0 hu0 => R.k_uo f hu0 (by first | omega | (intro z; dsimp only at z; omega)), R.k_rs f (by first | omega | (intro z; dsimp only at z; omega)), R.k_ro f (by first | omega | (intro z; dsimp only at z; omega))⟩
    have ez : (fun k => if 18 ≤ k ∧ k ≤ 25 then los (nwP σ r P s l g) (90 * r + P) k else σ k) = los (nwP σ r P s l g) (90 * r + P) := funext fun k => by
      by_cases w : 18 ≤ k ∧ k ≤ 25
      · rw [if_pos w]
      · rw [if_neg w, los_n (by omega) (by omega), nwP_n (by omega)]
    rw [ez] at RZ
    exact RZ
end NP

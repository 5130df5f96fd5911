set_option maxRecDepth 100000
/-! a new number: the entry, what is kept; both sides -/
section NU
variable {h c n r : Nat} {own : Nat → Nat} {B : BK} {σ σ' σh τ : Sg} {M M' : Mm}
def nuS (σ : Sg) (r E Kr m : Nat) (key : Int32) : Sg := fun k j => if k = 36 ∧ j = r then i3 (Kr + 1) else if k = 37 ∧ j = 200 * r + Kr then i3 (E + 1) else if k = 10 ∧ 40 * (E + 1) ≤ j ∧ j < 40 * (E + 1) + m then σ 4 (j - 40 * (E + 1)) else if k = 39 ∧ j = E + 1 then σ 11 0 else if k = 38 ∧ j = E + 1 then key else if k = 9 ∧ j = E + 1 then i3 m else if k = 8 ∧ j = 0 then i3 (E + 1) else σ k j
theorem nuS_n {E Kr m k : Nat} {key : Int32} (hk : k ≠ 36 ∧ k ≠ 37 ∧ k ≠ 10 ∧ k ≠ 39 ∧ k ≠ 38 ∧ k ≠ 9 ∧ k ≠ 8) : nuS σ r E Kr m key k = σ k := funext fun j => by
  show (if k = 36 ∧ j = r then i3 (Kr + 1) else if k = 37 ∧ j = 200 * r + Kr then i3 (E + 1) else if k = 10 ∧ 40 * (E + 1) ≤ j ∧ j < 40 * (E + 1) + m then σ 4 (j - 40 * (E + 1)) else if k = 39 ∧ j = E + 1 then σ 11 0 else if k = 38 ∧ j = E + 1 then key else if k = 9 ∧ j = E + 1 then i3 m else if k = 8 ∧ j = 0 then i3 (E + 1) else σ k j) = σ k j
  rw [if_neg (by omega), if_neg (by omega), if_neg (by omega), if_neg (by omega), if_neg (by omega), if_neg (by omega), if_neg (by omega)]
theorem m_numbers {E Kr m : Nat} {key : Int32} (hr : r < 2) (hE : σ 8 0 = i3 E) (hE2 : E < 200) (hK : σ 36 r = i3 Kr) (hK2 : Kr < 200) (h40 : m ≤ 40) : fMd_numbers (i3 r) key (i3 m) σ = some (i3 (E + 1), nuS σ r E Kr m key) := by
  obtain ⟨b, hb⟩ : ∃ b, b = uS (uS (uS (uS σ 8 0 (i3 (E + 1))) 9 (E + 1) (i3 m)) 38 (E + 1) key) 39 (E + 1) (σ 11 0) := ⟨_, rfl⟩
  have b8 : b 8 0 = i3 (E + 1) := by rw [hb, uS_n _ _ _ (by decide), uS_n _ _ _ (by decide), uS_n _ _ _ (by decide), uS_e]
  have b4 : b 4 = σ 4 := by rw [hb, uS_n _ _ _ (by decide), uS_n _ _ _ (by decide), uS_n _ _ _ (by decide), uS_n _ _ _ (by decide)]
  have b36 : b 36 = σ 36 := by rw [hb, uS_n _ _ _ (by decide), uS_n _ _ _ (by decide), uS_n _ _ _ (by decide), uS_n _ _ _ (by decide)]
  have lp : ∀ d j fu (σ2 : Sg), d + j = m → d < fu → (∀ k, k ≠ 10 → σ2 k = b k) → (∀ x, σ2 10 x = if 40 * (E + 1) ≤ x ∧ x < 40 * (E + 1) + j then σ 4 (x - 40 * (E + 1)) else σ 10 x) → fMd_numbers_l46 fu (i3 r) (i3 m) (i3 j) σ2 = some (i3 (E + 1), nuS σ r E Kr m key) := by
    intro d
    induction d with
    | zero =>
      intro j fu σ2 hd hfu e2 v2
      obtain ⟨f, rfl⟩ : ∃ f, fu = f + 1 := ⟨fu - 1, by omega⟩
      have hj : j = m := by omega
      subst hj
      have e8 : σ2 8 0 = i3 (E + 1) := by rw [e2 8 (by decide)]; exact b8
      have e36 : σ2 36 r = i3 Kr := by rw [e2 36 (by decide), b36]; exact hK
      have fin : uS (uS σ2 37 (200 * r + Kr) (i3 (E + 1))) 36 r (i3 (Kr + 1)) = nuS σ r E Kr j key := funext fun k => funext fun x => by
        show (if k = 36 ∧ x = r then i3 (Kr + 1) else if k = 37 ∧ x = 200 * r + Kr then i3 (E + 1) else σ2 k x) = (if k = 36 ∧ x = r then i3 (Kr + 1) else if k = 37 ∧ x = 200 * r + Kr then i3 (E + 1) else if k = 10 ∧ 40 * (E + 1) ≤ x ∧ x < 40 * (E + 1) + j then σ 4 (x - 40 * (E + 1)) else if k = 39 ∧ x = E + 1 then σ 11 0 else if k = 38 ∧ x = E + 1 then key else if k = 9 ∧ x = E + 1 then i3 j else if k = 8 ∧ x = 0 then i3 (E + 1) else σ k x)
        by_cases z1 : k = 36 ∧ x = r
        · rw [if_pos z1, if_pos z1]
        · rw [if_neg z1, if_neg z1]
          by_cases z2 : k = 37 ∧ x = 200 * r + Kr
          · rw [if_pos z2, if_pos z2]
          · rw [if_neg z2, if_neg z2]
            by_cases z3 : k = 10
            · subst z3
              rw [v2]
              by_cases y : 40 * (E + 1) ≤ x ∧ x < 40 * (E + 1) + j
              · rw [if_pos y, if_pos ⟨rfl, y⟩]
              · rw [if_neg y, if_neg (fun w => y w.2), if_neg (by omega), if_neg (by omega), if_neg (by omega), if_neg (by omega)]
            · rw [e2 k z3, if_neg (fun w => z3 w.1), hb]
              rfl
      rw [fMd_numbers_l46_S, fMd_numbers_b46_E, if_pos ((i3_le (by omega) (by omega)).mpr (Nat.le_refl j)), mgA_36 (by omega), e36, mgF_s, e8, i3_mul, i3_add, mpA_37 (by omega), mgA_36 (by omega), uS_n _ _ _ (by decide), e36, mpA_36 (by omega), mgF_s, uS_n _ _ _ (by decide), uS_n _ _ _ (by decide), e8, i3_add, fin]
    | succ d ih =>
      intro j fu σ2 hd hfu e2 v2
      obtain ⟨f, rfl⟩ : ∃ f, fu = f + 1 := ⟨fu - 1, by omega⟩
      have e8 : σ2 8 0 = i3 (E + 1) := by rw [e2 8 (by decide)]; exact b8
      have e4 : σ2 4 = σ 4 := by rw [e2 4 (by decide)]; exact b4
      rw [fMd_numbers_l46_S, fMd_numbers_b46_E, if_neg (fun w => absurd ((i3_le (by omega) (by omega)).mp w) (by omega)), mgF_s, e8, mgA_4 (by omega), e4, i3_mul, i3_add, mpA_10 (by omega), i3_add]
      refine ih (j + 1) f _ (by omega) (by omega) (fun k hk => by rw [uS_n _ _ _ hk]; exact e2 k hk) (fun x => ?_)
      by_cases z : x = 40 * (E + 1) + j
      · rw [z, uS_e, if_pos (by omega), Nat.add_sub_cancel_left]
      · rw [uS_d _ _ _ _ z, v2]
        by_cases y : 40 * (E + 1) ≤ x ∧ x < 40 * (E + 1) + j
        · rw [if_pos y, if_pos (by omega)]
        · rw [if_neg y, if_neg (by omega)]
  have e := lp m 0 FU b (by omega) (FU_S (by omega)) (fun _ _ => rfl) (fun x => by
    rw [if_neg (by omega), hb, uS_n _ _ _ (by decide), uS_n _ _ _ (by decide), uS_n _ _ _ (by decide), uS_n _ _ _ (by decide)])
  have u8 : uS σ 8 0 (i3 (E + 1)) 8 0 = i3 (E + 1) := uS_e _ _ _ _
  rw [fMd_numbers_E, mgF_s, hE, i3_add, mpF_s, mgF_s, u8, mpA_9 (by omega), mgF_s, uS_n _ _ _ (by decide), u8, mpA_38 (by omega), mgF_s, uS_n _ _ _ (by decide), uS_n _ _ _ (by decide), u8, mgF_s, uS_n _ _ _ (by decide), uS_n _ _ _ (by decide), uS_n _ _ _ (by decide), mpA_39 (by omega), ← hb]
  exact e
/-- the same without what is kept; the bytes from g -/
def enS (σ : Sg) (E m : Nat) (key : Int32) (g : Nat → Int32) : Sg := fun k j => if k = 10 ∧ 40 * (E + 1) ≤ j ∧ j < 40 * (E + 1) + m then g (j - 40 * (E + 1)) else if k = 39 ∧ j = E + 1 then σ 11 0 else if k = 38 ∧ j = E + 1 then key else if k = 9 ∧ j = E + 1 then i3 m else if k = 8 ∧ j = 0 then i3 (E + 1) else σ k j
theorem enS_n {E m k : Nat} {key : Int32} {g : Nat → Int32} (hk : k ≠ 10 ∧ k ≠ 39 ∧ k ≠ 38 ∧ k ≠ 9 ∧ k ≠ 8) : enS σ E m key g k = σ k := funext fun j => by
  show (if k = 10 ∧ 40 * (E + 1) ≤ j ∧ j < 40 * (E + 1) + m then g (j - 40 * (E + 1)) else if k = 39 ∧ j = E + 1 then σ 11 0 else if k = 38 ∧ j = E + 1 then key else if k = 9 ∧ j = E + 1 then i3 m else if k = 8 ∧ j = 0 then i3 (E + 1) else σ k j) = σ k j
  rw [if_neg (by omega), if_neg (by omega), if_neg (by omega), if_neg (by omega), if_neg (by omega)]
theorem enS_o {E m k j : Nat} {key : Int32} {g : Nat → Int32} (h10 : k = 10 → j < 40 * (E + 1)) (hj : k ≠ 10 → j ≠ E + 1) (h8 : k ≠ 8) : enS σ E m key g k j = σ k j := by
  show (if k = 10 ∧ 40 * (E + 1) ≤ j ∧ j < 40 * (E + 1) + m then g (j - 40 * (E + 1)) else if k = 39 ∧ j = E + 1 then σ 11 0 else if k = 38 ∧ j = E + 1 then key else if k = 9 ∧ j = E + 1 then i3 m else if k = 8 ∧ j = 0 then i3 (E + 1) else σ k j) = σ k j
  rw [if_neg (fun w => by have := h10 w.1; omega), if_neg (fun w => hj (by omega) w.2), if_neg (fun w => hj (by omega) w.2), if_neg (fun w => hj (by omega) w.2), if_neg (fun w => h8 w.1)]
theorem enS_8 {E m : Nat} {key : Int32} {g : Nat → Int32} : enS σ E m key g 8 0 = i3 (E + 1) := by
  show (if 8 = 10 ∧ 40 * (E + 1) ≤ 0 ∧ 0 < 40 * (E + 1) + m then g (0 - 40 * (E + 1)) else if 8 = 39 ∧ 0 = E + 1 then σ 11 0 else if 8 = 38 ∧ 0 = E + 1 then key else if 8 = 9 ∧ 0 = E + 1 then i3 m else if 8 = 8 ∧ 0 = 0 then i3 (E + 1) else σ 8 0) = _
  rw [if_neg (by omega), if_neg (by omega), if_neg (by omega), if_neg (by omega), if_pos ⟨rfl, rfl⟩]
theorem enS_9 {E m : Nat} {key : Int32} {g : Nat → Int32} : enS σ E m key g 9 (E + 1) = i3 m := by
  show (if 9 = 10 ∧ 40 * (E + 1) ≤ E + 1 ∧ E + 1 < 40 * (E + 1) + m then g (E + 1 - 40 * (E + 1)) else if 9 = 39 ∧ E + 1 = E + 1 then σ 11 0 else if 9 = 38 ∧ E + 1 = E + 1 then key else if 9 = 9 ∧ E + 1 = E + 1 then i3 m else _) = _
  rw [if_neg (by omega), if_neg (by omega), if_neg (by omega), if_pos ⟨rfl, rfl⟩]
theorem enS_38 {E m : Nat} {key : Int32} {g : Nat → Int32} : enS σ E m key g 38 (E + 1) = key := by
  show (if 38 = 10 ∧ 40 * (E + 1) ≤ E + 1 ∧ E + 1 < 40 * (E + 1) + m then g (E + 1 - 40 * (E + 1)) else if 38 = 39 ∧ E + 1 = E + 1 then σ 11 0 else if 38 = 38 ∧ E + 1 = E + 1 then key else _) = _
  rw [if_neg (by omega), if_neg (by omega), if_pos ⟨rfl, rfl⟩]
theorem enS_39 {E m : Nat} {key : Int32} {g : Nat → Int32} : enS σ E m key g 39 (E + 1) = σ 11 0 := by
  show (if 39 = 10 ∧ 40 * (E + 1) ≤ E + 1 ∧ E + 1 < 40 * (E + 1) + m then g (E + 1 - 40 * (E + 1)) else if 39 = 39 ∧ E + 1 = E + 1 then σ 11 0 else _) = _
  rw [if_neg (by omega), if_pos ⟨rfl, rfl⟩]
theorem enS_10 {E m j : Nat} {key : Int32} {g : Nat → Int32} (hj : j < m) : enS σ E m key g 10 (40 * (E + 1) + j) = g j := by
  show (if 10 = 10 ∧ 40 * (E + 1) ≤ 40 * (E + 1) + j ∧ 40 * (E + 1) + j < 40 * (E + 1) + m then g (40 * (E + 1) + j - 40 * (E + 1)) else _) = _
  rw [if_pos ⟨rfl, by omega, by omega⟩, Nat.add_sub_cancel_left]
theorem psum_step {s21 s34 : Nat → Int32} {a : Nat} : ∀ {e q : Nat}, partsum s21 s34 r a q ≤ partsum s21 s34 r a (q + e) := by
  intro e
  induction e with
  | zero => intro q; exact Nat.le_refl _
  | succ e ih =>
    intro q
    show _ ≤ partsum s21 s34 r a (q + e) + nv (s21 (90 * r + nv (s34 (20 * a + (q + e)))))
    have := ih (q := q)
    omega
theorem IV_enS {E m : Nat} {key : Int32} {g : Nat → Int32} (I : IV c σ) (hE : σ 8 0 = i3 E) (hE2 : E < 200) (h40 : m ≤ 40) (hg : ∀ j, j < m → NB 15 (g j)) (hk : ISK key) : IV c (enS σ E m key g) := by
  have eE : nv (σ 8 0) = E := by rw [hE]; exact nv_i (by omega)
  have e8 : nv (enS σ E m key g 8 0) = E + 1 := by rw [enS_8]; exact nv_i (by omega)
  have iev : NB 200 (enS σ E m key g 8 0) := by rw [enS_8]; exact NB.of (by omega) (by omega)
  have ien : ∀ k, 1 ≤ k → k ≤ nv (enS σ E m key g 8 0) → IVE (enS σ E m key g) k := fun k k1 k2 => by
    rw [e8] at k2
    by_cases z : k = E + 1
    · subst z
      refine ⟨by rw [enS_9]; exact NB.of h40 (by omega), fun j hj => ?_, by rw [enS_38]; exact hk, ?_⟩
      · rw [enS_9, nv_i (by omega)] at hj
        rw [enS_10 hj]; exact hg j hj
      · rw [enS_39, enS_n (by decide)]
        exact ⟨I.dy.1, Nat.le_refl _⟩
    · have X := I.en k k1 (by omega)
      have x40 := X.ma.2
      have e9 : enS σ E m key g 9 k = σ 9 k := enS_o (fun w => absurd w (by decide)) (fun _ => z) (by decide)
      refine ⟨by rw [e9]; exact X.ma, fun j hj => ?_, ?_, ?_⟩
      · rw [e9] at hj
        rw [enS_o (fun _ => by omega) (fun w => absurd rfl w) (by decide)]; exact X.by j hj
      · rw [enS_o (fun w => absurd w (by decide)) (fun _ => z) (by decide)]; exact X.ke
      · rw [enS_o (k := 39) (fun w => absurd w (by decide)) (fun _ => z) (by decide), enS_n (by decide)]; exact X.da
  have ivo : ∀ r0, r0 < 2 → ∀ i, i < nv (σ 26 r0) → IVV (enS σ E m key g) r0 (40 * r0 + i) := fun r0 hr0 i hi => by
    obtain ⟨x1, x2, x3, x4, x5, x6, x7, x8, x9, x10, x11⟩ := I.vo r0 hr0 i hi
    have x22 := x2.2
    rw [eE] at x22
    have o9 : enS σ E m key g 9 (nv (σ 27 (40 * r0 + i))) = σ 9 (nv (σ 27 (40 * r0 + i))) := enS_o (fun w => absurd w (by decide)) (fun _ => by omega) (by decide)
    have o38 : enS σ E m key g 38 (nv (σ 27 (40 * r0 + i))) = σ 38 (nv (σ 27 (40 * r0 + i))) := enS_o (fun w => absurd w (by decide)) (fun _ => by omega) (by decide)
    have o39 : enS σ E m key g 39 (nv (σ 27 (40 * r0 + i))) = σ 39 (nv (σ 27 (40 * r0 + i))) := enS_o (fun w => absurd w (by decide)) (fun _ => by omega) (by decide)
    have m40 := (I.en _ x1 (by rw [eE]; exact x22)).ma.2
    refine ⟨x1, ?_, ?_, ?_, x5, x6, x7, fun q hq => ?_, ?_, x10, ?_⟩
    · rw [e8]; exact x2.mono (by omega)
    · show σ 28 (40 * r0 + i) = _; rw [x3]; exact o38.symm
    · show σ 29 (40 * r0 + i) = _; rw [x4]; exact o39.symm
    · obtain ⟨y1, y2, y3, y4⟩ := x8 q hq
      refine ⟨y1, y2, y3, fun j hj => ?_⟩
      have st := psum_step (s21 := σ 21) (s34 := σ 34) (r := r0) (a := 40 * r0 + i) (e := nv (σ 33 (40 * r0 + i)) - (q + 1)) (q := q + 1)
      have hq : q < nv (σ 33 (40 * r0 + i)) := hq
      rw [show q + 1 + (nv (σ 33 (40 * r0 + i)) - (q + 1)) = nv (σ 33 (40 * r0 + i)) by omega, x9] at st
      have sp : partsum (σ 21) (σ 34) r0 (40 * r0 + i) (q + 1) = partsum (σ 21) (σ 34) r0 (40 * r0 + i) q + nv (σ 21 (90 * r0 + nv (σ 34 (20 * (40 * r0 + i) + q)))) := rfl
      have hj : j < nv (σ 21 (90 * r0 + nv (σ 34 (20 * (40 * r0 + i) + q)))) := hj
      show σ 22 (6 * (90 * r0 + nv (σ 34 (20 * (40 * r0 + i) + q))) + j) = enS σ E m key g 10 (40 * nv (σ 27 (40 * r0 + i)) + (partsum (σ 21) (σ 34) r0 (40 * r0 + i) q + j))
      rw [enS_o (fun _ => by omega) (fun w => absurd rfl w) (by decide)]
      exact y4 j hj
    · show partsum (σ 21) (σ 34) r0 (40 * r0 + i) (nv (σ 33 (40 * r0 + i))) = nv (enS σ E m key g 9 (nv (σ 27 (40 * r0 + i))))
      rw [o9]; exact x9
    · show enS σ E m key g 9 (nv (σ 27 (40 * r0 + i))) = i3 0 → _
      rw [o9]; exact x11
  have iks : nv (σ 36 0) + nv (σ 36 1) ≤ nv (enS σ E m key g 8 0) := by rw [e8]; have := I.ks; omega
  have iko : ∀ r, r < 2 → ∀ i, i < nv (σ 36 r) → NB (nv (enS σ E m key g 8 0)) (σ 37 (200 * r + i)) ∧ 1 ≤ nv (σ 37 (200 * r + i)) := fun r hr i hi => by
    obtain ⟨a, b⟩ := I.ko r hr i hi
    rw [e8]
    exact ⟨a.mono (by omega), b⟩
  have IZ : IV c (fun k => if k = 8 ∨ k = 9 ∨ k = 10 ∨ k = 38 ∨ k = 39 then enS σ E m key g k else σ k) := by
    have ez : ∀ k, (fun k => if k = 8 ∨ k = 9 ∨ k = 10 ∨ k = 38 ∨ k = 39 then enS σ E m key g k else σ k) k = enS σ E m key g k := fun k => by
      show (if k = 8 ∨ k = 9 ∨ k = 10 ∨ k = 38 ∨ k = 39 then enS σ E m key g k else σ k) = _
      by_cases z : k = 8 ∨ k = 9 ∨ k = 10 ∨ k = 38 ∨ k = 39
      · rw [if_pos z]
      · rw [if_neg z, enS_n (by omega)]
    have ivo2 : ∀ r0, r0 < 2 → ∀ i, i < nv (σ 26 r0) → IVV (fun k => if k = 8 ∨ k = 9 ∨ k = 10 ∨ k = 38 ∨ k = 39 then enS σ E m key g k else σ k) r0 (40 * r0 + i) := fun r0 hr0 i hi => by
      rw [funext ez]; exact ivo r0 hr0 i hi
    have ien2 : ∀ k, 1 ≤ k → k ≤ nv (enS σ E m key g 8 0) → IVE (fun k => if k = 8 ∨ k = 9 ∨ k = 10 ∨ k = 38 ∨ k = 39 then enS σ E m key g k else σ k) k := fun k k1 k2 => by
      rw [funext ez]; exact ien k k1 k2
    exact ⟨I.dr, I.db, iev, I.dy, I.dc, ien2, I.vn, ivo2, I.vi, I.hd, I.kn, iks, iko, I.pn, I.po, I.dn, I.un, I.uo, I.uz, I.up, I.rn, I.rk⟩
  have ez : (fun k => if k = 8 ∨ k = 9 ∨ k = 10 ∨ k = 38 ∨ k = 39 then enS σ E m key g k else σ k) = enS σ E m key g := funext fun k => by
    by_cases z : k = 8 ∨ k = 9 ∨ k = 10 ∨ k = 38 ∨ k = 39
    · rw [if_pos z]
    · rw [if_neg z, enS_n (by omega)]
  rw [ez] at IZ
  exact IZ
end NU

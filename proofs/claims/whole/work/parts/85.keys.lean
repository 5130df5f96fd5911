set_option maxRecDepth 100000
/-! keys -/
theorem nn_div {a b : Nat} (ha : a < 2 ^ 31) (hb : b < 2 ^ 31) : nn a / nn b = nn (a / b) := (Int32.ofNat_div ha hb).symm
theorem let_A : ∀ (m k n fu : Nat) (is : Int32), k < 5 ^ m → m < fu → 4 ≤ n → n + m < 2 ^ 31 → k < 2 ^ 31 → fMd_letters_l14 fu (nn n) is (nn k) = some 0 := by
  have hj : ∀ (n : Nat) (is : Int32), 4 ≤ n → n < 2 ^ 31 → fMd_letters_j44 (nn n) is = some 0 := fun n is h1 h2 => by
    unfold fMd_letters_j44
    by_cases h : is = 0
    · rw [if_pos h]
    · rw [if_neg h]
      exact if_pos (show (4 : Int32) ≤ nn n from (nn_le (a := 4) (by decide) h2).mpr h1)
  intro m
  induction m with
  | zero =>
    intro k n fu is hk hfu hn hb hk2
    obtain ⟨f, rfl⟩ : ∃ f, fu = f + 1 := ⟨fu - 1, by omega⟩
    show fMd_letters_b14 (fMd_letters_l14 f) (nn n) is (nn k) = some 0
    have : k = 0 := by simpa using hk
    subst this
    unfold fMd_letters_b14
    rw [if_pos (by decide)]
    exact hj n is hn (by omega)
  | succ m ih =>
    intro k n fu is hk hfu hn hb hk2
    obtain ⟨f, rfl⟩ : ∃ f, fu = f + 1 := ⟨fu - 1, by omega⟩
    show fMd_letters_b14 (fMd_letters_l14 f) (nn n) is (nn k) = some 0
    unfold fMd_letters_b14
    have h5 : nn k / 5 = nn (k / 5) := nn_div (b := 5) hk2 (by decide)
    have hk5 : k / 5 < 5 ^ m := Nat.div_lt_of_lt_mul (by rw [Nat.pow_succ] at hk; omega)
    have hn1 : nn n + 1 = nn (n + 1) := nn_add n 1
    have hs : ∀ s0 : Int32, fMd_letters_j33 (fMd_letters_l14 f) (nn n) (nn k) s0 = some 0 := fun s0 => by
      unfold fMd_letters_j33
      rw [h5, hn1]
      exact ih (k / 5) (n + 1) f s0 hk5 (by omega) (by omega) (by omega) (Nat.lt_of_le_of_lt (Nat.div_le_self _ _) hk2)
    split
    · exact hj n is hn (by omega)
    · split
      · exact hj n is hn (by omega)
      · split
        · exact hs 0
        · exact hs 1
theorem key_small : ∀ k, k < 125 → fKeys_isKey (nn k) = fMd_isKey (nn k) := by decide +kernel
theorem key_def : ∀ k, k < 125 → fKeys_isKey (nn k) = some 0 ∨ fKeys_isKey (nn k) = some 1 := by decide +kernel

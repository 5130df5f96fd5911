set_option maxRecDepth 100000
/-! keys -/
theorem nn_div {a b : Nat} (ha : a < 2 ^ 31) (hb : b < 2 ^ 31) : nn a / nn b = nn (a / b) := (Int32.ofNat_div ha hb).symm
theorem let_A : ∀ (m k n fu : Nat) (is : Int32), k < 5 ^ m → m < fu → 4 ≤ n → n + m < 2 ^ 31 → k < 2 ^ 31 → fMd_letters_l14 fu (nn n) is (nn k) = some 0 := by
  have hj : ∀ (n : Nat) (is : Int32), 4 ≤ n → n < 2 ^ 31 → fMd_letters_j44 (nn n) is = some 0 := fun n is h1 h2 => by
    unfold fMd_letters_j44
    by_cases h : is = 0
    · rw [if_pos h]
    · rw [if_neg h]
      exact if_pos (show (4 : Int32) ≤ nn n from (nn_le (a := 4) (by decide) h2).mpr h1)
  intro m
  induction m with
  | zero =>
    intro k n fu is hk hfu hn hb hk2
    obtain ⟨f, rfl⟩ : ∃ f, fu = f + 1 := ⟨fu - 1, by omega⟩
    show fMd_letters_b14 (fMd_letters_l14 f) (nn n) is (nn k) = some 0
    have : k = 0 := by simpa using hk
    subst this
    unfold fMd_letters_b14
    rw [if_pos (by decide)]
    exact hj n is hn (by omega)
  | succ m ih =>
    intro k n fu is hk hfu hn hb hk2
    obtain ⟨f, rfl⟩ : ∃ f, fu = f + 1 := ⟨fu - 1, by omega⟩
    show fMd_letters_b14 (fMd_letters_l14 f) (nn n) is (nn k) = some 0
    unfold fMd_letters_b14
    have h5 : nn k / 5 = nn (k / 5) := nn_div (b := 5) hk2 (by decide)
    have hk5 : k / 5 < 5 ^ m := Nat.div_lt_of_lt_mul (by rw [Nat.pow_succ] at hk; omega)
    have hn1 : nn n + 1 = nn (n + 1) := nn_add n 1
    have hs : ∀ s0 : Int32, fMd_letters_j33 (fMd_letters_l14 f) (nn n) (nn k) s0 = some 0 := fun s0 => by
      unfold fMd_letters_j33
      rw [h5, hn1]
      exact ih (k / 5) (n + 1) f s0 hk5 (by omega) (by omega) (by omega) (Nat.lt_of_le_of_lt (Nat.div_le_self _ _) hk2)
    split
    · exact hj n is hn (by omega)
    · split
      · exact hj n is hn (by omega)
      · split
        · exact hs 0
        · exact hs 1
theorem key_small : ∀ k, k < 125 → fKeys_isKey (nn k) = fMd_isKey (nn k) := by decide +kernel
theorem key_def : ∀ k, k < 125 → fKeys_isKey (nn k) = some 0 ∨ fKeys_isKey (nn k) = some 1 := by decide +kernel
theorem FU_eq : FU = 99990 + 10 := rfl
theorem let_0 (f : Nat) (x1 x3 : Int32) : fMd_letters_l14 (f + 1) x1 0 x3 = some 0 := by
  show fMd_letters_b14 (fMd_letters_l14 f) x1 0 x3 = some 0
  unfold fMd_letters_b14
  split
  · rfl
  · rfl
theorem let_S {f n k : Nat} (hk : 0 < k) (hk2 : k < 2 ^ 31) {o : Option Int32} (h0 : some 0 = o) (h1 : fMd_letters_l14 (f + 1) (nn (n + 1)) 1 (nn (k / 5)) = o) : fMd_letters_l14 (f + 1 + 1) (nn n) 1 (nn k) = o := by
  show fMd_letters_b14 (fMd_letters_l14 (f + 1)) (nn n) 1 (nn k) = o
  unfold fMd_letters_b14
  have h5 : nn k / 5 = nn (k / 5) := nn_div (b := 5) hk2 (by decide)
  have hn1 : nn n + 1 = nn (n + 1) := nn_add n 1
  rw [if_neg (show ¬ nn k ≤ 0 from fun h => absurd ((nn_le (b := 0) hk2 (by decide)).mp h) (by omega)), if_neg (by decide)]
  split
  · unfold fMd_letters_j33
    rw [let_0]; exact h0
  · unfold fMd_letters_j33
    rw [h5, hn1]; exact h1
theorem let_big {k : Nat} (h : 125 ≤ k) (hk2 : k < 2 ^ 31) : fMd_letters (nn k) = some 0 := by
  unfold fMd_letters
  rw [if_neg (show ¬ nn k ≤ 0 from fun h' => absurd ((nn_le (b := 0) hk2 (by decide)).mp h') (by omega))]
  unfold fMd_letters_j11
  rw [FU_eq]
  refine let_S (n := 0) (f := 99998) (by omega) hk2 rfl ?_
  refine let_S (n := 1) (f := 99997) (by omega) (by omega) rfl ?_
  refine let_S (n := 2) (f := 99996) (by omega) (by omega) rfl ?_
  refine let_S (n := 3) (f := 99995) (by omega) (by omega) rfl ?_
  refine let_A 14 _ 4 _ 1 ?_ (by omega) (by omega) (by omega) (by omega)
  have : (5 : Nat) ^ 14 = 6103515625 := by decide
  omega
theorem let_neg {x : Int32} (h : x ≤ 0) : fMd_letters x = some 0 := by
  unfold fMd_letters
  rw [if_pos h]
  unfold fMd_letters_j11
  rw [FU_eq]
  exact let_0 99999 0 x
/-- what is a key: the two agree on every number -/
theorem key_all (x : Int32) : fKeys_isKey x = fMd_isKey x := by
  rcases i_cases x with h | ⟨k, hk, rfl⟩
  · have h0 : x ≤ 0 := Int32.le_of_lt h
    have h1 : x < 1 := Int32.lt_of_lt_of_le h (by decide)
    unfold fKeys_isKey fMd_isKey
    rw [if_pos h1, let_neg h0]
    rfl
  · by_cases h : k < 125
    · exact key_small k h
    · unfold fKeys_isKey fMd_isKey
      rw [let_big (by omega) hk, if_neg (show ¬ nn k < 1 from fun h' => absurd ((nn_lt (b := 1) hk (by decide)).mp h') (by omega)), if_pos (show (124 : Int32) < nn k from (nn_lt (a := 124) (by decide) hk).mpr (by omega))]
      rfl
theorem key_bits (x : Int32) : fKeys_isKey x = some 0 ∨ (fKeys_isKey x = some 1 ∧ ∃ k, k < 125 ∧ x = nn k) := by
  rcases i_cases x with h | ⟨k, hk, rfl⟩
  · left
    unfold fKeys_isKey
    rw [if_pos (Int32.lt_of_lt_of_le h (by decide))]; rfl
  · by_cases h : k < 125
    · rcases key_def k h with h1 | h1
      · exact Or.inl h1
      · exact Or.inr ⟨h1, k, h, rfl⟩
    · left
      unfold fKeys_isKey
      rw [if_neg (show ¬ nn k < 1 from fun h' => absurd ((nn_lt (b := 1) hk (by decide)).mp h') (by omega)), if_pos (show (124 : Int32) < nn k from (nn_lt (a := 124) (by decide) hk).mpr (by omega))]; rfl
theorem word_key : ∀ k, k < 125 → fKeys_isKey (nn k) = some 1 → fKeys_asWord (nn k) = fMd_asWord (nn k) := by decide +kernel
def bgc (k b : Nat) : Bool := !(decide (fKeys_isKey (nn k) = some 1)) || (!(decide (b = 0) || decide (fKeys_isKey (nn b) = some 1)) || decide (fKeys_begins (nn k) (nn b) = fMd_begins (nn k) (nn b)))
theorem begins_c : ((List.range 125).all fun k => (List.range 125).all fun b => bgc k b) = true := by decide +kernel
theorem begins_key {k b : Nat} (hk : k < 125) (hb : b < 125) (h1 : fKeys_isKey (nn k) = some 1) (h2 : b = 0 ∨ fKeys_isKey (nn b) = some 1) : fKeys_begins (nn k) (nn b) = fMd_begins (nn k) (nn b) := by
  have h := List.all_eq_true.mp (List.all_eq_true.mp begins_c k (List.mem_range.mpr hk)) b (List.mem_range.mpr hb)
  unfold bgc at h
  rw [decide_eq_true h1] at h
  rcases h2 with h2 | h2
  · rw [decide_eq_true h2] at h
    exact of_decide_eq_true (by simpa using h)
  · rw [decide_eq_true h2] at h
    exact of_decide_eq_true (by simpa using h)

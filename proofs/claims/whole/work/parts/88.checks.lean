set_option maxRecDepth 100000
/-! the checks ahead of a call -/
section CK
variable {M : Mm} {n : Nat} {σ : Sg}
theorem bdC_l {α β : Type} {v : α} {M1 : Mm} {n1 : Nat} {f : α → Mm → Nat → Option ((β ⊕ Nat) × Mm × Nat)} (h : n ≤ n1) : bdC (some (.inl v, M1, n1)) n f = f v M1 n1 := if_pos h
theorem bdC_r {α β : Type} {k : Nat} {M1 : Mm} {n1 : Nat} {f : α → Mm → Nat → Option ((β ⊕ Nat) × Mm × Nat)} (h : n ≤ n1) : bdC (some ((.inr k : α ⊕ Nat), M1, n1)) n f = some (.inr k, M1, n1) := if_pos h
theorem ck_arg (x : Int32) : fHb_checkArgument x M n = if x = 0 then some (.inr 1, M, n + 1) else some (.inl (), M, n) := rfl
theorem ck_st (x : Int32) : fHb_checkState x M n = if x = 0 then some (.inr 2, M, n + 1) else some (.inl (), M, n) := rfl
theorem ck_idx (x : Int32) : fHb_checkIndex x M n = if x = 0 then some (.inr 0, M, n + 1) else some (.inl (), M, n) := rfl
theorem ck_rng (x lo hi : Int32) : fHb_checkRange x lo hi M n = if x < lo ∨ hi < x then some (.inr 1, M, n + 1) else some (.inl (), M, n) := by
  have h0 : fHb_checkRange_j15 0 M n = some (.inr 1, M, n + 1) := bdC_r (Nat.le_succ n)
  have h1 : fHb_checkRange_j15 1 M n = some (.inl (), M, n) := bdC_l (Nat.le_refl n)
  unfold fHb_checkRange
  by_cases a : x < lo
  · rw [if_pos a, if_pos (Or.inl a)]; exact h0
  · rw [if_neg a]
    by_cases b : hi < x
    · rw [if_pos b, if_pos (Or.inr b)]; exact h0
    · rw [if_neg b, if_neg (fun h => h.elim a b)]; exact h1
theorem md_in (x lo hi : Int32) : fMd_isIn x lo hi = some (if x < lo ∨ hi < x then 0 else 1) := by
  unfold fMd_isIn
  by_cases a : x < lo
  · rw [if_pos a, if_pos (Or.inl a)]; rfl
  · rw [if_neg a]
    by_cases b : hi < x
    · rw [if_pos b, if_pos (Or.inr b)]; rfl
    · rw [if_neg b, if_neg (fun h => h.elim a b)]; rfl
theorem md_holds (x : Int32) : fMd_holds x σ = some (if x = 0 then 1 else 0, uS σ 0 0 x) := by
  unfold fMd_holds
  show (if x = 0 then rZ 1 (some (1, uS σ 0 0 x)) else rZ 0 (some (0, uS σ 0 0 x))) = _
  by_cases a : x = 0
  · rw [if_pos a, if_pos a]; rfl
  · rw [if_neg a, if_neg a]; rfl
end CK

set_option maxRecDepth 100000
/-! the field's laws, by its table -/
def tmt : List Nat := [0, 0, 0, 0, 0, 0, 0, 0, 0, 0, 0, 0, 0, 0, 0, 0, 0, 1, 2, 3, 4, 5, 6, 7, 8, 9, 10, 11, 12, 13, 14, 15, 0, 2, 4, 6, 8, 10, 12, 14, 3, 1, 7, 5, 11, 9, 15, 13, 0, 3, 6, 5, 12, 15, 10, 9, 11, 8, 13, 14, 7, 4, 1, 2, 0, 4, 8, 12, 3, 7, 11, 15, 6, 2, 14, 10, 5, 1, 13, 9, 0, 5, 10, 15, 7, 2, 13, 8, 14, 11, 4, 1, 9, 12, 3, 6, 0, 6, 12, 10, 11, 13, 7, 1, 5, 3, 9, 15, 14, 8, 2, 4, 0, 7, 14, 9, 15, 8, 1, 6, 13, 10, 3, 4, 2, 5, 12, 11, 0, 8, 3, 11, 6, 14, 5, 13, 12, 4, 15, 7, 10, 2, 9, 1, 0, 9, 1, 8, 2, 11, 3, 10, 4, 13, 5, 12, 6, 15, 7, 14, 0, 10, 7, 13, 14, 4, 9, 3, 15, 5, 8, 2, 1, 11, 6, 12, 0, 11, 5, 14, 10, 1, 15, 4, 7, 12, 2, 9, 13, 6, 8, 3, 0, 12, 11, 7, 5, 9, 14, 2, 10, 6, 1, 13, 15, 3, 4, 8, 0, 13, 9, 4, 1, 12, 8, 5, 2, 15, 11, 6, 3, 14, 10, 7, 0, 14, 15, 1, 13, 3, 2, 12, 9, 7, 6, 8, 4, 10, 11, 5, 0, 15, 13, 2, 9, 6, 4, 11, 1, 14, 12, 3, 8, 7, 5, 10]
def tm (a b : Nat) : Nat := tmt.getD (16 * a + b) 0
theorem tm_t : ((List.range 16).all fun a => (List.range 16).all fun b => decide (tmv a b = tm a b)) = true := by decide +kernel
theorem tm_tm {a b : Nat} (ha : a < 16) (hb : b < 16) : tmv a b = tm a b :=
  of_decide_eq_true (List.all_eq_true.mp (List.all_eq_true.mp tm_t a (List.mem_range.mpr ha)) b (List.mem_range.mpr hb))
def lawc (a b c : Nat) : Bool := decide (tm a (b ^^^ c) = tm a b ^^^ tm a c) && decide (tm a b = tm b a) && decide (tm a (tm b c) = tm (tm a b) c)
theorem law_c : ((List.range 16).all fun a => (List.range 16).all fun b => (List.range 16).all fun c => lawc a b c) = true := by decide +kernel
theorem tm_laws {a b c : Nat} (ha : a < 16) (hb : b < 16) (hc : c < 16) : tm a (b ^^^ c) = tm a b ^^^ tm a c ∧ tm a b = tm b a ∧ tm a (tm b c) = tm (tm a b) c := by
  have h := List.all_eq_true.mp (List.all_eq_true.mp (List.all_eq_true.mp law_c a (List.mem_range.mpr ha)) b (List.mem_range.mpr hb)) c (List.mem_range.mpr hc)
  unfold lawc at h
  rw [Bool.and_eq_true, Bool.and_eq_true] at h
  exact ⟨of_decide_eq_true h.1.1, of_decide_eq_true h.1.2, of_decide_eq_true h.2⟩
theorem xor16 {a b : Nat} (ha : a < 16) (hb : b < 16) : nn a ^^^ nn b = nn (a ^^^ b) ∧ a ^^^ b < 16 := by
  have h : ((List.range 16).all fun a => (List.range 16).all fun b => decide (nn a ^^^ nn b = nn (a ^^^ b)) && decide (a ^^^ b < 16)) = true := by decide +kernel
  have h := List.all_eq_true.mp (List.all_eq_true.mp h a (List.mem_range.mpr ha)) b (List.mem_range.mpr hb)
  rw [Bool.and_eq_true] at h
  exact ⟨of_decide_eq_true h.1, of_decide_eq_true h.2⟩
theorem inv_l : ((List.range 16).all fun a => decide (a = 0) || decide (tm a (inv a) = 1)) = true := by decide +kernel

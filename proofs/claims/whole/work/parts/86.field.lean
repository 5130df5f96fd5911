set_option maxRecDepth 100000
/-! the field of 16 -/
def tmv (a b : Nat) : Nat := match fMd_times (nn a) (nn b) with
  | some v => v.toNatClampNeg
  | none => 0
def tmc (a b : Nat) : Bool := decide (fCode_times (nn a) (nn b) = some (nn (tmv a b))) && decide (fMd_times (nn a) (nn b) = some (nn (tmv a b))) && decide (tmv a b < 16)
theorem tm_c : ((List.range 16).all fun a => (List.range 16).all fun b => tmc a b) = true := by decide +kernel
theorem tm_at {a b : Nat} (ha : a < 16) (hb : b < 16) : fCode_times (nn a) (nn b) = some (nn (tmv a b)) ∧ fMd_times (nn a) (nn b) = some (nn (tmv a b)) ∧ tmv a b < 16 := by
  have h := List.all_eq_true.mp (List.all_eq_true.mp tm_c a (List.mem_range.mpr ha)) b (List.mem_range.mpr hb)
  unfold tmc at h
  rw [Bool.and_eq_true, Bool.and_eq_true] at h
  exact ⟨of_decide_eq_true h.1.1, of_decide_eq_true h.1.2, of_decide_eq_true h.2⟩
def inv (a : Nat) : Nat := match fMd_inverse (nn a) with
  | some v => v.toNatClampNeg
  | none => 0
def invc (a : Nat) : Bool := decide (fMd_inverse (nn a) = some (nn (inv a))) && decide (inv a < 16) && (decide (a = 0) || decide (fCode_inverse (nn a) = some (nn (inv a))))
theorem inv_c : ((List.range 16).all fun a => invc a) = true := by decide +kernel
theorem inv_at {a : Nat} (ha : a < 16) : fMd_inverse (nn a) = some (nn (inv a)) ∧ inv a < 16 ∧ (a ≠ 0 → fCode_inverse (nn a) = some (nn (inv a))) := by
  have h := List.all_eq_true.mp inv_c a (List.mem_range.mpr ha)
  unfold invc at h
  rw [Bool.and_eq_true, Bool.and_eq_true] at h
  refine ⟨of_decide_eq_true h.1.1, of_decide_eq_true h.1.2, fun h0 => ?_⟩
  rw [decide_eq_false h0, Bool.false_or] at h
  exact of_decide_eq_true h.2

set_option maxRecDepth 100000
/-! both regions alike -/
section AL
variable {h c n r : Nat} {own : Nat → Nat} {B : BK} {σ : Sg} {M M' : Mm}
theorem isk_k {x : Int32} (k : ISK x) : ∃ j, 1 ≤ j ∧ j < 125 ∧ x = i3 j := by
  rcases key_bits x with e | ⟨e, j, hj, rfl⟩
  · have z : (some (i3 1) : Option Int32) = some (i3 0) := k.symm.trans e
    injection z with z2
    exact absurd z2 (by decide)
  · refine ⟨j, ?_, hj, rfl⟩
    by_cases w : j = 0
    · subst w
      have z : fKeys_isKey (i3 0) = some (i3 1) := k
      rw [fKeys_isKey_E, if_pos (show i3 0 < i3 1 by decide)] at z
      have z2 : some (i3 0) = some (i3 1) := z
      injection z2 with z3
      exact absurd z3 (by decide)
    · omega
theorem allF_iff {p : Nat → Bool} : ∀ {d i : Nat}, allF p i d = true ↔ ∀ j, i ≤ j → j < i + d → p j = true := by
  intro d
  induction d with
  | zero => intro i; exact ⟨fun _ j h1 h2 => by omega, fun _ => rfl⟩
  | succ d ih =>
    intro i
    show (p i && allF p (i + 1) d) = true ↔ _
    rw [Bool.and_eq_true, ih]
    constructor
    · rintro ⟨h1, h2⟩ j h3 h4
      by_cases w : j = i
      · rw [w]; exact h1
      · exact h2 j (by omega) (by omega)
    · intro h
      exact ⟨h i (Nat.le_refl i) (by omega), fun j h1 h2 => h j (by omega) (by omega)⟩
def alk (σ : Sg) (x : Int32) : Bool := match obj σ 0 x, obj σ 1 x with
  | none, none => true
  | some i, some j => samB σ (nE σ 0 i) (nE σ 1 j)
  | _, _ => false
def wit (σ : Sg) (r i : Nat) : Bool := !isob σ r i || (match obj σ (1 - r) (σ 28 (40 * r + i)) with
  | some j => samB σ (nE σ r i) (nE σ (1 - r) j)
  | none => false)
theorem obj_lt {x : Int32} {i : Nat} (e : obj σ r x = some i) : lat σ r x = some i ∧ i < nv (σ 26 r) ∧ σ 28 (40 * r + i) = x ∧ σ 9 (nE σ r i) ≠ i3 0 := by
  unfold obj at e
  cases hf : lat σ r x with
  | none => rw [hf] at e; cases e
  | some k =>
    rw [hf] at e
    have e2 : (if σ 9 (nE σ r k) = i3 0 then none else some k) = some i := e
    by_cases y : σ 9 (nE σ r k) = i3 0
    · rw [if_pos y] at e2; cases e2
    · rw [if_neg y] at e2
      cases e2
      have := fdn_lt (show fdn (pL σ r x) (nv (σ 26 r)) = some k from hf)
      exact ⟨rfl, this.1, of_decide_eq_true this.2.1, y⟩
theorem samB_iff {N N' : Nat} : samB σ N N' = true ↔ σ 9 N = σ 9 N' ∧ ∀ j, j < nv (σ 9 N) → σ 10 (40 * N + j) = σ 10 (40 * N' + j) := by
  unfold samB
  rw [Bool.and_eq_true, allF_iff]
  constructor
  · rintro ⟨h1, h2⟩
    exact ⟨of_decide_eq_true h1, fun j hj => of_decide_eq_true (h2 j (Nat.zero_le j) (by omega))⟩
  · rintro ⟨h1, h2⟩
    exact ⟨decide_eq_true h1, fun j _ hj => decide_eq_true (h2 j (by omega))⟩
theorem samB_sym {N N' : Nat} (e : samB σ N N' = true) : samB σ N' N = true := by
  rw [samB_iff] at e ⊢
  obtain ⟨h1, h2⟩ := e
  exact ⟨h1.symm, fun j hj => (h2 j (by rw [h1]; exact hj)).symm⟩
theorem obj_e {σ' : Sg} {x : Int32} (e : ∀ k, ¬ SCF k → σ' k = σ k) : obj σ' r x = obj σ r x := by
  have e9 := e 9 (by unfold SCF; omega)
  have e26 := e 26 (by unfold SCF; omega)
  have e27 := e 27 (by unfold SCF; omega)
  have e28 := e 28 (by unfold SCF; omega)
  unfold obj lat nE pL
  rw [e9, e26, e27, e28]
theorem alk_e {σ' : Sg} {x : Int32} (e : ∀ k, ¬ SCF k → σ' k = σ k) : alk σ' x = alk σ x := by
  have e9 := e 9 (by unfold SCF; omega)
  have e10 := e 10 (by unfold SCF; omega)
  have e27 := e 27 (by unfold SCF; omega)
  unfold alk
  rw [obj_e e, obj_e e]
  unfold samB nE
  rw [e9, e10, e27]
end AL

set_option maxRecDepth 100000
/-! what stays -/
/-- M' is M but at places of S -/
def SM (S : Nat → Prop) (M M' : Mm) : Prop := ∀ b, ¬ S b → mK M' b = mK M b ∧ mL M' b = mL M b ∧ (∀ c j, mI M' c b j = mI M c b j) ∧ (∀ c j, mP M' c b j = mP M c b j) ∧ ∀ j, mJ M' b j = mJ M b j
theorem SM.refl {S : Nat → Prop} {M : Mm} : SM S M M := fun _ _ => ⟨rfl, rfl, fun _ _ => rfl, fun _ _ => rfl, fun _ => rfl⟩
theorem SM.trans {S T : Nat → Prop} {M M1 M2 : Mm} (h : SM S M M1) (k : SM T M1 M2) : SM (fun b => S b ∨ T b) M M2 := fun b hb => by
  obtain ⟨h1, h2, h3, h4, h5⟩ := h b (fun z => hb (Or.inl z))
  obtain ⟨k1, k2, k3, k4, k5⟩ := k b (fun z => hb (Or.inr z))
  exact ⟨k1.trans h1, k2.trans h2, fun c j => (k3 c j).trans (h3 c j), fun c j => (k4 c j).trans (h4 c j), fun j => (k5 j).trans (h5 j)⟩
theorem SM.mono {S T : Nat → Prop} {M M1 : Mm} (h : SM S M M1) (k : ∀ b, S b → T b) : SM T M M1 := fun b hb => h b (fun z => hb (k b z))
theorem SM.then {S : Nat → Prop} {M M1 M2 : Mm} (h : SM S M M1) (k : SM S M1 M2) : SM S M M2 := (h.trans k).mono fun _ z => z.elim id id
theorem SM.uI {M : Mm} (c a j : Nat) (v : Int32) : SM (fun b => b = a) M (uI M c a j v) := fun b hb => ⟨rfl, rfl, fun c' j' => by rw [mI_uI, if_neg (fun h => hb h.2.1)], fun _ _ => rfl, fun _ => rfl⟩
theorem SM.uP {M : Mm} (c a j : Nat) (v : Option Nat) : SM (fun b => b = a) M (uP M c a j v) := fun b hb => ⟨rfl, rfl, fun _ _ => rfl, fun c' j' => by rw [mP_uP, if_neg (fun h => hb h.2.1)], fun _ => rfl⟩
theorem SM.nA {M : Mm} (a k len : Nat) : SM (fun b => b = a) M (nA M a k len) := fun b hb => ⟨by rw [mK_nA, if_neg hb], by rw [mL_nA, if_neg hb], fun c j => by rw [mI_nA, if_neg hb], fun c j => by rw [mP_nA, if_neg hb], fun j => by rw [mJ_nA, if_neg hb]⟩
/-- a constructor's step: at its own cell and at new ones -/
abbrev NW (a0 n : Nat) : Nat → Prop := fun b => b = a0 ∨ n ≤ b

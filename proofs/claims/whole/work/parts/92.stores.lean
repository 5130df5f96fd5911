set_option maxRecDepth 100000
/-! the harbour, made: stores and regions -/
theorem SM.kd {S : Nat → Prop} {M M' : Mm} (k : SM S M M') {a kd : Nat} (hs : ¬ S a) (h : mK M a = kd) : mK M' a = kd := (k a hs).1.trans h
theorem SM.pt {S : Nat → Prop} {M M' : Mm} (k : SM S M M') {a c : Nat} {v : Option Nat} (hs : ¬ S a) (h : mP M c a 0 = v) : mP M' c a 0 = v := ((k a hs).2.2.2.1 c 0).trans h
theorem SM.it {S : Nat → Prop} {M M' : Mm} (k : SM S M M') {a c : Nat} {v : Int32} (hs : ¬ S a) (h : mI M c a 0 = v) : mI M' c a 0 = v := ((k a hs).2.2.1 c 0).trans h
theorem SM.ln {S : Nat → Prop} {M M' : Mm} (k : SM S M M') {a v : Nat} (hs : ¬ S a) (h : mL M a = v) : mL M' a = v := (k a hs).2.1.trans h
theorem ups (a0 u n : Nat) : ∀ (d i fu : Nat) (M : Mm), d + i = 6 → d < fu → mK M a0 = 8 → mP M 800 a0 0 = some u → mK M u = 22 → mL M u = 6 → u ≠ a0 → RES (fStore_init_l55 a0 fu (nn i) M n) (fun _ M' n' => n' = n ∧ SM (fun b => b = u) M M' ∧ mK M' u = 22 ∧ mL M' u = 6 ∧ ∀ j, mI M' 0 u j = if i ≤ j ∧ j < 6 then 1 else mI M 0 u j) := by
  intro d
  induction d with
  | zero =>
    intro i fu M hd hfu hk hp hku hlu hne
    obtain ⟨f, rfl⟩ : ∃ f, fu = f + 1 := ⟨fu - 1, by omega⟩
    show RES (fStore_init_b55 a0 (fStore_init_l55 a0 f) (nn i) M n) _
    unfold fStore_init_b55
    rw [fgR_s hk, hp, aln_s (by rw [hku]; decide) (by rw [hku]; decide), hlu, if_pos (show nn 6 ≤ nn i from (nn_le (by decide) (by omega)).mpr (by omega))]
    refine RES.fin ⟨rfl, SM.refl, hku, hlu, fun j => ?_⟩
    rw [if_neg (by omega)]
  | succ d ih =>
    intro i fu M hd hfu hk hp hku hlu hne
    obtain ⟨f, rfl⟩ : ∃ f, fu = f + 1 := ⟨fu - 1, by omega⟩
    show RES (fStore_init_b55 a0 (fStore_init_l55 a0 f) (nn i) M n) _
    unfold fStore_init_b55
    rw [fgR_s hk, hp, aln_s (by rw [hku]; decide) (by rw [hku]; decide), hlu, if_neg (show ¬ nn 6 ≤ nn i from fun h => absurd ((nn_le (by decide) (by omega)).mp h) (by omega)), fgR_s hk, hp, asZ_s hku (Or.inr rfl) (by omega) (by omega), show nn i + 1 = nn (i + 1) from nn_add i 1]
    obtain ⟨v, M', n', e, h1, h2, h3, h4, h5⟩ := ih (i + 1) f (uI M 0 u i 1) (by omega) (by omega) hk hp hku hlu hne
    refine ⟨v, M', n', e, h1, ((SM.uI 0 u i 1).then h2), h3, h4, fun j => ?_⟩
    rw [h5, mI_uI]
    by_cases hj : j = i
    · subst hj
      rw [if_neg (by omega), if_pos ⟨rfl, rfl, rfl⟩, if_pos (by omega)]
    · by_cases hj2 : i ≤ j ∧ j < 6
      · rw [if_pos (by omega), if_pos hj2]
      · rw [if_neg (by omega), if_neg (fun h => hj h.2.2), if_neg hj2]

set_option maxRecDepth 100000
def fLw_law_l23 (xs : Nat → Int32) (L a1 a3 NB : Nat) (fu : Nat) : Int32 → Sg → Mm → Nat → Option Nat := Nat.rec (fun x4 σ M n => none) (fun _ k => fLw_law_b23 xs L a1 a3 NB k) fu
theorem wLw_law_l23 {X : MC} {G : GE} {n0 sl b L NB : Nat} {xs : Nat → Int32} {E : Nat → Room × (State → Prop) × Nat} (hG : gH G = true) (C : CX X G RL code pLw_law 7 (some .boolean) n0) (hX : SCR X G b L xs) (hE : CE E 14 300 sl n0) (hend : LEND X G 300 sl n0 NB E) (a1 a3 : Nat) : ∀ (fu : Nat) (x4 : Int32) (σ : Sg) (M : Mm) (n : Nat), JS X G 7 300 sl n0 E (fLw_law_l23 xs L a1 a3 NB fu x4 σ M n) (σ, M, n) 23 [(0, .inr (.inl (some b))), (1, .inr (.inl (some a1))), (2, .inr (.inl (some (gM G)))), (3, .inr (.inl (some a3))), (4, .inl x4)] [] := by
  intro fu
  induction fu with
  | zero => intro x4 σ M n; exact s_none
  | succ fu ih => intro x4 σ M n; exact wLw_law_b23 hG C hX hE hend a1 a3 (fLw_law_l23 xs L a1 a3 NB fu) ih _ _ _ _
def fLw_law (xs : Nat → Int32) (L a1 a3 NB : Nat) (σ : Sg) (M : Mm) (n : Nat) : Option Nat :=
  fLw_law_l23 xs L a1 a3 NB FU 0 σ M n

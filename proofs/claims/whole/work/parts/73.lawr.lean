/-! the law's walk: its script, its calls -/
def scl {ω : Type} (xs : Nat → Int32) (L : Nat) (i : Int32) (f : Int32 → Option ω) : Option ω := if i < 0 ∨ L ≤ i.toNatClampNeg then none else f (xs i.toNatClampNeg)
def bdL {ω : Type} (x : Option (Int32 × Mm × Nat)) (n : Nat) (f : Int32 → Mm → Nat → Option ω) : Option ω := match x with
  | none => none
  | some (v, M, n') => if n ≤ n' then f v M n' else none
def lwE (NB n : Nat) : Option Nat := if n ≤ NB then some n else none
section LX
variable {X : MC} {G : GE} {own : String} {cc : ByteArray} {P : List BR} {nL : Nat} {ret : Option FieldType} {n0 q sl d : Nat} {S : WS} {pc nx len idx : Nat} {k : Int32} {lv : LV} {st stk : List AV} {ω : Type} {E : ω → Room × (State → Prop) × Nat} {σ : Sg} {M : Mm} {n : Nat} {b L : Nat} {xs : Nat → Int32}
def SCR (X : MC) (G : GE) (b L : Nat) (xs : Nat → Int32) : Prop := va_X b L xs X.2.2.2.1 X.2.2.2.1.heap ∧ b < gZ G
theorem s_sld (C : CX X G own cc P nL ret n0) (hX : SCR X G b L xs) (i : Nat) (hr : P[i]? = some (pc, .iaload, len, k, nx)) {j : Int32} {f : Int32 → Option ω} (kk : ∀ v, JS X G nL q sl n0 E (f v) S (pc + 1) lv (.inl v :: st)) : JS X G nL q sl n0 E (scl xs L j f) S pc lv (.inl j :: .inr (.inl (some b)) :: st) := by
  obtain ⟨dd, c⟩ := bOK_at C.2.2.2.2.2.2.2.2.2.2.2.2.1 i hr
  obtain ⟨rfl, -⟩ := ck1 (b := 0) c
  obtain ⟨hx, hb, hml, hown, hts, hK, hlk', hrt, hST, hZ, hn0, hAA, hP, htr⟩ := id C
  intro o ho
  have ho : (if j < 0 ∨ L ≤ j.toNatClampNeg then none else f (xs j.toNatClampNeg)) = some o := ho
  by_cases hj : j < 0 ∨ L ≤ j.toNatClampNeg
  · rw [if_pos hj] at ho; cases ho
  · rw [if_neg hj] at ho
    obtain ⟨k1, k2⟩ := kk _ o ho
    exact ⟨k1, fun H locs hW hS ls hl => va_sld hx hb hX.1 (Nat.lt_of_lt_of_le hX.2 hZ) (Nat.not_le.mpr hX.2) hS hj dd (k2 H locs hW hS ls hl)⟩
theorem s_slen (C : CX X G own cc P nL ret n0) (hX : SCR X G b L xs) (i : Nat) (hr : P[i]? = some (pc, .arraylength, len, k, nx)) {x : Option ω} (kk : JS X G nL q sl n0 E x S (pc + 1) lv (.inl (Int32.ofNat L) :: st)) : JS X G nL q sl n0 E x S pc lv (.inr (.inl (some b)) :: st) := by
  obtain ⟨dd, c⟩ := bOK_at C.2.2.2.2.2.2.2.2.2.2.2.2.1 i hr
  obtain ⟨rfl, -⟩ := ck1 (b := 0) c
  obtain ⟨hx, hb, hml, hown, hts, hK, hlk', hrt, hST, hZ, hn0, hAA, hP, htr⟩ := id C
  intro o ho
  obtain ⟨k1, k2⟩ := kk o ho
  exact ⟨k1, fun H locs hW hS ls hl => va_slen hx hb hX.1 (Nat.lt_of_lt_of_le hX.2 hZ) (Nat.not_le.mpr hX.2) hS dd (k2 H locs hW hS ls hl)⟩
theorem s_L (hE : CE E d q sl n0) {x : Option (Int32 × Mm × Nat)} {f : Int32 → Mm → Nat → Option ω} (h : ∀ o, x = some o → CJ X G nL q sl n0 d pc stk st (σ, M, n) (eL σ o)) (kk : ∀ v M1 n1, n ≤ n1 → JS X G nL q sl n0 E (f v M1 n1) (σ, M1, n1) (pc + 3) lv (.inl v :: st)) : JS X G nL q sl n0 E (bdL x n f) (σ, M, n) pc lv stk := by
  intro o ho
  obtain ⟨e1, e2, e3, e4⟩ := hE o
  cases x with
  | none => cases ho
  | some r =>
    obtain ⟨r, M1, n1⟩ := r
    have ho : (if n ≤ n1 then f r M1 n1 else none) = some o := ho
    by_cases hn : n ≤ n1
    · rw [if_pos hn] at ho
      obtain ⟨k1, k2⟩ := kk r M1 n1 hn o ho
      exact ⟨Nat.le_trans hn k1, h _ rfl lv _ _ e1 e2 hn (Nat.le_trans (Nat.sub_le_sub_right k1 n0) e3) (Nat.le_trans (Nat.add_le_add_left (Nat.mul_le_mul_left q (Nat.sub_le_sub_right k1 n0)) sl) e4) (fun rv hrv => by cases hrv; exact k2) (fun z hz => by cases hz)⟩
    · rw [if_neg hn] at ho; cases ho
def LEND (X : MC) (G : GE) (q sl n0 NB : Nat) (E : Nat → Room × (State → Prop) × Nat) : Prop := ∀ (σ : Sg) (M : Mm) (n : Nat), n ≤ NB → JS X G 7 q sl n0 E (some n) (σ, M, n) 2191 [] [.inl 1]
theorem s_lwE {NB : Nat} {E : Nat → Room × (State → Prop) × Nat} (hend : LEND X G q sl n0 NB E) : JS X G 7 q sl n0 E (lwE NB n) (σ, M, n) 2191 [] [.inl 1] := by
  intro o ho
  have ho : (if n ≤ NB then some n else none) = some o := ho
  by_cases h : n ≤ NB
  · rw [if_pos h] at ho; exact hend σ M n h o ho
  · rw [if_neg h] at ho; cases ho
end LX

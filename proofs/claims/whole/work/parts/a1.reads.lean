set_option maxRecDepth 100000
/-! what the check's rows always are -/
def fstF (p : Nat → Bool) : Nat → Nat → Option Nat
  | _, 0 => none
  | i, d + 1 => if p i = true then some i else fstF p (i + 1) d
def fdn (p : Nat → Bool) : Nat → Option Nat
  | 0 => none
  | k + 1 => if p k = true then some k else fdn p k
def cntF (p : Nat → Bool) : Nat → Nat → Nat
  | _, 0 => 0
  | i, d + 1 => (if p i = true then 1 else 0) + cntF p (i + 1) d
def enc (r : Nat) : Option Nat → Int32
  | none => m1
  | some k => i3 (40 * r + k)
theorem fstF_S {p : Nat → Bool} {i d : Nat} : fstF p i (d + 1) = if p i = true then some i else fstF p (i + 1) d := rfl
theorem fdn_S {p : Nat → Bool} {k : Nat} : fdn p (k + 1) = if p k = true then some k else fdn p k := rfl
theorem cntF_S {p : Nat → Bool} {i d : Nat} : cntF p i (d + 1) = (if p i = true then 1 else 0) + cntF p (i + 1) d := rfl
theorem fstF_lt {p : Nat → Bool} : ∀ {d i k : Nat}, fstF p i d = some k → i ≤ k ∧ k < i + d ∧ p k = true := by
  intro d
  induction d with
  | zero => intro i k h; cases h
  | succ d ih =>
    intro i k h
    rw [fstF_S] at h
    by_cases c : p i = true
    · rw [if_pos c] at h; cases h; exact ⟨by omega, by omega, c⟩
    · rw [if_neg c] at h
      obtain ⟨h1, h2, h3⟩ := ih h
      exact ⟨by omega, by omega, h3⟩
theorem fdn_lt {p : Nat → Bool} : ∀ {n k : Nat}, fdn p n = some k → k < n ∧ p k = true ∧ ∀ j, k < j → j < n → p j = false := by
  intro n
  induction n with
  | zero => intro k h; cases h
  | succ n ih =>
    intro k h
    rw [fdn_S] at h
    by_cases c : p n = true
    · rw [if_pos c] at h; cases h; exact ⟨by omega, c, fun j h1 h2 => by omega⟩
    · rw [if_neg c] at h
      obtain ⟨h1, h2, h3⟩ := ih h
      refine ⟨by omega, h2, fun j k1 k2 => ?_⟩
      by_cases e : j = n
      · subst e; exact Bool.eq_false_iff.mpr c
      · exact h3 j k1 (by omega)
theorem fdn_none {p : Nat → Bool} : ∀ {n : Nat}, fdn p n = none → ∀ j, j < n → p j = false := by
  intro n
  induction n with
  | zero => intro _ j hj; omega
  | succ n ih =>
    intro h j hj
    rw [fdn_S] at h
    by_cases c : p n = true
    · rw [if_pos c] at h; cases h
    · rw [if_neg c] at h
      by_cases e : j = n
      · subst e; exact Bool.eq_false_iff.mpr c
      · exact ih h j (by omega)
theorem nv_i {k : Nat} (h : k < 2147483648) : nv (i3 k) = k := i3_nat h
theorem NB.to {b : Nat} {x : Int32} (h : NB b x) : ∃ k, k ≤ b ∧ x = i3 k := ⟨nv x, h.2, h.1⟩
theorem NB.of {b k : Nat} (h : k ≤ b) (hb : k < 2147483648) : NB b (i3 k) := ⟨by rw [nv_i hb], by rw [nv_i hb]; exact h⟩
def IVE (σ : Sg) (k : Nat) : Prop := (NB 40 (σ 9 k)) ∧
  (∀ j, j < nv (σ 9 k) → NB 15 (σ 10 (40 * k + j))) ∧
  (ISK (σ 38 k)) ∧
  (NB (nv (σ 11 0)) (σ 39 k))
theorem IVE.ma {σ : Sg} {k : Nat} (Z : IVE σ k) : NB 40 (σ 9 k) := Z.1
theorem IVE.by {σ : Sg} {k : Nat} (Z : IVE σ k) : ∀ j, j < nv (σ 9 k) → NB 15 (σ 10 (40 * k + j)) := Z.2.1
theorem IVE.ke {σ : Sg} {k : Nat} (Z : IVE σ k) : ISK (σ 38 k) := Z.2.2.1
theorem IVE.da {σ : Sg} {k : Nat} (Z : IVE σ k) : NB (nv (σ 11 0)) (σ 39 k) := Z.2.2.2
def partsum (s21 s34 : Nat → Int32) (r a : Nat) : Nat → Nat
  | 0 => 0
  | q + 1 => partsum s21 s34 r a q + nv (s21 (90 * r + nv (s34 (20 * a + q))))
def IVV (σ : Sg) (r a : Nat) : Prop := (1 ≤ nv (σ 27 a)) ∧
  (NB (nv (σ 8 0)) (σ 27 a)) ∧
  (σ 28 a = σ 38 (nv (σ 27 a))) ∧
  (σ 29 a = σ 39 (nv (σ 27 a))) ∧
  (NB 2 (σ 30 a)) ∧
  (σ 32 a = m1 ∨ (NB (nv (σ 11 0)) (σ 32 a) ∧ σ 30 a = i3 2)) ∧
  (NB 20 (σ 33 a)) ∧
  (∀ q, q < nv (σ 33 a) → NB 89 (σ 34 (20 * a + q)) ∧ nv (σ 34 (20 * a + q)) < nv (σ 18 r) ∧ σ 19 (90 * r + nv (σ 34 (20 * a + q))) = i3 0 ∧ ∀ j, j < nv (σ 21 (90 * r + nv (σ 34 (20 * a + q)))) → σ 22 (6 * (90 * r + nv (σ 34 (20 * a + q))) + j) = σ 10 (40 * nv (σ 27 a) + (partsum (σ 21) (σ 34) r a q + j))) ∧
  (partsum (σ 21) (σ 34) r a (nv (σ 33 a)) = nv (σ 9 (nv (σ 27 a)))) ∧
  (σ 35 (201 * r + nv (σ 27 a)) = i3 1) ∧
  (σ 9 (nv (σ 27 a)) = i3 0 → σ 30 a = i3 0)
theorem IVV.n1 {σ : Sg} {r a : Nat} (Z : IVV σ r a) : 1 ≤ nv (σ 27 a) := Z.1
theorem IVV.nu {σ : Sg} {r a : Nat} (Z : IVV σ r a) : NB (nv (σ 8 0)) (σ 27 a) := Z.2.1
theorem IVV.ke {σ : Sg} {r a : Nat} (Z : IVV σ r a) : σ 28 a = σ 38 (nv (σ 27 a)) := Z.2.2.1
theorem IVV.da {σ : Sg} {r a : Nat} (Z : IVV σ r a) : σ 29 a = σ 39 (nv (σ 27 a)) := Z.2.2.2.1
theorem IVV.lv {σ : Sg} {r a : Nat} (Z : IVV σ r a) : NB 2 (σ 30 a) := Z.2.2.2.2.1
theorem IVV.ak {σ : Sg} {r a : Nat} (Z : IVV σ r a) : σ 32 a = m1 ∨ (NB (nv (σ 11 0)) (σ 32 a) ∧ σ 30 a = i3 2) := Z.2.2.2.2.2.1
theorem IVV.pc {σ : Sg} {r a : Nat} (Z : IVV σ r a) : NB 20 (σ 33 a) := Z.2.2.2.2.2.2.1
theorem IVV.pt {σ : Sg} {r a : Nat} (Z : IVV σ r a) : ∀ q, q < nv (σ 33 a) → NB 89 (σ 34 (20 * a + q)) ∧ nv (σ 34 (20 * a + q)) < nv (σ 18 r) ∧ σ 19 (90 * r + nv (σ 34 (20 * a + q))) = i3 0 ∧ ∀ j, j < nv (σ 21 (90 * r + nv (σ 34 (20 * a + q)))) → σ 22 (6 * (90 * r + nv (σ 34 (20 * a + q))) + j) = σ 10 (40 * nv (σ 27 a) + (partsum (σ 21) (σ 34) r a q + j)) := Z.2.2.2.2.2.2.2.1
theorem IVV.ps {σ : Sg} {r a : Nat} (Z : IVV σ r a) : partsum (σ 21) (σ 34) r a (nv (σ 33 a)) = nv (σ 9 (nv (σ 27 a))) := Z.2.2.2.2.2.2.2.2.1
theorem IVV.hd {σ : Sg} {r a : Nat} (Z : IVV σ r a) : σ 35 (201 * r + nv (σ 27 a)) = i3 1 := Z.2.2.2.2.2.2.2.2.2.1
theorem IVV.mk {σ : Sg} {r a : Nat} (Z : IVV σ r a) : σ 9 (nv (σ 27 a)) = i3 0 → σ 30 a = i3 0 := Z.2.2.2.2.2.2.2.2.2.2
/-- how often a part is in the versions of its region -/
def uses (s33 s34 : Nat → Int32) (r p : Nat) : Nat → Nat
  | 0 => 0
  | i + 1 => uses s33 s34 r p i + cntF (fun q => decide (s34 (20 * (40 * r + i) + q) = i3 p)) 0 (nv (s33 (40 * r + i)))
/-- what a shard is when it is made -/
def tmn (a b : Nat) : Nat := tm a b
def wgt (s d : Nat) : Nat := if s < 3 then (if s = d then 1 else 0) else if s = 3 then 1 else 2 ^ d
def dat (lo : Nat) (g : Nat → Int32) (j : Nat) : Nat := if j < lo then nv (g j) else 0
def mde (lo : Nat) (g : Nat → Int32) (s k : Nat) : Nat := tm (wgt s 0) (dat lo g k) ^^^ tm (wgt s 1) (dat lo g (2 + k)) ^^^ tm (wgt s 2) (dat lo g (4 + k))
def IVP (σ : Sg) (r a : Nat) : Prop := (NB 800 (σ 20 a)) ∧
  (1 ≤ nv (σ 21 a)) ∧
  (NB 6 (σ 21 a)) ∧
  (∀ j, j < nv (σ 21 a) → NB 15 (σ 22 (6 * a + j))) ∧
  (NB 1 (σ 19 a)) ∧
  (∀ s, s < 5 → σ 23 (5 * a + s) = m1 ∨ NB 5 (σ 23 (5 * a + s))) ∧
  (∀ s, s < 5 → NB 1 (σ 25 (5 * a + s)) ∧ (σ 25 (5 * a + s) = i3 1 → σ 23 (5 * a + s) ≠ m1)) ∧
  (∀ s, s < 5 → σ 23 (5 * a + s) ≠ m1 → σ 25 (5 * a + s) = i3 0 → ∀ k, k < 2 → σ 24 (10 * a + (2 * s + k)) = i3 (mde (nv (σ 21 a)) (fun j => σ 22 (6 * a + j)) s k))
theorem IVP.ct {σ : Sg} {r a : Nat} (Z : IVP σ r a) : NB 800 (σ 20 a) := Z.1
theorem IVP.l1 {σ : Sg} {r a : Nat} (Z : IVP σ r a) : 1 ≤ nv (σ 21 a) := Z.2.1
theorem IVP.lo {σ : Sg} {r a : Nat} (Z : IVP σ r a) : NB 6 (σ 21 a) := Z.2.2.1
theorem IVP.by {σ : Sg} {r a : Nat} (Z : IVP σ r a) : ∀ j, j < nv (σ 21 a) → NB 15 (σ 22 (6 * a + j)) := Z.2.2.2.1
theorem IVP.sw {σ : Sg} {r a : Nat} (Z : IVP σ r a) : NB 1 (σ 19 a) := Z.2.2.2.2.1
theorem IVP.nd {σ : Sg} {r a : Nat} (Z : IVP σ r a) : ∀ s, s < 5 → σ 23 (5 * a + s) = m1 ∨ NB 5 (σ 23 (5 * a + s)) := Z.2.2.2.2.2.1
theorem IVP.ro {σ : Sg} {r a : Nat} (Z : IVP σ r a) : ∀ s, s < 5 → NB 1 (σ 25 (5 * a + s)) ∧ (σ 25 (5 * a + s) = i3 1 → σ 23 (5 * a + s) ≠ m1) := Z.2.2.2.2.2.2.1
theorem IVP.sb {σ : Sg} {r a : Nat} (Z : IVP σ r a) : ∀ s, s < 5 → σ 23 (5 * a + s) ≠ m1 → σ 25 (5 * a + s) = i3 0 → ∀ k, k < 2 → σ 24 (10 * a + (2 * s + k)) = i3 (mde (nv (σ 21 a)) (fun j => σ 22 (6 * a + j)) s k) := Z.2.2.2.2.2.2.2
def IVU (σ : Sg) (u : Nat) : Prop := (NB 1 (σ 41 u)) ∧
  (ISK (σ 42 u)) ∧
  (NB 1 (σ 43 u))
theorem IVU.re {σ : Sg} {u : Nat} (Z : IVU σ u) : NB 1 (σ 41 u) := Z.1
theorem IVU.ke {σ : Sg} {u : Nat} (Z : IVU σ u) : ISK (σ 42 u) := Z.2.1
theorem IVU.ov {σ : Sg} {u : Nat} (Z : IVU σ u) : NB 1 (σ 43 u) := Z.2.2
def pcsum (s44 : Nat → Int32) (u : Nat) : Nat → Nat
  | 0 => 0
  | k + 1 => pcsum s44 u k + nv (s44 (9 * u + k))
def IV (c : Nat) (σ : Sg) : Prop := (NB 40 (σ 1 0)) ∧
  (∀ j, j < nv (σ 1 0) → NB 15 (σ 2 j)) ∧
  (NB 200 (σ 8 0)) ∧
  (NB 20000 (σ 11 0)) ∧
  (nv (σ 11 0) ≤ 30 * c) ∧
  (∀ k, 1 ≤ k → k ≤ nv (σ 8 0) → IVE σ k) ∧
  (∀ r, r < 2 → NB 40 (σ 26 r)) ∧
  (∀ r, r < 2 → ∀ i, i < nv (σ 26 r) → IVV σ r (40 * r + i)) ∧
  (∀ r, r < 2 → ∀ i j, i < j → j < nv (σ 26 r) → nv (σ 27 (40 * r + i)) < nv (σ 27 (40 * r + j))) ∧
  (∀ r, r < 2 → ∀ k, k < 201 → NB 1 (σ 35 (201 * r + k))) ∧
  (∀ r, r < 2 → NB 200 (σ 36 r)) ∧
  (nv (σ 36 0) + nv (σ 36 1) ≤ nv (σ 8 0)) ∧
  (∀ r, r < 2 → ∀ i, i < nv (σ 36 r) → NB (nv (σ 8 0)) (σ 37 (200 * r + i)) ∧ 1 ≤ nv (σ 37 (200 * r + i))) ∧
  (∀ r, r < 2 → NB 90 (σ 18 r)) ∧
  (∀ r, r < 2 → ∀ p, p < nv (σ 18 r) → IVP σ r (90 * r + p) ∧ nv (σ 20 (90 * r + p)) = uses (σ 33) (σ 34) r p (nv (σ 26 r))) ∧
  (∀ j, j < 12 → NB 1 (σ 17 j)) ∧
  (NB 12 (σ 40 0)) ∧
  (∀ u, u < nv (σ 40 0) → IVU σ u) ∧
  (∀ u, nv (σ 40 0) ≤ u → u < 12 → σ 43 u = i3 0 ∧ ∀ k, k < 9 → σ 44 (9 * u + k) = i3 0) ∧
  (∀ u, u < 12 → pcsum (σ 44) u 9 ≤ 40 ∧ ∀ k, k < 9 → NB 40 (σ 44 (9 * u + k)) ∧ ∀ j, j < nv (σ 44 (9 * u + k)) → NB 15 (σ 45 (40 * (9 * u + k) + j))) ∧
  (NB 6 (σ 13 0)) ∧
  (∀ j, j < nv (σ 13 0) → (σ 14 j = i3 0 ∨ ISK (σ 14 j)) ∧ NB 99 (σ 15 j) ∧ 1 ≤ nv (σ 16 j) ∧ NB 3 (σ 16 j))
theorem IV.dr {c : Nat} {σ : Sg} (Z : IV c σ) : NB 40 (σ 1 0) := Z.1
theorem IV.db {c : Nat} {σ : Sg} (Z : IV c σ) : ∀ j, j < nv (σ 1 0) → NB 15 (σ 2 j) := Z.2.1
theorem IV.ev {c : Nat} {σ : Sg} (Z : IV c σ) : NB 200 (σ 8 0) := Z.2.2.1
theorem IV.dy {c : Nat} {σ : Sg} (Z : IV c σ) : NB 20000 (σ 11 0) := Z.2.2.2.1
theorem IV.dc {c : Nat} {σ : Sg} (Z : IV c σ) : nv (σ 11 0) ≤ 30 * c := Z.2.2.2.2.1
theorem IV.en {c : Nat} {σ : Sg} (Z : IV c σ) : ∀ k, 1 ≤ k → k ≤ nv (σ 8 0) → IVE σ k := Z.2.2.2.2.2.1
theorem IV.vn {c : Nat} {σ : Sg} (Z : IV c σ) : ∀ r, r < 2 → NB 40 (σ 26 r) := Z.2.2.2.2.2.2.1
theorem IV.vo {c : Nat} {σ : Sg} (Z : IV c σ) : ∀ r, r < 2 → ∀ i, i < nv (σ 26 r) → IVV σ r (40 * r + i) := Z.2.2.2.2.2.2.2.1
theorem IV.vi {c : Nat} {σ : Sg} (Z : IV c σ) : ∀ r, r < 2 → ∀ i j, i < j → j < nv (σ 26 r) → nv (σ 27 (40 * r + i)) < nv (σ 27 (40 * r + j)) := Z.2.2.2.2.2.2.2.2.1
theorem IV.hd {c : Nat} {σ : Sg} (Z : IV c σ) : ∀ r, r < 2 → ∀ k, k < 201 → NB 1 (σ 35 (201 * r + k)) := Z.2.2.2.2.2.2.2.2.2.1
theorem IV.kn {c : Nat} {σ : Sg} (Z : IV c σ) : ∀ r, r < 2 → NB 200 (σ 36 r) := Z.2.2.2.2.2.2.2.2.2.2.1
theorem IV.ks {c : Nat} {σ : Sg} (Z : IV c σ) : nv (σ 36 0) + nv (σ 36 1) ≤ nv (σ 8 0) := Z.2.2.2.2.2.2.2.2.2.2.2.1
theorem IV.ko {c : Nat} {σ : Sg} (Z : IV c σ) : ∀ r, r < 2 → ∀ i, i < nv (σ 36 r) → NB (nv (σ 8 0)) (σ 37 (200 * r + i)) ∧ 1 ≤ nv (σ 37 (200 * r + i)) := Z.2.2.2.2.2.2.2.2.2.2.2.2.1
theorem IV.pn {c : Nat} {σ : Sg} (Z : IV c σ) : ∀ r, r < 2 → NB 90 (σ 18 r) := Z.2.2.2.2.2.2.2.2.2.2.2.2.2.1
theorem IV.po {c : Nat} {σ : Sg} (Z : IV c σ) : ∀ r, r < 2 → ∀ p, p < nv (σ 18 r) → IVP σ r (90 * r + p) ∧ nv (σ 20 (90 * r + p)) = uses (σ 33) (σ 34) r p (nv (σ 26 r)) := Z.2.2.2.2.2.2.2.2.2.2.2.2.2.2.1
theorem IV.dn {c : Nat} {σ : Sg} (Z : IV c σ) : ∀ j, j < 12 → NB 1 (σ 17 j) := Z.2.2.2.2.2.2.2.2.2.2.2.2.2.2.2.1
theorem IV.un {c : Nat} {σ : Sg} (Z : IV c σ) : NB 12 (σ 40 0) := Z.2.2.2.2.2.2.2.2.2.2.2.2.2.2.2.2.1
theorem IV.uo {c : Nat} {σ : Sg} (Z : IV c σ) : ∀ u, u < nv (σ 40 0) → IVU σ u := Z.2.2.2.2.2.2.2.2.2.2.2.2.2.2.2.2.2.1
theorem IV.uz {c : Nat} {σ : Sg} (Z : IV c σ) : ∀ u, nv (σ 40 0) ≤ u → u < 12 → σ 43 u = i3 0 ∧ ∀ k, k < 9 → σ 44 (9 * u + k) = i3 0 := Z.2.2.2.2.2.2.2.2.2.2.2.2.2.2.2.2.2.2.1
theorem IV.up {c : Nat} {σ : Sg} (Z : IV c σ) : ∀ u, u < 12 → pcsum (σ 44) u 9 ≤ 40 ∧ ∀ k, k < 9 → NB 40 (σ 44 (9 * u + k)) ∧ ∀ j, j < nv (σ 44 (9 * u + k)) → NB 15 (σ 45 (40 * (9 * u + k) + j)) := Z.2.2.2.2.2.2.2.2.2.2.2.2.2.2.2.2.2.2.2.1
theorem IV.rn {c : Nat} {σ : Sg} (Z : IV c σ) : NB 6 (σ 13 0) := Z.2.2.2.2.2.2.2.2.2.2.2.2.2.2.2.2.2.2.2.2.1
theorem IV.rk {c : Nat} {σ : Sg} (Z : IV c σ) : ∀ j, j < nv (σ 13 0) → (σ 14 j = i3 0 ∨ ISK (σ 14 j)) ∧ NB 99 (σ 15 j) ∧ 1 ≤ nv (σ 16 j) ∧ NB 3 (σ 16 j) := Z.2.2.2.2.2.2.2.2.2.2.2.2.2.2.2.2.2.2.2.2.2
def VW (M : Mm) (σ : Sg) (v e a : Nat) : Prop := (mK M v = 10) ∧
  (mP M 1000 v 0 = some e) ∧
  (mP M 1001 v 0 = some (v + 1)) ∧
  (mK M (v + 1) = 21) ∧
  (mL M (v + 1) = nv (σ 33 a)) ∧
  (mK M e = 4) ∧
  (mI M 400 e 0 = σ 28 a) ∧
  (mI M 401 e 0 = σ 27 a) ∧
  (mI M 402 e 0 = σ 29 a) ∧
  (mP M 403 e 0 = some (e + 1)) ∧
  (mK M (e + 1) = 1) ∧
  (mI M 101 (e + 1) 0 = σ 9 (nv (σ 27 a))) ∧
  (mI M 1002 v 0 = σ 30 a) ∧
  (mI M 1003 v 0 = σ 31 a) ∧
  (mI M 1004 v 0 = σ 32 a)
theorem VW.k {M : Mm} {σ : Sg} {v e a : Nat} (Z : VW M σ v e a) : mK M v = 10 := Z.1
theorem VW.p0 {M : Mm} {σ : Sg} {v e a : Nat} (Z : VW M σ v e a) : mP M 1000 v 0 = some e := Z.2.1
theorem VW.p1 {M : Mm} {σ : Sg} {v e a : Nat} (Z : VW M σ v e a) : mP M 1001 v 0 = some (v + 1) := Z.2.2.1
theorem VW.rk {M : Mm} {σ : Sg} {v e a : Nat} (Z : VW M σ v e a) : mK M (v + 1) = 21 := Z.2.2.2.1
theorem VW.rl {M : Mm} {σ : Sg} {v e a : Nat} (Z : VW M σ v e a) : mL M (v + 1) = nv (σ 33 a) := Z.2.2.2.2.1
theorem VW.ek {M : Mm} {σ : Sg} {v e a : Nat} (Z : VW M σ v e a) : mK M e = 4 := Z.2.2.2.2.2.1
theorem VW.ke {M : Mm} {σ : Sg} {v e a : Nat} (Z : VW M σ v e a) : mI M 400 e 0 = σ 28 a := Z.2.2.2.2.2.2.1
theorem VW.nu {M : Mm} {σ : Sg} {v e a : Nat} (Z : VW M σ v e a) : mI M 401 e 0 = σ 27 a := Z.2.2.2.2.2.2.2.1
theorem VW.da {M : Mm} {σ : Sg} {v e a : Nat} (Z : VW M σ v e a) : mI M 402 e 0 = σ 29 a := Z.2.2.2.2.2.2.2.2.1
theorem VW.e3 {M : Mm} {σ : Sg} {v e a : Nat} (Z : VW M σ v e a) : mP M 403 e 0 = some (e + 1) := Z.2.2.2.2.2.2.2.2.2.1
theorem VW.bk {M : Mm} {σ : Sg} {v e a : Nat} (Z : VW M σ v e a) : mK M (e + 1) = 1 := Z.2.2.2.2.2.2.2.2.2.2.1
theorem VW.ma {M : Mm} {σ : Sg} {v e a : Nat} (Z : VW M σ v e a) : mI M 101 (e + 1) 0 = σ 9 (nv (σ 27 a)) := Z.2.2.2.2.2.2.2.2.2.2.2.1
theorem VW.lv {M : Mm} {σ : Sg} {v e a : Nat} (Z : VW M σ v e a) : mI M 1002 v 0 = σ 30 a := Z.2.2.2.2.2.2.2.2.2.2.2.2.1
theorem VW.lk {M : Mm} {σ : Sg} {v e a : Nat} (Z : VW M σ v e a) : mI M 1003 v 0 = σ 31 a := Z.2.2.2.2.2.2.2.2.2.2.2.2.2.1
theorem VW.ak {M : Mm} {σ : Sg} {v e a : Nat} (Z : VW M σ v e a) : mI M 1004 v 0 = σ 32 a := Z.2.2.2.2.2.2.2.2.2.2.2.2.2.2
section RD
variable {h c n r : Nat} {own : Nat → Nat} {B : BK} {σ : Sg} {M : Mm}
theorem RR.ver (R : RR h own B σ M n) (I : IV c σ) (hr : r < 2) {i : Nat} (hi : i < nv (σ 26 r)) : VW M σ (ve B r i) (en B (nv (σ 27 (40 * r + i)))) (40 * r + i) := by
  have V := R.vo r hr i hi
  have W := I.vo r hr i hi
  have E := R.et _ W.n1 W.nu.2
  exact ⟨V.b.k, V.b.p0, V.b.p1, V.b.rk, V.b.rl, E.b.k, E.ke.trans W.ke.symm, E.nu.trans W.nu.1.symm, E.da.trans W.da.symm, E.b.p, E.b.b.k, E.ma, V.lv, V.lk, V.ak⟩
abbrev pF (σ : Sg) (r : Nat) (x y : Int32) : Nat → Bool := fun i => decide (σ 28 (40 * r + i) = x ∧ σ 27 (40 * r + i) = y)
abbrev pL (σ : Sg) (r : Nat) (x : Int32) : Nat → Bool := fun i => decide (σ 28 (40 * r + i) = x)
theorem c_find (R : RR h own B σ M n) (I : IV c σ) (hr : r < 2) {V : Nat} (hV : σ 26 r = i3 V) (h40 : V ≤ 40) (x y : Int32) : ∀ d i fu, d + i = V → d < fu → fRegion_find_l2 (gr h r) fu x y (i3 i) M = some ((fstF (pF σ r x y) i d).map (ve B r)) := by
  have e : nv (σ 26 r) = V := by rw [hV]; exact nv_i (by omega)
  have hk := (R.rg r hr).k
  have hp := (R.rg r hr).p1
  have L := R.vl r hr
  rw [e] at L
  have hl := L.k
  have hs := L.size
  intro d
  induction d with
  | zero =>
    intro i fu hd hfu
    obtain ⟨f, rfl⟩ : ∃ f, fu = f + 1 := ⟨fu - 1, by omega⟩
    rw [fRegion_find_l2_S, fRegion_find_b2_E]
    clear L R I
    simp (disch := (first | assumption | omega | decide | (simp only [mK_uI, mK_uP, mL_uI, mL_uP, mK_wI, mL_wI, mK_nA_e, mL_nA_e] <;> (first | assumption | omega)))) only [i3_le_t, i3_le_f, i3_lt_t, i3_lt_f, i3_eq_t, i3_eq_f, i3_add, i3_mul, i3_sub, i3_div, i3_dec, i3_m1, m1_i3, m1_eq, i3_ge0, m1_lt, i3_le_m1, ↓reduceIte, rZ_0, rZ_1, bdR_s, bdW_s, ifN_n, ifN_s, ↓fgI_s, ↓fgR_s, ↓rk_s, ↓fpI_s, ↓fpR_s, ↓fpZ_0, ↓fpZ_1, ↓alI_i, ↓alP_i, ↓asI_i, ↓asB_i, ↓asZ_0, ↓asZ_1, ↓aln_i, ↓fca_s, ↓fca_n, bdC_li, bdC_ri, mK_uI, mK_uP, mL_uI, mL_uP, mP_uI, mI_uP, mK_wI, mL_wI, mP_wI, mI_uI_e, mI_uI_c, nwO_s, mK_nA_e, mL_nA_e, hp, hs, fstF, Option.map_none]
  | succ d ih =>
    intro i fu hd hfu
    obtain ⟨f, rfl⟩ : ∃ f, fu = f + 1 := ⟨fu - 1, by omega⟩
    have g := L.get (i := i) (by omega)
    have W := R.ver I hr (i := i) (by omega)
    have w1 := W.k
    have w2 := W.p0
    have w3 := W.ek
    have w4 := W.ke
    have w5 := W.nu
    have ih' := ih (i + 1) f (by omega) (by omega)
    rw [fRegion_find_l2_S, fRegion_find_b2_E, fstF_S]
    clear L R I W
    generalize en B (nv (σ 27 (40 * r + i))) = ev at *
    by_cases c1 : σ 28 (40 * r + i) = x
    · by_cases c2 : σ 27 (40 * r + i) = y
      · simp (disch := (first | assumption | omega | decide | (simp only [mK_uI, mK_uP, mL_uI, mL_uP, mK_wI, mL_wI, mK_nA_e, mL_nA_e] <;> (first | assumption | omega)))) only [i3_le_t, i3_le_f, i3_lt_t, i3_lt_f, i3_eq_t, i3_eq_f, i3_add, i3_mul, i3_sub, i3_div, i3_dec, i3_m1, m1_i3, m1_eq, i3_ge0, m1_lt, i3_le_m1, ↓reduceIte, rZ_0, rZ_1, bdR_s, bdW_s, ifN_n, ifN_s, ↓fgI_s, ↓fgR_s, ↓rk_s, ↓fpI_s, ↓fpR_s, ↓fpZ_0, ↓fpZ_1, ↓alI_i, ↓alP_i, ↓asI_i, ↓asB_i, ↓asZ_0, ↓asZ_1, ↓aln_i, ↓fca_s, ↓fca_n, bdC_li, bdC_ri, mK_uI, mK_uP, mL_uI, mL_uP, mP_uI, mI_uP, mK_wI, mL_wI, mP_wI, mI_uI_e, mI_uI_c, nwO_s, mK_nA_e, mL_nA_e, hp, hs, g, w2, w4, w5, c1, c2, show pF σ r x y i = true from decide_eq_true ⟨c1, c2⟩, Option.map_some]
      · simp (disch := (first | assumption | omega | decide | (simp only [mK_uI, mK_uP, mL_uI, mL_uP, mK_wI, mL_wI, mK_nA_e, mL_nA_e] <;> (first | assumption | omega)))) only [i3_le_t, i3_le_f, i3_lt_t, i3_lt_f, i3_eq_t, i3_eq_f, i3_add, i3_mul, i3_sub, i3_div, i3_dec, i3_m1, m1_i3, m1_eq, i3_ge0, m1_lt, i3_le_m1, ↓reduceIte, rZ_0, rZ_1, bdR_s, bdW_s, ifN_n, ifN_s, ↓fgI_s, ↓fgR_s, ↓rk_s, ↓fpI_s, ↓fpR_s, ↓fpZ_0, ↓fpZ_1, ↓alI_i, ↓alP_i, ↓asI_i, ↓asB_i, ↓asZ_0, ↓asZ_1, ↓aln_i, ↓fca_s, ↓fca_n, bdC_li, bdC_ri, mK_uI, mK_uP, mL_uI, mL_uP, mP_uI, mI_uP, mK_wI, mL_wI, mP_wI, mI_uI_e, mI_uI_c, nwO_s, mK_nA_e, mL_nA_e, hp, hs, g, w2, w4, w5, c1, c2, show pF σ r x y i = false from decide_eq_false (fun z => c2 z.2), Bool.false_eq_true, fRegion_find_j59_E, ih']
    · simp (disch := (first | assumption | omega | decide | (simp only [mK_uI, mK_uP, mL_uI, mL_uP, mK_wI, mL_wI, mK_nA_e, mL_nA_e] <;> (first | assumption | omega)))) only [i3_le_t, i3_le_f, i3_lt_t, i3_lt_f, i3_eq_t, i3_eq_f, i3_add, i3_mul, i3_sub, i3_div, i3_dec, i3_m1, m1_i3, m1_eq, i3_ge0, m1_lt, i3_le_m1, ↓reduceIte, rZ_0, rZ_1, bdR_s, bdW_s, ifN_n, ifN_s, ↓fgI_s, ↓fgR_s, ↓rk_s, ↓fpI_s, ↓fpR_s, ↓fpZ_0, ↓fpZ_1, ↓alI_i, ↓alP_i, ↓asI_i, ↓asB_i, ↓asZ_0, ↓asZ_1, ↓aln_i, ↓fca_s, ↓fca_n, bdC_li, bdC_ri, mK_uI, mK_uP, mL_uI, mL_uP, mP_uI, mI_uP, mK_wI, mL_wI, mP_wI, mI_uI_e, mI_uI_c, nwO_s, mK_nA_e, mL_nA_e, hp, hs, g, w2, w4, w5, c1, show pF σ r x y i = false from decide_eq_false (fun z => c1 z.1), Bool.false_eq_true, fRegion_find_j59_E, ih']
theorem c_latest (R : RR h own B σ M n) (I : IV c σ) (hr : r < 2) {V : Nat} (hV : σ 26 r = i3 V) (h40 : V ≤ 40) (x : Int32) : ∀ d fu, d ≤ V → d < fu → fRegion_latest_l10 (gr h r) fu x (if d = 0 then m1 else i3 (d - 1)) M = some ((fdn (pL σ r x) d).map (ve B r)) := by
  have e : nv (σ 26 r) = V := by rw [hV]; exact nv_i (by omega)
  have hk := (R.rg r hr).k
  have hp := (R.rg r hr).p1
  have L := R.vl r hr
  rw [e] at L
  have hl := L.k
  have hs := L.size
  intro d
  induction d with
  | zero =>
    intro fu hd hfu
    obtain ⟨f, rfl⟩ : ∃ f, fu = f + 1 := ⟨fu - 1, by omega⟩
    rw [fRegion_latest_l10_S, fRegion_latest_b10_E, if_pos rfl]
    clear L R I
    simp (disch := (first | assumption | omega | decide | (simp only [mK_uI, mK_uP, mL_uI, mL_uP, mK_wI, mL_wI, mK_nA_e, mL_nA_e] <;> (first | assumption | omega)))) only [i3_le_t, i3_le_f, i3_lt_t, i3_lt_f, i3_eq_t, i3_eq_f, i3_add, i3_mul, i3_sub, i3_div, i3_dec, i3_m1, m1_i3, m1_eq, i3_ge0, m1_lt, i3_le_m1, ↓reduceIte, rZ_0, rZ_1, bdR_s, bdW_s, ifN_n, ifN_s, ↓fgI_s, ↓fgR_s, ↓rk_s, ↓fpI_s, ↓fpR_s, ↓fpZ_0, ↓fpZ_1, ↓alI_i, ↓alP_i, ↓asI_i, ↓asB_i, ↓asZ_0, ↓asZ_1, ↓aln_i, ↓fca_s, ↓fca_n, bdC_li, bdC_ri, mK_uI, mK_uP, mL_uI, mL_uP, mP_uI, mI_uP, mK_wI, mL_wI, mP_wI, mI_uI_e, mI_uI_c, nwO_s, mK_nA_e, mL_nA_e, m1_lt, fdn, Option.map_none]
  | succ d ih =>
    intro fu hd hfu
    obtain ⟨f, rfl⟩ : ∃ f, fu = f + 1 := ⟨fu - 1, by omega⟩
    have g := L.get (i := d) (by omega)
    have W := R.ver I hr (i := d) (by omega)
    have w1 := W.k
    have w2 := W.p0
    have w3 := W.ek
    have w4 := W.ke
    have ih' := ih f (by omega) (by omega)
    rw [fRegion_latest_l10_S, fRegion_latest_b10_E, fdn_S, if_neg (Nat.succ_ne_zero d), Nat.add_sub_cancel]
    have hd1 : i3 d + m1 = if d = 0 then m1 else i3 (d - 1) := by
      by_cases z : d = 0
      · rw [if_pos z, z, i3_dec0]
      · rw [if_neg z]; exact i3_dec (by omega)
    clear L R I W
    generalize en B (nv (σ 27 (40 * r + d))) = ev at *
    by_cases c1 : σ 28 (40 * r + d) = x
    · simp (disch := (first | assumption | omega | decide | (simp only [mK_uI, mK_uP, mL_uI, mL_uP, mK_wI, mL_wI, mK_nA_e, mL_nA_e] <;> (first | assumption | omega)))) only [i3_le_t, i3_le_f, i3_lt_t, i3_lt_f, i3_eq_t, i3_eq_f, i3_add, i3_mul, i3_sub, i3_div, i3_dec, i3_m1, m1_i3, m1_eq, i3_ge0, m1_lt, i3_le_m1, ↓reduceIte, rZ_0, rZ_1, bdR_s, bdW_s, ifN_n, ifN_s, ↓fgI_s, ↓fgR_s, ↓rk_s, ↓fpI_s, ↓fpR_s, ↓fpZ_0, ↓fpZ_1, ↓alI_i, ↓alP_i, ↓asI_i, ↓asB_i, ↓asZ_0, ↓asZ_1, ↓aln_i, ↓fca_s, ↓fca_n, bdC_li, bdC_ri, mK_uI, mK_uP, mL_uI, mL_uP, mP_uI, mI_uP, mK_wI, mL_wI, mP_wI, mI_uI_e, mI_uI_c, nwO_s, mK_nA_e, mL_nA_e, hp, hs, g, w2, w4, c1, show pL σ r x d = true from decide_eq_true c1, Option.map_some]
    · simp (disch := (first | assumption | omega | decide | (simp only [mK_uI, mK_uP, mL_uI, mL_uP, mK_wI, mL_wI, mK_nA_e, mL_nA_e] <;> (first | assumption | omega)))) only [i3_le_t, i3_le_f, i3_lt_t, i3_lt_f, i3_eq_t, i3_eq_f, i3_add, i3_mul, i3_sub, i3_div, i3_dec, i3_m1, m1_i3, m1_eq, i3_ge0, m1_lt, i3_le_m1, ↓reduceIte, rZ_0, rZ_1, bdR_s, bdW_s, ifN_n, ifN_s, ↓fgI_s, ↓fgR_s, ↓rk_s, ↓fpI_s, ↓fpR_s, ↓fpZ_0, ↓fpZ_1, ↓alI_i, ↓alP_i, ↓asI_i, ↓asB_i, ↓asZ_0, ↓asZ_1, ↓aln_i, ↓fca_s, ↓fca_n, bdC_li, bdC_ri, mK_uI, mK_uP, mL_uI, mL_uP, mP_uI, mI_uP, mK_wI, mL_wI, mP_wI, mI_uI_e, mI_uI_c, nwO_s, mK_nA_e, mL_nA_e, hp, hs, g, w2, w4, c1, show pL σ r x d = false from decide_eq_false c1, Bool.false_eq_true, hd1, ih']
theorem c_manyOf (R : RR h own B σ M n) (I : IV c σ) (hr : r < 2) {V : Nat} (hV : σ 26 r = i3 V) (h40 : V ≤ 40) (x : Int32) : ∀ d i k fu, d + i = V → d < fu → fRegion_manyOf_l4 (gr h r) fu x (i3 k) (i3 i) M = some (i3 (k + cntF (pL σ r x) i d)) := by
  have e : nv (σ 26 r) = V := by rw [hV]; exact nv_i (by omega)
  have hk := (R.rg r hr).k
  have hp := (R.rg r hr).p1
  have L := R.vl r hr
  rw [e] at L
  have hl := L.k
  have hs := L.size
  intro d
  induction d with
  | zero =>
    intro i k fu hd hfu
    obtain ⟨f, rfl⟩ : ∃ f, fu = f + 1 := ⟨fu - 1, by omega⟩
    rw [fRegion_manyOf_l4_S, fRegion_manyOf_b4_E]
    clear L R I
    simp (disch := (first | assumption | omega | decide | (simp only [mK_uI, mK_uP, mL_uI, mL_uP, mK_wI, mL_wI, mK_nA_e, mL_nA_e] <;> (first | assumption | omega)))) only [i3_le_t, i3_le_f, i3_lt_t, i3_lt_f, i3_eq_t, i3_eq_f, i3_add, i3_mul, i3_sub, i3_div, i3_dec, i3_m1, m1_i3, m1_eq, i3_ge0, m1_lt, i3_le_m1, ↓reduceIte, rZ_0, rZ_1, bdR_s, bdW_s, ifN_n, ifN_s, ↓fgI_s, ↓fgR_s, ↓rk_s, ↓fpI_s, ↓fpR_s, ↓fpZ_0, ↓fpZ_1, ↓alI_i, ↓alP_i, ↓asI_i, ↓asB_i, ↓asZ_0, ↓asZ_1, ↓aln_i, ↓fca_s, ↓fca_n, bdC_li, bdC_ri, mK_uI, mK_uP, mL_uI, mL_uP, mP_uI, mI_uP, mK_wI, mL_wI, mP_wI, mI_uI_e, mI_uI_c, nwO_s, mK_nA_e, mL_nA_e, hp, hs, cntF, Nat.add_zero]
  | succ d ih =>
    intro i k fu hd hfu
    obtain ⟨f, rfl⟩ : ∃ f, fu = f + 1 := ⟨fu - 1, by omega⟩
    have g := L.get (i := i) (by omega)
    have W := R.ver I hr (i := i) (by omega)
    have w1 := W.k
    have w2 := W.p0
    have w3 := W.ek
    have w4 := W.ke
    have ih' := fun k => ih (i + 1) k f (by omega) (by omega)
    rw [fRegion_manyOf_l4_S, fRegion_manyOf_b4_E, cntF_S]
    clear L R I W
    generalize en B (nv (σ 27 (40 * r + i))) = ev at *
    by_cases c1 : σ 28 (40 * r + i) = x
    · simp (disch := (first | assumption | omega | decide | (simp only [mK_uI, mK_uP, mL_uI, mL_uP, mK_wI, mL_wI, mK_nA_e, mL_nA_e] <;> (first | assumption | omega)))) only [i3_le_t, i3_le_f, i3_lt_t, i3_lt_f, i3_eq_t, i3_eq_f, i3_add, i3_mul, i3_sub, i3_div, i3_dec, i3_m1, m1_i3, m1_eq, i3_ge0, m1_lt, i3_le_m1, ↓reduceIte, rZ_0, rZ_1, bdR_s, bdW_s, ifN_n, ifN_s, ↓fgI_s, ↓fgR_s, ↓rk_s, ↓fpI_s, ↓fpR_s, ↓fpZ_0, ↓fpZ_1, ↓alI_i, ↓alP_i, ↓asI_i, ↓asB_i, ↓asZ_0, ↓asZ_1, ↓aln_i, ↓fca_s, ↓fca_n, bdC_li, bdC_ri, mK_uI, mK_uP, mL_uI, mL_uP, mP_uI, mI_uP, mK_wI, mL_wI, mP_wI, mI_uI_e, mI_uI_c, nwO_s, mK_nA_e, mL_nA_e, hp, hs, g, w2, w4, c1, show pL σ r x i = true from decide_eq_true c1, fRegion_manyOf_j39_E, ih', Nat.add_assoc]
    · simp (disch := (first | assumption | omega | decide | (simp only [mK_uI, mK_uP, mL_uI, mL_uP, mK_wI, mL_wI, mK_nA_e, mL_nA_e] <;> (first | assumption | omega)))) only [i3_le_t, i3_le_f, i3_lt_t, i3_lt_f, i3_eq_t, i3_eq_f, i3_add, i3_mul, i3_sub, i3_div, i3_dec, i3_m1, m1_i3, m1_eq, i3_ge0, m1_lt, i3_le_m1, ↓reduceIte, rZ_0, rZ_1, bdR_s, bdW_s, ifN_n, ifN_s, ↓fgI_s, ↓fgR_s, ↓rk_s, ↓fpI_s, ↓fpR_s, ↓fpZ_0, ↓fpZ_1, ↓alI_i, ↓alP_i, ↓asI_i, ↓asB_i, ↓asZ_0, ↓asZ_1, ↓aln_i, ↓fca_s, ↓fca_n, bdC_li, bdC_ri, mK_uI, mK_uP, mL_uI, mL_uP, mP_uI, mI_uP, mK_wI, mL_wI, mP_wI, mI_uI_e, mI_uI_c, nwO_s, mK_nA_e, mL_nA_e, hp, hs, g, w2, w4, c1, show pL σ r x i = false from decide_eq_false c1, Bool.false_eq_true, fRegion_manyOf_j39_E, ih', Nat.zero_add]
/-- the pth of those that fit -/
def nthF (p : Nat → Bool) : Nat → Nat → Nat → Option Nat
  | _, 0, _ => none
  | i, d + 1, k => if p i = true then (if k = 0 then some i else nthF p (i + 1) d (k - 1)) else nthF p (i + 1) d k
theorem nthF_S {p : Nat → Bool} {i d k : Nat} : nthF p i (d + 1) k = if p i = true then (if k = 0 then some i else nthF p (i + 1) d (k - 1)) else nthF p (i + 1) d k := rfl
def numO (σ : Sg) (r : Nat) : Option Nat → Int32
  | none => i3 0
  | some i => σ 27 (40 * r + i)
theorem c_numberAt (R : RR h own B σ M n) (I : IV c σ) (hr : r < 2) {V : Nat} (hV : σ 26 r = i3 V) (h40 : V ≤ 40) (x : Int32) : ∀ d i k fu, d + i = V → d < fu → k < 2147483648 → fRegion_numberAt_l5 (gr h r) fu x (i3 k) (i3 i) M = some (numO σ r (nthF (pL σ r x) i d k)) := by
  have e : nv (σ 26 r) = V := by rw [hV]; exact nv_i (by omega)
  have hk := (R.rg r hr).k
  have hp := (R.rg r hr).p1
  have L := R.vl r hr
  rw [e] at L
  have hl := L.k
  have hs := L.size
  intro d
  induction d with
  | zero =>
    intro i k fu hd hfu hk31
    obtain ⟨f, rfl⟩ : ∃ f, fu = f + 1 := ⟨fu - 1, by omega⟩
    rw [fRegion_numberAt_l5_S, fRegion_numberAt_b5_E]
    clear L R I
    simp (disch := (first | assumption | omega | decide | (simp only [mK_uI, mK_uP, mL_uI, mL_uP, mK_wI, mL_wI, mK_nA_e, mL_nA_e] <;> (first | assumption | omega)))) only [i3_le_t, i3_le_f, i3_lt_t, i3_lt_f, i3_eq_t, i3_eq_f, i3_add, i3_mul, i3_sub, i3_div, i3_dec, i3_m1, m1_i3, m1_eq, i3_ge0, m1_lt, i3_le_m1, ↓reduceIte, rZ_0, rZ_1, bdR_s, bdW_s, ifN_n, ifN_s, ↓fgI_s, ↓fgR_s, ↓rk_s, ↓fpI_s, ↓fpR_s, ↓fpZ_0, ↓fpZ_1, ↓alI_i, ↓alP_i, ↓asI_i, ↓asB_i, ↓asZ_0, ↓asZ_1, ↓aln_i, ↓fca_s, ↓fca_n, bdC_li, bdC_ri, mK_uI, mK_uP, mL_uI, mL_uP, mP_uI, mI_uP, mK_wI, mL_wI, mP_wI, mI_uI_e, mI_uI_c, nwO_s, mK_nA_e, mL_nA_e, hp, hs, nthF, numO]
  | succ d ih =>
    intro i k fu hd hfu hk31
    obtain ⟨f, rfl⟩ : ∃ f, fu = f + 1 := ⟨fu - 1, by omega⟩
    have g := L.get (i := i) (by omega)
    have W := R.ver I hr (i := i) (by omega)
    have w1 := W.k
    have w2 := W.p0
    have w3 := W.ek
    have w4 := W.ke
    have w5 := W.nu
    have ih' := fun k h => ih (i + 1) k f (by omega) (by omega) h
    rw [fRegion_numberAt_l5_S, fRegion_numberAt_b5_E, nthF_S]
    clear L R I W
    generalize en B (nv (σ 27 (40 * r + i))) = ev at *
    by_cases c1 : σ 28 (40 * r + i) = x
    · by_cases c2 : k = 0
      · simp (disch := (first | assumption | omega | decide | (simp only [mK_uI, mK_uP, mL_uI, mL_uP, mK_wI, mL_wI, mK_nA_e, mL_nA_e] <;> (first | assumption | omega)))) only [i3_le_t, i3_le_f, i3_lt_t, i3_lt_f, i3_eq_t, i3_eq_f, i3_add, i3_mul, i3_sub, i3_div, i3_dec, i3_m1, m1_i3, m1_eq, i3_ge0, m1_lt, i3_le_m1, ↓reduceIte, rZ_0, rZ_1, bdR_s, bdW_s, ifN_n, ifN_s, ↓fgI_s, ↓fgR_s, ↓rk_s, ↓fpI_s, ↓fpR_s, ↓fpZ_0, ↓fpZ_1, ↓alI_i, ↓alP_i, ↓asI_i, ↓asB_i, ↓asZ_0, ↓asZ_1, ↓aln_i, ↓fca_s, ↓fca_n, bdC_li, bdC_ri, mK_uI, mK_uP, mL_uI, mL_uP, mP_uI, mI_uP, mK_wI, mL_wI, mP_wI, mI_uI_e, mI_uI_c, nwO_s, mK_nA_e, mL_nA_e, hp, hs, g, w2, w4, w5, c1, c2, show pL σ r x i = true from decide_eq_true c1, numO]
      · have ih2 := ih' (k - 1) (by omega)
        simp (disch := (first | assumption | omega | decide | (simp only [mK_uI, mK_uP, mL_uI, mL_uP, mK_wI, mL_wI, mK_nA_e, mL_nA_e] <;> (first | assumption | omega)))) only [i3_le_t, i3_le_f, i3_lt_t, i3_lt_f, i3_eq_t, i3_eq_f, i3_add, i3_mul, i3_sub, i3_div, i3_dec, i3_m1, m1_i3, m1_eq, i3_ge0, m1_lt, i3_le_m1, ↓reduceIte, rZ_0, rZ_1, bdR_s, bdW_s, ifN_n, ifN_s, ↓fgI_s, ↓fgR_s, ↓rk_s, ↓fpI_s, ↓fpR_s, ↓fpZ_0, ↓fpZ_1, ↓alI_i, ↓alP_i, ↓asI_i, ↓asB_i, ↓asZ_0, ↓asZ_1, ↓aln_i, ↓fca_s, ↓fca_n, bdC_li, bdC_ri, mK_uI, mK_uP, mL_uI, mL_uP, mP_uI, mI_uP, mK_wI, mL_wI, mP_wI, mI_uI_e, mI_uI_c, nwO_s, mK_nA_e, mL_nA_e, hp, hs, g, w2, w4, w5, c1, c2, show pL σ r x i = true from decide_eq_true c1, fRegion_numberAt_j56_E, ih2]
    · have ih2 := ih' k hk31
      simp (disch := (first | assumption | omega | decide | (simp only [mK_uI, mK_uP, mL_uI, mL_uP, mK_wI, mL_wI, mK_nA_e, mL_nA_e] <;> (first | assumption | omega)))) only [i3_le_t, i3_le_f, i3_lt_t, i3_lt_f, i3_eq_t, i3_eq_f, i3_add, i3_mul, i3_sub, i3_div, i3_dec, i3_m1, m1_i3, m1_eq, i3_ge0, m1_lt, i3_le_m1, ↓reduceIte, rZ_0, rZ_1, bdR_s, bdW_s, ifN_n, ifN_s, ↓fgI_s, ↓fgR_s, ↓rk_s, ↓fpI_s, ↓fpR_s, ↓fpZ_0, ↓fpZ_1, ↓alI_i, ↓alP_i, ↓asI_i, ↓asB_i, ↓asZ_0, ↓asZ_1, ↓aln_i, ↓fca_s, ↓fca_n, bdC_li, bdC_ri, mK_uI, mK_uP, mL_uI, mL_uP, mP_uI, mI_uP, mK_wI, mL_wI, mP_wI, mI_uI_e, mI_uI_c, nwO_s, mK_nA_e, mL_nA_e, hp, hs, g, w2, w4, c1, show pL σ r x i = false from decide_eq_false c1, Bool.false_eq_true, fRegion_numberAt_j56_E, ih2]
end RD
/-! the check's side of the same -/
section RM
variable {σ : Sg} {r V : Nat}
theorem m_endOf (hr : r < 2) (hV : σ 26 r = i3 V) : fMd_endOf (i3 r) σ = some (i3 (40 * r + V)) := by
  simp (disch := (first | assumption | omega | decide | (simp only [mK_uI, mK_uP, mL_uI, mL_uP, mK_wI, mL_wI, mK_nA_e, mL_nA_e] <;> (first | assumption | omega)))) only [i3_le_t, i3_le_f, i3_lt_t, i3_lt_f, i3_eq_t, i3_eq_f, i3_add, i3_mul, i3_sub, i3_div, i3_dec, i3_m1, m1_i3, m1_eq, i3_ge0, m1_lt, i3_le_m1, ↓reduceIte, rZ_0, rZ_1, bdR_s, bdW_s, ifN_n, ifN_s, uS_n, uS_e, uS_d, ↓mgF_s, ↓mpF_s, ↓mgA_2, ↓mgA_4, ↓mgA_6, ↓mgA_7, ↓mgA_9, ↓mgA_10, ↓mgA_12, ↓mgA_14, ↓mgA_15, ↓mgA_16, ↓mgA_17, ↓mgA_18, ↓mgA_19, ↓mgA_20, ↓mgA_21, ↓mgA_22, ↓mgA_23, ↓mgA_24, ↓mgA_25, ↓mgA_26, ↓mgA_27, ↓mgA_28, ↓mgA_29, ↓mgA_30, ↓mgA_31, ↓mgA_32, ↓mgA_33, ↓mgA_34, ↓mgA_35, ↓mgA_36, ↓mgA_37, ↓mgA_38, ↓mgA_39, ↓mgA_41, ↓mgA_42, ↓mgA_43, ↓mgA_44, ↓mgA_45, ↓mgA_46, ↓mpA_2, ↓mpA_4, ↓mpA_6, ↓mpA_7, ↓mpA_9, ↓mpA_10, ↓mpA_12, ↓mpA_14, ↓mpA_15, ↓mpA_16, ↓mpZ_17, ↓mpA_18, ↓mpZ_19, ↓mpA_20, ↓mpA_21, ↓mpA_22, ↓mpA_23, ↓mpA_24, ↓mpZ_25, ↓mpA_26, ↓mpA_27, ↓mpA_28, ↓mpA_29, ↓mpA_30, ↓mpA_31, ↓mpA_32, ↓mpA_33, ↓mpA_34, ↓mpZ_35, ↓mpA_36, ↓mpA_37, ↓mpA_38, ↓mpA_39, ↓mpA_41, ↓mpA_42, ↓mpZ_43, ↓mpA_44, ↓mpA_45, ↓mpA_46, fMd_endOf_E, hV]
theorem m_versionAt (hr : r < 2) (hV : σ 26 r = i3 V) (h40 : V ≤ 40) (x y : Int32) : ∀ d i fu, d + i = V → d < fu → fMd_versionAt_l6 fu (i3 r) x y (i3 (40 * r + i)) σ = some (enc r (fstF (pF σ r x y) i d)) := by
  have he := m_endOf hr hV
  intro d
  induction d with
  | zero =>
    intro i fu hd hfu
    obtain ⟨f, rfl⟩ : ∃ f, fu = f + 1 := ⟨fu - 1, by omega⟩
    rw [fMd_versionAt_l6_S, fMd_versionAt_b6_E]
    simp (disch := (first | assumption | omega | decide | (simp only [mK_uI, mK_uP, mL_uI, mL_uP, mK_wI, mL_wI, mK_nA_e, mL_nA_e] <;> (first | assumption | omega)))) only [i3_le_t, i3_le_f, i3_lt_t, i3_lt_f, i3_eq_t, i3_eq_f, i3_add, i3_mul, i3_sub, i3_div, i3_dec, i3_m1, m1_i3, m1_eq, i3_ge0, m1_lt, i3_le_m1, ↓reduceIte, rZ_0, rZ_1, bdR_s, bdW_s, ifN_n, ifN_s, uS_n, uS_e, uS_d, ↓mgF_s, ↓mpF_s, ↓mgA_2, ↓mgA_4, ↓mgA_6, ↓mgA_7, ↓mgA_9, ↓mgA_10, ↓mgA_12, ↓mgA_14, ↓mgA_15, ↓mgA_16, ↓mgA_17, ↓mgA_18, ↓mgA_19, ↓mgA_20, ↓mgA_21, ↓mgA_22, ↓mgA_23, ↓mgA_24, ↓mgA_25, ↓mgA_26, ↓mgA_27, ↓mgA_28, ↓mgA_29, ↓mgA_30, ↓mgA_31, ↓mgA_32, ↓mgA_33, ↓mgA_34, ↓mgA_35, ↓mgA_36, ↓mgA_37, ↓mgA_38, ↓mgA_39, ↓mgA_41, ↓mgA_42, ↓mgA_43, ↓mgA_44, ↓mgA_45, ↓mgA_46, ↓mpA_2, ↓mpA_4, ↓mpA_6, ↓mpA_7, ↓mpA_9, ↓mpA_10, ↓mpA_12, ↓mpA_14, ↓mpA_15, ↓mpA_16, ↓mpZ_17, ↓mpA_18, ↓mpZ_19, ↓mpA_20, ↓mpA_21, ↓mpA_22, ↓mpA_23, ↓mpA_24, ↓mpZ_25, ↓mpA_26, ↓mpA_27, ↓mpA_28, ↓mpA_29, ↓mpA_30, ↓mpA_31, ↓mpA_32, ↓mpA_33, ↓mpA_34, ↓mpZ_35, ↓mpA_36, ↓mpA_37, ↓mpA_38, ↓mpA_39, ↓mpA_41, ↓mpA_42, ↓mpZ_43, ↓mpA_44, ↓mpA_45, ↓mpA_46, he, fstF, enc]
  | succ d ih =>
    intro i fu hd hfu
    obtain ⟨f, rfl⟩ : ∃ f, fu = f + 1 := ⟨fu - 1, by omega⟩
    have ih' := ih (i + 1) f (by omega) (by omega)
    rw [fMd_versionAt_l6_S, fMd_versionAt_b6_E, fstF_S]
    by_cases c1 : σ 28 (40 * r + i) = x
    · by_cases c2 : σ 27 (40 * r + i) = y
      · simp (disch := (first | assumption | omega | decide | (simp only [mK_uI, mK_uP, mL_uI, mL_uP, mK_wI, mL_wI, mK_nA_e, mL_nA_e] <;> (first | assumption | omega)))) only [i3_le_t, i3_le_f, i3_lt_t, i3_lt_f, i3_eq_t, i3_eq_f, i3_add, i3_mul, i3_sub, i3_div, i3_dec, i3_m1, m1_i3, m1_eq, i3_ge0, m1_lt, i3_le_m1, ↓reduceIte, rZ_0, rZ_1, bdR_s, bdW_s, ifN_n, ifN_s, uS_n, uS_e, uS_d, ↓mgF_s, ↓mpF_s, ↓mgA_2, ↓mgA_4, ↓mgA_6, ↓mgA_7, ↓mgA_9, ↓mgA_10, ↓mgA_12, ↓mgA_14, ↓mgA_15, ↓mgA_16, ↓mgA_17, ↓mgA_18, ↓mgA_19, ↓mgA_20, ↓mgA_21, ↓mgA_22, ↓mgA_23, ↓mgA_24, ↓mgA_25, ↓mgA_26, ↓mgA_27, ↓mgA_28, ↓mgA_29, ↓mgA_30, ↓mgA_31, ↓mgA_32, ↓mgA_33, ↓mgA_34, ↓mgA_35, ↓mgA_36, ↓mgA_37, ↓mgA_38, ↓mgA_39, ↓mgA_41, ↓mgA_42, ↓mgA_43, ↓mgA_44, ↓mgA_45, ↓mgA_46, ↓mpA_2, ↓mpA_4, ↓mpA_6, ↓mpA_7, ↓mpA_9, ↓mpA_10, ↓mpA_12, ↓mpA_14, ↓mpA_15, ↓mpA_16, ↓mpZ_17, ↓mpA_18, ↓mpZ_19, ↓mpA_20, ↓mpA_21, ↓mpA_22, ↓mpA_23, ↓mpA_24, ↓mpZ_25, ↓mpA_26, ↓mpA_27, ↓mpA_28, ↓mpA_29, ↓mpA_30, ↓mpA_31, ↓mpA_32, ↓mpA_33, ↓mpA_34, ↓mpZ_35, ↓mpA_36, ↓mpA_37, ↓mpA_38, ↓mpA_39, ↓mpA_41, ↓mpA_42, ↓mpZ_43, ↓mpA_44, ↓mpA_45, ↓mpA_46, he, c1, c2, show pF σ r x y i = true from decide_eq_true ⟨c1, c2⟩, enc]
      · simp (disch := (first | assumption | omega | decide | (simp only [mK_uI, mK_uP, mL_uI, mL_uP, mK_wI, mL_wI, mK_nA_e, mL_nA_e] <;> (first | assumption | omega)))) only [i3_le_t, i3_le_f, i3_lt_t, i3_lt_f, i3_eq_t, i3_eq_f, i3_add, i3_mul, i3_sub, i3_div, i3_dec, i3_m1, m1_i3, m1_eq, i3_ge0, m1_lt, i3_le_m1, ↓reduceIte, rZ_0, rZ_1, bdR_s, bdW_s, ifN_n, ifN_s, uS_n, uS_e, uS_d, ↓mgF_s, ↓mpF_s, ↓mgA_2, ↓mgA_4, ↓mgA_6, ↓mgA_7, ↓mgA_9, ↓mgA_10, ↓mgA_12, ↓mgA_14, ↓mgA_15, ↓mgA_16, ↓mgA_17, ↓mgA_18, ↓mgA_19, ↓mgA_20, ↓mgA_21, ↓mgA_22, ↓mgA_23, ↓mgA_24, ↓mgA_25, ↓mgA_26, ↓mgA_27, ↓mgA_28, ↓mgA_29, ↓mgA_30, ↓mgA_31, ↓mgA_32, ↓mgA_33, ↓mgA_34, ↓mgA_35, ↓mgA_36, ↓mgA_37, ↓mgA_38, ↓mgA_39, ↓mgA_41, ↓mgA_42, ↓mgA_43, ↓mgA_44, ↓mgA_45, ↓mgA_46, ↓mpA_2, ↓mpA_4, ↓mpA_6, ↓mpA_7, ↓mpA_9, ↓mpA_10, ↓mpA_12, ↓mpA_14, ↓mpA_15, ↓mpA_16, ↓mpZ_17, ↓mpA_18, ↓mpZ_19, ↓mpA_20, ↓mpA_21, ↓mpA_22, ↓mpA_23, ↓mpA_24, ↓mpZ_25, ↓mpA_26, ↓mpA_27, ↓mpA_28, ↓mpA_29, ↓mpA_30, ↓mpA_31, ↓mpA_32, ↓mpA_33, ↓mpA_34, ↓mpZ_35, ↓mpA_36, ↓mpA_37, ↓mpA_38, ↓mpA_39, ↓mpA_41, ↓mpA_42, ↓mpZ_43, ↓mpA_44, ↓mpA_45, ↓mpA_46, he, c1, c2, show pF σ r x y i = false from decide_eq_false (fun z => c2 z.2), Bool.false_eq_true, fMd_versionAt_j41_E, Nat.add_assoc, ih']
    · simp (disch := (first | assumption | omega | decide | (simp only [mK_uI, mK_uP, mL_uI, mL_uP, mK_wI, mL_wI, mK_nA_e, mL_nA_e] <;> (first | assumption | omega)))) only [i3_le_t, i3_le_f, i3_lt_t, i3_lt_f, i3_eq_t, i3_eq_f, i3_add, i3_mul, i3_sub, i3_div, i3_dec, i3_m1, m1_i3, m1_eq, i3_ge0, m1_lt, i3_le_m1, ↓reduceIte, rZ_0, rZ_1, bdR_s, bdW_s, ifN_n, ifN_s, uS_n, uS_e, uS_d, ↓mgF_s, ↓mpF_s, ↓mgA_2, ↓mgA_4, ↓mgA_6, ↓mgA_7, ↓mgA_9, ↓mgA_10, ↓mgA_12, ↓mgA_14, ↓mgA_15, ↓mgA_16, ↓mgA_17, ↓mgA_18, ↓mgA_19, ↓mgA_20, ↓mgA_21, ↓mgA_22, ↓mgA_23, ↓mgA_24, ↓mgA_25, ↓mgA_26, ↓mgA_27, ↓mgA_28, ↓mgA_29, ↓mgA_30, ↓mgA_31, ↓mgA_32, ↓mgA_33, ↓mgA_34, ↓mgA_35, ↓mgA_36, ↓mgA_37, ↓mgA_38, ↓mgA_39, ↓mgA_41, ↓mgA_42, ↓mgA_43, ↓mgA_44, ↓mgA_45, ↓mgA_46, ↓mpA_2, ↓mpA_4, ↓mpA_6, ↓mpA_7, ↓mpA_9, ↓mpA_10, ↓mpA_12, ↓mpA_14, ↓mpA_15, ↓mpA_16, ↓mpZ_17, ↓mpA_18, ↓mpZ_19, ↓mpA_20, ↓mpA_21, ↓mpA_22, ↓mpA_23, ↓mpA_24, ↓mpZ_25, ↓mpA_26, ↓mpA_27, ↓mpA_28, ↓mpA_29, ↓mpA_30, ↓mpA_31, ↓mpA_32, ↓mpA_33, ↓mpA_34, ↓mpZ_35, ↓mpA_36, ↓mpA_37, ↓mpA_38, ↓mpA_39, ↓mpA_41, ↓mpA_42, ↓mpZ_43, ↓mpA_44, ↓mpA_45, ↓mpA_46, he, c1, show pF σ r x y i = false from decide_eq_false (fun z => c1 z.1), Bool.false_eq_true, fMd_versionAt_j41_E, Nat.add_assoc, ih']
theorem m_latest (hr : r < 2) (hV : σ 26 r = i3 V) (h40 : V ≤ 40) (x : Int32) : ∀ d i fu, d + i = V → d < fu → fMd_latest_l8 fu (i3 r) x (enc r (fdn (pL σ r x) i)) (i3 (40 * r + i)) σ = some (enc r (fdn (pL σ r x) V)) := by
  have he := m_endOf hr hV
  intro d
  induction d with
  | zero =>
    intro i fu hd hfu
    obtain ⟨f, rfl⟩ : ∃ f, fu = f + 1 := ⟨fu - 1, by omega⟩
    have hi : i = V := by omega
    subst hi
    rw [fMd_latest_l8_S, fMd_latest_b8_E]
    simp (disch := (first | assumption | omega | decide | (simp only [mK_uI, mK_uP, mL_uI, mL_uP, mK_wI, mL_wI, mK_nA_e, mL_nA_e] <;> (first | assumption | omega)))) only [i3_le_t, i3_le_f, i3_lt_t, i3_lt_f, i3_eq_t, i3_eq_f, i3_add, i3_mul, i3_sub, i3_div, i3_dec, i3_m1, m1_i3, m1_eq, i3_ge0, m1_lt, i3_le_m1, ↓reduceIte, rZ_0, rZ_1, bdR_s, bdW_s, ifN_n, ifN_s, uS_n, uS_e, uS_d, ↓mgF_s, ↓mpF_s, ↓mgA_2, ↓mgA_4, ↓mgA_6, ↓mgA_7, ↓mgA_9, ↓mgA_10, ↓mgA_12, ↓mgA_14, ↓mgA_15, ↓mgA_16, ↓mgA_17, ↓mgA_18, ↓mgA_19, ↓mgA_20, ↓mgA_21, ↓mgA_22, ↓mgA_23, ↓mgA_24, ↓mgA_25, ↓mgA_26, ↓mgA_27, ↓mgA_28, ↓mgA_29, ↓mgA_30, ↓mgA_31, ↓mgA_32, ↓mgA_33, ↓mgA_34, ↓mgA_35, ↓mgA_36, ↓mgA_37, ↓mgA_38, ↓mgA_39, ↓mgA_41, ↓mgA_42, ↓mgA_43, ↓mgA_44, ↓mgA_45, ↓mgA_46, ↓mpA_2, ↓mpA_4, ↓mpA_6, ↓mpA_7, ↓mpA_9, ↓mpA_10, ↓mpA_12, ↓mpA_14, ↓mpA_15, ↓mpA_16, ↓mpZ_17, ↓mpA_18, ↓mpZ_19, ↓mpA_20, ↓mpA_21, ↓mpA_22, ↓mpA_23, ↓mpA_24, ↓mpZ_25, ↓mpA_26, ↓mpA_27, ↓mpA_28, ↓mpA_29, ↓mpA_30, ↓mpA_31, ↓mpA_32, ↓mpA_33, ↓mpA_34, ↓mpZ_35, ↓mpA_36, ↓mpA_37, ↓mpA_38, ↓mpA_39, ↓mpA_41, ↓mpA_42, ↓mpZ_43, ↓mpA_44, ↓mpA_45, ↓mpA_46, he]
  | succ d ih =>
    intro i fu hd hfu
    obtain ⟨f, rfl⟩ : ∃ f, fu = f + 1 := ⟨fu - 1, by omega⟩
    have ih' := ih (i + 1) f (by omega) (by omega)
    rw [fdn_S] at ih'
    rw [fMd_latest_l8_S, fMd_latest_b8_E]
    by_cases c1 : σ 28 (40 * r + i) = x
    · rw [if_pos (decide_eq_true c1)] at ih'
      have ih2 : fMd_latest_l8 f (i3 r) x (i3 (40 * r + i)) (i3 (40 * r + (i + 1))) σ = some (enc r (fdn (pL σ r x) V)) := ih'
      simp (disch := (first | assumption | omega | decide | (simp only [mK_uI, mK_uP, mL_uI, mL_uP, mK_wI, mL_wI, mK_nA_e, mL_nA_e] <;> (first | assumption | omega)))) only [i3_le_t, i3_le_f, i3_lt_t, i3_lt_f, i3_eq_t, i3_eq_f, i3_add, i3_mul, i3_sub, i3_div, i3_dec, i3_m1, m1_i3, m1_eq, i3_ge0, m1_lt, i3_le_m1, ↓reduceIte, rZ_0, rZ_1, bdR_s, bdW_s, ifN_n, ifN_s, uS_n, uS_e, uS_d, ↓mgF_s, ↓mpF_s, ↓mgA_2, ↓mgA_4, ↓mgA_6, ↓mgA_7, ↓mgA_9, ↓mgA_10, ↓mgA_12, ↓mgA_14, ↓mgA_15, ↓mgA_16, ↓mgA_17, ↓mgA_18, ↓mgA_19, ↓mgA_20, ↓mgA_21, ↓mgA_22, ↓mgA_23, ↓mgA_24, ↓mgA_25, ↓mgA_26, ↓mgA_27, ↓mgA_28, ↓mgA_29, ↓mgA_30, ↓mgA_31, ↓mgA_32, ↓mgA_33, ↓mgA_34, ↓mgA_35, ↓mgA_36, ↓mgA_37, ↓mgA_38, ↓mgA_39, ↓mgA_41, ↓mgA_42, ↓mgA_43, ↓mgA_44, ↓mgA_45, ↓mgA_46, ↓mpA_2, ↓mpA_4, ↓mpA_6, ↓mpA_7, ↓mpA_9, ↓mpA_10, ↓mpA_12, ↓mpA_14, ↓mpA_15, ↓mpA_16, ↓mpZ_17, ↓mpA_18, ↓mpZ_19, ↓mpA_20, ↓mpA_21, ↓mpA_22, ↓mpA_23, ↓mpA_24, ↓mpZ_25, ↓mpA_26, ↓mpA_27, ↓mpA_28, ↓mpA_29, ↓mpA_30, ↓mpA_31, ↓mpA_32, ↓mpA_33, ↓mpA_34, ↓mpZ_35, ↓mpA_36, ↓mpA_37, ↓mpA_38, ↓mpA_39, ↓mpA_41, ↓mpA_42, ↓mpZ_43, ↓mpA_44, ↓mpA_45, ↓mpA_46, he, c1, fMd_latest_j35_E, Nat.add_assoc, ih2]
    · rw [if_neg (by rw [decide_eq_true_eq]; exact c1)] at ih'
      simp (disch := (first | assumption | omega | decide | (simp only [mK_uI, mK_uP, mL_uI, mL_uP, mK_wI, mL_wI, mK_nA_e, mL_nA_e] <;> (first | assumption | omega)))) only [i3_le_t, i3_le_f, i3_lt_t, i3_lt_f, i3_eq_t, i3_eq_f, i3_add, i3_mul, i3_sub, i3_div, i3_dec, i3_m1, m1_i3, m1_eq, i3_ge0, m1_lt, i3_le_m1, ↓reduceIte, rZ_0, rZ_1, bdR_s, bdW_s, ifN_n, ifN_s, uS_n, uS_e, uS_d, ↓mgF_s, ↓mpF_s, ↓mgA_2, ↓mgA_4, ↓mgA_6, ↓mgA_7, ↓mgA_9, ↓mgA_10, ↓mgA_12, ↓mgA_14, ↓mgA_15, ↓mgA_16, ↓mgA_17, ↓mgA_18, ↓mgA_19, ↓mgA_20, ↓mgA_21, ↓mgA_22, ↓mgA_23, ↓mgA_24, ↓mgA_25, ↓mgA_26, ↓mgA_27, ↓mgA_28, ↓mgA_29, ↓mgA_30, ↓mgA_31, ↓mgA_32, ↓mgA_33, ↓mgA_34, ↓mgA_35, ↓mgA_36, ↓mgA_37, ↓mgA_38, ↓mgA_39, ↓mgA_41, ↓mgA_42, ↓mgA_43, ↓mgA_44, ↓mgA_45, ↓mgA_46, ↓mpA_2, ↓mpA_4, ↓mpA_6, ↓mpA_7, ↓mpA_9, ↓mpA_10, ↓mpA_12, ↓mpA_14, ↓mpA_15, ↓mpA_16, ↓mpZ_17, ↓mpA_18, ↓mpZ_19, ↓mpA_20, ↓mpA_21, ↓mpA_22, ↓mpA_23, ↓mpA_24, ↓mpZ_25, ↓mpA_26, ↓mpA_27, ↓mpA_28, ↓mpA_29, ↓mpA_30, ↓mpA_31, ↓mpA_32, ↓mpA_33, ↓mpA_34, ↓mpZ_35, ↓mpA_36, ↓mpA_37, ↓mpA_38, ↓mpA_39, ↓mpA_41, ↓mpA_42, ↓mpZ_43, ↓mpA_44, ↓mpA_45, ↓mpA_46, he, c1, fMd_latest_j35_E, Nat.add_assoc, ih']
theorem m_manyOf (hr : r < 2) (hV : σ 26 r = i3 V) (h40 : V ≤ 40) (x : Int32) : ∀ d i k fu, d + i = V → d < fu → fMd_manyOf_l8 fu (i3 r) x (i3 k) (i3 (40 * r + i)) σ = some (i3 (k + cntF (pL σ r x) i d)) := by
  have he := m_endOf hr hV
  intro d
  induction d with
  | zero =>
    intro i k fu hd hfu
    obtain ⟨f, rfl⟩ : ∃ f, fu = f + 1 := ⟨fu - 1, by omega⟩
    rw [fMd_manyOf_l8_S, fMd_manyOf_b8_E]
    simp (disch := (first | assumption | omega | decide | (simp only [mK_uI, mK_uP, mL_uI, mL_uP, mK_wI, mL_wI, mK_nA_e, mL_nA_e] <;> (first | assumption | omega)))) only [i3_le_t, i3_le_f, i3_lt_t, i3_lt_f, i3_eq_t, i3_eq_f, i3_add, i3_mul, i3_sub, i3_div, i3_dec, i3_m1, m1_i3, m1_eq, i3_ge0, m1_lt, i3_le_m1, ↓reduceIte, rZ_0, rZ_1, bdR_s, bdW_s, ifN_n, ifN_s, uS_n, uS_e, uS_d, ↓mgF_s, ↓mpF_s, ↓mgA_2, ↓mgA_4, ↓mgA_6, ↓mgA_7, ↓mgA_9, ↓mgA_10, ↓mgA_12, ↓mgA_14, ↓mgA_15, ↓mgA_16, ↓mgA_17, ↓mgA_18, ↓mgA_19, ↓mgA_20, ↓mgA_21, ↓mgA_22, ↓mgA_23, ↓mgA_24, ↓mgA_25, ↓mgA_26, ↓mgA_27, ↓mgA_28, ↓mgA_29, ↓mgA_30, ↓mgA_31, ↓mgA_32, ↓mgA_33, ↓mgA_34, ↓mgA_35, ↓mgA_36, ↓mgA_37, ↓mgA_38, ↓mgA_39, ↓mgA_41, ↓mgA_42, ↓mgA_43, ↓mgA_44, ↓mgA_45, ↓mgA_46, ↓mpA_2, ↓mpA_4, ↓mpA_6, ↓mpA_7, ↓mpA_9, ↓mpA_10, ↓mpA_12, ↓mpA_14, ↓mpA_15, ↓mpA_16, ↓mpZ_17, ↓mpA_18, ↓mpZ_19, ↓mpA_20, ↓mpA_21, ↓mpA_22, ↓mpA_23, ↓mpA_24, ↓mpZ_25, ↓mpA_26, ↓mpA_27, ↓mpA_28, ↓mpA_29, ↓mpA_30, ↓mpA_31, ↓mpA_32, ↓mpA_33, ↓mpA_34, ↓mpZ_35, ↓mpA_36, ↓mpA_37, ↓mpA_38, ↓mpA_39, ↓mpA_41, ↓mpA_42, ↓mpZ_43, ↓mpA_44, ↓mpA_45, ↓mpA_46, he, cntF, Nat.add_zero]
  | succ d ih =>
    intro i k fu hd hfu
    obtain ⟨f, rfl⟩ : ∃ f, fu = f + 1 := ⟨fu - 1, by omega⟩
    have ih' := fun k => ih (i + 1) k f (by omega) (by omega)
    rw [fMd_manyOf_l8_S, fMd_manyOf_b8_E, cntF_S]
    by_cases c1 : σ 28 (40 * r + i) = x
    · simp (disch := (first | assumption | omega | decide | (simp only [mK_uI, mK_uP, mL_uI, mL_uP, mK_wI, mL_wI, mK_nA_e, mL_nA_e] <;> (first | assumption | omega)))) only [i3_le_t, i3_le_f, i3_lt_t, i3_lt_f, i3_eq_t, i3_eq_f, i3_add, i3_mul, i3_sub, i3_div, i3_dec, i3_m1, m1_i3, m1_eq, i3_ge0, m1_lt, i3_le_m1, ↓reduceIte, rZ_0, rZ_1, bdR_s, bdW_s, ifN_n, ifN_s, uS_n, uS_e, uS_d, ↓mgF_s, ↓mpF_s, ↓mgA_2, ↓mgA_4, ↓mgA_6, ↓mgA_7, ↓mgA_9, ↓mgA_10, ↓mgA_12, ↓mgA_14, ↓mgA_15, ↓mgA_16, ↓mgA_17, ↓mgA_18, ↓mgA_19, ↓mgA_20, ↓mgA_21, ↓mgA_22, ↓mgA_23, ↓mgA_24, ↓mgA_25, ↓mgA_26, ↓mgA_27, ↓mgA_28, ↓mgA_29, ↓mgA_30, ↓mgA_31, ↓mgA_32, ↓mgA_33, ↓mgA_34, ↓mgA_35, ↓mgA_36, ↓mgA_37, ↓mgA_38, ↓mgA_39, ↓mgA_41, ↓mgA_42, ↓mgA_43, ↓mgA_44, ↓mgA_45, ↓mgA_46, ↓mpA_2, ↓mpA_4, ↓mpA_6, ↓mpA_7, ↓mpA_9, ↓mpA_10, ↓mpA_12, ↓mpA_14, ↓mpA_15, ↓mpA_16, ↓mpZ_17, ↓mpA_18, ↓mpZ_19, ↓mpA_20, ↓mpA_21, ↓mpA_22, ↓mpA_23, ↓mpA_24, ↓mpZ_25, ↓mpA_26, ↓mpA_27, ↓mpA_28, ↓mpA_29, ↓mpA_30, ↓mpA_31, ↓mpA_32, ↓mpA_33, ↓mpA_34, ↓mpZ_35, ↓mpA_36, ↓mpA_37, ↓mpA_38, ↓mpA_39, ↓mpA_41, ↓mpA_42, ↓mpZ_43, ↓mpA_44, ↓mpA_45, ↓mpA_46, he, c1, show pL σ r x i = true from decide_eq_true c1, fMd_manyOf_j35_E, Nat.add_assoc, ih']
    · simp (disch := (first | assumption | omega | decide | (simp only [mK_uI, mK_uP, mL_uI, mL_uP, mK_wI, mL_wI, mK_nA_e, mL_nA_e] <;> (first | assumption | omega)))) only [i3_le_t, i3_le_f, i3_lt_t, i3_lt_f, i3_eq_t, i3_eq_f, i3_add, i3_mul, i3_sub, i3_div, i3_dec, i3_m1, m1_i3, m1_eq, i3_ge0, m1_lt, i3_le_m1, ↓reduceIte, rZ_0, rZ_1, bdR_s, bdW_s, ifN_n, ifN_s, uS_n, uS_e, uS_d, ↓mgF_s, ↓mpF_s, ↓mgA_2, ↓mgA_4, ↓mgA_6, ↓mgA_7, ↓mgA_9, ↓mgA_10, ↓mgA_12, ↓mgA_14, ↓mgA_15, ↓mgA_16, ↓mgA_17, ↓mgA_18, ↓mgA_19, ↓mgA_20, ↓mgA_21, ↓mgA_22, ↓mgA_23, ↓mgA_24, ↓mgA_25, ↓mgA_26, ↓mgA_27, ↓mgA_28, ↓mgA_29, ↓mgA_30, ↓mgA_31, ↓mgA_32, ↓mgA_33, ↓mgA_34, ↓mgA_35, ↓mgA_36, ↓mgA_37, ↓mgA_38, ↓mgA_39, ↓mgA_41, ↓mgA_42, ↓mgA_43, ↓mgA_44, ↓mgA_45, ↓mgA_46, ↓mpA_2, ↓mpA_4, ↓mpA_6, ↓mpA_7, ↓mpA_9, ↓mpA_10, ↓mpA_12, ↓mpA_14, ↓mpA_15, ↓mpA_16, ↓mpZ_17, ↓mpA_18, ↓mpZ_19, ↓mpA_20, ↓mpA_21, ↓mpA_22, ↓mpA_23, ↓mpA_24, ↓mpZ_25, ↓mpA_26, ↓mpA_27, ↓mpA_28, ↓mpA_29, ↓mpA_30, ↓mpA_31, ↓mpA_32, ↓mpA_33, ↓mpA_34, ↓mpZ_35, ↓mpA_36, ↓mpA_37, ↓mpA_38, ↓mpA_39, ↓mpA_41, ↓mpA_42, ↓mpZ_43, ↓mpA_44, ↓mpA_45, ↓mpA_46, he, c1, show pL σ r x i = false from decide_eq_false c1, Bool.false_eq_true, fMd_manyOf_j35_E, Nat.add_assoc, ih', Nat.add_zero, Nat.zero_add]
end RM

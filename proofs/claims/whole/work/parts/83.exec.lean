set_option maxRecDepth 100000
/-! numbers: Int32 as small natural numbers -/
abbrev nn (k : Nat) : Int32 := Int32.ofNat k
theorem nn_lt {a b : Nat} (ha : a < 2 ^ 31) (hb : b < 2 ^ 31) : nn a < nn b ↔ a < b := Int32.ofNat_lt_iff_lt ha hb
theorem nn_le {a b : Nat} (ha : a < 2 ^ 31) (hb : b < 2 ^ 31) : nn a ≤ nn b ↔ a ≤ b := Int32.ofNat_le_iff_le ha hb
theorem nn_inj {a b : Nat} (ha : a < 2 ^ 31) (hb : b < 2 ^ 31) : nn a = nn b ↔ a = b := by
  constructor
  · intro h
    have h1 := congrArg Int32.toNatClampNeg h
    rwa [Int32.toNatClampNeg_ofNat_of_lt ha, Int32.toNatClampNeg_ofNat_of_lt hb] at h1
  · intro h; rw [h]
theorem nn_add (a b : Nat) : nn a + nn b = nn (a + b) := (Int32.ofNat_add a b).symm
theorem nn_mul (a b : Nat) : nn a * nn b = nn (a * b) := (Int32.ofNat_mul a b).symm
theorem nn_sub {a b : Nat} (h : b ≤ a) : nn a - nn b = nn (a - b) := (Int32.ofNat_sub a b h).symm
theorem nn_nat {a : Nat} (h : a < 2 ^ 31) : (nn a).toNatClampNeg = a := Int32.toNatClampNeg_ofNat_of_lt h
theorem nn_nn {a : Nat} (h : a < 2 ^ 31) : ¬ nn a < 0 := fun z => absurd ((nn_lt h (by decide)).mp z) (Nat.not_lt_zero a)
theorem nn_pos {a : Nat} (h : a < 2 ^ 31) : (0 : Int32) ≤ nn a := (nn_le (by decide) h).mpr (Nat.zero_le a)
theorem nn_ne1 {a : Nat} (h : a < 2 ^ 31) : nn a ≠ -1 := fun z => by
  have h1 := nn_nn h
  rw [z] at h1
  exact h1 (by decide)
theorem nn_of {x : Int32} (h : (0 : Int32) ≤ x) : x = nn x.toNatClampNeg := by
  have h0 : 0 ≤ x.toInt := by
    have := Int32.le_iff_toInt_le.mp h
    simpa using this
  apply Int32.toInt_inj.mp
  rw [Int32.toInt_ofNat_of_lt (Int32.toNatClampNeg_lt x)]
  show x.toInt = (x.toInt.toNat : Int)
  omega
theorem nn_big (x : Int32) : x.toNatClampNeg < 2 ^ 31 := Int32.toNatClampNeg_lt x
theorem i_cases (x : Int32) : x < 0 ∨ ∃ k : Nat, k < 2 ^ 31 ∧ x = nn k := by
  by_cases h : x < 0
  · exact Or.inl h
  · refine Or.inr ⟨x.toNatClampNeg, nn_big x, nn_of ?_⟩
    exact Int32.not_lt.mp h
/-! the pure words, where their facts are known -/
section EX
variable {ω : Type} {M : Mm} {σ : Sg} {a kd fid n bd k : Nat}
theorem rk_s {f : Nat → Option ω} (h : mK M a = kd) : rk kd (some a) M f = f a := if_pos h
theorem fgI_s {f : Int32 → Option ω} (h : mK M a = kd) : fgI kd fid (some a) M f = f (mI M fid a 0) := if_pos h
theorem fgR_s {f : Option Nat → Option ω} (h : mK M a = kd) : fgR kd fid (some a) M f = f (mP M fid a 0) := if_pos h
theorem fpI_s {v : Int32} {f : Mm → Option ω} (h : mK M a = kd) : fpI kd fid (some a) v M f = f (uI M fid a 0 v) := if_pos h
theorem fpR_s {v : Option Nat} {f : Mm → Option ω} (h : mK M a = kd) : fpR kd fid (some a) v M f = f (uP M fid a 0 v) := if_pos h
theorem fpZ_s {v : Int32} {f : Mm → Option ω} (h : mK M a = kd) (hv : v = 0 ∨ v = 1) : fpZ kd fid (some a) v M f = f (uI M fid a 0 v) := if_pos ⟨h, hv⟩
theorem no_out {j L : Nat} (hb : j < 2 ^ 31) (hl : j < L) : ¬ (nn j < 0 ∨ L ≤ (nn j).toNatClampNeg) := by
  rintro (h | h)
  · exact nn_nn hb h
  · rw [nn_nat hb] at h; exact absurd hl (Nat.not_lt.mpr h)
theorem alI_s {j : Nat} {f : Int32 → Option ω} (h : mK M a = kd) (hb : j < 2 ^ 31) (hl : j < mL M a) : alI kd (some a) (nn j) M f = f (mI M 0 a j) := by
  show (if mK M a = kd then (if nn j < 0 ∨ mL M a ≤ (nn j).toNatClampNeg then none else f (mI M 0 a (nn j).toNatClampNeg)) else none) = _
  rw [if_pos h, if_neg (no_out hb hl), nn_nat hb]
theorem alP_s {j : Nat} {f : Option Nat → Option ω} (h : mK M a = kd) (hb : j < 2 ^ 31) (hl : j < mL M a) : alP kd (some a) (nn j) M f = f (mP M 0 a j) := by
  show (if mK M a = kd then (if nn j < 0 ∨ mL M a ≤ (nn j).toNatClampNeg then none else f (mP M 0 a (nn j).toNatClampNeg)) else none) = _
  rw [if_pos h, if_neg (no_out hb hl), nn_nat hb]
theorem asI_s {j : Nat} {v : Int32} {f : Mm → Option ω} (h : mK M a = 21) (hb : j < 2 ^ 31) (hl : j < mL M a) : asI (some a) (nn j) v M f = f (uI M 0 a j v) := by
  show (if mK M a = 21 then (if nn j < 0 ∨ mL M a ≤ (nn j).toNatClampNeg then none else f (uI M 0 a (nn j).toNatClampNeg v)) else none) = _
  rw [if_pos h, if_neg (no_out hb hl), nn_nat hb]
theorem asB_s {j : Nat} {v : Int32} {f : Mm → Option ω} (h : mK M a = 20) (hb : j < 2 ^ 31) (hl : j < mL M a) : asB (some a) (nn j) v M f = f (uI M 0 a j v.toInt8.toInt32) := by
  show (if mK M a = 20 then (if nn j < 0 ∨ mL M a ≤ (nn j).toNatClampNeg then none else f (uI M 0 a (nn j).toNatClampNeg v.toInt8.toInt32)) else none) = _
  rw [if_pos h, if_neg (no_out hb hl), nn_nat hb]
theorem asZ_s {j : Nat} {v : Int32} {f : Mm → Option ω} (h : mK M a = 22) (hv : v = 0 ∨ v = 1) (hb : j < 2 ^ 31) (hl : j < mL M a) : asZ (some a) (nn j) v M f = f (uI M 0 a j v) := by
  show (if mK M a = 22 ∧ (v = 0 ∨ v = 1) then (if nn j < 0 ∨ mL M a ≤ (nn j).toNatClampNeg then none else f (uI M 0 a (nn j).toNatClampNeg v)) else none) = _
  rw [if_pos ⟨h, hv⟩, if_neg (no_out hb hl), nn_nat hb]
theorem asP_s {j : Nat} {v : Option Nat} {f : Mm → Option ω} (h : mK M a = kd) (hv : pok kd v M = true) (hb : j < 2 ^ 31) (hl : j < mL M a) : asP kd (some a) (nn j) v M f = f (uP M 0 a j v) := by
  show (if mK M a = kd ∧ pok kd v M = true then (if nn j < 0 ∨ mL M a ≤ (nn j).toNatClampNeg then none else f (uP M 0 a (nn j).toNatClampNeg v)) else none) = _
  rw [if_pos ⟨h, hv⟩, if_neg (no_out hb hl), nn_nat hb]
theorem aln_s {f : Int32 → Option ω} (h1 : 20 ≤ mK M a) (h2 : mK M a ≤ 25) : aln (some a) M f = f (nn (mL M a)) := if_pos ⟨h1, h2⟩
theorem nwA_s {j : Nat} {f : Option Nat → Mm → Nat → Option ω} (hb : j < 2 ^ 31) (hj : j ≤ bd) : nwA kd bd (nn j) M n f = f (some n) (nA M n kd j) (n + 1) := by
  show (if nn j < 0 ∨ bd < (nn j).toNatClampNeg then none else f (some n) (nA M n kd (nn j).toNatClampNeg) (n + 1)) = _
  rw [nn_nat hb, if_neg (fun h => h.elim (nn_nn hb) (fun z => absurd hj (Nat.not_le.mpr z)))]
theorem mgA_s {j : Nat} {f : Int32 → Option ω} (hb : j < 2 ^ 31) (hl : j < mlen k) : mgA k (nn j) σ f = f (σ k j) := by
  show (if nn j < 0 ∨ mlen k ≤ (nn j).toNatClampNeg then none else f (σ k (nn j).toNatClampNeg)) = _
  rw [if_neg (no_out hb hl), nn_nat hb]
theorem mpA_s {j : Nat} {v : Int32} {f : Sg → Option ω} (hb : j < 2 ^ 31) (hl : j < mlen k) : mpA k (nn j) v σ f = f (uS σ k j v) := by
  show (if nn j < 0 ∨ mlen k ≤ (nn j).toNatClampNeg then none else f (uS σ k (nn j).toNatClampNeg v)) = _
  rw [if_neg (no_out hb hl), nn_nat hb]
theorem mpZ_s {j : Nat} {v : Int32} {f : Sg → Option ω} (hv : v = 0 ∨ v = 1) (hb : j < 2 ^ 31) (hl : j < mlen k) : mpZ k (nn j) v σ f = f (uS σ k j v) := by
  show (if v = 0 ∨ v = 1 then (if nn j < 0 ∨ mlen k ≤ (nn j).toNatClampNeg then none else f (uS σ k (nn j).toNatClampNeg v)) else none) = _
  rw [if_pos hv, if_neg (no_out hb hl), nn_nat hb]
theorem rZ_s {v : Int32} {x : Option ω} (hv : v = 0 ∨ v = 1) : rZ v x = x := if_pos hv
theorem scl_s {xs : Nat → Int32} {L j : Nat} {f : Int32 → Option ω} (hb : j < 2 ^ 31) (hl : j < L) : scl xs L (nn j) f = f (xs j) := by
  show (if nn j < 0 ∨ L ≤ (nn j).toNatClampNeg then none else f (xs (nn j).toNatClampNeg)) = _
  rw [if_neg (no_out hb hl), nn_nat hb]
end EX

set_option maxRecDepth 100000
/-! numbers -/
section I3
variable {a b k : Nat}
theorem i3_le_t (h : a ≤ b) (hb : b < 2147483648) : (i3 a ≤ i3 b) = True := eq_true ((nn_le (Nat.lt_of_le_of_lt h hb) hb).mpr h)
theorem i3_le_f (h : b < a) (ha : a < 2147483648) : (i3 a ≤ i3 b) = False := eq_false fun z => absurd ((nn_le ha (Nat.lt_trans h ha)).mp z) (Nat.not_le.mpr h)
theorem i3_lt_t (h : a < b) (hb : b < 2147483648) : (i3 a < i3 b) = True := eq_true ((nn_lt (Nat.lt_trans h hb) hb).mpr h)
theorem i3_lt_f (h : b ≤ a) (ha : a < 2147483648) : (i3 a < i3 b) = False := eq_false fun z => absurd ((nn_lt ha (Nat.lt_of_le_of_lt h ha)).mp z) (Nat.not_lt.mpr h)
theorem i3_inj (ha : a < 2147483648) (hb : b < 2147483648) : i3 a = i3 b ↔ a = b := nn_inj ha hb
theorem i3_eq_t (h : a = b) : (i3 a = i3 b) = True := eq_true (by rw [h])
theorem i3_eq_f (h : a ≠ b) (ha : a < 2147483648) (hb : b < 2147483648) : (i3 a = i3 b) = False := eq_false fun z => h ((nn_inj ha hb).mp z)
theorem i3_le (ha : a < 2147483648) (hb : b < 2147483648) : (i3 a ≤ i3 b) ↔ a ≤ b := nn_le ha hb
theorem i3_lt (ha : a < 2147483648) (hb : b < 2147483648) : (i3 a < i3 b) ↔ a < b := nn_lt ha hb
theorem i3_add (a b : Nat) : i3 a + i3 b = i3 (a + b) := nn_add a b
theorem i3_mul (a b : Nat) : i3 a * i3 b = i3 (a * b) := nn_mul a b
theorem i3_sub (h : b ≤ a) : i3 a - i3 b = i3 (a - b) := nn_sub h
theorem i3_dec (h : 0 < k) : i3 k + m1 = i3 (k - 1) := by
  obtain ⟨j, rfl⟩ : ∃ j, k = j + 1 := ⟨k - 1, by omega⟩
  show Int32.ofNat (j + 1) + (-1) = Int32.ofNat (j + 1 - 1)
  rw [Nat.add_sub_cancel, Int32.ofNat_add, Int32.add_assoc]
  exact Int32.add_zero _
theorem i3_m1 (h : k < 2147483648) : (i3 k = m1) = False := eq_false (nn_ne1 h)
theorem m1_i3 (h : k < 2147483648) : (m1 = i3 k) = False := eq_false fun z => nn_ne1 h z.symm
theorem m1_eq : (m1 = m1) = True := eq_true rfl
theorem m1_lt0 : m1 < i3 0 := by decide
theorem m1_lt (h : k < 2147483648) : (m1 < i3 k) = True := eq_true (Int32.lt_of_lt_of_le m1_lt0 (nn_pos h))
theorem i3_le_m1 (h : k < 2147483648) : (i3 k ≤ m1) = False := eq_false fun z => by
  have h1 := Int32.lt_of_lt_of_le m1_lt0 (nn_pos h)
  exact absurd z (Int32.not_le.mpr h1)
theorem i3_ge0 (h : k < 2147483648) : (i3 k < i3 0) = False := eq_false (nn_nn h)
theorem i3_dec0 : i3 0 + m1 = m1 := by decide
theorem i3_dec1 : i3 0 - i3 1 = m1 := by decide
theorem i3_div (ha : a < 2147483648) (hb : b < 2147483648) : i3 a / i3 b = i3 (a / b) := nn_div ha hb
theorem i3_nat (h : k < 2147483648) : (i3 k).toNatClampNeg = k := nn_nat h
theorem i3_cases (x : Int32) : x < i3 0 ∨ ∃ k : Nat, k < 2147483648 ∧ x = i3 k := i_cases x
theorem i3_small (h : k < 128) : (i3 k).toInt8.toInt32 = i3 k := by
  have h1 : ((List.range 128).all fun k => decide ((i3 k).toInt8.toInt32 = i3 k)) = true := by decide +kernel
  exact of_decide_eq_true (List.all_eq_true.mp h1 k (List.mem_range.mpr h))
theorem FU_S {k : Nat} (h : k < 100000) : k < FU := h
end I3
theorem nwO_s {ω : Type} {kd : Nat} {M : Mm} {n : Nat} {f : Option Nat → Mm → Nat → Option ω} : nwO kd M n f = f (some n) (nA M n kd 0) (n + 1) := rfl
theorem mK_nA_e (M : Mm) (a k l : Nat) : mK (nA M a k l) a = k := if_pos rfl
theorem mL_nA_e (M : Mm) (a k l : Nat) : mL (nA M a k l) a = l := if_pos rfl
/-! a whole row or field laid anew -/
def wI (M : Mm) (c a : Nat) (g : Nat → Int32) : Mm := (fun c' a' j => if c' = c ∧ a' = a then g j else M.1 c' a' j, M.2)
theorem mI_wI (M : Mm) (c a : Nat) (g : Nat → Int32) (c' a' j' : Nat) : mI (wI M c a g) c' a' j' = if c' = c ∧ a' = a then g j' else mI M c' a' j' := rfl
theorem mP_wI (M : Mm) (c a : Nat) (g : Nat → Int32) (c' a' j' : Nat) : mP (wI M c a g) c' a' j' = mP M c' a' j' := rfl
theorem mK_wI (M : Mm) (c a : Nat) (g : Nat → Int32) (a' : Nat) : mK (wI M c a g) a' = mK M a' := rfl
theorem mL_wI (M : Mm) (c a : Nat) (g : Nat → Int32) (a' : Nat) : mL (wI M c a g) a' = mL M a' := rfl
theorem mI_uI_e (M : Mm) (c a j : Nat) (v : Int32) : mI (uI M c a j v) c a j = v := if_pos ⟨rfl, rfl, rfl⟩
theorem mI_uI_c (M : Mm) (a j : Nat) (v : Int32) {c c' : Nat} (h : c' ≠ c) (a' j' : Nat) : mI (uI M c a j v) c' a' j' = mI M c' a' j' := if_neg fun z => h z.1
theorem mI_uI_a (M : Mm) (c j : Nat) (v : Int32) {a a' : Nat} (h : a' ≠ a) (c' j' : Nat) : mI (uI M c a j v) c' a' j' = mI M c' a' j' := if_neg fun z => h z.2.1
theorem mI_uI_j (M : Mm) (c a : Nat) (v : Int32) {j j' : Nat} (h : j' ≠ j) (c' a' : Nat) : mI (uI M c a j v) c' a' j' = mI M c' a' j' := if_neg fun z => h z.2.2
def sF (σ : Sg) (k : Nat) (g : Nat → Int32) : Sg := fun k' => if k' = k then g else σ k'
theorem sF_e (σ : Sg) (k : Nat) (g : Nat → Int32) : sF σ k g k = g := if_pos rfl
theorem sF_n (σ : Sg) (g : Nat → Int32) {k k' : Nat} (h : k' ≠ k) : sF σ k g k' = σ k' := if_neg h
theorem uS_n (σ : Sg) (j : Nat) (v : Int32) {k k' : Nat} (h : k' ≠ k) : uS σ k j v k' = σ k' := funext fun j' => if_neg fun z => h z.1
theorem uS_e (σ : Sg) (k j : Nat) (v : Int32) : uS σ k j v k j = v := if_pos ⟨rfl, rfl⟩
theorem uS_d (σ : Sg) (k j : Nat) (v : Int32) {j' : Nat} (h : j' ≠ j) : uS σ k j v k j' = σ k j' := if_neg fun z => h z.2
/-! the pure words, at numbers as i3 -/
section EX
variable {ω α β : Type} {M : Mm} {σ : Sg} {a kd fid n bd k : Nat}
theorem bdR_s {v : α} {f : α → Option ω} : bdR (some v) f = f v := rfl
theorem bdW_s {v : α} {w : β} {f : α → β → Option ω} : bdW (some (v, w)) f = f v w := rfl
theorem ifN_n {A B : Option ω} : ifN none A B = A := rfl
theorem ifN_s {A B : Option ω} : ifN (some a) A B = B := rfl
theorem rZ_0 {x : Option ω} : rZ (i3 0) x = x := if_pos (Or.inl rfl)
theorem rZ_1 {x : Option ω} : rZ (i3 1) x = x := if_pos (Or.inr rfl)
theorem fpZ_0 {f : Mm → Option ω} (h : mK M a = kd) : fpZ kd fid (some a) (i3 0) M f = f (uI M fid a 0 (i3 0)) := fpZ_s h (Or.inl rfl)
theorem fpZ_1 {f : Mm → Option ω} (h : mK M a = kd) : fpZ kd fid (some a) (i3 1) M f = f (uI M fid a 0 (i3 1)) := fpZ_s h (Or.inr rfl)
theorem alI_i {j : Nat} {f : Int32 → Option ω} (h : mK M a = kd) (hl : j < mL M a) (hb : j < 2147483648) : alI kd (some a) (i3 j) M f = f (mI M 0 a j) := alI_s h hb hl
theorem alP_i {j : Nat} {f : Option Nat → Option ω} (h : mK M a = kd) (hl : j < mL M a) (hb : j < 2147483648) : alP kd (some a) (i3 j) M f = f (mP M 0 a j) := alP_s h hb hl
theorem asI_i {j : Nat} {v : Int32} {f : Mm → Option ω} (h : mK M a = 21) (hl : j < mL M a) (hb : j < 2147483648) : asI (some a) (i3 j) v M f = f (uI M 0 a j v) := asI_s h hb hl
theorem asB_i {j : Nat} {v : Int32} {f : Mm → Option ω} (h : mK M a = 20) (hl : j < mL M a) (hb : j < 2147483648) : asB (some a) (i3 j) v M f = f (uI M 0 a j v.toInt8.toInt32) := asB_s h hb hl
theorem asZ_0 {j : Nat} {f : Mm → Option ω} (h : mK M a = 22) (hl : j < mL M a) (hb : j < 2147483648) : asZ (some a) (i3 j) (i3 0) M f = f (uI M 0 a j (i3 0)) := asZ_s h (Or.inl rfl) hb hl
theorem asZ_1 {j : Nat} {f : Mm → Option ω} (h : mK M a = 22) (hl : j < mL M a) (hb : j < 2147483648) : asZ (some a) (i3 j) (i3 1) M f = f (uI M 0 a j (i3 1)) := asZ_s h (Or.inr rfl) hb hl
theorem aln_i {f : Int32 → Option ω} (h : mK M a = kd) (h1 : 20 ≤ kd) (h2 : kd ≤ 25) : aln (some a) M f = f (i3 (mL M a)) := aln_s (by rw [h]; exact h1) (by rw [h]; exact h2)
theorem fca_s {f : Option Nat → Option ω} (h : mK M a = kd) : fca kd (some a) M f = f (some a) := if_pos h
theorem fca_n {f : Option Nat → Option ω} : fca kd none M f = f none := rfl
theorem mgF_s {f : Int32 → Option ω} : mgF k σ f = f (σ k 0) := rfl
theorem mpF_s {v : Int32} {f : Sg → Option ω} : mpF k v σ f = f (uS σ k 0 v) := rfl
theorem mgA_i {j : Nat} {f : Int32 → Option ω} (hl : j < mlen k) : mgA k (i3 j) σ f = f (σ k j) := by
  have hb : mlen k ≤ 8040 := by unfold mlen; split <;> decide
  exact mgA_s (Nat.lt_trans (Nat.lt_of_lt_of_le hl hb) (by decide)) hl
theorem mpA_i {j : Nat} {v : Int32} {f : Sg → Option ω} (hl : j < mlen k) : mpA k (i3 j) v σ f = f (uS σ k j v) := by
  have hb : mlen k ≤ 8040 := by unfold mlen; split <;> decide
  exact mpA_s (Nat.lt_trans (Nat.lt_of_lt_of_le hl hb) (by decide)) hl
theorem mpZ_i {j : Nat} {v : Int32} {f : Sg → Option ω} (hl : j < mlen k) (hv : v = i3 0 ∨ v = i3 1) : mpZ k (i3 j) v σ f = f (uS σ k j v) := by
  have hb : mlen k ≤ 8040 := by unfold mlen; split <;> decide
  exact mpZ_s hv (Nat.lt_trans (Nat.lt_of_lt_of_le hl hb) (by decide)) hl
theorem bdC_li {v : α} {M1 : Mm} {n1 : Nat} {f : α → Mm → Nat → Option ((β ⊕ Nat) × Mm × Nat)} (h : n ≤ n1) : bdC (some (.inl v, M1, n1)) n f = f v M1 n1 := if_pos h
theorem bdC_ri {k : Nat} {M1 : Mm} {n1 : Nat} {f : α → Mm → Nat → Option ((β ⊕ Nat) × Mm × Nat)} (h : n ≤ n1) : bdC (some ((.inr k : α ⊕ Nat), M1, n1)) n f = some (.inr k, M1, n1) := if_pos h
end EX
theorem mgA_2 {ω : Type} {σ : Sg} {j : Nat} {f : Int32 → Option ω} (hl : j < 40) : mgA 2 (i3 j) σ f = f (σ 2 j) := mgA_i hl
theorem mpA_2 {ω : Type} {σ : Sg} {j : Nat} {v : Int32} {f : Sg → Option ω} (hl : j < 40) : mpA 2 (i3 j) v σ f = f (uS σ 2 j v) := mpA_i hl
theorem mgA_4 {ω : Type} {σ : Sg} {j : Nat} {f : Int32 → Option ω} (hl : j < 40) : mgA 4 (i3 j) σ f = f (σ 4 j) := mgA_i hl
theorem mpA_4 {ω : Type} {σ : Sg} {j : Nat} {v : Int32} {f : Sg → Option ω} (hl : j < 40) : mpA 4 (i3 j) v σ f = f (uS σ 4 j v) := mpA_i hl
theorem mgA_6 {ω : Type} {σ : Sg} {j : Nat} {f : Int32 → Option ω} (hl : j < 20) : mgA 6 (i3 j) σ f = f (σ 6 j) := mgA_i hl
theorem mpA_6 {ω : Type} {σ : Sg} {j : Nat} {v : Int32} {f : Sg → Option ω} (hl : j < 20) : mpA 6 (i3 j) v σ f = f (uS σ 6 j v) := mpA_i hl
theorem mgA_7 {ω : Type} {σ : Sg} {j : Nat} {f : Int32 → Option ω} (hl : j < 20) : mgA 7 (i3 j) σ f = f (σ 7 j) := mgA_i hl
theorem mpA_7 {ω : Type} {σ : Sg} {j : Nat} {v : Int32} {f : Sg → Option ω} (hl : j < 20) : mpA 7 (i3 j) v σ f = f (uS σ 7 j v) := mpA_i hl
theorem mgA_9 {ω : Type} {σ : Sg} {j : Nat} {f : Int32 → Option ω} (hl : j < 201) : mgA 9 (i3 j) σ f = f (σ 9 j) := mgA_i hl
theorem mpA_9 {ω : Type} {σ : Sg} {j : Nat} {v : Int32} {f : Sg → Option ω} (hl : j < 201) : mpA 9 (i3 j) v σ f = f (uS σ 9 j v) := mpA_i hl
theorem mgA_10 {ω : Type} {σ : Sg} {j : Nat} {f : Int32 → Option ω} (hl : j < 8040) : mgA 10 (i3 j) σ f = f (σ 10 j) := mgA_i hl
theorem mpA_10 {ω : Type} {σ : Sg} {j : Nat} {v : Int32} {f : Sg → Option ω} (hl : j < 8040) : mpA 10 (i3 j) v σ f = f (uS σ 10 j v) := mpA_i hl
theorem mgA_12 {ω : Type} {σ : Sg} {j : Nat} {f : Int32 → Option ω} (hl : j < 3) : mgA 12 (i3 j) σ f = f (σ 12 j) := mgA_i hl
theorem mpA_12 {ω : Type} {σ : Sg} {j : Nat} {v : Int32} {f : Sg → Option ω} (hl : j < 3) : mpA 12 (i3 j) v σ f = f (uS σ 12 j v) := mpA_i hl
theorem mgA_14 {ω : Type} {σ : Sg} {j : Nat} {f : Int32 → Option ω} (hl : j < 6) : mgA 14 (i3 j) σ f = f (σ 14 j) := mgA_i hl
theorem mpA_14 {ω : Type} {σ : Sg} {j : Nat} {v : Int32} {f : Sg → Option ω} (hl : j < 6) : mpA 14 (i3 j) v σ f = f (uS σ 14 j v) := mpA_i hl
theorem mgA_15 {ω : Type} {σ : Sg} {j : Nat} {f : Int32 → Option ω} (hl : j < 6) : mgA 15 (i3 j) σ f = f (σ 15 j) := mgA_i hl
theorem mpA_15 {ω : Type} {σ : Sg} {j : Nat} {v : Int32} {f : Sg → Option ω} (hl : j < 6) : mpA 15 (i3 j) v σ f = f (uS σ 15 j v) := mpA_i hl
theorem mgA_16 {ω : Type} {σ : Sg} {j : Nat} {f : Int32 → Option ω} (hl : j < 6) : mgA 16 (i3 j) σ f = f (σ 16 j) := mgA_i hl
theorem mpA_16 {ω : Type} {σ : Sg} {j : Nat} {v : Int32} {f : Sg → Option ω} (hl : j < 6) : mpA 16 (i3 j) v σ f = f (uS σ 16 j v) := mpA_i hl
theorem mgA_17 {ω : Type} {σ : Sg} {j : Nat} {f : Int32 → Option ω} (hl : j < 12) : mgA 17 (i3 j) σ f = f (σ 17 j) := mgA_i hl
theorem mpZ_17 {ω : Type} {σ : Sg} {j : Nat} {v : Int32} {f : Sg → Option ω} (hl : j < 12) (hv : v = i3 0 ∨ v = i3 1) : mpZ 17 (i3 j) v σ f = f (uS σ 17 j v) := mpZ_i hl hv
theorem mgA_18 {ω : Type} {σ : Sg} {j : Nat} {f : Int32 → Option ω} (hl : j < 2) : mgA 18 (i3 j) σ f = f (σ 18 j) := mgA_i hl
theorem mpA_18 {ω : Type} {σ : Sg} {j : Nat} {v : Int32} {f : Sg → Option ω} (hl : j < 2) : mpA 18 (i3 j) v σ f = f (uS σ 18 j v) := mpA_i hl
theorem mgA_19 {ω : Type} {σ : Sg} {j : Nat} {f : Int32 → Option ω} (hl : j < 180) : mgA 19 (i3 j) σ f = f (σ 19 j) := mgA_i hl
theorem mpZ_19 {ω : Type} {σ : Sg} {j : Nat} {v : Int32} {f : Sg → Option ω} (hl : j < 180) (hv : v = i3 0 ∨ v = i3 1) : mpZ 19 (i3 j) v σ f = f (uS σ 19 j v) := mpZ_i hl hv
theorem mgA_20 {ω : Type} {σ : Sg} {j : Nat} {f : Int32 → Option ω} (hl : j < 180) : mgA 20 (i3 j) σ f = f (σ 20 j) := mgA_i hl
theorem mpA_20 {ω : Type} {σ : Sg} {j : Nat} {v : Int32} {f : Sg → Option ω} (hl : j < 180) : mpA 20 (i3 j) v σ f = f (uS σ 20 j v) := mpA_i hl
theorem mgA_21 {ω : Type} {σ : Sg} {j : Nat} {f : Int32 → Option ω} (hl : j < 180) : mgA 21 (i3 j) σ f = f (σ 21 j) := mgA_i hl
theorem mpA_21 {ω : Type} {σ : Sg} {j : Nat} {v : Int32} {f : Sg → Option ω} (hl : j < 180) : mpA 21 (i3 j) v σ f = f (uS σ 21 j v) := mpA_i hl
theorem mgA_22 {ω : Type} {σ : Sg} {j : Nat} {f : Int32 → Option ω} (hl : j < 1080) : mgA 22 (i3 j) σ f = f (σ 22 j) := mgA_i hl
theorem mpA_22 {ω : Type} {σ : Sg} {j : Nat} {v : Int32} {f : Sg → Option ω} (hl : j < 1080) : mpA 22 (i3 j) v σ f = f (uS σ 22 j v) := mpA_i hl
theorem mgA_23 {ω : Type} {σ : Sg} {j : Nat} {f : Int32 → Option ω} (hl : j < 900) : mgA 23 (i3 j) σ f = f (σ 23 j) := mgA_i hl
theorem mpA_23 {ω : Type} {σ : Sg} {j : Nat} {v : Int32} {f : Sg → Option ω} (hl : j < 900) : mpA 23 (i3 j) v σ f = f (uS σ 23 j v) := mpA_i hl
theorem mgA_24 {ω : Type} {σ : Sg} {j : Nat} {f : Int32 → Option ω} (hl : j < 1800) : mgA 24 (i3 j) σ f = f (σ 24 j) := mgA_i hl
theorem mpA_24 {ω : Type} {σ : Sg} {j : Nat} {v : Int32} {f : Sg → Option ω} (hl : j < 1800) : mpA 24 (i3 j) v σ f = f (uS σ 24 j v) := mpA_i hl
theorem mgA_25 {ω : Type} {σ : Sg} {j : Nat} {f : Int32 → Option ω} (hl : j < 900) : mgA 25 (i3 j) σ f = f (σ 25 j) := mgA_i hl
theorem mpZ_25 {ω : Type} {σ : Sg} {j : Nat} {v : Int32} {f : Sg → Option ω} (hl : j < 900) (hv : v = i3 0 ∨ v = i3 1) : mpZ 25 (i3 j) v σ f = f (uS σ 25 j v) := mpZ_i hl hv
theorem mgA_26 {ω : Type} {σ : Sg} {j : Nat} {f : Int32 → Option ω} (hl : j < 2) : mgA 26 (i3 j) σ f = f (σ 26 j) := mgA_i hl
theorem mpA_26 {ω : Type} {σ : Sg} {j : Nat} {v : Int32} {f : Sg → Option ω} (hl : j < 2) : mpA 26 (i3 j) v σ f = f (uS σ 26 j v) := mpA_i hl
theorem mgA_27 {ω : Type} {σ : Sg} {j : Nat} {f : Int32 → Option ω} (hl : j < 80) : mgA 27 (i3 j) σ f = f (σ 27 j) := mgA_i hl
theorem mpA_27 {ω : Type} {σ : Sg} {j : Nat} {v : Int32} {f : Sg → Option ω} (hl : j < 80) : mpA 27 (i3 j) v σ f = f (uS σ 27 j v) := mpA_i hl
theorem mgA_28 {ω : Type} {σ : Sg} {j : Nat} {f : Int32 → Option ω} (hl : j < 80) : mgA 28 (i3 j) σ f = f (σ 28 j) := mgA_i hl
theorem mpA_28 {ω : Type} {σ : Sg} {j : Nat} {v : Int32} {f : Sg → Option ω} (hl : j < 80) : mpA 28 (i3 j) v σ f = f (uS σ 28 j v) := mpA_i hl
theorem mgA_29 {ω : Type} {σ : Sg} {j : Nat} {f : Int32 → Option ω} (hl : j < 80) : mgA 29 (i3 j) σ f = f (σ 29 j) := mgA_i hl
theorem mpA_29 {ω : Type} {σ : Sg} {j : Nat} {v : Int32} {f : Sg → Option ω} (hl : j < 80) : mpA 29 (i3 j) v σ f = f (uS σ 29 j v) := mpA_i hl
theorem mgA_30 {ω : Type} {σ : Sg} {j : Nat} {f : Int32 → Option ω} (hl : j < 80) : mgA 30 (i3 j) σ f = f (σ 30 j) := mgA_i hl
theorem mpA_30 {ω : Type} {σ : Sg} {j : Nat} {v : Int32} {f : Sg → Option ω} (hl : j < 80) : mpA 30 (i3 j) v σ f = f (uS σ 30 j v) := mpA_i hl
theorem mgA_31 {ω : Type} {σ : Sg} {j : Nat} {f : Int32 → Option ω} (hl : j < 80) : mgA 31 (i3 j) σ f = f (σ 31 j) := mgA_i hl
theorem mpA_31 {ω : Type} {σ : Sg} {j : Nat} {v : Int32} {f : Sg → Option ω} (hl : j < 80) : mpA 31 (i3 j) v σ f = f (uS σ 31 j v) := mpA_i hl
theorem mgA_32 {ω : Type} {σ : Sg} {j : Nat} {f : Int32 → Option ω} (hl : j < 80) : mgA 32 (i3 j) σ f = f (σ 32 j) := mgA_i hl
theorem mpA_32 {ω : Type} {σ : Sg} {j : Nat} {v : Int32} {f : Sg → Option ω} (hl : j < 80) : mpA 32 (i3 j) v σ f = f (uS σ 32 j v) := mpA_i hl
theorem mgA_33 {ω : Type} {σ : Sg} {j : Nat} {f : Int32 → Option ω} (hl : j < 80) : mgA 33 (i3 j) σ f = f (σ 33 j) := mgA_i hl
theorem mpA_33 {ω : Type} {σ : Sg} {j : Nat} {v : Int32} {f : Sg → Option ω} (hl : j < 80) : mpA 33 (i3 j) v σ f = f (uS σ 33 j v) := mpA_i hl
theorem mgA_34 {ω : Type} {σ : Sg} {j : Nat} {f : Int32 → Option ω} (hl : j < 1600) : mgA 34 (i3 j) σ f = f (σ 34 j) := mgA_i hl
theorem mpA_34 {ω : Type} {σ : Sg} {j : Nat} {v : Int32} {f : Sg → Option ω} (hl : j < 1600) : mpA 34 (i3 j) v σ f = f (uS σ 34 j v) := mpA_i hl
theorem mgA_35 {ω : Type} {σ : Sg} {j : Nat} {f : Int32 → Option ω} (hl : j < 402) : mgA 35 (i3 j) σ f = f (σ 35 j) := mgA_i hl
theorem mpZ_35 {ω : Type} {σ : Sg} {j : Nat} {v : Int32} {f : Sg → Option ω} (hl : j < 402) (hv : v = i3 0 ∨ v = i3 1) : mpZ 35 (i3 j) v σ f = f (uS σ 35 j v) := mpZ_i hl hv
theorem mgA_36 {ω : Type} {σ : Sg} {j : Nat} {f : Int32 → Option ω} (hl : j < 2) : mgA 36 (i3 j) σ f = f (σ 36 j) := mgA_i hl
theorem mpA_36 {ω : Type} {σ : Sg} {j : Nat} {v : Int32} {f : Sg → Option ω} (hl : j < 2) : mpA 36 (i3 j) v σ f = f (uS σ 36 j v) := mpA_i hl
theorem mgA_37 {ω : Type} {σ : Sg} {j : Nat} {f : Int32 → Option ω} (hl : j < 400) : mgA 37 (i3 j) σ f = f (σ 37 j) := mgA_i hl
theorem mpA_37 {ω : Type} {σ : Sg} {j : Nat} {v : Int32} {f : Sg → Option ω} (hl : j < 400) : mpA 37 (i3 j) v σ f = f (uS σ 37 j v) := mpA_i hl
theorem mgA_38 {ω : Type} {σ : Sg} {j : Nat} {f : Int32 → Option ω} (hl : j < 201) : mgA 38 (i3 j) σ f = f (σ 38 j) := mgA_i hl
theorem mpA_38 {ω : Type} {σ : Sg} {j : Nat} {v : Int32} {f : Sg → Option ω} (hl : j < 201) : mpA 38 (i3 j) v σ f = f (uS σ 38 j v) := mpA_i hl
theorem mgA_39 {ω : Type} {σ : Sg} {j : Nat} {f : Int32 → Option ω} (hl : j < 201) : mgA 39 (i3 j) σ f = f (σ 39 j) := mgA_i hl
theorem mpA_39 {ω : Type} {σ : Sg} {j : Nat} {v : Int32} {f : Sg → Option ω} (hl : j < 201) : mpA 39 (i3 j) v σ f = f (uS σ 39 j v) := mpA_i hl
theorem mgA_41 {ω : Type} {σ : Sg} {j : Nat} {f : Int32 → Option ω} (hl : j < 12) : mgA 41 (i3 j) σ f = f (σ 41 j) := mgA_i hl
theorem mpA_41 {ω : Type} {σ : Sg} {j : Nat} {v : Int32} {f : Sg → Option ω} (hl : j < 12) : mpA 41 (i3 j) v σ f = f (uS σ 41 j v) := mpA_i hl
theorem mgA_42 {ω : Type} {σ : Sg} {j : Nat} {f : Int32 → Option ω} (hl : j < 12) : mgA 42 (i3 j) σ f = f (σ 42 j) := mgA_i hl
theorem mpA_42 {ω : Type} {σ : Sg} {j : Nat} {v : Int32} {f : Sg → Option ω} (hl : j < 12) : mpA 42 (i3 j) v σ f = f (uS σ 42 j v) := mpA_i hl
theorem mgA_43 {ω : Type} {σ : Sg} {j : Nat} {f : Int32 → Option ω} (hl : j < 12) : mgA 43 (i3 j) σ f = f (σ 43 j) := mgA_i hl
theorem mpZ_43 {ω : Type} {σ : Sg} {j : Nat} {v : Int32} {f : Sg → Option ω} (hl : j < 12) (hv : v = i3 0 ∨ v = i3 1) : mpZ 43 (i3 j) v σ f = f (uS σ 43 j v) := mpZ_i hl hv
theorem mgA_44 {ω : Type} {σ : Sg} {j : Nat} {f : Int32 → Option ω} (hl : j < 108) : mgA 44 (i3 j) σ f = f (σ 44 j) := mgA_i hl
theorem mpA_44 {ω : Type} {σ : Sg} {j : Nat} {v : Int32} {f : Sg → Option ω} (hl : j < 108) : mpA 44 (i3 j) v σ f = f (uS σ 44 j v) := mpA_i hl
theorem mgA_45 {ω : Type} {σ : Sg} {j : Nat} {f : Int32 → Option ω} (hl : j < 4320) : mgA 45 (i3 j) σ f = f (σ 45 j) := mgA_i hl
theorem mpA_45 {ω : Type} {σ : Sg} {j : Nat} {v : Int32} {f : Sg → Option ω} (hl : j < 4320) : mpA 45 (i3 j) v σ f = f (uS σ 45 j v) := mpA_i hl
theorem mgA_46 {ω : Type} {σ : Sg} {j : Nat} {f : Int32 → Option ω} (hl : j < 12) : mgA 46 (i3 j) σ f = f (σ 46 j) := mgA_i hl
theorem mpA_46 {ω : Type} {σ : Sg} {j : Nat} {v : Int32} {f : Sg → Option ω} (hl : j < 12) : mpA 46 (i3 j) v σ f = f (uS σ 46 j v) := mpA_i hl

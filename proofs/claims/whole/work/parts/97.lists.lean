set_option maxRecDepth 100000
/-! lists -/
section LS
variable {ω : Type} {own : Nat → Nat} {M : Mm} {n l t len : Nat} {f : Nat → Nat}
theorem mP_mC (M : Mm) (a b sp dp m c' a' j' : Nat) : mP (mC M a b sp dp m) c' a' j' = if c' = 0 ∧ a' = b ∧ dp ≤ j' ∧ j' < dp + m then mP M 0 a (sp + (j' - dp)) else mP M c' a' j' := rfl
theorem mI_mC (M : Mm) (a b sp dp m c' a' j' : Nat) : mI (mC M a b sp dp m) c' a' j' = mI M c' a' j' := rfl
theorem mK_mC (M : Mm) (a b sp dp m a' : Nat) : mK (mC M a b sp dp m) a' = mK M a' := rfl
theorem mL_mC (M : Mm) (a b sp dp m a' : Nat) : mL (mC M a b sp dp m) a' = mL M a' := rfl
theorem acp_i {a b sp dp m : Nat} {g : Mm → Option ω} (ha : mK M a = 23) (hb : mK M b = 23) (h0 : 0 < mL M b) (h1 : sp + m ≤ mL M a) (h2 : dp + m ≤ mL M b) (l1 : mL M a ≤ 300) (l2 : mL M b ≤ 300) (hp : ∀ i, i < m → pok 23 (mP M 0 a (sp + i)) M = true) : acp (some a) (i3 sp) (some b) (i3 dp) (i3 m) M g = g (mC M a b sp dp m) := by
  have e1 : (i3 sp).toNatClampNeg = sp := i3_nat (by omega)
  have e2 : (i3 dp).toNatClampNeg = dp := i3_nat (by omega)
  have e3 : (i3 m).toNatClampNeg = m := i3_nat (by omega)
  show (if mK M a = 23 ∧ mK M b = 23 ∧ 0 < mL M b ∧ ¬ i3 sp < 0 ∧ ¬ i3 dp < 0 ∧ ¬ i3 m < 0 ∧ (i3 sp).toNatClampNeg + (i3 m).toNatClampNeg ≤ mL M a ∧ (i3 dp).toNatClampNeg + (i3 m).toNatClampNeg ≤ mL M b ∧ ((List.range (i3 m).toNatClampNeg).all fun i => pok 23 (mP M 0 a ((i3 sp).toNatClampNeg + i)) M) = true then g (mC M a b (i3 sp).toNatClampNeg (i3 dp).toNatClampNeg (i3 m).toNatClampNeg) else none) = _
  rw [e1, e2, e3, if_pos]
  refine ⟨ha, hb, h0, nn_nn (by omega), nn_nn (by omega), nn_nn (by omega), h1, h2, ?_⟩
  rw [List.all_eq_true]
  intro i hi
  exact hp i (List.mem_range.mp hi)
theorem pok_s {x : Nat} (h1 : 1 ≤ mK M x) (h2 : mK M x ≤ 12) : pok 23 (some x) M = true := by
  show (if (23 : Nat) = 24 then decide (mK M x = 1) else decide (1 ≤ mK M x ∧ mK M x ≤ 12)) = true
  rw [if_neg (by decide)]
  exact decide_eq_true ⟨h1, h2⟩
theorem aln_e {a : Nat} {g : Int32 → Option ω} (h : mK M a = 26) (e : a = mL M 0) : aln (some a) M g = g (i3 0) := by
  show (if 20 ≤ mK M a ∧ mK M a ≤ 25 then g (Int32.ofNat (mL M a)) else if a = mL M 0 then g 0 else none) = _
  rw [if_neg (by omega), if_pos e]; rfl
theorem asP_i {a kd j : Nat} {v : Option Nat} {g : Mm → Option ω} (h : mK M a = kd) (hv : pok kd v M = true) (hl : j < mL M a) (hb : j < 2147483648) : asP kd (some a) (i3 j) v M g = g (uP M 0 a j v) := asP_s h hv hb hl
theorem nwA_i {kd bd j : Nat} {g : Option Nat → Mm → Nat → Option ω} (hj : j ≤ bd) (hb : j < 2147483648) : nwA kd bd (i3 j) M n g = g (some n) (nA M n kd j) (n + 1) := nwA_s hb hj
theorem LST.size (h : LST own M l t len f) : fAl_size l M = some (i3 len) := by
  obtain ⟨h1, h2, h3, rw0, h4, h5, h6⟩ := h
  simp (disch := (first | assumption | omega | decide | (simp only [mK_uI, mK_uP, mL_uI, mL_uP, mK_wI, mL_wI, mK_nA_e, mL_nA_e] <;> (first | assumption | omega)))) only [i3_le_t, i3_le_f, i3_lt_t, i3_lt_f, i3_eq_t, i3_eq_f, i3_add, i3_mul, i3_sub, i3_div, i3_dec, i3_m1, m1_i3, m1_eq, i3_ge0, m1_lt, i3_le_m1, ↓reduceIte, rZ_0, rZ_1, bdR_s, bdW_s, ifN_n, ifN_s, ↓fgI_s, ↓fgR_s, ↓rk_s, ↓fpI_s, ↓fpR_s, ↓fpZ_0, ↓fpZ_1, ↓alI_i, ↓alP_i, ↓asI_i, ↓asB_i, ↓asZ_0, ↓asZ_1, ↓aln_i, ↓fca_s, ↓fca_n, bdC_li, bdC_ri, mK_uI, mK_uP, mL_uI, mL_uP, mP_uI, mI_uP, mK_wI, mL_wI, mP_wI, mI_uI_e, mI_uI_c, nwO_s, mK_nA_e, mL_nA_e, fAl_size_E, h3]
theorem LST.le (h : LST own M l t len f) : len ≤ 300 := by
  obtain ⟨h1, h2, h3, rw0, h4, h5, h6⟩ := h
  omega
theorem LST.k (h : LST own M l t len f) : mK M l = 12 := h.1
theorem LST.get (h : LST own M l t len f) {i : Nat} (hi : i < len) : fAl_get l (i3 i) M = some (some (f i)) := by
  have k4 := h.le
  obtain ⟨h1, h2, h3, rw0, h4, h5, h6⟩ := h
  have k1 : mK M rw0 = 23 := by omega
  have k2 : i < mL M rw0 := by omega
  have k3 : mL M rw0 ≤ 300 := by omega
  clear h5
  have h7 := h6 i hi
  simp (disch := (first | assumption | omega | decide | (simp only [mK_uI, mK_uP, mL_uI, mL_uP, mK_wI, mL_wI, mK_nA_e, mL_nA_e] <;> (first | assumption | omega)))) only [i3_le_t, i3_le_f, i3_lt_t, i3_lt_f, i3_eq_t, i3_eq_f, i3_add, i3_mul, i3_sub, i3_div, i3_dec, i3_m1, m1_i3, m1_eq, i3_ge0, m1_lt, i3_le_m1, ↓reduceIte, rZ_0, rZ_1, bdR_s, bdW_s, ifN_n, ifN_s, ↓fgI_s, ↓fgR_s, ↓rk_s, ↓fpI_s, ↓fpR_s, ↓fpZ_0, ↓fpZ_1, ↓alI_i, ↓alP_i, ↓asI_i, ↓asB_i, ↓asZ_0, ↓asZ_1, ↓aln_i, ↓fca_s, ↓fca_n, bdC_li, bdC_ri, mK_uI, mK_uP, mL_uI, mL_uP, mP_uI, mI_uP, mK_wI, mL_wI, mP_wI, mI_uI_e, mI_uI_c, nwO_s, mK_nA_e, mL_nA_e, fAl_get_E, fOb_checkIndex_E, fPc_checkIndex_E, fAl_elementData_E, h3, h4, h7]
theorem LST.emp (h : LST own M l t len f) : fAl_isEmpty l M = some (if len = 0 then i3 1 else i3 0) := by
  have hl := h.le
  obtain ⟨h1, h2, h3, rw0, h4, h5, h6⟩ := h
  by_cases z : len = 0
  · simp (disch := (first | assumption | omega | decide | (simp only [mK_uI, mK_uP, mL_uI, mL_uP, mK_wI, mL_wI, mK_nA_e, mL_nA_e] <;> (first | assumption | omega)))) only [i3_le_t, i3_le_f, i3_lt_t, i3_lt_f, i3_eq_t, i3_eq_f, i3_add, i3_mul, i3_sub, i3_div, i3_dec, i3_m1, m1_i3, m1_eq, i3_ge0, m1_lt, i3_le_m1, ↓reduceIte, rZ_0, rZ_1, bdR_s, bdW_s, ifN_n, ifN_s, ↓fgI_s, ↓fgR_s, ↓rk_s, ↓fpI_s, ↓fpR_s, ↓fpZ_0, ↓fpZ_1, ↓alI_i, ↓alP_i, ↓asI_i, ↓asB_i, ↓asZ_0, ↓asZ_1, ↓aln_i, ↓fca_s, ↓fca_n, bdC_li, bdC_ri, mK_uI, mK_uP, mL_uI, mL_uP, mP_uI, mI_uP, mK_wI, mL_wI, mP_wI, mI_uI_e, mI_uI_c, nwO_s, mK_nA_e, mL_nA_e, fAl_isEmpty_E, h3, z]
  · simp (disch := (first | assumption | omega | decide | (simp only [mK_uI, mK_uP, mL_uI, mL_uP, mK_wI, mL_wI, mK_nA_e, mL_nA_e] <;> (first | assumption | omega)))) only [i3_le_t, i3_le_f, i3_lt_t, i3_lt_f, i3_eq_t, i3_eq_f, i3_add, i3_mul, i3_sub, i3_div, i3_dec, i3_m1, m1_i3, m1_eq, i3_ge0, m1_lt, i3_le_m1, ↓reduceIte, rZ_0, rZ_1, bdR_s, bdW_s, ifN_n, ifN_s, ↓fgI_s, ↓fgR_s, ↓rk_s, ↓fpI_s, ↓fpR_s, ↓fpZ_0, ↓fpZ_1, ↓alI_i, ↓alP_i, ↓asI_i, ↓asB_i, ↓asZ_0, ↓asZ_1, ↓aln_i, ↓fca_s, ↓fca_n, bdC_li, bdC_ri, mK_uI, mK_uP, mL_uI, mL_uP, mP_uI, mI_uP, mK_wI, mL_wI, mP_wI, mI_uI_e, mI_uI_c, nwO_s, mK_nA_e, mL_nA_e, fAl_isEmpty_E, h3, z]
/-- a list whose row is its own -/
def LSR (own : Nat → Nat) (M : Mm) (l t len : Nat) (f : Nat → Nat) (rw0 : Nat) : Prop := mK M l = 12 ∧ own l = t ∧ mI M 1202 l 0 = i3 len ∧ mP M 1201 l 0 = some rw0 ∧ mK M rw0 = 23 ∧ own rw0 = t ∧ 0 < mL M rw0 ∧ len ≤ mL M rw0 ∧ mL M rw0 ≤ 300 ∧ ∀ i, i < len → mP M 0 rw0 i = some (f i)
theorem LSR.lst {rw0 : Nat} (h : LSR own M l t len f rw0) : LST own M l t len f := by
  obtain ⟨h1, h2, h3, h4, h5, h6, h7, h8, h9, h10⟩ := h
  exact ⟨h1, h2, h3, rw0, h4, Or.inr ⟨h5, h6, h7, h8, h9⟩, h10⟩
/-- an owner for a new place -/
def oN (own : Nat → Nat) (n t : Nat) : Nat → Nat := fun a => if a = n then t else own a
theorem oN_e (own : Nat → Nat) (n t : Nat) : oN own n t n = t := if_pos rfl
theorem oN_n (own : Nat → Nat) (t : Nat) {n a : Nat} (h : a ≠ n) : oN own n t a = own a := if_neg h
def FRS (own : Nat → Nat) (n : Nat) : Prop := ∀ a, n ≤ a → own a = 0
theorem FRS.lt {a : Nat} (h : FRS own n) (k : own a ≠ 0) : a < n := Nat.not_le.mp fun z => k (h a z)
theorem FRS.oN (h : FRS own n) (t : Nat) : FRS (oN own n t) (n + 1) := fun a ha => by rw [oN_n _ _ (by omega)]; exact h a (by omega)
theorem FRS.mono {m : Nat} (h : FRS own n) (k : n ≤ m) : FRS own m := fun a ha => h a (by omega)
/-- the elements are there -/
def ELS (own : Nat → Nat) (M : Mm) (len : Nat) (f : Nat → Nat) : Prop := ∀ i, i < len → own (f i) ≠ 0 ∧ 1 ≤ mK M (f i) ∧ mK M (f i) ≤ 12
theorem shr1 {c : Nat} (h : c < 301) : i3 c >>> (i3 1 &&& i3 31) = i3 (c / 2) := by
  have h1 : ((List.range 301).all fun k => decide (i3 k >>> (i3 1 &&& i3 31) = i3 (k / 2))) = true := by decide +kernel
  exact of_decide_eq_true (List.all_eq_true.mp h1 c (List.mem_range.mpr h))
theorem max_i {a b : Nat} (ha : a < 2147483648) (hb : b < 2147483648) : (if i3 a < i3 b then i3 b else i3 a) = i3 (max a b) := by
  by_cases h : a < b
  · rw [if_pos ((i3_lt ha hb).mpr h), Nat.max_eq_right (by omega)]
  · rw [if_neg (fun z => h ((i3_lt ha hb).mp z)), Nat.max_eq_left (by omega)]
theorem min_i {a b : Nat} (ha : a < 2147483648) (hb : b < 2147483648) : (if i3 a < i3 b then i3 a else i3 b) = i3 (min a b) := by
  by_cases h : a < b
  · rw [if_pos ((i3_lt ha hb).mpr h), Nat.min_eq_left (by omega)]
  · rw [if_neg (fun z => h ((i3_lt ha hb).mp z)), Nat.min_eq_right (by omega)]
theorem newLen {c : Nat} (h : c < 200) : fAs_newLength (i3 c) (i3 1) (i3 (c / 2)) = some (i3 (c + max 1 (c / 2))) := by
  simp (disch := (first | assumption | omega | decide | (simp only [mK_uI, mK_uP, mL_uI, mL_uP, mK_wI, mL_wI, mK_nA_e, mL_nA_e] <;> (first | assumption | omega)))) only [i3_le_t, i3_le_f, i3_lt_t, i3_lt_f, i3_eq_t, i3_eq_f, i3_add, i3_mul, i3_sub, i3_div, i3_dec, i3_m1, m1_i3, m1_eq, i3_ge0, m1_lt, i3_le_m1, ↓reduceIte, rZ_0, rZ_1, bdR_s, bdW_s, ifN_n, ifN_s, fAs_newLength_E, max_i]
theorem grow_i (h : LST own M l t len f) (e : EMP own M) (fr : FRS own n) (el : ELS own M len f) (ht : 12 < t) (hl : len < 200) (hc : ∀ rw0, mP M 1201 l 0 = some rw0 → rw0 = mL M 0 ∨ mL M rw0 = len) : ∃ M', fAl_grow0 l M n = some (.inl (some n), M', n + 1) ∧ LSR (oN own n t) M' l t len f n ∧ len < mL M' n ∧ FRM (fun x => x = t) own M (oN own n t) M' := by
  obtain ⟨h1, h2, h3, rw0, h4, h5, h6⟩ := h
  obtain ⟨e1, e2, e3⟩ := e
  have hln : l < n := fr.lt (by omega)
  have hle : l ≠ n := by omega
  have h0n : 0 < n := fr.lt (by omega)
  have hen : mL M 0 < n := fr.lt (by omega)
  have hkl : ∀ c, mK (nA M n 23 c) l = 12 := fun c => by rw [mK_nA, if_neg hle]; exact h1
  have fin : ∀ c, len < c → c ≤ 300 → ∀ M', (∀ a, mK M' a = mK (nA M n 23 c) a) → (∀ a, mL M' a = mL (nA M n 23 c) a) → (∀ k a j, mI M' k a j = mI (nA M n 23 c) k a j) → (∀ k a j, mP M' k a j = if k = 1201 ∧ a = l ∧ j = 0 then some n else if k = 0 ∧ a = n ∧ j < len then mP M 0 rw0 j else mP (nA M n 23 c) k a j) → LSR (oN own n t) M' l t len f n ∧ len < mL M' n ∧ FRM (fun x => x = t) own M (oN own n t) M' := by
    intro c hc1 hc2 M' gK gL gI gP
    refine ⟨⟨?_, ?_, ?_, ?_, ?_, ?_, ?_, ?_, ?_, fun i hi => ?_⟩, ?_, fun a ha => ?_⟩
    · rw [gK]; exact hkl c
    · rw [oN_n _ _ hle]; exact h2
    · rw [gI, mI_nA, if_neg hle]; exact h3
    · rw [gP, if_pos ⟨rfl, rfl, rfl⟩]
    · rw [gK, mK_nA, if_pos rfl]
    · exact oN_e _ _ _
    · rw [gL, mL_nA, if_pos rfl]; omega
    · rw [gL, mL_nA, if_pos rfl]; omega
    · rw [gL, mL_nA, if_pos rfl]; omega
    · rw [gP, if_neg (by omega), if_pos ⟨rfl, rfl, hi⟩]; exact h6 i hi
    · rw [gL, mL_nA, if_pos rfl]; omega
    · have han : a < n := fr.lt ha
      have ha2 : a ≠ n := by omega
      have hp : ∀ k j, ¬ (k = 1201 ∧ a = l ∧ j = 0) → mP M' k a j = mP M k a j := fun k j hk => by rw [gP, if_neg hk, if_neg (by omega), mP_nA, if_neg ha2]
      refine ⟨oN_n _ _ ha2, fun hT => ?_, fun h12 => ?_⟩
      · have hal : a ≠ l := fun z => hT (by rw [z]; exact h2)
        exact ⟨by rw [gK, mK_nA, if_neg ha2], by rw [gL, mL_nA, if_neg ha2], fun k j => hp k j (by omega), fun k j => by rw [gI, mI_nA, if_neg ha2]⟩
      · have hal : a ≠ l := fun z => by rw [z] at h12; omega
        exact ⟨by rw [gK, mK_nA, if_neg ha2], by rw [gL, mL_nA, if_neg ha2], fun k j => hp k j (by omega)⟩
  by_cases hz : rw0 = mL M 0
  · have hl0 : len = 0 := by
      rcases h5 with h5 | h5
      · exact h5.2
      · rw [hz] at h5; omega
    subst hz
    subst hl0
    refine ⟨uP (nA M n 23 10) 1201 l 0 (some n), ?_, fin 10 (by omega) (by omega) _ (fun _ => rfl) (fun _ => rfl) (fun _ _ _ => rfl) (fun k a j => ?_)⟩
    · have k1 := hkl 10
      clear h5 h6 fin fr el hc hkl
      have em : max 10 1 = 10 := rfl
      simp (disch := (first | assumption | omega | decide | (simp only [mK_uI, mK_uP, mL_uI, mL_uP, mK_wI, mL_wI, mK_nA_e, mL_nA_e] <;> (first | assumption | omega)))) only [i3_le_t, i3_le_f, i3_lt_t, i3_lt_f, i3_eq_t, i3_eq_f, i3_add, i3_mul, i3_sub, i3_div, i3_dec, i3_m1, m1_i3, m1_eq, i3_ge0, m1_lt, i3_le_m1, ↓reduceIte, rZ_0, rZ_1, bdR_s, bdW_s, ifN_n, ifN_s, ↓fgI_s, ↓fgR_s, ↓rk_s, ↓fpI_s, ↓fpR_s, ↓fpZ_0, ↓fpZ_1, ↓alI_i, ↓alP_i, ↓asI_i, ↓asB_i, ↓asZ_0, ↓asZ_1, ↓aln_i, ↓fca_s, ↓fca_n, bdC_li, bdC_ri, mK_uI, mK_uP, mL_uI, mL_uP, mP_uI, mI_uP, mK_wI, mL_wI, mP_wI, mI_uI_e, mI_uI_c, nwO_s, mK_nA_e, mL_nA_e, fAl_grow0_E, fAl_grow1_E, h3, h4, ↓aln_e, max_i, em, ↓nwA_i]
    · rw [mP_uP]
      by_cases z : k = 1201 ∧ a = l ∧ j = 0
      · rw [if_pos z, if_pos z]
      · rw [if_neg z, if_neg z, if_neg (by omega)]
  · have hz2 : mL M rw0 = len := (hc rw0 h4).resolve_left hz
    have k5 : mK M rw0 = 23 ∧ own rw0 = t ∧ 0 < mL M rw0 := by
      rcases h5 with h5 | h5
      · exact absurd h5.1 hz
      · exact ⟨h5.1, h5.2.1, h5.2.2.1⟩
    obtain ⟨k1, k2, k3⟩ := k5
    have hrn : rw0 < n := fr.lt (by omega)
    have hrne : rw0 ≠ n := by omega
    have hp : ∀ i, i < len → pok 23 (mP (nA M n 23 (len + max 1 (len / 2))) 0 rw0 (0 + i)) (nA M n 23 (len + max 1 (len / 2))) = true := fun i hi => by
      obtain ⟨x1, x2, x3⟩ := el i hi
      have hx : f i ≠ n := by have := fr.lt x1; omega
      rw [mP_nA, if_neg hrne, Nat.zero_add, h6 i hi]
      exact pok_s (by rw [mK_nA, if_neg hx]; exact x2) (by rw [mK_nA, if_neg hx]; exact x3)
    refine ⟨uP (mC (nA M n 23 (len + max 1 (len / 2))) rw0 n 0 0 len) 1201 l 0 (some n), ?_, fin (len + max 1 (len / 2)) (by omega) (by omega) _ (fun _ => rfl) (fun _ => rfl) (fun _ _ _ => rfl) (fun k a j => ?_)⟩
    · have q1 : mK (nA M n 23 (len + max 1 (len / 2))) rw0 = 23 := by rw [mK_nA, if_neg hrne]; exact k1
      have q2 : mL (nA M n 23 (len + max 1 (len / 2))) rw0 = len := by rw [mL_nA, if_neg hrne]; exact hz2
      have q3 : mK (nA M n 23 (len + max 1 (len / 2))) n = 23 := by rw [mK_nA, if_pos rfl]
      have q4 : mL (nA M n 23 (len + max 1 (len / 2))) n = len + max 1 (len / 2) := by rw [mL_nA, if_pos rfl]
      have q5 : mK (mC (nA M n 23 (len + max 1 (len / 2))) rw0 n 0 0 len) l = 12 := hkl _
      have q6 : min (len + max 1 (len / 2)) len = len := by omega
      have q7 : len + max 1 (len / 2) ≤ 300 := by omega
      have q8 := newLen hl
      have q9 := shr1 (c := len) (by omega)
      have q10 : 0 < len := by omega
      clear h5 h6 fin fr el hc hkl
      simp (disch := (first | assumption | omega | decide | (simp only [mK_uI, mK_uP, mL_uI, mL_uP, mK_wI, mL_wI, mK_nA_e, mL_nA_e] <;> (first | assumption | omega)))) only [i3_le_t, i3_le_f, i3_lt_t, i3_lt_f, i3_eq_t, i3_eq_f, i3_add, i3_mul, i3_sub, i3_div, i3_dec, i3_m1, m1_i3, m1_eq, i3_ge0, m1_lt, i3_le_m1, ↓reduceIte, rZ_0, rZ_1, bdR_s, bdW_s, ifN_n, ifN_s, ↓fgI_s, ↓fgR_s, ↓rk_s, ↓fpI_s, ↓fpR_s, ↓fpZ_0, ↓fpZ_1, ↓alI_i, ↓alP_i, ↓asI_i, ↓asB_i, ↓asZ_0, ↓asZ_1, ↓aln_i, ↓fca_s, ↓fca_n, bdC_li, bdC_ri, mK_uI, mK_uP, mL_uI, mL_uP, mP_uI, mI_uP, mK_wI, mL_wI, mP_wI, mI_uI_e, mI_uI_c, nwO_s, mK_nA_e, mL_nA_e, fAl_grow0_E, fAl_grow1_E, fAl_grow1_j20_E, fAr_copyOf1_E, fAr_copyOf2_E, h3, h4, hz2, Nat.add_sub_cancel_left, q8, q9, ↓nwA_i, q2, min_i, q6, ↓acp_i]
    · rw [mP_uP]
      by_cases z : k = 1201 ∧ a = l ∧ j = 0
      · rw [if_pos z, if_pos z]
      · rw [if_neg z, if_neg z, mP_mC]
        by_cases w : k = 0 ∧ a = n ∧ j < len
        · rw [if_pos w, if_pos (by omega), mP_nA, if_neg hrne, Nat.zero_add, Nat.sub_zero]
        · rw [if_neg w, if_neg (by omega)]
end LS

set_option maxRecDepth 100000
/-! the harbour, made: its cells by their places behind n -/
/-- a run that comes to an end of which Q holds -/
def RES {α : Type} (x : Option ((α ⊕ Nat) × Mm × Nat)) (Q : α → Mm → Nat → Prop) : Prop := ∃ v M' n', x = some (.inl v, M', n') ∧ Q v M' n'
section RS
variable {α : Type} {M : Mm} {n a kd fid : Nat} {Q : α → Mm → Nat → Prop}
theorem RES.fin {v : α} (h : Q v M n) : RES (some (.inl v, M, n)) Q := ⟨v, M, n, rfl, h⟩
theorem RES.newA {len : Nat} {f : Option Nat → Mm → Nat → Option ((α ⊕ Nat) × Mm × Nat)} (hl : len ≤ 300) (k : RES (f (some n) (nA M n kd len) (n + 1)) Q) : RES (nwA kd 300 (nn len) M n f) Q := by
  rw [nwA_s (Nat.lt_of_le_of_lt hl (by decide)) hl]; exact k
theorem RES.newO {f : Option Nat → Mm → Nat → Option ((α ⊕ Nat) × Mm × Nat)} (k : RES (f (some n) (nA M n kd 0) (n + 1)) Q) : RES (nwO kd M n f) Q := k
theorem RES.putR {v : Option Nat} {f : Mm → Option ((α ⊕ Nat) × Mm × Nat)} (h : mK M a = kd) (k : RES (f (uP M fid a 0 v)) Q) : RES (fpR kd fid (some a) v M f) Q := by rw [fpR_s h]; exact k
theorem RES.look {f : Nat → Option ((α ⊕ Nat) × Mm × Nat)} (h : mK M a = kd) (k : RES (f a) Q) : RES (rk kd (some a) M f) Q := by rw [rk_s h]; exact k
theorem RES.call {β : Type} {x : Option ((β ⊕ Nat) × Mm × Nat)} {P : β → Mm → Nat → Prop} {f : β → Mm → Nat → Option ((α ⊕ Nat) × Mm × Nat)} (h : RES x P) (hn : ∀ v M1 n1, P v M1 n1 → n ≤ n1) (k : ∀ v M1 n1, P v M1 n1 → RES (f v M1 n1) Q) : RES (bdN x n f) Q := by
  obtain ⟨v, M1, n1, e, hp⟩ := h
  rw [e, bdN_l (hn v M1 n1 hp)]
  exact k v M1 n1 hp
theorem RES.al {a8 : Nat} {f : Unit → Mm → Option ((α ⊕ Nat) × Mm × Nat)} (h : mK M a8 = 12) (k : RES (f () (uP (uI M 1200 a8 0 0) 1201 a8 0 (some (mL M 0)))) Q) : RES (bdW (fAl_init a8 M) f) Q := by
  rw [al_init h]; exact k
end RS
/-- a new row: its kind, its length, nothing in it -/
def ROW (M : Mm) (a kd len : Nat) : Prop := mK M a = kd ∧ mL M a = len ∧ ∀ c j, mI M c a j = 0
/-- an empty list -/
def NIL (M : Mm) (a : Nat) : Prop := mK M a = 12 ∧ mI M 1200 a 0 = 0 ∧ mP M 1201 a 0 = some (mL M 0) ∧ mI M 1202 a 0 = 0
theorem code_init (M : Mm) (n a0 : Nat) (h : mK M a0 = 2) (hn : a0 < n) : RES (fCode_init a0 M n) (fun _ M' n' => n' = n + 4 ∧ SM (NW a0 n) M M' ∧ mK M' a0 = 2 ∧ mP M' 200 a0 0 = some n ∧ mP M' 201 a0 0 = some (n + 1) ∧ mP M' 202 a0 0 = some (n + 2) ∧ mP M' 203 a0 0 = some (n + 3) ∧ ROW M' n 20 6 ∧ ROW M' (n + 1) 20 10 ∧ ROW M' (n + 2) 21 3 ∧ ROW M' (n + 3) 21 3) := by
  have e0 : a0 ≠ n := Nat.ne_of_lt hn
  have e1 : a0 ≠ n + 1 := by omega
  have e2 : a0 ≠ n + 1 + 1 := by omega
  have e3 : a0 ≠ n + 1 + 1 + 1 := by omega
  unfold fCode_init
  refine RES.newA (len := 6) (by decide) (RES.putR (by simp only [mK_nA, mK_uP, e0, if_false]; exact h) ?_)
  refine RES.newA (len := 10) (by decide) (RES.putR (by simp only [mK_nA, mK_uP, e0, e1, if_false]; exact h) ?_)
  refine RES.newA (len := 3) (by decide) (RES.putR (by simp only [mK_nA, mK_uP, e0, e1, e2, if_false]; exact h) ?_)
  refine RES.newA (len := 3) (by decide) (RES.putR (by simp only [mK_nA, mK_uP, e0, e1, e2, e3, if_false]; exact h) ?_)
  refine RES.fin ⟨rfl, ?_, ?_, ?_, ?_, ?_, ?_, ?_, ?_, ?_, ?_⟩
  · intro b hb
    have hb0 : b ≠ a0 := fun z => hb (Or.inl z)
    have hb1 : b < n := Nat.not_le.mp fun z => hb (Or.inr z)
    have d0 : b ≠ n := Nat.ne_of_lt hb1
    have d1 : b ≠ n + 1 := by omega
    have d2 : b ≠ n + 1 + 1 := by omega
    have d3 : b ≠ n + 1 + 1 + 1 := by omega
    refine ⟨?_, ?_, fun c j => ?_, fun c j => ?_, fun j => ?_⟩
    · simp only [mK_nA, mK_uP, d0, d1, d2, d3, if_false]
    · simp only [mL_nA, mL_uP, d0, d1, d2, d3, if_false]
    · simp only [mI_nA, mI_uP, d0, d1, d2, d3, if_false]
    · simp only [mP_nA, mP_uP, hb0, d0, d1, d2, d3, false_and, and_false, if_false]
    · simp only [mJ_nA, mJ_uP, d0, d1, d2, d3, if_false]
  · simp only [mK_nA, mK_uP, e0, e1, e2, e3, if_false]; exact h
  · simp [mP_nA, mP_uP, e0, e1, e2, e3]
  · simp [mP_nA, mP_uP, e0, e1, e2, e3]
  · simp [mP_nA, mP_uP, e0, e1, e2, e3]
  · simp [mP_nA, mP_uP, e0, e1, e2, e3]
  · simp [ROW, mK_nA, mK_uP, mL_nA, mL_uP, mI_nA, mI_uP, Nat.add_assoc]
  · simp [ROW, mK_nA, mK_uP, mL_nA, mL_uP, mI_nA, mI_uP, Nat.add_assoc]
  · simp [ROW, mK_nA, mK_uP, mL_nA, mL_uP, mI_nA, mI_uP, Nat.add_assoc]
  · simp [ROW, mK_nA, mK_uP, mL_nA, mL_uP, mI_nA, mI_uP, Nat.add_assoc]
theorem ROW.keep {S : Nat → Prop} {M M' : Mm} {a kd len : Nat} (h : ROW M a kd len) (k : SM S M M') (hs : ¬ S a) : ROW M' a kd len := by
  obtain ⟨h1, h2, h3⟩ := h
  obtain ⟨k1, k2, k3, -, -⟩ := k a hs
  exact ⟨k1.trans h1, k2.trans h2, fun c j => (k3 c j).trans (h3 c j)⟩
theorem cut_init' (M : Mm) (n a0 : Nat) (h : mK M a0 = 3) (hn : a0 < n) : RES (fCut_init a0 M n) (fun _ M' n' => n' = n + 2 ∧ SM (NW a0 n) M M' ∧ mK M' a0 = 3 ∧ mP M' 300 a0 0 = some n ∧ mP M' 301 a0 0 = some (n + 1) ∧ mI M' 302 a0 0 = mI M 302 a0 0 ∧ ROW M' n 21 40 ∧ ROW M' (n + 1) 21 40) := by
  have e0 : a0 ≠ n := Nat.ne_of_lt hn
  have e1 : a0 ≠ n + 1 := by omega
  rw [cut_init h hn]
  refine RES.fin ⟨rfl, ?_, ?_, ?_, ?_, ?_, ?_, ?_⟩
  · intro b hb
    have hb0 : b ≠ a0 := fun z => hb (Or.inl z)
    have hb1 : b < n := Nat.not_le.mp fun z => hb (Or.inr z)
    have d0 : b ≠ n := Nat.ne_of_lt hb1
    have d1 : b ≠ n + 1 := by omega
    refine ⟨?_, ?_, fun c j => ?_, fun c j => ?_, fun j => ?_⟩
    · simp only [mK_nA, mK_uP, d0, d1, if_false]
    · simp only [mL_nA, mL_uP, d0, d1, if_false]
    · simp only [mI_nA, mI_uP, d0, d1, if_false]
    · simp only [mP_nA, mP_uP, hb0, d0, d1, false_and, and_false, if_false]
    · simp only [mJ_nA, mJ_uP, d0, d1, if_false]
  · simp only [mK_nA, mK_uP, e0, e1, if_false]; exact h
  · simp [mP_nA, mP_uP, e0, e1]
  · simp [mP_nA, mP_uP, e0, e1]
  · simp only [mI_nA, mI_uP, e0, e1, if_false]
  · simp [ROW, mK_nA, mK_uP, mL_nA, mL_uP, mI_nA, mI_uP, Nat.add_assoc]
  · simp [ROW, mK_nA, mK_uP, mL_nA, mL_uP, mI_nA, mI_uP, Nat.add_assoc]
theorem bytes_init' (M : Mm) (n a0 : Nat) (h : mK M a0 = 1) (hn : a0 < n) : RES (fBytes_init a0 M n) (fun _ M' n' => n' = n + 1 ∧ SM (NW a0 n) M M' ∧ mK M' a0 = 1 ∧ mP M' 100 a0 0 = some n ∧ mI M' 101 a0 0 = mI M 101 a0 0 ∧ ROW M' n 20 40) := by
  have e0 : a0 ≠ n := Nat.ne_of_lt hn
  rw [bytes_init h hn]
  refine RES.fin ⟨rfl, ?_, ?_, ?_, ?_, ?_⟩
  · intro b hb
    have hb0 : b ≠ a0 := fun z => hb (Or.inl z)
    have hb1 : b < n := Nat.not_le.mp fun z => hb (Or.inr z)
    have d0 : b ≠ n := Nat.ne_of_lt hb1
    refine ⟨?_, ?_, fun c j => ?_, fun c j => ?_, fun j => ?_⟩
    · simp only [mK_nA, mK_uP, d0, if_false]
    · simp only [mL_nA, mL_uP, d0, if_false]
    · simp only [mI_nA, mI_uP, d0, if_false]
    · simp only [mP_nA, mP_uP, hb0, d0, false_and, and_false, if_false]
    · simp only [mJ_nA, mJ_uP, d0, if_false]
  · simp only [mK_nA, mK_uP, e0, if_false]; exact h
  · simp [mP_nA, mP_uP, e0]
  · simp only [mI_nA, mI_uP, e0, if_false]
  · simp [ROW, mK_nA, mK_uP, mL_nA, mL_uP, mI_nA, mI_uP]

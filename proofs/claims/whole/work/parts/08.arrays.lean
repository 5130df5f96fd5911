theorem ent_arr {G : GE} {M : Mm} {a : Nat} : (mK M a = 20 → ent G M a = some (.inl (gC G 0, mL M a, .inl (mI M 0 a)))) ∧ (mK M a = 21 → ent G M a = some (.inl (gC G 1, mL M a, .inl (mI M 0 a)))) ∧ (mK M a = 22 → ent G M a = some (.inl (gC G 2, mL M a, .inl (mI M 0 a)))) ∧ (mK M a = 23 → ent G M a = some (.inl (gC G 3, mL M a, .inr (.inr (.inr (.inr (mP M 0 a))))))) ∧ (mK M a = 24 → ent G M a = some (.inl (gC G 4, mL M a, .inr (.inr (.inr (.inr (mP M 0 a))))))) ∧ (mK M a = 25 → ent G M a = some (.inl (gC G 5, mL M a, .inr (.inl (mJ M a))))) := by
  refine ⟨?_, ?_, ?_, ?_, ?_, ?_⟩ <;> (intro h; unfold ent; rw [h]; rfl)
theorem mI_upd (M : Mm) (a j : Nat) (v : Int32) : mI (uI M 0 a j v) 0 a = upd (mI M 0 a) j v := by
  funext z
  by_cases h : z = j
  · subst h; simp only [mI_uI, upd, true_and, if_true]
  · simp only [mI_uI, upd, true_and, h, if_false]
theorem mP_upd (M : Mm) (a j : Nat) (v : Option Nat) : mP (uP M 0 a j v) 0 a = va_up (mP M 0 a) j v := by
  funext z
  by_cases h : z = j
  · subst h; simp only [mP_uP, va_up, true_and, if_true]
  · simp only [mP_uP, va_up, true_and, h, if_false]
theorem mJ_upd (M : Mm) (a j : Nat) (v : Int64) : mJ (uJ M a j v) a = vp_updL (mJ M a) j v := by
  funext z
  by_cases h : z = j
  · subst h; simp only [mJ_uJ, vp_updL, true_and, if_true]
  · simp only [mJ_uJ, vp_updL, true_and, h, if_false]
theorem cell_i (cA : ClassId) (N j : Nat) (f : Nat → Int32) (x : Int32) {H1 : Heap} {a : Nat} (e : H1[a]? = some ((vp_cell cA (N, .inl f)).setSlot j (.int x))) : H1[a]? = some (vp_cell cA (N, .inl (upd f j x))) := by
  rw [e, vp_cell_i, vp_cell_i, arrV_store]
  congr 2
  funext z
  by_cases hq : z = j
  · subst hq; simp [updV, upd]
  · simp [updV, upd, hq]
theorem cell_j (cA : ClassId) (N j : Nat) (f : Nat → Int64) (x : Int64) {H1 : Heap} {a : Nat} (e : H1[a]? = some ((vp_cell cA (N, .inr (.inl f))).setSlot j (.long x))) : H1[a]? = some (vp_cell cA (N, .inr (.inl (vp_updL f j x)))) := by
  rw [e, vp_cell_l, vp_cell_l, arrV_store]
  congr 2
  funext z
  by_cases hq : z = j
  · subst hq; simp [updV, vp_updL]
  · simp [updV, vp_updL, hq]
theorem cell_q (cA : ClassId) (N j : Nat) (f : Nat → Option Nat) (x : Option Nat) {H1 : Heap} {a : Nat} (e : H1[a]? = some ((vp_cell cA (N, .inr (.inr (.inr (.inr f))))).setSlot j (va_rf x))) : H1[a]? = some (vp_cell cA (N, .inr (.inr (.inr (.inr (va_up f j x)))))) := by
  rw [e, vp_cell_q, vp_cell_q, arrV_store]
  congr 2
  funext z
  by_cases hq : z = j
  · subst hq; simp [updV, va_up]
  · simp [updV, va_up, hq]
section AW
variable {X : MC} {G : GE} {own : String} {cc : ByteArray} {P : List BR} {nL : Nat} {ret : Option FieldType} {n0 q sl : Nat} {ω : Type} {E : ω → Room × (State → Prop) × Nat} {σ : Sg} {M : Mm} {n : Nat} {pc nx len idx : Nat} {k : Int32} {lv : LV} {st : List AV}
theorem s_ldB (C : CX X G own cc P nL ret n0) (i : Nat) (hr : P[i]? = some (pc, .baload, len, k, nx)) {r : Option Nat} {j : Int32} {f : Int32 → Option ω} (kk : ∀ v, JS X G nL q sl n0 E (f v) (σ, M, n) (pc + 1) lv (.inl v :: st)) : JS X G nL q sl n0 E (alI 20 r j M f) (σ, M, n) pc lv (.inl j :: .inr (.inl r) :: st) := by
  obtain ⟨hx, hb, hml, hown, hts, hK, hlk, hrt, hST, hZ, hn0, hAA, hP, htr⟩ := C
  obtain ⟨d, c⟩ := bOK_at hP i hr
  obtain ⟨rfl, -⟩ := ck1 (b := 0) c
  intro o ho
  cases r with
  | none => cases ho
  | some a =>
    have ho : (if mK M a = 20 then (if j < 0 ∨ mL M a ≤ j.toNatClampNeg then none else f (mI M 0 a j.toNatClampNeg)) else none) = some o := ho
    by_cases h : mK M a = 20
    · rw [if_pos h] at ho
      by_cases h2 : j < 0 ∨ mL M a ≤ j.toNatClampNeg
      · rw [if_pos h2] at ho; cases ho
      · rw [if_neg h2] at ho
        exact ⟨(kk _ o ho).1, fun H locs hW hS ls hl => va_bald hx hb hK (hW.one (ent_arr.1 h)) 0 0 rfl rfl h2 d ((kk _ o ho).2 H locs hW hS ls hl)⟩
    · rw [if_neg h] at ho; cases ho
theorem s_ldI (C : CX X G own cc P nL ret n0) (i : Nat) (hr : P[i]? = some (pc, .iaload, len, k, nx)) {r : Option Nat} {j : Int32} {f : Int32 → Option ω} (kk : ∀ v, JS X G nL q sl n0 E (f v) (σ, M, n) (pc + 1) lv (.inl v :: st)) : JS X G nL q sl n0 E (alI 21 r j M f) (σ, M, n) pc lv (.inl j :: .inr (.inl r) :: st) := by
  obtain ⟨hx, hb, hml, hown, hts, hK, hlk, hrt, hST, hZ, hn0, hAA, hP, htr⟩ := C
  obtain ⟨d, c⟩ := bOK_at hP i hr
  obtain ⟨rfl, -⟩ := ck1 (b := 0) c
  intro o ho
  cases r with
  | none => cases ho
  | some a =>
    have ho : (if mK M a = 21 then (if j < 0 ∨ mL M a ≤ j.toNatClampNeg then none else f (mI M 0 a j.toNatClampNeg)) else none) = some o := ho
    by_cases h : mK M a = 21
    · rw [if_pos h] at ho
      by_cases h2 : j < 0 ∨ mL M a ≤ j.toNatClampNeg
      · rw [if_pos h2] at ho; cases ho
      · rw [if_neg h2] at ho
        exact ⟨(kk _ o ho).1, fun H locs hW hS ls hl => va_iald hx hb hK (hW.one (ent_arr.2.1 h)) 0 1 rfl rfl h2 d ((kk _ o ho).2 H locs hW hS ls hl)⟩
    · rw [if_neg h] at ho; cases ho
theorem s_ldZ (C : CX X G own cc P nL ret n0) (i : Nat) (hr : P[i]? = some (pc, .baload, len, k, nx)) {r : Option Nat} {j : Int32} {f : Int32 → Option ω} (kk : ∀ v, JS X G nL q sl n0 E (f v) (σ, M, n) (pc + 1) lv (.inl v :: st)) : JS X G nL q sl n0 E (alI 22 r j M f) (σ, M, n) pc lv (.inl j :: .inr (.inl r) :: st) := by
  obtain ⟨hx, hb, hml, hown, hts, hK, hlk, hrt, hST, hZ, hn0, hAA, hP, htr⟩ := C
  obtain ⟨d, c⟩ := bOK_at hP i hr
  obtain ⟨rfl, -⟩ := ck1 (b := 0) c
  intro o ho
  cases r with
  | none => cases ho
  | some a =>
    have ho : (if mK M a = 22 then (if j < 0 ∨ mL M a ≤ j.toNatClampNeg then none else f (mI M 0 a j.toNatClampNeg)) else none) = some o := ho
    by_cases h : mK M a = 22
    · rw [if_pos h] at ho
      by_cases h2 : j < 0 ∨ mL M a ≤ j.toNatClampNeg
      · rw [if_pos h2] at ho; cases ho
      · rw [if_neg h2] at ho
        exact ⟨(kk _ o ho).1, fun H locs hW hS ls hl => va_zald hx hb hK (hW.one (ent_arr.2.2.1 h)) 0 2 rfl rfl h2 d ((kk _ o ho).2 H locs hW hS ls hl)⟩
    · rw [if_neg h] at ho; cases ho
theorem s_ldJ (C : CX X G own cc P nL ret n0) (i : Nat) (hr : P[i]? = some (pc, .laload, len, k, nx)) {r : Option Nat} {j : Int32} {f : Int64 → Option ω} (kk : ∀ v, JS X G nL q sl n0 E (f v) (σ, M, n) (pc + 1) lv (.inr (.inr v) :: st)) : JS X G nL q sl n0 E (alJ r j M f) (σ, M, n) pc lv (.inl j :: .inr (.inl r) :: st) := by
  obtain ⟨hx, hb, hml, hown, hts, hK, hlk, hrt, hST, hZ, hn0, hAA, hP, htr⟩ := C
  obtain ⟨d, c⟩ := bOK_at hP i hr
  obtain ⟨rfl, -⟩ := ck1 (b := 0) c
  intro o ho
  cases r with
  | none => cases ho
  | some a =>
    have ho : (if mK M a = 25 then (if j < 0 ∨ mL M a ≤ j.toNatClampNeg then none else f (mJ M a j.toNatClampNeg)) else none) = some o := ho
    by_cases h : mK M a = 25
    · rw [if_pos h] at ho
      by_cases h2 : j < 0 ∨ mL M a ≤ j.toNatClampNeg
      · rw [if_pos h2] at ho; cases ho
      · rw [if_neg h2] at ho
        exact ⟨(kk _ o ho).1, fun H locs hW hS ls hl => va_lald hx hb hK (hW.one (ent_arr.2.2.2.2.2 h)) 0 5 rfl rfl h2 d ((kk _ o ho).2 H locs hW hS ls hl)⟩
    · rw [if_neg h] at ho; cases ho
theorem s_ldO (C : CX X G own cc P nL ret n0) (i : Nat) (hr : P[i]? = some (pc, .aaload, len, k, nx)) {r : Option Nat} {j : Int32} {f : Option Nat → Option ω} (kk : ∀ v, JS X G nL q sl n0 E (f v) (σ, M, n) (pc + 1) lv (.inr (.inl v) :: st)) : JS X G nL q sl n0 E (alP 23 r j M f) (σ, M, n) pc lv (.inl j :: .inr (.inl r) :: st) := by
  obtain ⟨hx, hb, hml, hown, hts, hK, hlk, hrt, hST, hZ, hn0, hAA, hP, htr⟩ := C
  obtain ⟨d, c⟩ := bOK_at hP i hr
  obtain ⟨rfl, -⟩ := ck1 (b := 0) c
  intro o ho
  cases r with
  | none => cases ho
  | some a =>
    have ho : (if mK M a = 23 then (if j < 0 ∨ mL M a ≤ j.toNatClampNeg then none else f (mP M 0 a j.toNatClampNeg)) else none) = some o := ho
    by_cases h : mK M a = 23
    · rw [if_pos h] at ho
      by_cases h2 : j < 0 ∨ mL M a ≤ j.toNatClampNeg
      · rw [if_pos h2] at ho; cases ho
      · rw [if_neg h2] at ho
        exact ⟨(kk _ o ho).1, fun H locs hW hS ls hl => va_aldq hx hb hK (hW.one (ent_arr.2.2.2.1 h)) 0 3 rfl rfl h2 d ((kk _ o ho).2 H locs hW hS ls hl)⟩
    · rw [if_neg h] at ho; cases ho
theorem s_ldY (C : CX X G own cc P nL ret n0) (i : Nat) (hr : P[i]? = some (pc, .aaload, len, k, nx)) {r : Option Nat} {j : Int32} {f : Option Nat → Option ω} (kk : ∀ v, JS X G nL q sl n0 E (f v) (σ, M, n) (pc + 1) lv (.inr (.inl v) :: st)) : JS X G nL q sl n0 E (alP 24 r j M f) (σ, M, n) pc lv (.inl j :: .inr (.inl r) :: st) := by
  obtain ⟨hx, hb, hml, hown, hts, hK, hlk, hrt, hST, hZ, hn0, hAA, hP, htr⟩ := C
  obtain ⟨d, c⟩ := bOK_at hP i hr
  obtain ⟨rfl, -⟩ := ck1 (b := 0) c
  intro o ho
  cases r with
  | none => cases ho
  | some a =>
    have ho : (if mK M a = 24 then (if j < 0 ∨ mL M a ≤ j.toNatClampNeg then none else f (mP M 0 a j.toNatClampNeg)) else none) = some o := ho
    by_cases h : mK M a = 24
    · rw [if_pos h] at ho
      by_cases h2 : j < 0 ∨ mL M a ≤ j.toNatClampNeg
      · rw [if_pos h2] at ho; cases ho
      · rw [if_neg h2] at ho
        exact ⟨(kk _ o ho).1, fun H locs hW hS ls hl => va_aldq hx hb hK (hW.one (ent_arr.2.2.2.2.1 h)) 0 4 rfl rfl h2 d ((kk _ o ho).2 H locs hW hS ls hl)⟩
    · rw [if_neg h] at ho; cases ho
theorem s_len (C : CX X G own cc P nL ret n0) (i : Nat) (hr : P[i]? = some (pc, .arraylength, len, k, nx)) {r : Option Nat} {f : Int32 → Option ω} (kk : ∀ v, JS X G nL q sl n0 E (f v) (σ, M, n) (pc + 1) lv (.inl v :: st)) : JS X G nL q sl n0 E (aln r M f) (σ, M, n) pc lv (.inr (.inl r) :: st) := by
  obtain ⟨hx, hb, hml, hown, hts, hK, hlk, hrt, hST, hZ, hn0, hAA, hP, htr⟩ := C
  obtain ⟨d, c⟩ := bOK_at hP i hr
  obtain ⟨rfl, -⟩ := ck1 (b := 0) c
  intro o ho
  cases r with
  | none => cases ho
  | some a =>
    have ho : (if 20 ≤ mK M a ∧ mK M a ≤ 25 then f (Int32.ofNat (mL M a)) else if a = mL M 0 then f 0 else none) = some o := ho
    by_cases h : 20 ≤ mK M a ∧ mK M a ≤ 25
    · rw [if_pos h] at ho
      refine ⟨(kk _ o ho).1, fun H locs hW hS ls hl => ?_⟩
      have h9 : mK M a = 20 ∨ mK M a = 21 ∨ mK M a = 22 ∨ mK M a = 23 ∨ mK M a = 24 ∨ mK M a = 25 := by omega
      have kk' := (kk _ o ho).2 H locs hW hS ls hl
      rcases h9 with h | h | h | h | h | h
      · exact va_alen hx hb hK (hW.one (ent_arr.1 h)) 0 0 rfl rfl rfl d kk'
      · exact va_alen hx hb hK (hW.one (ent_arr.2.1 h)) 0 1 rfl rfl rfl d kk'
      · exact va_alen hx hb hK (hW.one (ent_arr.2.2.1 h)) 0 2 rfl rfl rfl d kk'
      · exact va_alen hx hb hK (hW.one (ent_arr.2.2.2.1 h)) 0 3 rfl rfl rfl d kk'
      · exact va_alen hx hb hK (hW.one (ent_arr.2.2.2.2.1 h)) 0 4 rfl rfl rfl d kk'
      · exact va_alen hx hb hK (hW.one (ent_arr.2.2.2.2.2 h)) 0 5 rfl rfl rfl d kk'
    · rw [if_neg h] at ho
      by_cases he : a = mL M 0
      · rw [if_pos he] at ho
        refine ⟨(kk _ o ho).1, fun H locs hW hS ls hl => ?_⟩
        have h5 : mL M 0 = gE G := hW.2.2.2.2.1
        have kk' := (kk _ o ho).2 H locs hW hS ls hl
        rw [h5] at he
        subst he
        exact va_tlen hx hb hST.2.2.2.2.2.2.1.2 hS rfl d kk'
      · rw [if_neg he] at ho; cases ho
theorem s_stB (C : CX X G own cc P nL ret n0) (i : Nat) (hr : P[i]? = some (pc, .bastore, len, k, nx)) {r : Option Nat} {j v : Int32} {f : Mm → Option ω} (kk : ∀ M', M' = uI M 0 (r.getD 0) j.toNatClampNeg (v.toInt8.toInt32) → JS X G nL q sl n0 E (f M') (σ, M', n) (pc + 1) lv st) : JS X G nL q sl n0 E (asB r j v M f) (σ, M, n) pc lv (.inl v :: .inl j :: .inr (.inl r) :: st) := by
  obtain ⟨hx, hb, hml, hown, hts, hK, hlk, hrt, hST, hZ, hn0, hAA, hP, htr⟩ := C
  obtain ⟨d, c⟩ := bOK_at hP i hr
  obtain ⟨rfl, -⟩ := ck1 (b := 0) c
  intro o ho
  cases r with
  | none => cases ho
  | some a =>
    have ho : (if mK M a = 20 then (if j < 0 ∨ mL M a ≤ j.toNatClampNeg then none else f (uI M 0 a j.toNatClampNeg (v.toInt8.toInt32))) else none) = some o := ho
    by_cases h : mK M a = 20
    · rw [if_pos h] at ho
      by_cases h2 : j < 0 ∨ mL M a ≤ j.toNatClampNeg
      · rw [if_pos h2] at ho; cases ho
      · rw [if_neg h2] at ho
        obtain ⟨k1, k2⟩ := kk _ rfl o ho
        refine ⟨k1, fun H locs hW hS ls hl => ?_⟩
        refine W.bast hx hb (hW.2.1 a _ (ent_arr.1 h)) ((hK.2 0 _ rfl).1 _ (fun z => .int (mI M 0 a z))) (fun z => by cases z) (by show ¬ (j < 0 ∨ (arrV _ _ _).slots.size ≤ _); rw [arrV_size]; exact h2) rfl rfl d fun H1 e z oq => ?_
        have e : H1[a]? = some ((vp_cell (gC G 0) (mL M a, .inl (mI M 0 a))).setSlot j.toNatClampNeg (.int v.toInt8.toInt32)) := e
        refine k2 H1 _ (hW.set z oq rfl rfl (by rw [h]; decide) (fun b hb => ?_) (fun x hx => ?_)) (hS.put z oq (kd_lt hW h (by decide) (by decide))) ls hl
        · exact ent_congr (fun c j => by simp only [Option.getD_some, mI_uI, hb, false_and, and_false, if_false]) (fun c j => rfl) (fun j => rfl) rfl rfl
        · rw [ent_arr.1 (by exact h)] at hx
          cases hx
          show H1[a]? = some (vp_cell _ (_, .inl (mI (uI M 0 a _ _) 0 a)))
          rw [mI_upd]
          exact cell_i _ _ _ _ _ e
    · rw [if_neg h] at ho; cases ho
theorem s_stI (C : CX X G own cc P nL ret n0) (i : Nat) (hr : P[i]? = some (pc, .iastore, len, k, nx)) {r : Option Nat} {j v : Int32} {f : Mm → Option ω} (kk : ∀ M', M' = uI M 0 (r.getD 0) j.toNatClampNeg v → JS X G nL q sl n0 E (f M') (σ, M', n) (pc + 1) lv st) : JS X G nL q sl n0 E (asI r j v M f) (σ, M, n) pc lv (.inl v :: .inl j :: .inr (.inl r) :: st) := by
  obtain ⟨hx, hb, hml, hown, hts, hK, hlk, hrt, hST, hZ, hn0, hAA, hP, htr⟩ := C
  obtain ⟨d, c⟩ := bOK_at hP i hr
  obtain ⟨rfl, -⟩ := ck1 (b := 0) c
  intro o ho
  cases r with
  | none => cases ho
  | some a =>
    have ho : (if mK M a = 21 then (if j < 0 ∨ mL M a ≤ j.toNatClampNeg then none else f (uI M 0 a j.toNatClampNeg v)) else none) = some o := ho
    by_cases h : mK M a = 21
    · rw [if_pos h] at ho
      by_cases h2 : j < 0 ∨ mL M a ≤ j.toNatClampNeg
      · rw [if_pos h2] at ho; cases ho
      · rw [if_neg h2] at ho
        obtain ⟨k1, k2⟩ := kk _ rfl o ho
        refine ⟨k1, fun H locs hW hS ls hl => ?_⟩
        refine W.iast hx hb (hW.2.1 a _ (ent_arr.2.1 h)) ((hK.2 1 _ rfl).1 _ (fun z => .int (mI M 0 a z))) (fun z => by cases z) (by show ¬ (j < 0 ∨ (arrV _ _ _).slots.size ≤ _); rw [arrV_size]; exact h2) rfl rfl d fun H1 e z oq => ?_
        have e : H1[a]? = some ((vp_cell (gC G 1) (mL M a, .inl (mI M 0 a))).setSlot j.toNatClampNeg (.int v)) := e
        refine k2 H1 _ (hW.set z oq rfl rfl (by rw [h]; decide) (fun b hb => ?_) (fun x hx => ?_)) (hS.put z oq (kd_lt hW h (by decide) (by decide))) ls hl
        · exact ent_congr (fun c j => by simp only [Option.getD_some, mI_uI, hb, false_and, and_false, if_false]) (fun c j => rfl) (fun j => rfl) rfl rfl
        · rw [ent_arr.2.1 (by exact h)] at hx
          cases hx
          show H1[a]? = some (vp_cell _ (_, .inl (mI (uI M 0 a _ _) 0 a)))
          rw [mI_upd]
          exact cell_i _ _ _ _ _ e
    · rw [if_neg h] at ho; cases ho
theorem s_stZ (C : CX X G own cc P nL ret n0) (i : Nat) (hr : P[i]? = some (pc, .bastore, len, k, nx)) {r : Option Nat} {j v : Int32} {f : Mm → Option ω} (kk : ∀ M', M' = uI M 0 (r.getD 0) j.toNatClampNeg v → JS X G nL q sl n0 E (f M') (σ, M', n) (pc + 1) lv st) : JS X G nL q sl n0 E (asZ r j v M f) (σ, M, n) pc lv (.inl v :: .inl j :: .inr (.inl r) :: st) := by
  obtain ⟨hx, hb, hml, hown, hts, hK, hlk, hrt, hST, hZ, hn0, hAA, hP, htr⟩ := C
  obtain ⟨d, c⟩ := bOK_at hP i hr
  obtain ⟨rfl, -⟩ := ck1 (b := 0) c
  intro o ho
  cases r with
  | none => cases ho
  | some a =>
    have ho : (if mK M a = 22 ∧ (v = 0 ∨ v = 1) then (if j < 0 ∨ mL M a ≤ j.toNatClampNeg then none else f (uI M 0 a j.toNatClampNeg v)) else none) = some o := ho
    by_cases h : mK M a = 22 ∧ (v = 0 ∨ v = 1)
    · rw [if_pos h] at ho
      obtain ⟨h, hv⟩ := h
      by_cases h2 : j < 0 ∨ mL M a ≤ j.toNatClampNeg
      · rw [if_pos h2] at ho; cases ho
      · rw [if_neg h2] at ho
        obtain ⟨k1, k2⟩ := kk _ rfl o ho
        refine ⟨k1, fun H locs hW hS ls hl => ?_⟩
        refine W.zast hx hb (hW.2.1 a _ (ent_arr.2.2.1 h)) ((hK.2 2 _ rfl).1 _ (fun z => .int (mI M 0 a z))) (fun z => by cases z) (by show ¬ (j < 0 ∨ (arrV _ _ _).slots.size ≤ _); rw [arrV_size]; exact h2) rfl rfl d fun H1 e z oq => ?_
        have e : H1[a]? = some ((vp_cell (gC G 2) (mL M a, .inl (mI M 0 a))).setSlot j.toNatClampNeg (.int v)) := by rw [e]; rcases hv with rfl | rfl <;> rfl
        refine k2 H1 _ (hW.set z oq rfl rfl (by rw [h]; decide) (fun b hb => ?_) (fun x hx => ?_)) (hS.put z oq (kd_lt hW h (by decide) (by decide))) ls hl
        · exact ent_congr (fun c j => by simp only [Option.getD_some, mI_uI, hb, false_and, and_false, if_false]) (fun c j => rfl) (fun j => rfl) rfl rfl
        · rw [ent_arr.2.2.1 (by exact h)] at hx
          cases hx
          show H1[a]? = some (vp_cell _ (_, .inl (mI (uI M 0 a _ _) 0 a)))
          rw [mI_upd]
          exact cell_i _ _ _ _ _ e
    · rw [if_neg h] at ho; cases ho
theorem s_stJ (C : CX X G own cc P nL ret n0) (i : Nat) (hr : P[i]? = some (pc, .lastore, len, k, nx)) {r : Option Nat} {j : Int32} {v : Int64} {f : Mm → Option ω} (kk : ∀ M', M' = uJ M (r.getD 0) j.toNatClampNeg v → JS X G nL q sl n0 E (f M') (σ, M', n) (pc + 1) lv st) : JS X G nL q sl n0 E (asJ r j v M f) (σ, M, n) pc lv (.inr (.inr v) :: .inl j :: .inr (.inl r) :: st) := by
  obtain ⟨hx, hb, hml, hown, hts, hK, hlk, hrt, hST, hZ, hn0, hAA, hP, htr⟩ := C
  obtain ⟨d, c⟩ := bOK_at hP i hr
  obtain ⟨rfl, -⟩ := ck1 (b := 0) c
  intro o ho
  cases r with
  | none => cases ho
  | some a =>
    have ho : (if mK M a = 25 then (if j < 0 ∨ mL M a ≤ j.toNatClampNeg then none else f (uJ M a j.toNatClampNeg v)) else none) = some o := ho
    by_cases h : mK M a = 25
    · rw [if_pos h] at ho
      by_cases h2 : j < 0 ∨ mL M a ≤ j.toNatClampNeg
      · rw [if_pos h2] at ho; cases ho
      · rw [if_neg h2] at ho
        obtain ⟨k1, k2⟩ := kk _ rfl o ho
        refine ⟨k1, fun H locs hW hS ls hl => ?_⟩
        refine W.last hx hb (hW.2.1 a _ (ent_arr.2.2.2.2.2 h)) ((hK.2 5 _ rfl).1 _ (fun z => .long (mJ M a z))) (fun z => by cases z) (by show ¬ (j < 0 ∨ (arrV _ _ _).slots.size ≤ _); rw [arrV_size]; exact h2) rfl rfl d fun H1 e z oq => ?_
        refine k2 H1 _ (hW.set z oq rfl rfl (by rw [h]; decide) (fun b hb => ?_) (fun x hx => ?_)) (hS.put z oq (kd_lt hW h (by decide) (by decide))) ls hl
        · exact ent_congr (fun c j => rfl) (fun c j => rfl) (fun j => by simp only [Option.getD_some, mJ_uJ, hb, false_and, and_false, if_false]) rfl rfl
        · rw [ent_arr.2.2.2.2.2 (by exact h)] at hx
          cases hx
          show H1[a]? = some (vp_cell _ (_, .inr (.inl (mJ (uJ M a _ _) a))))
          rw [mJ_upd]
          exact cell_j _ _ _ _ _ e
    · rw [if_neg h] at ho; cases ho
end AW

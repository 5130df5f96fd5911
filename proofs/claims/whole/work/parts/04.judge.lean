/-! the abstract memory: the check's rows (by place of field), the class's cells (by kind), and the judgement over them -/
abbrev Sg : Type := Nat → Nat → Int32
abbrev Mm : Type := (Nat → Nat → Nat → Int32) × (Nat → Nat → Nat → Option Nat) × (Nat → Nat → Int64) × (Nat → Nat) × (Nat → Nat)
def mI (M : Mm) (c a j : Nat) : Int32 := M.1 c a j
def mP (M : Mm) (c a j : Nat) : Option Nat := M.2.1 c a j
def mJ (M : Mm) (a j : Nat) : Int64 := M.2.2.1 a j
def mK (M : Mm) (a : Nat) : Nat := M.2.2.2.1 a
def mL (M : Mm) (a : Nat) : Nat := M.2.2.2.2 a
def uI (M : Mm) (c a j : Nat) (v : Int32) : Mm := (fun c' a' j' => if c' = c ∧ a' = a ∧ j' = j then v else M.1 c' a' j', M.2)
def uP (M : Mm) (c a j : Nat) (v : Option Nat) : Mm := (M.1, fun c' a' j' => if c' = c ∧ a' = a ∧ j' = j then v else M.2.1 c' a' j', M.2.2)
def uJ (M : Mm) (a j : Nat) (v : Int64) : Mm := (M.1, M.2.1, fun a' j' => if a' = a ∧ j' = j then v else M.2.2.1 a' j', M.2.2.2)
def nA (M : Mm) (a k len : Nat) : Mm := (fun c a' j => if a' = a then 0 else M.1 c a' j, fun c a' j => if a' = a then none else M.2.1 c a' j, fun a' j => if a' = a then 0 else M.2.2.1 a' j, fun a' => if a' = a then k else M.2.2.2.1 a', fun a' => if a' = a then len else M.2.2.2.2 a')
theorem mI_uI (M : Mm) (c a j : Nat) (v : Int32) (c' a' j' : Nat) : mI (uI M c a j v) c' a' j' = if c' = c ∧ a' = a ∧ j' = j then v else mI M c' a' j' := rfl
theorem mI_uP (M : Mm) (c a j : Nat) (v : Option Nat) (c' a' j' : Nat) : mI (uP M c a j v) c' a' j' = mI M c' a' j' := rfl
theorem mI_uJ (M : Mm) (a j : Nat) (v : Int64) (c' a' j' : Nat) : mI (uJ M a j v) c' a' j' = mI M c' a' j' := rfl
theorem mI_nA (M : Mm) (a k len : Nat) (c' a' j' : Nat) : mI (nA M a k len) c' a' j' = if a' = a then 0 else mI M c' a' j' := rfl
theorem mP_uI (M : Mm) (c a j : Nat) (v : Int32) (c' a' j' : Nat) : mP (uI M c a j v) c' a' j' = mP M c' a' j' := rfl
theorem mP_uP (M : Mm) (c a j : Nat) (v : Option Nat) (c' a' j' : Nat) : mP (uP M c a j v) c' a' j' = if c' = c ∧ a' = a ∧ j' = j then v else mP M c' a' j' := rfl
theorem mP_uJ (M : Mm) (a j : Nat) (v : Int64) (c' a' j' : Nat) : mP (uJ M a j v) c' a' j' = mP M c' a' j' := rfl
theorem mP_nA (M : Mm) (a k len : Nat) (c' a' j' : Nat) : mP (nA M a k len) c' a' j' = if a' = a then none else mP M c' a' j' := rfl
theorem mJ_uI (M : Mm) (c a j : Nat) (v : Int32) (a' j' : Nat) : mJ (uI M c a j v) a' j' = mJ M a' j' := rfl
theorem mJ_uP (M : Mm) (c a j : Nat) (v : Option Nat) (a' j' : Nat) : mJ (uP M c a j v) a' j' = mJ M a' j' := rfl
theorem mJ_uJ (M : Mm) (a j : Nat) (v : Int64) (a' j' : Nat) : mJ (uJ M a j v) a' j' = if a' = a ∧ j' = j then v else mJ M a' j' := rfl
theorem mJ_nA (M : Mm) (a k len : Nat) (a' j' : Nat) : mJ (nA M a k len) a' j' = if a' = a then 0 else mJ M a' j' := rfl
theorem mK_uI (M : Mm) (c a j : Nat) (v : Int32) (a' : Nat) : mK (uI M c a j v) a' = mK M a' := rfl
theorem mK_uP (M : Mm) (c a j : Nat) (v : Option Nat) (a' : Nat) : mK (uP M c a j v) a' = mK M a' := rfl
theorem mK_uJ (M : Mm) (a j : Nat) (v : Int64) (a' : Nat) : mK (uJ M a j v) a' = mK M a' := rfl
theorem mK_nA (M : Mm) (a k len : Nat) (a' : Nat) : mK (nA M a k len) a' = if a' = a then k else mK M a' := rfl
theorem mL_uI (M : Mm) (c a j : Nat) (v : Int32) (a' : Nat) : mL (uI M c a j v) a' = mL M a' := rfl
theorem mL_uP (M : Mm) (c a j : Nat) (v : Option Nat) (a' : Nat) : mL (uP M c a j v) a' = mL M a' := rfl
theorem mL_uJ (M : Mm) (a j : Nat) (v : Int64) (a' : Nat) : mL (uJ M a j v) a' = mL M a' := rfl
theorem mL_nA (M : Mm) (a k len : Nat) (a' : Nat) : mL (nA M a k len) a' = if a' = a then len else mL M a' := rfl
def uS (σ : Sg) (k j : Nat) (v : Int32) : Sg := fun k' j' => if k' = k ∧ j' = j then v else σ k' j'
theorem uS_at (σ : Sg) (k j : Nat) (v : Int32) (k' j' : Nat) : uS σ k j v k' j' = if k' = k ∧ j' = j then v else σ k' j' := rfl
/-! kinds: 1 Bytes, 2 Code, 3 Cut, 4 Entry, 5 Part, 6 Region, 7 Rule, 8 Store, 9 Upload, 10 Version, 11 BlobHarbor, 12 ArrayList, 13 BlobHarborModel while it is made; arrays: 20 byte, 21 int, 22 boolean, 23 Object, 24 Bytes, 25 long -/
abbrev kcl : List vw_C := [(RX0, TX0, 2), (RX1, TX1, 4), (RX2, TX2, 3), (RX3, TX3, 4), (RX5, TX5, 8), (RX6, TX6, 4), (RX7, TX7, 3), (RX8, TX8, 5), (RX9, TX9, 4), (RX10, TX10, 5), (RX11, TX11, 10), (RJx4a65c, TJx4a65c, 3), (RX12, TX12, 47)]
/-- which fields are references -/
def kfl : Nat → List Bool := fun k => match k with
  | 1 => [true, false]
  | 2 => [true, true, true, true]
  | 3 => [true, true, false]
  | 4 => [false, false, false, true]
  | 5 => [false, false, true, true, true, true, false, false]
  | 6 => [true, true, true, true]
  | 7 => [false, false, false]
  | 8 => [true, true, true, true, true]
  | 9 => [true, false, true, false]
  | 10 => [true, true, false, false, false]
  | 11 => [true, true, true, true, true, true, true, true, false, false]
  | 12 => [false, true, false]
  | 13 => [false, false, true, false, true, false, true, true, false, true, true, false, true, false, true, true, true, true, true, true, true, true, true, true, true, true, true, true, true, true, true, true, true, true, true, true, true, true, true, true, false, true, true, true, true, true, true]
  | _ => []
def mfl : List Bool := kfl 13
/-- how long the check's rows are (0: a number, no row), and which are of booleans -/
def mlen : Nat → Nat := fun k => match k with
  | 2 => 40
  | 4 => 40
  | 6 => 20
  | 7 => 20
  | 9 => 201
  | 10 => 8040
  | 12 => 3
  | 14 => 6
  | 15 => 6
  | 16 => 6
  | 17 => 12
  | 18 => 2
  | 19 => 180
  | 20 => 180
  | 21 => 180
  | 22 => 1080
  | 23 => 900
  | 24 => 1800
  | 25 => 900
  | 26 => 2
  | 27 => 80
  | 28 => 80
  | 29 => 80
  | 30 => 80
  | 31 => 80
  | 32 => 80
  | 33 => 80
  | 34 => 1600
  | 35 => 402
  | 36 => 2
  | 37 => 400
  | 38 => 201
  | 39 => 201
  | 41 => 12
  | 42 => 12
  | 43 => 12
  | 44 => 108
  | 45 => 4320
  | 46 => 12
  | _ => 0
def mbool : Nat → Bool := fun k => match k with
  | 17 => true
  | 19 => true
  | 25 => true
  | 35 => true
  | 43 => true
  | _ => false
def flds (M : Mm) (a : Nat) (c : Nat) : Nat → List Bool → List Value := fun k l => match l with
  | [] => []
  | b :: l => (match b with
    | true => va_rf (mP M (100 * c + k) a 0)
    | false => .int (mI M (100 * c + k) a 0)) :: flds M a c (k + 1) l
theorem flds_len (M : Mm) (a c : Nat) (l : List Bool) : ∀ k, (flds M a c k l).length = l.length := by
  induction l with
  | nil => intro k; rfl
  | cons b l ih => intro k; show (flds M a c (k + 1) l).length + 1 = _; rw [ih]; rfl
theorem flds_at (M : Mm) (a c : Nat) (l : List Bool) : ∀ (k i : Nat) (b : Bool), l[i]? = some b → (flds M a c k l)[i]? = some (match b with
    | true => va_rf (mP M (100 * c + (k + i)) a 0)
    | false => .int (mI M (100 * c + (k + i)) a 0)) := by
  induction l with
  | nil => intro k i b h; cases h
  | cons b0 l ih =>
    intro k i b h
    cases i with
    | zero => cases h; rfl
    | succ i =>
      have h1 : l[i]? = some b := h
      have h2 := ih (k + 1) i b h1
      show (flds M a c (k + 1) l)[i]? = _
      rw [h2, Nat.add_right_comm k 1 i]
      rfl
theorem flds_congr {M M' : Mm} {a c : Nat} {l : List Bool} : ∀ {k : Nat}, (∀ i b, l[i]? = some b → match b with
    | true => mP M' (100 * c + (k + i)) a 0 = mP M (100 * c + (k + i)) a 0
    | false => mI M' (100 * c + (k + i)) a 0 = mI M (100 * c + (k + i)) a 0) → flds M' a c k l = flds M a c k l := by
  induction l with
  | nil => intro k h; rfl
  | cons b l ih =>
    intro k h
    have h0 := h 0 b rfl
    have h1 : flds M' a c (k + 1) l = flds M a c (k + 1) l := ih (fun i b' hb => by
      have h2 := h (i + 1) b' hb
      have e : k + (i + 1) = k + 1 + i := by omega
      rw [e] at h2
      exact h2)
    show _ :: _ = _ :: _
    rw [h1]
    cases b with
    | true => exact congrArg (fun z => va_rf z :: _) h0
    | false => exact congrArg (fun z => Value.int z :: _) h0
/-- the launch's own things: the classes' numbers, the arrays' classes, where the law's world begins, is the check there, its cell, its rows, (0: ArrayList's empty row, 1: FACTORS, 2: the class Object[]) -/
abbrev GE : Type := va_G × (Nat → ClassId) × Nat × Bool × Nat × (Nat → Nat) × (Nat → Nat)
def gD (G : GE) : va_G := G.1
def gC (G : GE) : Nat → ClassId := G.2.1
def gZ (G : GE) : Nat := G.2.2.1
def gH (G : GE) : Bool := G.2.2.2.1
def gM (G : GE) : Nat := G.2.2.2.2.1
def gA (G : GE) : Nat → Nat := G.2.2.2.2.2.1
def gE (G : GE) : Nat := G.2.2.2.2.2.2 0
def gF (G : GE) : Nat := G.2.2.2.2.2.2 1
def gO (G : GE) : Nat := G.2.2.2.2.2.2 2
def gAd (G : GE) : Nat → Prop := fun q => gZ G ≤ q
def ktys (G : GE) : List (ClassId × FieldType) := [(gC G 0, .byte), (gC G 1, .int), (gC G 2, .boolean), (gC G 3, .object "java/lang/Object"), (gC G 4, .object "BlobHarbor$Bytes"), (gC G 5, .long)]
def ent (G : GE) (M : Mm) (a : Nat) : Option va_E := match mK M a with
  | 0 => none
  | 20 => some (.inl (gC G 0, mL M a, .inl (mI M 0 a)))
  | 21 => some (.inl (gC G 1, mL M a, .inl (mI M 0 a)))
  | 22 => some (.inl (gC G 2, mL M a, .inl (mI M 0 a)))
  | 23 => some (.inl (gC G 3, mL M a, .inr (.inr (.inr (.inr (mP M 0 a))))))
  | 24 => some (.inl (gC G 4, mL M a, .inr (.inr (.inr (.inr (mP M 0 a))))))
  | 25 => some (.inl (gC G 5, mL M a, .inr (.inl (mJ M a))))
  | k => if k ≤ 13 then some (.inr (k - 1, flds M a k 0 (kfl k))) else none
def mvals (G : GE) (σ : Sg) : Nat → List Bool → List Value := fun k l => match l with
  | [] => []
  | b :: l => (match b with
    | true => .ref (gA G k)
    | false => .int (σ k 0)) :: mvals G σ (k + 1) l
theorem mvals_len (G : GE) (σ : Sg) (l : List Bool) : ∀ k, (mvals G σ k l).length = l.length := by
  induction l with
  | nil => intro k; rfl
  | cons b l ih => intro k; show (mvals G σ (k + 1) l).length + 1 = _; rw [ih]; rfl
theorem mvals_at (G : GE) (σ : Sg) (l : List Bool) : ∀ (k i : Nat) (b : Bool), l[i]? = some b → (mvals G σ k l)[i]? = some (match b with
    | true => .ref (gA G (k + i))
    | false => .int (σ (k + i) 0)) := by
  induction l with
  | nil => intro k i b h; cases h
  | cons b0 l ih =>
    intro k i b h
    cases i with
    | zero => cases h; rfl
    | succ i =>
      have h1 : l[i]? = some b := h
      have h2 := ih (k + 1) i b h1
      show (mvals G σ (k + 1) l)[i]? = _
      rw [h2, Nat.add_right_comm k 1 i]
      rfl
theorem mvals_congr {G : GE} {σ σ' : Sg} {l : List Bool} : ∀ {k : Nat}, (∀ i, l[i]? = some false → σ' (k + i) 0 = σ (k + i) 0) → mvals G σ' k l = mvals G σ k l := by
  induction l with
  | nil => intro k h; rfl
  | cons b l ih =>
    intro k h
    have h1 : mvals G σ' (k + 1) l = mvals G σ (k + 1) l := ih (fun i hb => by
      have h2 := h (i + 1) hb
      have e : k + (i + 1) = k + 1 + i := by omega
      rw [e] at h2
      exact h2)
    show _ :: _ = _ :: _
    rw [h1]
    cases b with
    | true => rfl
    | false => exact congrArg (fun z => Value.int z :: _) (h 0 rfl)
/-- the check's cells hold σ -/
def RepM (G : GE) (σ : Sg) (H : Heap) : Prop := va_at (gD G) kcl (gM G, .inr (12, mvals G σ 0 mfl)) H ∧ ∀ k, mfl[k]? = some true → H[gA G k]? = some (vp_cell (gC G (if mbool k = true then 2 else 1)) (mlen k, .inl (σ k)))
/-- the heap holds the class's memory M, and the check's σ where the check is there; it has n cells -/
def WDh (G : GE) (S : Sg × Mm × Nat) (H : Heap) : Prop := H.size = S.2.2 ∧ (∀ a x, ent G S.2.1 a = some x → va_at (gD G) kcl (a, x) H) ∧ (∀ a, mK S.2.1 a ≠ 0 → (gZ G ≤ a ∧ a < S.2.2) ∨ (a = gE G ∧ mK S.2.1 a = 26 ∧ a < S.2.2)) ∧
  (gH G = true → RepM G S.1 H ∧ mK S.2.1 (gM G) = 0 ∧ ∀ k, mfl[k]? = some true → mK S.2.1 (gA G k) = 0) ∧ mL S.2.1 0 = gE G ∧ mK S.2.1 (gE G) = 26
def pok (kd : Nat) (v : Option Nat) (M : Mm) : Bool := match v with
  | none => true
  | some b => if kd = 24 then decide (mK M b = 1) else decide (1 ≤ mK M b ∧ mK M b ≤ 12)
/-- a copy from row to row of references -/
def mC (M : Mm) (a b sp dp m : Nat) : Mm := (M.1, fun c' a' j' => if c' = 0 ∧ a' = b ∧ dp ≤ j' ∧ j' < dp + m then M.2.1 0 a (sp + (j' - dp)) else M.2.1 c' a' j', M.2.2)
def acp {ω : Type} (r : Option Nat) (sp : Int32) (r2 : Option Nat) (dp m : Int32) (M : Mm) (f : Mm → Option ω) : Option ω := match r, r2 with
  | some a, some b => if mK M a = 23 ∧ mK M b = 23 ∧ 0 < mL M b ∧ ¬ sp < 0 ∧ ¬ dp < 0 ∧ ¬ m < 0 ∧ sp.toNatClampNeg + m.toNatClampNeg ≤ mL M a ∧ dp.toNatClampNeg + m.toNatClampNeg ≤ mL M b ∧ ((List.range m.toNatClampNeg).all fun i => pok 23 (mP M 0 a (sp.toNatClampNeg + i)) M) = true then f (mC M a b sp.toNatClampNeg dp.toNatClampNeg m.toNatClampNeg) else none
  | _, _ => none
/-- what never changes of the check's places -/
def AAh (G : GE) : Prop := gH G = true → gZ G ≤ gM G ∧ (∀ k, mfl[k]? = some true → gZ G ≤ gA G k ∧ gA G k ≠ gM G) ∧ ∀ k k', mfl[k]? = some true → mfl[k']? = some true → gA G k = gA G k' → k = k'
abbrev WS : Type := Sg × Mm × Nat
abbrev OUT : Type := (Option AV ⊕ Nat) × WS
abbrev MC : Type := Program × Launch × Env × State × MethodId × Array Value × List Frame × Method × Code
def J (X : MC) (G : GE) (nL q sl n0 : Nat) (R : Room) (Q : State → Prop) (S : WS) (pc : Nat) (lv : LV) (st : List AV) : Prop :=
  ∀ (H : Heap) (locs : List Loc), WDh G S H → va_S (gAd G) X.2.2.2.1.heap H locs → ∀ ls : Array Slot, lv_has ls nL (lvv lv) →
    W X.1 X.2.1 X.2.2.1 R X.2.2.2.1 X.2.2.2.2.1 X.2.2.2.2.2.1 X.2.2.2.2.2.2.1 X.2.2.2.2.2.2.2.1 X.2.2.2.2.2.2.2.2 H locs (S.2.2 - n0) (sl + q * (S.2.2 - n0)) Q (F0 X.2.2.2.2.1 pc ls (st.map vv))
/-- from the pure run x on: where x has an end, the machine comes to it -/
def JS {ω : Type} (X : MC) (G : GE) (nL q sl n0 : Nat) (E : ω → Room × (State → Prop) × Nat) (x : Option ω) (S : WS) (pc : Nat) (lv : LV) (st : List AV) : Prop :=
  ∀ o, x = some o → S.2.2 ≤ (E o).2.2 ∧ J X G nL q sl n0 (E o).1 (E o).2.1 S pc lv st
/-! the pure runs' words: fields and rows of the class's memory, and of the check's -/
def fgI {ω : Type} (kd fid : Nat) (r : Option Nat) (M : Mm) (f : Int32 → Option ω) : Option ω := match r with
  | none => none
  | some a => if mK M a = kd then f (mI M fid a 0) else none
def fgR {ω : Type} (kd fid : Nat) (r : Option Nat) (M : Mm) (f : Option Nat → Option ω) : Option ω := match r with
  | none => none
  | some a => if mK M a = kd then f (mP M fid a 0) else none
def fpI {ω : Type} (kd fid : Nat) (r : Option Nat) (v : Int32) (M : Mm) (f : Mm → Option ω) : Option ω := match r with
  | none => none
  | some a => if mK M a = kd then f (uI M fid a 0 v) else none
def fpZ {ω : Type} (kd fid : Nat) (r : Option Nat) (v : Int32) (M : Mm) (f : Mm → Option ω) : Option ω := match r with
  | none => none
  | some a => if mK M a = kd ∧ (v = 0 ∨ v = 1) then f (uI M fid a 0 v) else none
def fpR {ω : Type} (kd fid : Nat) (r : Option Nat) (v : Option Nat) (M : Mm) (f : Mm → Option ω) : Option ω := match r with
  | none => none
  | some a => if mK M a = kd then f (uP M fid a 0 v) else none
def alI {ω : Type} (kd : Nat) (r : Option Nat) (i : Int32) (M : Mm) (f : Int32 → Option ω) : Option ω := match r with
  | none => none
  | some a => if mK M a = kd then (if i < 0 ∨ mL M a ≤ i.toNatClampNeg then none else f (mI M 0 a i.toNatClampNeg)) else none
def asI {ω : Type} (r : Option Nat) (i v : Int32) (M : Mm) (f : Mm → Option ω) : Option ω := match r with
  | none => none
  | some a => if mK M a = 21 then (if i < 0 ∨ mL M a ≤ i.toNatClampNeg then none else f (uI M 0 a i.toNatClampNeg v)) else none
def asB {ω : Type} (r : Option Nat) (i v : Int32) (M : Mm) (f : Mm → Option ω) : Option ω := match r with
  | none => none
  | some a => if mK M a = 20 then (if i < 0 ∨ mL M a ≤ i.toNatClampNeg then none else f (uI M 0 a i.toNatClampNeg v.toInt8.toInt32)) else none
def asZ {ω : Type} (r : Option Nat) (i v : Int32) (M : Mm) (f : Mm → Option ω) : Option ω := match r with
  | none => none
  | some a => if mK M a = 22 ∧ (v = 0 ∨ v = 1) then (if i < 0 ∨ mL M a ≤ i.toNatClampNeg then none else f (uI M 0 a i.toNatClampNeg v)) else none
def alP {ω : Type} (kd : Nat) (r : Option Nat) (i : Int32) (M : Mm) (f : Option Nat → Option ω) : Option ω := match r with
  | none => none
  | some a => if mK M a = kd then (if i < 0 ∨ mL M a ≤ i.toNatClampNeg then none else f (mP M 0 a i.toNatClampNeg)) else none
def asP {ω : Type} (kd : Nat) (r : Option Nat) (i : Int32) (v : Option Nat) (M : Mm) (f : Mm → Option ω) : Option ω := match r with
  | none => none
  | some a => if mK M a = kd ∧ pok kd v M = true then (if i < 0 ∨ mL M a ≤ i.toNatClampNeg then none else f (uP M 0 a i.toNatClampNeg v)) else none
def alJ {ω : Type} (r : Option Nat) (i : Int32) (M : Mm) (f : Int64 → Option ω) : Option ω := match r with
  | none => none
  | some a => if mK M a = 25 then (if i < 0 ∨ mL M a ≤ i.toNatClampNeg then none else f (mJ M a i.toNatClampNeg)) else none
def asJ {ω : Type} (r : Option Nat) (i : Int32) (v : Int64) (M : Mm) (f : Mm → Option ω) : Option ω := match r with
  | none => none
  | some a => if mK M a = 25 then (if i < 0 ∨ mL M a ≤ i.toNatClampNeg then none else f (uJ M a i.toNatClampNeg v)) else none
def aln {ω : Type} (r : Option Nat) (M : Mm) (f : Int32 → Option ω) : Option ω := match r with
  | none => none
  | some a => if 20 ≤ mK M a ∧ mK M a ≤ 25 then f (Int32.ofNat (mL M a)) else if a = mL M 0 then f 0 else none
def nwA {ω : Type} (kd bd : Nat) (i : Int32) (M : Mm) (n : Nat) (f : Option Nat → Mm → Nat → Option ω) : Option ω := if i < 0 ∨ bd < i.toNatClampNeg then none else f (some n) (nA M n kd i.toNatClampNeg) (n + 1)
def nwO {ω : Type} (kd : Nat) (M : Mm) (n : Nat) (f : Option Nat → Mm → Nat → Option ω) : Option ω := f (some n) (nA M n kd 0) (n + 1)
/-- a cast to the class of a kind; ArrayList's empty row and FACTORS are told apart by their places -/
def fca {ω : Type} (kd : Nat) (r : Option Nat) (M : Mm) (f : Option Nat → Option ω) : Option ω := match r with
  | none => f none
  | some a => if mK M a = kd then f (some a) else none
def facs : Nat → Int32 := fun j => match j with
  | 0 => 1
  | 4 => 1
  | 8 => 1
  | 9 => 1
  | 10 => 1
  | 11 => 1
  | 12 => 1
  | 13 => 2
  | 14 => 4
  | _ => 0
def kfa {ω : Type} (i : Int32) (f : Int32 → Option ω) : Option ω := if i < 0 ∨ 15 ≤ i.toNatClampNeg then none else f (facs i.toNatClampNeg)
def rZ {ω : Type} (v : Int32) (x : Option ω) : Option ω := if v = 0 ∨ v = 1 then x else none
def rC {ω : Type} (v : Int32) (x : Option ω) : Option ω := if (v.toUInt32 % 65536).toInt32 = v then x else none
def ifN {ω : Type} (r : Option Nat) (A B : Option ω) : Option ω := match r with
  | none => A
  | some _ => B
def mgF {ω : Type} (k : Nat) (σ : Sg) (f : Int32 → Option ω) : Option ω := f (σ k 0)
def mpF {ω : Type} (k : Nat) (v : Int32) (σ : Sg) (f : Sg → Option ω) : Option ω := f (uS σ k 0 v)
def mgA {ω : Type} (k : Nat) (i : Int32) (σ : Sg) (f : Int32 → Option ω) : Option ω := if i < 0 ∨ mlen k ≤ i.toNatClampNeg then none else f (σ k i.toNatClampNeg)
def mpA {ω : Type} (k : Nat) (i v : Int32) (σ : Sg) (f : Sg → Option ω) : Option ω := if i < 0 ∨ mlen k ≤ i.toNatClampNeg then none else f (uS σ k i.toNatClampNeg v)
def mpZ {ω : Type} (k : Nat) (i v : Int32) (σ : Sg) (f : Sg → Option ω) : Option ω := if (v = 0 ∨ v = 1) then (if i < 0 ∨ mlen k ≤ i.toNatClampNeg then none else f (uS σ k i.toNatClampNeg v)) else none

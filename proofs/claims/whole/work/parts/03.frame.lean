/-! words of the tables that every method may use -/
def TBG : List Cond := lw_tbl.filter goodWord
theorem tb_mem {w : Cond} (i : Nat) (h : tables_1[i]? = some w) (g : goodWord w = true) : w ∈ TBG := List.mem_filter.mpr ⟨List.mem_append_right _ (List.mem_of_getElem? h), g⟩
theorem tb_sel {q : MethodName} {k : Nat} (i : Nat) (h : lw_privs[i]? = some (q, k)) : Cond.selects q.cls q q ∈ TBG :=
  List.mem_filter.mpr ⟨List.mem_append_left _ (List.mem_map.mpr ⟨(q, k), List.mem_of_getElem? h, rfl⟩), rfl⟩
theorem tb_good : ∀ w ∈ TBG, goodWord w = true := fun _ h => (List.mem_filter.mp h).2
theorem tb_in : ∀ w ∈ TBG, w ∈ lw_tbl := fun _ h => (List.mem_filter.mp h).1
theorem tb_pay {args : Array Value} {s : State} (hts : ∀ w ∈ TBG, w.before args s = true) {w0 : Cond} (h0 : w0 ∈ TBG) : ∀ w ∈ w0 :: TBG, ∀ (a' : Array Value) (U : State), s.WarmedH U.vm → w.before a' U = true := by
  intro w hw a' U hU
  have hw' : w ∈ TBG := by
    rcases List.mem_cons.mp hw with h | h
    · rw [h]; exact h0
    · exact h
  exact word_at hU (good_of_word (tb_good w hw')) (hts w hw')
/-! abstract values, locals, straight stretches -/
abbrev AV : Type := Int32 ⊕ (Option Nat ⊕ Int64)
abbrev aI (x : Int32) : AV := .inl x
abbrev aR (r : Option Nat) : AV := .inr (.inl r)
abbrev aL (w : Int64) : AV := .inr (.inr w)
def vv : AV → Value := fun v => match v with
  | .inl x => .int x
  | .inr (.inl r) => va_rf r
  | .inr (.inr w) => .long w
def avL : AV → Bool := fun v => match v with
  | .inr (.inr _) => true
  | _ => false
theorem vv_cat (v : AV) : (vv v).category = if avL v = true then 2 else 1 := by
  rcases v with x | r | w
  · rfl
  · cases r <;> rfl
  · rfl
theorem vv_cat1 {v : AV} (h : avL v = false) : (vv v).category = 1 := by rw [vv_cat, h]; rfl
abbrev LV : Type := List (Nat × AV)
def lvv (l : LV) : List (Nat × Value) := l.map fun q => (q.1, vv q.2)
def lk : LV → Nat → Option AV := fun l k => match l with
  | [] => none
  | q :: l => match Nat.beq q.1 k with
    | true => some q.2
    | false => lk l k
theorem lk_mem {l : LV} {k : Nat} {v : AV} (h : lk l k = some v) : (k, v) ∈ l := by
  induction l with
  | nil => cases h
  | cons q l ih =>
    unfold lk at h
    split at h
    · next hb =>
      have e : q.1 = k := Nat.eq_of_beq_eq_true hb
      cases h
      rw [← e]
      exact List.mem_cons_self
    · exact List.mem_cons_of_mem _ (ih h)
theorem lv_lk {ls : Array Slot} {n : Nat} {l : LV} (h : lv_has ls n (lvv l)) {k : Nat} {v : AV} (hk : lk l k = some v) : ls[k]? = some (.val (vv v)) :=
  h.2.2 (k, vv v) (List.mem_map.mpr ⟨(k, v), lk_mem hk, rfl⟩)
theorem lv_less {ls : Array Slot} {n : Nat} {l l' : List (Nat × Value)} (h : lv_has ls n l) (hs : ∀ q ∈ l', q ∈ l) : lv_has ls n l' := ⟨h.1, h.2.1, fun q hq => h.2.2 q (hs q hq)⟩
def stl (l : LV) (i : Nat) (v : AV) : LV := (i, v) :: l.filter (fun q => !(Nat.beq q.1 i) && !(Nat.beq (q.1 + 1) i && avL q.2))
theorem stl_in (l : LV) (i : Nat) (v : AV) : ∀ q ∈ lvv (stl l i v), q ∈ (i, vv v) :: (lvv l).filter (fun q => !(q.1 == i) && !(q.1 + 1 == i && q.2.category == 2)) := by
  intro q hq
  obtain ⟨p, hp, rfl⟩ := List.mem_map.mp hq
  rcases List.mem_cons.mp hp with h | h
  · subst h; exact List.mem_cons_self
  · obtain ⟨h1, h2⟩ := List.mem_filter.mp h
    refine List.mem_cons_of_mem _ (List.mem_filter.mpr ⟨List.mem_map.mpr ⟨p, h1, rfl⟩, ?_⟩)
    have hc : ((vv p.2).category == 2) = avL p.2 := by rw [vv_cat]; cases avL p.2 <;> rfl
    show (!(p.1 == i) && !(p.1 + 1 == i && (vv p.2).category == 2)) = true
    have e : ∀ a b : Nat, (a == b) = Nat.beq a b := fun a b => by rw [Bool.eq_iff_iff, beq_iff_eq, Nat.beq_eq]
    rw [hc, e, e]
    exact h2
/-- a row of a method's code: where, what, how long, its constant, where it goes on (a branch: its other end) -/
abbrev BR : Type := Nat × Instr × Nat × Int32 × Nat
def cOK (nL : Nat) (pc : Nat) (i : Instr) (len : Nat) (c : Int32) (nx : Nat) : Bool := match i with
  | .iconst n => decide (Int32.ofInt n = c) && Nat.beq nx (pc + len) && Nat.beq len 1
  | .bipush n => decide ((Int8.ofInt n).toInt32 = c) && Nat.beq nx (pc + len) && Nat.beq len 2
  | .sipush n => decide ((Int16.ofInt n).toInt32 = c) && Nat.beq nx (pc + len) && Nat.beq len 3
  | .iinc k n => decide (Int32.ofInt n = c) && Nat.beq nx (pc + len) && Nat.beq len 3 && Nat.ble (k + 1) nL
  | .goto off => decide ((pc : Int) + off = (nx : Int)) && Nat.beq len 3
  | .ifCond _ off => decide ((pc : Int) + off = (nx : Int)) && Nat.beq len 3
  | .if_icmp _ off => decide ((pc : Int) + off = (nx : Int)) && Nat.beq len 3
  | .if_acmp _ off => decide ((pc : Int) + off = (nx : Int)) && Nat.beq len 3
  | .ifnull off => decide ((pc : Int) + off = (nx : Int)) && Nat.beq len 3
  | .ifnonnull off => decide ((pc : Int) + off = (nx : Int)) && Nat.beq len 3
  | .iload _ => Nat.beq nx (pc + len) && Nat.beq len 2
  | .aload _ => Nat.beq nx (pc + len) && Nat.beq len 2
  | .istore k => Nat.beq nx (pc + len) && Nat.beq len 2 && Nat.ble (k + 1) nL
  | .astore k => Nat.beq nx (pc + len) && Nat.beq len 2 && Nat.ble (k + 1) nL
  | .istore_n k => Nat.beq nx (pc + len) && Nat.beq len 1 && Nat.ble (k.val + 1) nL
  | .astore_n k => Nat.beq nx (pc + len) && Nat.beq len 1 && Nat.ble (k.val + 1) nL
  | .newarray _ => Nat.beq nx (pc + len) && Nat.beq len 2
  | .getfield _ => Nat.beq nx (pc + len) && Nat.beq len 3
  | .putfield _ => Nat.beq nx (pc + len) && Nat.beq len 3
  | .getstatic _ => Nat.beq nx (pc + len) && Nat.beq len 3
  | .new _ => Nat.beq nx (pc + len) && Nat.beq len 3
  | .anewarray _ => Nat.beq nx (pc + len) && Nat.beq len 3
  | .checkcast _ => Nat.beq nx (pc + len) && Nat.beq len 3
  | .invokevirtual _ => Nat.beq nx (pc + len) && Nat.beq len 3
  | .invokespecial _ => Nat.beq nx (pc + len) && Nat.beq len 3
  | .invokestatic _ => Nat.beq nx (pc + len) && Nat.beq len 3
  | .tableswitch _ _ _ _ => true
  | .ldc _ => Nat.beq nx (pc + len) && Nat.beq len 2
  | .ldc_w _ => Nat.beq nx (pc + len) && Nat.beq len 3
  | _ => Nat.beq nx (pc + len) && Nat.beq len 1
def rOK (cc : ByteArray) (nL : Nat) (r : BR) : Bool := decide (decode cc r.1 = .ok (r.2.1, r.2.2.1)) && cOK nL r.1 r.2.1 r.2.2.1 r.2.2.2.1 r.2.2.2.2
def bOK (cc : ByteArray) (nL : Nat) (P : List BR) : Bool := P.all (rOK cc nL)
theorem bOK_app {cc : ByteArray} {nL : Nat} {P Q : List BR} (h : bOK cc nL P = true) (k : bOK cc nL Q = true) : bOK cc nL (P ++ Q) = true := by
  unfold bOK at *
  rw [List.all_append, h, k]; rfl
theorem bOK_at {cc : ByteArray} {nL : Nat} {P : List BR} (h : bOK cc nL P = true) {r : BR} (i : Nat) (hr : P[i]? = some r) : decode cc r.1 = .ok (r.2.1, r.2.2.1) ∧ cOK nL r.1 r.2.1 r.2.2.1 r.2.2.2.1 r.2.2.2.2 = true := by
  have h1 := List.all_eq_true.mp h r (List.mem_of_getElem? hr)
  unfold rOK at h1
  rw [Bool.and_eq_true] at h1
  exact ⟨of_decide_eq_true h1.1, h1.2⟩
def sx1 (r : BR) (lv : LV) (st : List AV) : Option (LV × List AV) := match r.2.1, st with
  | .iload_n k, st => match lk lv k.val with
    | some (.inl x) => some (lv, .inl x :: st)
    | _ => none
  | .iload k, st => match lk lv k with
    | some (.inl x) => some (lv, .inl x :: st)
    | _ => none
  | .aload_n k, st => match lk lv k.val with
    | some (.inr (.inl x)) => some (lv, .inr (.inl x) :: st)
    | _ => none
  | .aload k, st => match lk lv k with
    | some (.inr (.inl x)) => some (lv, .inr (.inl x) :: st)
    | _ => none
  | .istore_n k, .inl x :: st => some (stl lv k.val (.inl x), st)
  | .istore k, .inl x :: st => some (stl lv k (.inl x), st)
  | .astore_n k, .inr (.inl x) :: st => some (stl lv k.val (.inr (.inl x)), st)
  | .astore k, .inr (.inl x) :: st => some (stl lv k (.inr (.inl x)), st)
  | .iconst _, st => some (lv, .inl r.2.2.2.1 :: st)
  | .bipush _, st => some (lv, .inl r.2.2.2.1 :: st)
  | .sipush _, st => some (lv, .inl r.2.2.2.1 :: st)
  | .iinc k _, st => match lk lv k with
    | some (.inl x) => some (stl lv k (.inl (x + r.2.2.2.1)), st)
    | _ => none
  | .iadd, .inl y :: .inl x :: st => some (lv, .inl (x + y) :: st)
  | .isub, .inl y :: .inl x :: st => some (lv, .inl (x - y) :: st)
  | .imul, .inl y :: .inl x :: st => some (lv, .inl (x * y) :: st)
  | .iand, .inl y :: .inl x :: st => some (lv, .inl (x &&& y) :: st)
  | .ixor, .inl y :: .inl x :: st => some (lv, .inl (x ^^^ y) :: st)
  | .ishl, .inl y :: .inl x :: st => some (lv, .inl (x <<< (y &&& 31)) :: st)
  | .ishr, .inl y :: .inl x :: st => some (lv, .inl (x >>> (y &&& 31)) :: st)
  | .i2b, .inl x :: st => some (lv, .inl x.toInt8.toInt32 :: st)
  | .i2c, .inl x :: st => some (lv, .inl (x.toUInt32 % 65536).toInt32 :: st)
  | .i2l, .inl x :: st => some (lv, .inr (.inr x.toInt64) :: st)
  | .lconst n, st => some (lv, .inr (.inr (Int64.ofNat n.val)) :: st)
  | .aconst_null, st => some (lv, .inr (.inl none) :: st)
  | .goto _, st => some (lv, st)
  | .dup, v :: st => match avL v with
    | true => none
    | false => some (lv, v :: v :: st)
  | .pop, v :: st => match avL v with
    | true => none
    | false => some (lv, st)
  | .dup2, y :: x :: st => match avL y, avL x with
    | false, false => some (lv, y :: x :: y :: x :: st)
    | _, _ => none
  | .dup_x1, y :: x :: st => match avL y, avL x with
    | false, false => some (lv, y :: x :: y :: st)
    | _, _ => none
  | _, _ => none
def bx : List BR → Nat → LV → List AV → Option (Nat × LV × List AV) := fun l pc lv st => match l with
  | [] => some (pc, lv, st)
  | r :: l => match Nat.beq r.1 pc with
    | false => none
    | true => match sx1 r lv st with
      | none => none
      | some q => bx l r.2.2.2.2 q.1 q.2
def lsel (ks : List Nat) (lv : LV) : LV := ks.filterMap fun k => match lk lv k with
  | some v => some (k, v)
  | none => none
theorem lsel_in (ks : List Nat) (lv : LV) : ∀ q ∈ lvv (lsel ks lv), q ∈ lvv lv := by
  intro q hq
  obtain ⟨p, hp, rfl⟩ := List.mem_map.mp hq
  obtain ⟨k, -, hk⟩ := List.mem_filterMap.mp hp
  split at hk
  · next v hv =>
    cases hk
    exact List.mem_map.mpr ⟨(k, v), lk_mem hv, rfl⟩
  · cases hk

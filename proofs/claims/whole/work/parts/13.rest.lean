def bdN {α β : Type} (x : Option ((α ⊕ Nat) × Mm × Nat)) (n : Nat) (f : α → Mm → Nat → Option ((β ⊕ Nat) × Mm × Nat)) : Option ((β ⊕ Nat) × Mm × Nat) := match x with
  | some (.inl v, M, n') => if n ≤ n' then f v M n' else none
  | _ => none
def tsl {ω : Type} : List (Option ω) → Nat → Option ω
  | [], _ => none
  | a :: _, 0 => a
  | _ :: l, j + 1 => tsl l j
section RZ
variable {X : MC} {G : GE} {own : String} {cc : ByteArray} {P : List BR} {nL : Nat} {ret : Option FieldType} {n0 q sl d : Nat} {ω : Type} {E : ω → Room × (State → Prop) × Nat} {σ : Sg} {M : Mm} {n : Nat} {pc : Nat} {lv : LV} {st stk : List AV}
theorem CX_tr (C : CX X G own cc P nL ret n0) : X.2.1.stackTraces = false := C.2.2.2.2.2.2.2.2.2.2.2.2.2
theorem s_dg {S : WS} {y : Int32} {B : Option ω} (kk : y ≠ 0 → JS X G nL q sl n0 E B S pc lv st) : JS X G nL q sl n0 E (if y = 0 then none else B) S pc lv st := by
  by_cases h : y = 0
  · rw [if_pos h]; exact s_none
  · rw [if_neg h]; exact kk h
theorem s_NU {β : Type} {rv : β → Option AV} (C : CX X G own cc P nL ret n0) (htab : ∀ z ∈ X.2.2.2.2.2.2.2.2.exceptionTable.toList, False) {x : Option ((Unit ⊕ Nat) × Mm × Nat)} {f : Unit → Mm → Nat → Option ((β ⊕ Nat) × Mm × Nat)} (h : ∀ v M1 n1, x = some (.inl v, M1, n1) → CJ X G nL q 0 n0 d pc stk st (σ, M, n) (eC rvU σ (.inl v, M1, n1))) (kk : ∀ v M1 n1, n ≤ n1 → JS X G nL q 0 n0 (EM X G n0 d q (eC rv σ)) (f v M1 n1) (σ, M1, n1) (pc + 3) lv (st)) : JS X G nL q 0 n0 (EM X G n0 d q (eC rv σ)) (bdN x n f) (σ, M, n) pc lv stk := by
  intro o ho
  obtain ⟨e1, e2, e3, e4⟩ := CE_EM X G n0 d q (eC rv σ) o
  cases x with
  | none => cases ho
  | some r =>
    obtain ⟨r | r, M1, n1⟩ := r
    · have ho : (if n ≤ n1 then f r M1 n1 else none) = some o := ho
      by_cases hn : n ≤ n1
      · rw [if_pos hn] at ho
        obtain ⟨k1, k2⟩ := kk r M1 n1 hn o ho
        exact ⟨Nat.le_trans hn k1, h _ _ _ rfl lv _ _ e1 e2 hn (Nat.le_trans (Nat.sub_le_sub_right k1 n0) e3) (Nat.le_trans (Nat.add_le_add_left (Nat.mul_le_mul_left q (Nat.sub_le_sub_right k1 n0)) 0) e4) (fun rv hrv => by cases hrv; exact k2) (fun z hz => by cases hz)⟩
      · rw [if_neg hn] at ho; cases ho
    · cases ho
end RZ
theorem sl_len (l : List AV) (h : l.all (fun v => !(avL v)) = true) : (lg_sl (l.map vv)).length = l.length := by
  induction l with
  | nil => rfl
  | cons v l ih =>
    rw [List.all_cons, Bool.and_eq_true] at h
    have hv : avL v = false := by
      cases e : avL v with
      | true => rw [e] at h; cases h.1
      | false => rfl
    have h2 := ih h.2
    show (lg_sl (vv v :: l.map vv)).length = _
    unfold lg_sl at h2 ⊢
    rw [List.flatMap_cons, if_neg (by rw [vv_cat1 hv]; decide), List.length_append, h2, List.length_cons, List.length_nil, List.length_cons]
    omega
theorem c_ofX {l : Launch} {G : GE} {y : MethodName} {cy : ByteArray} {nLy : Nat} {rety : Option FieldType} {d q : Nat} {As : List AV} {S : WS} {ω : Type} {emb : ω → OUT} {x : Option ω} {P : List BR} (hy : plainName y.cls = true) (hP : bOK cy nLy P = true) (htr : l.stackTraces = false) (h1 : As.all (fun v => !(avL v)) = true) (h2 : Nat.ble As.length nLy = true)
    (body : ∀ X : MC, X.2.1 = l → X.2.2.2.2.2.2.2.1.name = y.name → CX X G y.cls cy P nLy rety S.2.2 → (∀ z ∈ X.2.2.2.2.2.2.2.2.exceptionTable.toList, False) → JS X G nLy q 0 S.2.2 (EM X G S.2.2 d q emb) x S 0 (lvA 0 As) []) : ∀ o, x = some o → MetX l G y cy nLy rety d q As S (emb o) :=
  c_of hy hP htr (by rw [sl_len As h1]; exact Nat.le_of_ble_eq_true h2) body
theorem fl_same (a : Array Value) (s : State) (h : ∀ w ∈ TBG, w.before a s = true) (x : ClassId × Class × Nat × Field) (hx : s.fieldFound? "java/util/AbstractList" "modCount" "I" = some x) : s.fieldFound? "java/util/ArrayList" "modCount" "I" = some x :=
  u_same (h _ (tb_mem 74 (by decide +kernel) (by decide +kernel))) x hx

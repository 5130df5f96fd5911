/-! the law's own methods: they call, and catch -/
theorem lw_ofWH {l : Launch} {y : MethodName} {ws ws' : List Cond} {rm : Room} {Pc : Array Value → State → Prop} {Qc : Array Value → State → Outcome → State → Prop} {XC : String → State → State → Prop} {mc ms : Nat} {free : Addr → Prop} {cc : ByteArray} {maxL : Nat} {ret : Option FieldType} {hh : List (Nat × Nat × Nat × Nat)}
    (hy : plainName y.cls = true) (hw : ws = Cond.codeWith y cc maxL ret hh :: ws')
    (body : ∀ p e s m args below meth c s₁, BodyLoose p l y (headSpec ws rm) cc maxL ret e s m args below meth c s₁ → c.maxLocals = maxL → Pc args s →
      W p l e (headSpec ws rm).room s m args below meth c s.heap [] 0 0 (vx_MQ below Qc XC args s mc ms free) (entryFrame m args maxL)) : vx_Met l y ws rm Pc Qc XC mc ms free := by
  refine MetFree.of_bodyS (code := cc) (maxLocals := maxL) (ret := ret) hy ?_ ?_
  · intro args s m h hn
    obtain ⟨m9, meth, c, hn9, h1, h2, h3, h4, -, h5, h6, -⟩ := Cond.codeWith_spec (atoms_spec (ws := ws) h _ (by rw [hw]; exact List.mem_cons_self))
    cases hn.symm.trans hn9
    exact ⟨meth, c, h1, h2, h3, h4, h5, h6⟩
  · intro p e s m args below meth c s₁ B hml hP _
    have hh0 : s₁.heap = s.heap := by rw [B.state]; rfl
    obtain ⟨t, a1, o, b1, b2, b3⟩ := body p e s m args below meth c s₁ B hml hP s₁ hh0 (Stand.of_body B)
    exact ⟨t, o, a1, b1, b2, b3⟩
abbrev HH : Type := List (Nat × Nat × Nat × Nat)
def MetW (l : Launch) (G : GE) (y : MethodName) (cy : ByteArray) (nLy : Nat) (rety : Option FieldType) (hh : HH) (dy qy : Nat) (As : List AV) (S : WS) (o : OUT) : Prop :=
  Met l y (.codeWith y cy nLy rety hh :: TBG) (rm dy qy (o.2.2.2 - S.2.2)) (va_Pc (As.map vv) (WU G S)) (QcO G o) (o.2.2.2 - S.2.2) (0 + qy * (o.2.2.2 - S.2.2)) (gAd G)
theorem c_ofW {l : Launch} {G : GE} {y : MethodName} {cy : ByteArray} {nLy : Nat} {rety : Option FieldType} {hh : HH} {d q : Nat} {As : List AV} {S : WS} {ω : Type} {emb : ω → OUT} {x : Option ω} {P : List BR} (hrv : ∀ r, ∃ v, (emb r).1 = .inl v) (hy : plainName y.cls = true) (hP : bOK cy nLy P = true) (htr : l.stackTraces = false) (h1 : As.all (fun v => !(avL v)) = true) (h2 : Nat.ble As.length nLy = true)
    (body : ∀ X : MC, X.2.1 = l → CX X G y.cls cy P nLy rety S.2.2 → X.2.2.2.2.2.2.2.2.exceptionTable.toList = tableOf hh → JS X G nLy q 0 S.2.2 (EM X G S.2.2 d q emb) x S 0 (lvA 0 As) []) : ∀ o, x = some o → MetW l G y cy nLy rety hh d q As S (emb o) := by
  intro o ho
  have hlen : (lg_sl (As.map vv)).length ≤ nLy := by rw [sl_len As h1]; exact Nat.le_of_ble_eq_true h2
  have key : vx_Met l y (.codeWith y cy nLy rety hh :: TBG) (rm d q ((emb o).2.2.2 - S.2.2)) (va_Pc (As.map vv) (WU G S)) (QcO G (emb o)) (XcO G (emb o)) ((emb o).2.2.2 - S.2.2) (0 + q * ((emb o).2.2.2 - S.2.2)) (gAd G) := by
    refine lw_ofWH (cc := cy) (maxL := nLy) (ret := rety) (hh := hh) hy rfl ?_
    intro p e s m args below meth c s₁ B hml hv
    obtain ⟨rfl, hW, hK, hST, hZ, hAA⟩ := hv
    have hts := atoms_spec (ws := .codeWith y cy nLy rety hh :: TBG) B.pre
    have hn0 : s.heap.size = S.2.2 := hW.1
    have htab : c.exceptionTable.toList = tableOf hh := vx_table (x := y) B (hts _ List.mem_cons_self)
    obtain ⟨k1, k2⟩ := body (p, l, e, s, m, (As.map vv).toArray, below, meth, c) rfl ⟨B.exec, B.bytes, hml, findClass_of_methodNamed B.named, fun w hw => hts w (List.mem_cons_of_mem _ hw), hK, B.notSynchronized, B.returns, hST, hZ, hn0, hAA, hP, htr⟩ htab o ho
    rw [lg_entry_eq]
    have hl := lv_entry (As.map vv) (n := nLy) hlen
    generalize (lg_sl (As.map vv) ++ List.replicate (nLy - (lg_sl (As.map vv)).length) Slot.unset).toArray = ls at hl ⊢
    refine W.cs (cells' := S.2.2 - S.2.2) (slots' := 0 + q * (S.2.2 - S.2.2)) (by rw [Nat.sub_self]) (by rw [Nat.sub_self]; rfl) ?_
    exact k2 s.heap [] hW va_S.rf ls (by rw [lvA_eq]; exact hl)
  obtain ⟨v, hv⟩ := hrv o
  exact MetFree.to key fun a s oc t hq => by
    rcases hq with hq | ⟨q, -, E, ce, L, ⟨k, hk, -⟩, -⟩
    · exact hq
    · rw [hv] at hk; cases hk
def MFW (y : MethodName) (cy : ByteArray) (nLy : Nat) (rety : Option FieldType) (hh : HH) (na : Nat) : Prop := Cond.codeWith y cy nLy rety hh ∈ TBG ∧ Cond.static y ∈ TBG ∧ Cond.initialized y.cls ∈ TBG ∧ (y.cls ≠ "java/lang/invoke/MethodHandle" ∧ y.cls ≠ "java/lang/invoke/VarHandle") ∧ (parseMethodDescriptor y.desc).map (fun d => d.parameters.length) = some na
section LW
variable {X : MC} {G : GE} {own : String} {cc : ByteArray} {P : List BR} {nL : Nat} {ret : Option FieldType} {n0 q sl d : Nat} {S : WS} {pc nx len idx : Nat} {k : Int32} {lv : LV} {st stk : List AV} {y : MethodName} {cy : ByteArray} {nLy : Nat} {rety : Option FieldType} {hh : HH} {na dy qy : Nat} {As : List AV} {o : OUT} {ω : Type} {E : ω → Room × (State → Prop) × Nat} {σ : Sg} {M : Mm} {n : Nat}
theorem j_callSW (C : CX X G own cc P nL ret n0) (i : Nat) (hr : P[i]? = some (pc, .invokestatic idx, len, k, nx)) (mf : MFW y cy nLy rety hh na) (hlk : Cond.methodLink own idx y ∈ TBG) (hna : As.length = na)
    (hd : dy + 1 ≤ d) (hdl : 19 + nLy + 100 * dy ≤ 100 * d) (hqq : qy ≤ q) (hst : stk8 st = true) (hM : MetW X.2.1 G y cy nLy rety hh dy qy As S o) : CJ X G nL q sl n0 d pc (As.reverse ++ st) st S o := by
  obtain ⟨dd, c⟩ := bOK_at C.2.2.2.2.2.2.2.2.2.2.2.2.1 i hr
  obtain ⟨rfl, -⟩ := ck1 (b := 0) c
  intro lv R Q hRf hRl hn hc hs kr kx H locs hW hS ls hl
  obtain ⟨r1, r2, r3, r4⟩ := room_call (c := 0) (n0_le C hW hS) hn hqq hc hs
  obtain ⟨f1, f2, f4, f5, f6⟩ := mf
  obtain ⟨hx, hb, hml, hown, hts, hK, hlk', hrt, hST, hZ, hn0, hAA, hP, htr⟩ := id C
  have e : ((As.reverse ++ st).map vv) = (As.map vv).reverse ++ st.map vv := by rw [List.map_append, List.map_reverse]
  rw [e]
  exact j_run C hW hS hl hqq hn hc hs (run_x (vx_runSW (As := As.map vv) (n := na) (hh := hh) ⟨hx, hb, hml, hown, hts⟩ hM
    ⟨⟨rfl, rfl, Nat.le_trans hd hRf, by show 8 + (nLy + 11) + 100 * dy ≤ _; omega, tb_pay hts f1, List.mem_cons_self⟩, hts _ f1, hts _ f4, f5, sig_len f6, hts _ hlk, hts _ f2⟩
    ⟨WU_blind, fun U hU hv => ⟨rfl, WU_of C hW hS hU hv⟩⟩ rfl (by rw [List.length_map]; exact hna) hl.1 rfl (lv_room (st_room hst)) dd ⟨r1, r2⟩)) kr kx
def JSX (X : MC) (G : GE) (nL q sl n0 : Nat) (E : ω → Room × (State → Prop) × Nat) (x : Option ω) (S : WS) (kx : Nat) (pc : Nat) (lv : LV) : Prop :=
  ∀ o, x = some o → S.2.2 ≤ (E o).2.2 ∧ JX X G nL q sl n0 (E o).1 (E o).2.1 S (exn kx) pc lv
theorem jsx_none {kx : Nat} : JSX X G nL q sl n0 E none S kx pc lv := fun o ho => by cases ho
theorem jsx_if {kx a : Nat} {A B : Option ω} (ka : kx = a → JSX X G nL q sl n0 E A S kx pc lv) (kb : JSX X G nL q sl n0 E B S kx pc lv) : JSX X G nL q sl n0 E (if kx = a then A else B) S kx pc lv := by
  by_cases h : kx = a
  · rw [if_pos h]; exact ka h
  · rw [if_neg h]; exact kb
theorem jsx_catch (C : CX X G own cc P nL ret n0) (htab : X.2.2.2.2.2.2.2.2.exceptionTable.toList = tableOf hh) {kx : Nat} (j : Nat) {a b h t : Nat} (hj : hh = hh.take j ++ (a, b, h, t) :: hh.drop (j + 1)) (h1 : a ≤ pc) (h2 : pc < b) (ht : t ≠ 0) (hlk : Cond.classLink own t (exn kx) ∈ TBG) (hcast : Cond.castable (exn kx) (exn kx) ∈ NST)
    (hpass : ∀ z ∈ hh.take j, z.2.2.2 ≠ 0 ∧ ∃ nm, Cond.classLink own z.2.2.2 nm ∈ TBG ∧ (exn kx, nm) ∈ xprs) {A : Option ω} (kk : ∀ q9, JS X G nL q sl n0 E A S h lv [.inr (.inl (some q9))]) : JSX X G nL q sl n0 E A S kx pc lv := by
  obtain ⟨hx, hb, hml, hown, hts, hK, hlk', hrt, hST, hZ, hn0, hAA, hP, htr⟩ := id C
  intro o ho
  refine ⟨(kk 0 o ho).1, fun H locs hW hS ls hl q9 ce rest g1 g2 g3 => ?_⟩
  have hsp : X.2.2.2.2.2.2.2.2.exceptionTable.toList = tableOf (hh.take j) ++ (⟨a, b, h, t⟩ : ExceptionTableEntry) :: tableOf (hh.drop (j + 1)) := by
    rw [htab]
    conv => lhs; rw [hj]
    unfold tableOf
    rw [List.map_append, List.map_cons]
  refine vx_catch (E := exn kx) hown (tableOf (hh.take j)) ⟨a, b, h, t⟩ (tableOf (hh.drop (j + 1))) hsp (fun z hz => ?_) ?_ ht (hts _ hlk) (va_Nw.use rfl (hST.2.2.2.2.2.2.2.1 _ hcast)) g1 g2 g3 ((kk q9 o ho).2 H locs hW hS ls hl)
  · obtain ⟨z', hz', rfl⟩ := List.mem_map.mp hz
    obtain ⟨e1, nm, e2, e3⟩ := hpass z' hz'
    exact Or.inr ⟨e1, nm, hts _ e2, hST.2.2.2.2.2.2.2.2.2.2.2 _ e3⟩
  · show (decide (a ≤ pc) && decide (pc < b)) = true
    rw [decide_eq_true h1, decide_eq_true h2]; rfl
def bdT {α : Type} (x : Option ((α ⊕ Nat) × Mm × Nat)) (n : Nat) (f : α → Mm → Nat → Option ω) (g : Nat → Mm → Nat → Option ω) : Option ω := match x with
  | none => none
  | some (.inl v, M, n') => if n ≤ n' then f v M n' else none
  | some (.inr k, M, n') => if n ≤ n' then g k M n' else none
theorem s_T (hE : CE E d q sl n0) {x : Option ((Int32 ⊕ Nat) × Mm × Nat)} {f : Int32 → Mm → Nat → Option ω} {g : Nat → Mm → Nat → Option ω} (h : ∀ o, x = some o → CJ X G nL q sl n0 d pc stk st (σ, M, n) (eC rvI σ o)) (kk : ∀ v M1 n1, n ≤ n1 → JS X G nL q sl n0 E (f v M1 n1) (σ, M1, n1) (pc + 3) lv (.inl v :: st)) (kx : ∀ k M1 n1, n ≤ n1 → JSX X G nL q sl n0 E (g k M1 n1) (σ, M1, n1) k pc lv) : JS X G nL q sl n0 E (bdT x n f g) (σ, M, n) pc lv stk := by
  intro o ho
  obtain ⟨e1, e2, e3, e4⟩ := hE o
  cases x with
  | none => cases ho
  | some r =>
    obtain ⟨r | r, M1, n1⟩ := r
    · have ho : (if n ≤ n1 then f r M1 n1 else none) = some o := ho
      by_cases hn : n ≤ n1
      · rw [if_pos hn] at ho
        obtain ⟨k1, k2⟩ := kk r M1 n1 hn o ho
        exact ⟨Nat.le_trans hn k1, h _ rfl lv _ _ e1 e2 hn (Nat.le_trans (Nat.sub_le_sub_right k1 n0) e3) (Nat.le_trans (Nat.add_le_add_left (Nat.mul_le_mul_left q (Nat.sub_le_sub_right k1 n0)) sl) e4) (fun rv hrv => by cases hrv; exact k2) (fun z hz => by cases hz)⟩
      · rw [if_neg hn] at ho; cases ho
    · have ho : (if n ≤ n1 then g r M1 n1 else none) = some o := ho
      by_cases hn : n ≤ n1
      · rw [if_pos hn] at ho
        obtain ⟨k1, k2⟩ := kx r M1 n1 hn o ho
        exact ⟨Nat.le_trans hn k1, h _ rfl lv _ _ e1 e2 hn (Nat.le_trans (Nat.sub_le_sub_right k1 n0) e3) (Nat.le_trans (Nat.add_le_add_left (Nat.mul_le_mul_left q (Nat.sub_le_sub_right k1 n0)) sl) e4) (fun rv hrv => by cases hrv) (fun z hz => by cases hz; exact k2)⟩
      · rw [if_neg hn] at ho; cases ho
end LW
def eL (σ : Sg) : Int32 × Mm × Nat → OUT := fun o => (.inl (rvI o.1), (σ, o.2.1, o.2.2))

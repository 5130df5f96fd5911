/-- a method's start, over the world S -/
def WU (G : GE) (S : WS) (U : State) : Prop := WDh G S U.heap ∧ va_K (gD G) kcl (ktys G) U ∧ ST G U ∧ gZ G ≤ U.heap.size ∧ AAh G
/-- a method's contract: from the world S, with these arguments, it comes to o -/
def MetX (l : Launch) (G : GE) (y : MethodName) (cy : ByteArray) (nLy : Nat) (rety : Option FieldType) (dy qy : Nat) (As : List AV) (S : WS) (o : OUT) : Prop :=
  vx_Met l y (.code y cy nLy rety :: TBG) (rm dy qy (o.2.2.2 - S.2.2)) (va_Pc (As.map vv) (WU G S)) (QcO G o) (XcO G o) (o.2.2.2 - S.2.2) (0 + qy * (o.2.2.2 - S.2.2)) (gAd G)
theorem WU_blind {G : GE} {S : WS} {av : List Value} : FrameBlind (va_Pc av (WU G S)) :=
  fun a U g mk ⟨hv, h1, h2, h3, h4, h5⟩ => ⟨hv, h1, va_K.moved (u := U) (U := U.calling g mk a) (Vm.Alike.refl U.vm) h2, h3.same rfl rfl, h4, h5⟩
theorem MetFree.to {l : Launch} {y : MethodName} {Sp : Spec} {P : Array Value → State → Prop} {K : Program → Env → List Frame → State → Array Value → Prop} {Q Q' : Array Value → State → Outcome → State → Prop} (h : MetFree l y Sp P K Q) (hq : ∀ a s o t, Q a s o t → Q' a s o t) : MetFree l y Sp P K Q' := by
  intro p e h1 h2 h3 s m args below h4 h5 h6 h7
  obtain ⟨n, o, a1, a2, a3, a4⟩ := h p e h1 h2 h3 s m args below h4 h5 h6 h7
  exact ⟨n, o, a1, a2, a3, hq _ _ _ _ a4⟩
/-- a contract of one that returns -/
theorem MetX.ret {l : Launch} {G : GE} {y : MethodName} {cy : ByteArray} {nLy : Nat} {rety : Option FieldType} {dy qy : Nat} {As : List AV} {S : WS} {o : OUT} (h : MetX l G y cy nLy rety dy qy As S o) {rv : Option AV} (hr : o.1 = .inl rv) :
    Met l y (.code y cy nLy rety :: TBG) (rm dy qy (o.2.2.2 - S.2.2)) (va_Pc (As.map vv) (WU G S)) (QcO G o) (o.2.2.2 - S.2.2) (0 + qy * (o.2.2.2 - S.2.2)) (gAd G) :=
  MetFree.to h fun a s oc t hq => by
    rcases hq with hq | ⟨q, -, E, ce, L, ⟨k, hk, -⟩, -⟩
    · exact hq
    · rw [hr] at hk; cases hk
def lvA : Nat → List AV → LV := fun i l => match l with
  | [] => []
  | v :: l => (i, v) :: lvA (match avL v with | true => i + 2 | false => i + 1) l
theorem lvA_eq (l : List AV) : ∀ i, lvv (lvA i l) = lv_args i (l.map vv) := by
  induction l with
  | nil => intro i; rfl
  | cons v l ih =>
    intro i
    show (i, vv v) :: lvv (lvA _ l) = (i, vv v) :: lv_args _ (l.map vv)
    rw [ih, vv_cat]
    cases avL v <;> rfl
/-- a contract out of the walk of its body -/
theorem c_of {l : Launch} {G : GE} {y : MethodName} {cy : ByteArray} {nLy : Nat} {rety : Option FieldType} {d q : Nat} {As : List AV} {S : WS} {ω : Type} {emb : ω → OUT} {x : Option ω} {P : List BR} (hy : plainName y.cls = true) (hP : bOK cy nLy P = true) (htr : l.stackTraces = false) (hlen : (lg_sl (As.map vv)).length ≤ nLy)
    (body : ∀ X : MC, X.2.1 = l → X.2.2.2.2.2.2.2.1.name = y.name → CX X G y.cls cy P nLy rety S.2.2 → (∀ z ∈ X.2.2.2.2.2.2.2.2.exceptionTable.toList, False) → JS X G nLy q 0 S.2.2 (EM X G S.2.2 d q emb) x S 0 (lvA 0 As) []) : ∀ o, x = some o → MetX l G y cy nLy rety d q As S (emb o) := by
  intro o ho
  refine vx_ofW (cc := cy) (maxL := nLy) (ret := rety) hy rfl ?_
  intro p e s m args below meth c s₁ B hml htab hv
  obtain ⟨rfl, hW, hK, hST, hZ, hAA⟩ := hv
  have hts := atoms_spec (ws := .code y cy nLy rety :: TBG) B.pre
  have hn0 : s.heap.size = S.2.2 := hW.1
  obtain ⟨k1, k2⟩ := body (p, l, e, s, m, (As.map vv).toArray, below, meth, c) rfl (name_of_methodNamed B.named B.method).1 ⟨B.exec, B.bytes, hml, findClass_of_methodNamed B.named, fun w hw => hts w (List.mem_cons_of_mem _ hw), hK, B.notSynchronized, B.returns, hST, hZ, hn0, hAA, hP, htr⟩ htab o ho
  rw [lg_entry_eq]
  have hl := lv_entry (As.map vv) (n := nLy) hlen
  generalize (lg_sl (As.map vv) ++ List.replicate (nLy - (lg_sl (As.map vv)).length) Slot.unset).toArray = ls at hl ⊢
  refine W.cs (cells' := S.2.2 - S.2.2) (slots' := 0 + q * (S.2.2 - S.2.2)) (by rw [Nat.sub_self]) (by rw [Nat.sub_self]; rfl) ?_
  exact k2 s.heap [] hW va_S.rf ls (by rw [lvA_eq]; exact hl)
/-- over the frame at pc an exception of the class Ex has been thrown -/
def JX (X : MC) (G : GE) (nL q sl n0 : Nat) (R : Room) (Q : State → Prop) (S : WS) (Ex : String) (pc : Nat) (lv : LV) : Prop :=
  ∀ (H : Heap) (locs : List Loc), WDh G S H → va_S (gAd G) X.2.2.2.1.heap H locs → ∀ ls : Array Slot, lv_has ls nL (lvv lv) → ∀ (q9 : Nat) (ce : Cell) (rest : List Value), H[q9]? = some ce → ce.vm = .none → X.2.2.2.1.vm.findClass Ex = some ce.cls →
    vx_W X.1 X.2.1 X.2.2.1 R X.2.2.2.1 X.2.2.2.2.1 X.2.2.2.2.2.1 X.2.2.2.2.2.2.1 X.2.2.2.2.2.2.2.1 X.2.2.2.2.2.2.2.2 H locs (S.2.2 - n0) (sl + q * (S.2.2 - n0)) Q (F0 X.2.2.2.2.1 pc ls rest) q9
/-- a call: from the stack stk; behind it st -/
def CJ (X : MC) (G : GE) (nL q sl n0 d pc : Nat) (stk st : List AV) (S : WS) (o : OUT) : Prop := ∀ (lv : LV) (R : Room) (Q : State → Prop), d ≤ R.frames → 100 * d ≤ R.locals → S.2.2 ≤ o.2.2.2 → o.2.2.2 - n0 ≤ R.cells → sl + q * (o.2.2.2 - n0) ≤ R.slots →
  (∀ r, o.1 = .inl r → J X G nL q sl n0 R Q o.2 (pc + 3) lv (r.toList ++ st)) → (∀ k, o.1 = .inr k → JX X G nL q sl n0 R Q o.2 (exn k) pc lv) → J X G nL q sl n0 R Q S pc lv stk
def MFV (y : MethodName) (cy : ByteArray) (nLy : Nat) (rety : Option FieldType) (na : Nat) : Prop := Cond.code y cy nLy rety ∈ TBG ∧ Cond.instanceMethod y ∈ TBG ∧ Cond.selects y.cls y y ∈ TBG ∧ Cond.initialized y.cls ∈ TBG ∧ (y.cls ≠ "java/lang/invoke/MethodHandle" ∧ y.cls ≠ "java/lang/invoke/VarHandle") ∧ (parseMethodDescriptor y.desc).map (fun d => d.parameters.length) = some na
def MFS (y : MethodName) (cy : ByteArray) (nLy : Nat) (rety : Option FieldType) (na : Nat) : Prop := Cond.code y cy nLy rety ∈ TBG ∧ Cond.static y ∈ TBG ∧ Cond.initialized y.cls ∈ TBG ∧ (y.cls ≠ "java/lang/invoke/MethodHandle" ∧ y.cls ≠ "java/lang/invoke/VarHandle") ∧ (parseMethodDescriptor y.desc).map (fun d => d.parameters.length) = some na
def MFI (y : MethodName) (cy : ByteArray) (nLy : Nat) (na : Nat) : Prop := Cond.code y cy nLy none ∈ TBG ∧ Cond.instanceMethod y ∈ TBG ∧ y.name = "<init>" ∧ Cond.initialized y.cls ∈ TBG ∧ (y.cls ≠ "java/lang/invoke/MethodHandle" ∧ y.cls ≠ "java/lang/invoke/VarHandle") ∧ (parseMethodDescriptor y.desc).map (fun d => d.parameters.length) = some na
theorem sig_len {y : MethodName} {na : Nat} (h : (parseMethodDescriptor y.desc).map (fun d => d.parameters.length) = some na) : ∀ sig, parseMethodDescriptor y.desc = some sig → na = sig.parameters.length := fun sig hs => by
  rw [hs] at h
  exact (Option.some.inj h).symm
theorem room_call {a b c n0 q qy sl Rc Rs : Nat} (h0 : n0 ≤ a) (h1 : a ≤ b) (hq : qy ≤ q) (hc : b - n0 ≤ Rc) (hs : sl + q * (b - n0) ≤ Rs) : (a - n0) + (b - a) ≤ Rc ∧ (sl + q * (a - n0)) + (0 + qy * (b - a)) ≤ Rs ∧ (a - n0) + (b - a) ≤ b - n0 ∧ (sl + q * (a - n0)) + (0 + qy * (b - a)) ≤ sl + q * (b - n0) := by
  have e : b - n0 = (a - n0) + (b - a) := by omega
  have e2 : q * (b - n0) = q * (a - n0) + q * (b - a) := by rw [e, Nat.mul_add]
  have e3 : qy * (b - a) ≤ q * (b - a) := Nat.mul_le_mul_right _ hq
  exact ⟨by omega, by omega, by omega, by omega⟩
section CW
variable {X : MC} {G : GE} {own : String} {cc : ByteArray} {P : List BR} {nL : Nat} {ret : Option FieldType} {n0 q sl d : Nat} {S : WS} {pc nx len idx : Nat} {k : Int32} {lv : LV} {st : List AV} {y : MethodName} {cy : ByteArray} {nLy : Nat} {rety : Option FieldType} {na dy qy : Nat} {As : List AV} {o : OUT}
theorem WU_of (C : CX X G own cc P nL ret n0) {H : Heap} {locs : List Loc} (hW : WDh G S H) (hS : va_S (gAd G) X.2.2.2.1.heap H locs) {U : State} (hU : U.heap = H) (hv : X.2.2.2.1.WarmedH U.vm) : WU G S U := by
  obtain ⟨hx, hb, hml, hown, hts, hK, hlk, hrt, hST, hZ, hn0, hAA, hP, htr⟩ := C
  refine ⟨by rw [hU]; exact hW, va_K.moved hv.alike hK, hST.go hv (fun a h1 h2 => by rw [hU]; exact hS.2.1 a h1 h2), Nat.le_trans hZ (by rw [hU]; exact hS.1), hAA⟩
theorem n0_le (C : CX X G own cc P nL ret n0) {H : Heap} {locs : List Loc} (hW : WDh G S H) (hS : va_S (gAd G) X.2.2.2.1.heap H locs) : n0 ≤ S.2.2 := by
  rw [← C.2.2.2.2.2.2.2.2.2.2.1, ← hW.1]; exact hS.1
/-- what a run gives -/
theorem j_run (C : CX X G own cc P nL ret n0) {H : Heap} {locs : List Loc} (hW : WDh G S H) (hS : va_S (gAd G) X.2.2.2.1.heap H locs) {ls : Array Slot} (hl : lv_has ls nL (lvv lv)) {R : Room} {Q : State → Prop} {stk : List Value} {a : Array Value} (hqq : qy ≤ q) (hn : S.2.2 ≤ o.2.2.2) (hc : o.2.2.2 - n0 ≤ R.cells) (hs : sl + q * (o.2.2.2 - n0) ≤ R.slots)
    (run : vx_Run X.1 X.2.1 X.2.2.1 R X.2.2.2.1 X.2.2.2.2.1 X.2.2.2.2.2.1 X.2.2.2.2.2.2.1 X.2.2.2.2.2.2.2.1 X.2.2.2.2.2.2.2.2 H locs (S.2.2 - n0) (sl + q * (S.2.2 - n0)) (o.2.2.2 - S.2.2) (0 + qy * (o.2.2.2 - S.2.2)) (F0 X.2.2.2.2.1 pc ls stk) (st.map vv) (QcO G o a) (XcO G o) (gAd G))
    (kr : ∀ r, o.1 = .inl r → J X G nL q sl n0 R Q o.2 (pc + 3) lv (r.toList ++ st)) (kx : ∀ k, o.1 = .inr k → JX X G nL q sl n0 R Q o.2 (exn k) pc lv) : W X.1 X.2.1 X.2.2.1 R X.2.2.2.1 X.2.2.2.2.1 X.2.2.2.2.2.1 X.2.2.2.2.2.2.1 X.2.2.2.2.2.2.2.1 X.2.2.2.2.2.2.2.2 H locs (S.2.2 - n0) (sl + q * (S.2.2 - n0)) Q (F0 X.2.2.2.2.1 pc ls stk) := by
  obtain ⟨r1, r2, r3, r4⟩ := room_call (c := 0) (n0_le C hW hS) hn hqq hc hs
  intro T hT Xs
  rcases run T hT Xs with ⟨v, st₀, t, T', L, h0, X', hL, e1, e2, ⟨r, g1, g2, g3, g4⟩, stp⟩ | ⟨q9, st₀, t, T', L, Ex, ce, h0, X', hL, e1, e2, ⟨kk, g1, g2, g3, g4⟩, hce, hcv, hcl, stp⟩
  · cases g2
    obtain ⟨-, -, hS'⟩ := vx_keep h0 e1 hS (fun _ _ h => h) (fun _ h => h) hL g4
    obtain ⟨t2, a1, b1⟩ := kr r g1 T'.heap (locs ++ L) (by rw [e1]; exact g3) hS' ls hl T' rfl (stand_widen X' r3 r4)
    refine ⟨t2, stp t2 ?_, b1⟩
    cases r with
    | none => exact a1
    | some rv => exact a1
  · subst g2
    obtain ⟨-, -, hS'⟩ := vx_keep h0 e1 hS (fun _ _ h => h) (fun _ h => h) hL g4
    obtain ⟨t2, a1, b1⟩ := kx kk g1 T'.heap (locs ++ L) (by rw [e1]; exact g3) hS' ls hl q9 ce (st.map vv) (by rw [e1]; exact hce) hcv hcl T' rfl (stand_widen X' r3 r4)
    exact ⟨t2, stp.trans a1, b1⟩
theorem j_callV (C : CX X G own cc P nL ret n0) (i : Nat) (hr : P[i]? = some (pc, .invokevirtual idx, len, k, nx)) (mf : MFV y cy nLy rety na) (hlk : Cond.methodLink own idx y ∈ TBG) (hna : As.length = na) {b : Nat} (hrecv : ∀ H, WDh G S H → ∃ cell : Cell, H[b]? = some cell ∧ cell.vm.isStatics = false ∧ X.2.2.2.1.vm.findClass y.cls = some cell.cls)
    (hd : dy + 1 ≤ d) (hdl : 19 + nLy + 100 * dy ≤ 100 * d) (hqq : qy ≤ q) (hst : stk8 st = true) (hM : MetX X.2.1 G y cy nLy rety dy qy (.inr (.inl (some b)) :: As) S o) : CJ X G nL q sl n0 d pc (As.reverse ++ .inr (.inl (some b)) :: st) st S o := by
  obtain ⟨dd, c⟩ := bOK_at C.2.2.2.2.2.2.2.2.2.2.2.2.1 i hr
  obtain ⟨rfl, -⟩ := ck1 (b := 0) c
  intro lv R Q hRf hRl hn hc hs kr kx H locs hW hS ls hl
  obtain ⟨r1, r2, r3, r4⟩ := room_call (c := 0) (n0_le C hW hS) hn hqq hc hs
  obtain ⟨f1, f2, f3, f4, f5, f6⟩ := mf
  obtain ⟨hx, hb, hml, hown, hts, hK, hlk', hrt, hST, hZ, hn0, hAA, hP, htr⟩ := id C
  have e : ((As.reverse ++ .inr (.inl (some b)) :: st).map vv) = (As.map vv).reverse ++ Value.ref b :: st.map vv := by rw [List.map_append, List.map_reverse]; rfl
  rw [e]
  exact j_run C hW hS hl hqq hn hc hs (vx_runV (C := y.cls) (As := As.map vv) (n := na) ⟨hx, hb, hml, hown, hts⟩ hM
    ⟨⟨rfl, rfl, Nat.le_trans hd hRf, by show 8 + (nLy + 11) + 100 * dy ≤ _; omega, tb_pay hts f1, List.mem_cons_self, hts _ f1, hts _ f4, f5, sig_len f6, hts _ hlk⟩, hts _ f2, hts _ f3⟩
    ⟨WU_blind, hrecv H hW, fun U hU hv => ⟨rfl, WU_of C hW hS hU hv⟩⟩ rfl (by rw [List.length_map]; exact hna) hl.1 rfl (lv_room (st_room hst)) dd ⟨r1, r2⟩) kr kx
theorem j_callS (C : CX X G own cc P nL ret n0) (i : Nat) (hr : P[i]? = some (pc, .invokestatic idx, len, k, nx)) (mf : MFS y cy nLy rety na) (hlk : Cond.methodLink own idx y ∈ TBG) (hna : As.length = na)
    (hd : dy + 1 ≤ d) (hdl : 19 + nLy + 100 * dy ≤ 100 * d) (hqq : qy ≤ q) (hst : stk8 st = true) (hM : MetX X.2.1 G y cy nLy rety dy qy As S o) : CJ X G nL q sl n0 d pc (As.reverse ++ st) st S o := by
  obtain ⟨dd, c⟩ := bOK_at C.2.2.2.2.2.2.2.2.2.2.2.2.1 i hr
  obtain ⟨rfl, -⟩ := ck1 (b := 0) c
  intro lv R Q hRf hRl hn hc hs kr kx H locs hW hS ls hl
  obtain ⟨r1, r2, r3, r4⟩ := room_call (c := 0) (n0_le C hW hS) hn hqq hc hs
  obtain ⟨f1, f2, f4, f5, f6⟩ := mf
  obtain ⟨hx, hb, hml, hown, hts, hK, hlk', hrt, hST, hZ, hn0, hAA, hP, htr⟩ := id C
  have e : ((As.reverse ++ st).map vv) = (As.map vv).reverse ++ st.map vv := by rw [List.map_append, List.map_reverse]
  rw [e]
  exact j_run C hW hS hl hqq hn hc hs (vx_runS (As := As.map vv) (n := na) ⟨hx, hb, hml, hown, hts⟩ hM
    ⟨⟨rfl, rfl, Nat.le_trans hd hRf, by show 8 + (nLy + 11) + 100 * dy ≤ _; omega, tb_pay hts f1, List.mem_cons_self, hts _ f1, hts _ f4, f5, sig_len f6, hts _ hlk⟩, hts _ f2⟩
    ⟨WU_blind, fun U hU hv => ⟨rfl, WU_of C hW hS hU hv⟩⟩ rfl (by rw [List.length_map]; exact hna) hl.1 rfl (lv_room (st_room hst)) dd ⟨r1, r2⟩) kr kx
theorem run_x {p : Program} {l : Launch} {e : Env} {R : Room} {s : State} {m : MethodId} {args : Array Value} {below : List Frame} {meth : Method} {c : Code} {H : Heap} {locs : List Loc} {cells slots mc ms : Nat} {g : JFrame} {rest : List Value} {Qa : State → Outcome → State → Prop} {XC : String → State → State → Prop} {free : Addr → Prop} (h : va_Run p l e R s m args below meth c H locs cells slots mc ms g rest Qa free) : vx_Run p l e R s m args below meth c H locs cells slots mc ms g rest Qa XC free :=
  fun T hT X => Or.inl (h T hT X)
/-- a constructor's call -/
theorem j_callI (C : CX X G own cc P nL ret n0) (i : Nat) (hr : P[i]? = some (pc, .invokespecial idx, len, k, nx)) (mf : MFI y cy nLy na) (hlk : Cond.methodLink own idx y ∈ TBG ∨ ∃ h, Cond.methodLinkNest own idx y h ∈ NST) (hna : As.length = na) {b : Nat}
    (hd : dy + 1 ≤ d) (hdl : 19 + nLy + 100 * dy ≤ 100 * d) (hqq : qy ≤ q) (hst : stk8 st = true) (hM : MetX X.2.1 G y cy nLy none dy qy (.inr (.inl (some b)) :: As) S o) {rv : Option AV} (hrv : o.1 = .inl rv) : CJ X G nL q sl n0 d pc (As.reverse ++ .inr (.inl (some b)) :: st) st S o := by
  obtain ⟨dd, c⟩ := bOK_at C.2.2.2.2.2.2.2.2.2.2.2.2.1 i hr
  obtain ⟨rfl, -⟩ := ck1 (b := 0) c
  intro lv R Q hRf hRl hn hc hs kr kx H locs hW hS ls hl
  obtain ⟨r1, r2, r3, r4⟩ := room_call (c := 0) (n0_le C hW hS) hn hqq hc hs
  obtain ⟨f1, f2, f3, f4, f5, f6⟩ := mf
  obtain ⟨hx, hb, hml, hown, hts, hK, hlk', hrt, hST, hZ, hn0, hAA, hP, htr⟩ := id C
  have e : ((As.reverse ++ .inr (.inl (some b)) :: st).map vv) = (As.map vv).reverse ++ Value.ref b :: st.map vv := by rw [List.map_append, List.map_reverse]; rfl
  rw [e]
  rcases hlk with hlk | ⟨hh, hlk⟩
  · exact j_run C hW hS hl hqq hn hc hs (run_x (va_runI (As := As.map vv) (n := na) ⟨hx, hb, hml, hown, hts⟩ (hM.ret hrv)
      ⟨⟨rfl, rfl, Nat.le_trans hd hRf, by show 8 + (nLy + 11) + 100 * dy ≤ _; omega, tb_pay hts f1, List.mem_cons_self, hts _ f1, hts _ f4, f5, sig_len f6, hts _ hlk⟩, f3, hts _ f2⟩
      ⟨WU_blind, fun U hU hv => ⟨rfl, WU_of C hW hS hU hv⟩⟩ rfl (by rw [List.length_map]; exact hna) hl.1 rfl (lv_room (st_room hst)) dd ⟨r1, r2⟩)) kr kx
  · exact j_run C hW hS hl hqq hn hc hs (run_x (va_runIN (As := As.map vv) (n := na) ⟨hx, hb, hml, hown, hts⟩ (hM.ret hrv)
      ⟨⟨⟨rfl, rfl, Nat.le_trans hd hRf, by show 8 + (nLy + 11) + 100 * dy ≤ _; omega, tb_pay hts f1, List.mem_cons_self⟩, hts _ f1, hts _ f4, f5, sig_len f6, va_Nw.use rfl (hST.2.2.2.2.2.2.2.1 _ hlk)⟩, f3, hts _ f2⟩
      ⟨WU_blind, fun U hU hv => ⟨rfl, WU_of C hW hS hU hv⟩⟩ rfl (by rw [List.length_map]; exact hna) hl.1 rfl (lv_room (st_room hst)) dd ⟨r1, r2⟩)) kr kx
/-- receivers -/
theorem recv_K (C : CX X G own cc P nL ret n0) {kd b : Nat} {nm : String} (h1 : 1 ≤ kd) (h2 : kd ≤ 13) (hc : (kcl[kd - 1]?).map (fun z => z.1) = some nm) (hk : mK S.2.1 b = kd) : ∀ H, WDh G S H → ∃ cell : Cell, H[b]? = some cell ∧ cell.vm.isStatics = false ∧ X.2.2.2.1.vm.findClass nm = some cell.cls := by
  intro H hW
  obtain ⟨r, hr1, cell, g1, g2, g3, -⟩ := hW.2.1 b _ (ent_obj h1 h2 hk)
  rw [hr1] at hc
  have e : r.1 = nm := Option.some.inj hc
  exact ⟨cell, g1, by rw [g3]; rfl, by rw [g2, ← e]; exact (C.2.2.2.2.2.1.1 _ r hr1).2.1⟩
theorem recv_M (hG : gH G = true) (C : CX X G own cc P nL ret n0) : ∀ H, WDh G S H → ∃ cell : Cell, H[gM G]? = some cell ∧ cell.vm.isStatics = false ∧ X.2.2.2.1.vm.findClass RX12 = some cell.cls := by
  intro H hW
  obtain ⟨r, hr1, cell, g1, g2, g3, -⟩ := (hW.2.2.2.1 hG).1.1
  cases hr1
  exact ⟨cell, g1, by rw [g3]; rfl, by rw [g2]; exact (C.2.2.2.2.2.1.1 12 _ rfl).2.1⟩
/-- an exception that leaves the body -/
theorem jx_out {ω : Type} {emb : ω → OUT} {r : ω} {kx : Nat} (C : CX X G own cc P nL ret n0) (htab : ∀ z ∈ X.2.2.2.2.2.2.2.2.exceptionTable.toList, False) (hemb : emb r = (.inr kx, S)) : JX X G nL q 0 n0 (EM X G n0 d q emb r).1 (EM X G n0 d q emb r).2.1 S (exn kx) pc lv := by
  obtain ⟨hx, hb, hml, hown, hts, hK, hlk', hrt, hST, hZ, hn0, hAA, hP, htr⟩ := C
  intro H locs hW hS ls hl q9 ce rest h1 h2 h3
  unfold EM
  rw [hemb]
  exact vx_out (fun z hz => (htab z hz).elim) hlk' h1 h2 h3 (fun t ht _ => ⟨kx, rfl, rfl, by rw [ht]; exact hW, hS.F ht⟩) hS.2.2 (Nat.le_refl _) (Nat.le_refl _)
end CW
/-! the pure runs' calls -/
def bdR {α ω : Type} (x : Option α) (f : α → Option ω) : Option ω := match x with
  | none => none
  | some r => f r
def bdW {α β ω : Type} (x : Option (α × β)) (f : α → β → Option ω) : Option ω := match x with
  | none => none
  | some r => f r.1 r.2
def bdC {α β : Type} (x : Option ((α ⊕ Nat) × Mm × Nat)) (n : Nat) (f : α → Mm → Nat → Option ((β ⊕ Nat) × Mm × Nat)) : Option ((β ⊕ Nat) × Mm × Nat) := match x with
  | none => none
  | some (.inl v, M, n') => if n ≤ n' then f v M n' else none
  | some (.inr k, M, n') => if n ≤ n' then some (.inr k, M, n') else none
def rk {ω : Type} (kd : Nat) (r : Option Nat) (M : Mm) (f : Nat → Option ω) : Option ω := match r with
  | none => none
  | some a => if mK M a = kd then f a else none
abbrev rvI (x : Int32) : Option AV := some (.inl x)
abbrev rvR (x : Option Nat) : Option AV := some (.inr (.inl x))
abbrev rvU (_ : Unit) : Option AV := none
def eR {α : Type} (rv : α → Option AV) (σ : Sg) (M : Mm) (n : Nat) : α → OUT := fun o => (.inl (rv o), (σ, M, n))
def eW {α : Type} (rv : α → Option AV) (σ : Sg) (n : Nat) : α × Mm → OUT := fun o => (.inl (rv o.1), (σ, o.2, n))
def eS {α : Type} (rv : α → Option AV) (M : Mm) (n : Nat) : α × Sg → OUT := fun o => (.inl (rv o.1), (o.2, M, n))
def eC {α : Type} (rv : α → Option AV) (σ : Sg) : (α ⊕ Nat) × Mm × Nat → OUT := fun o => match o with
  | (.inl v, M, n) => (.inl (rv v), (σ, M, n))
  | (.inr k, M, n) => (.inr k, (σ, M, n))
section BW
variable {X : MC} {G : GE} {own : String} {cc : ByteArray} {P : List BR} {nL : Nat} {ret : Option FieldType} {n0 q sl d : Nat} {ω : Type} {E : ω → Room × (State → Prop) × Nat} {σ : Sg} {M : Mm} {n : Nat} {pc : Nat} {lv : LV} {st stk : List AV}
theorem s_rk {kd : Nat} {r : Option Nat} {f : Nat → Option ω} (kk : ∀ a, r = some a → mK M a = kd → JS X G nL q sl n0 E (f a) (σ, M, n) pc lv stk) : JS X G nL q sl n0 E (rk kd r M f) (σ, M, n) pc lv stk := by
  intro o ho
  cases r with
  | none => cases ho
  | some a =>
    have ho : (if mK M a = kd then f a else none) = some o := ho
    by_cases h : mK M a = kd
    · rw [if_pos h] at ho; exact kk a rfl h o ho
    · rw [if_neg h] at ho; cases ho
theorem s_RI (hE : CE E d q sl n0) {x : Option (Int32)} {f : Int32 → Option ω} (h : ∀ o, x = some o → CJ X G nL q sl n0 d pc stk st (σ, M, n) (eR rvI σ M n o)) (kk : ∀ v, JS X G nL q sl n0 E (f v) (σ, M, n) (pc + 3) lv (.inl v :: st)) : JS X G nL q sl n0 E (bdR x f) (σ, M, n) pc lv stk := by
  intro o ho
  cases x with
  | none => cases ho
  | some r =>
    obtain ⟨k1, k2⟩ := kk r o ho
    obtain ⟨e1, e2, e3, e4⟩ := hE o
    exact ⟨k1, h r rfl lv _ _ e1 e2 (Nat.le_refl _) (Nat.le_trans (Nat.sub_le_sub_right k1 n0) e3) (Nat.le_trans (Nat.add_le_add_left (Nat.mul_le_mul_left q (Nat.sub_le_sub_right k1 n0)) sl) e4) (fun rv hrv => by cases hrv; exact k2) (fun z hz => by cases hz)⟩
theorem s_WI (hE : CE E d q sl n0) {x : Option (Int32 × Mm)} {f : Int32 → Mm → Option ω} (h : ∀ o, x = some o → CJ X G nL q sl n0 d pc stk st (σ, M, n) (eW rvI σ n o)) (kk : ∀ v S1, JS X G nL q sl n0 E (f v S1) (σ, S1, n) (pc + 3) lv (.inl v :: st)) : JS X G nL q sl n0 E (bdW x f) (σ, M, n) pc lv stk := by
  intro o ho
  cases x with
  | none => cases ho
  | some r =>
    obtain ⟨k1, k2⟩ := kk r.1 r.2 o ho
    obtain ⟨e1, e2, e3, e4⟩ := hE o
    exact ⟨k1, h r rfl lv _ _ e1 e2 (Nat.le_refl _) (Nat.le_trans (Nat.sub_le_sub_right k1 n0) e3) (Nat.le_trans (Nat.add_le_add_left (Nat.mul_le_mul_left q (Nat.sub_le_sub_right k1 n0)) sl) e4) (fun rv hrv => by cases hrv; exact k2) (fun z hz => by cases hz)⟩
theorem s_SI (hE : CE E d q sl n0) {x : Option (Int32 × Sg)} {f : Int32 → Sg → Option ω} (h : ∀ o, x = some o → CJ X G nL q sl n0 d pc stk st (σ, M, n) (eS rvI M n o)) (kk : ∀ v S1, JS X G nL q sl n0 E (f v S1) (S1, M, n) (pc + 3) lv (.inl v :: st)) : JS X G nL q sl n0 E (bdW x f) (σ, M, n) pc lv stk := by
  intro o ho
  cases x with
  | none => cases ho
  | some r =>
    obtain ⟨k1, k2⟩ := kk r.1 r.2 o ho
    obtain ⟨e1, e2, e3, e4⟩ := hE o
    exact ⟨k1, h r rfl lv _ _ e1 e2 (Nat.le_refl _) (Nat.le_trans (Nat.sub_le_sub_right k1 n0) e3) (Nat.le_trans (Nat.add_le_add_left (Nat.mul_le_mul_left q (Nat.sub_le_sub_right k1 n0)) sl) e4) (fun rv hrv => by cases hrv; exact k2) (fun z hz => by cases hz)⟩
theorem s_CI {β : Type} {rv : β → Option AV} (C : CX X G own cc P nL ret n0) (htab : ∀ z ∈ X.2.2.2.2.2.2.2.2.exceptionTable.toList, False) {x : Option ((Int32 ⊕ Nat) × Mm × Nat)} {f : Int32 → Mm → Nat → Option ((β ⊕ Nat) × Mm × Nat)} (h : ∀ o, x = some o → CJ X G nL q 0 n0 d pc stk st (σ, M, n) (eC rvI σ o)) (kk : ∀ v M1 n1, n ≤ n1 → JS X G nL q 0 n0 (EM X G n0 d q (eC rv σ)) (f v M1 n1) (σ, M1, n1) (pc + 3) lv (.inl v :: st)) : JS X G nL q 0 n0 (EM X G n0 d q (eC rv σ)) (bdC x n f) (σ, M, n) pc lv stk := by
  intro o ho
  obtain ⟨e1, e2, e3, e4⟩ := CE_EM X G n0 d q (eC rv σ) o
  cases x with
  | none => cases ho
  | some r =>
    obtain ⟨r | r, M1, n1⟩ := r
    · have ho : (if n ≤ n1 then f r M1 n1 else none) = some o := ho
      by_cases hn : n ≤ n1
      · rw [if_pos hn] at ho
        obtain ⟨k1, k2⟩ := kk r M1 n1 hn o ho
        exact ⟨Nat.le_trans hn k1, h _ rfl lv _ _ e1 e2 hn (Nat.le_trans (Nat.sub_le_sub_right k1 n0) e3) (Nat.le_trans (Nat.add_le_add_left (Nat.mul_le_mul_left q (Nat.sub_le_sub_right k1 n0)) 0) e4) (fun rv hrv => by cases hrv; exact k2) (fun z hz => by cases hz)⟩
      · rw [if_neg hn] at ho; cases ho
    · have ho : (if n ≤ n1 then some (.inr r, M1, n1) else none) = some o := ho
      by_cases hn : n ≤ n1
      · rw [if_pos hn] at ho
        cases ho
        exact ⟨hn, h _ rfl lv _ _ e1 e2 hn e3 e4 (fun rv hrv => by cases hrv) (fun z hz => by cases hz; exact jx_out C htab rfl)⟩
      · rw [if_neg hn] at ho; cases ho
theorem s_RR (hE : CE E d q sl n0) {x : Option (Option Nat)} {f : Option Nat → Option ω} (h : ∀ o, x = some o → CJ X G nL q sl n0 d pc stk st (σ, M, n) (eR rvR σ M n o)) (kk : ∀ v, JS X G nL q sl n0 E (f v) (σ, M, n) (pc + 3) lv (.inr (.inl v) :: st)) : JS X G nL q sl n0 E (bdR x f) (σ, M, n) pc lv stk := by
  intro o ho
  cases x with
  | none => cases ho
  | some r =>
    obtain ⟨k1, k2⟩ := kk r o ho
    obtain ⟨e1, e2, e3, e4⟩ := hE o
    exact ⟨k1, h r rfl lv _ _ e1 e2 (Nat.le_refl _) (Nat.le_trans (Nat.sub_le_sub_right k1 n0) e3) (Nat.le_trans (Nat.add_le_add_left (Nat.mul_le_mul_left q (Nat.sub_le_sub_right k1 n0)) sl) e4) (fun rv hrv => by cases hrv; exact k2) (fun z hz => by cases hz)⟩
theorem s_WR (hE : CE E d q sl n0) {x : Option (Option Nat × Mm)} {f : Option Nat → Mm → Option ω} (h : ∀ o, x = some o → CJ X G nL q sl n0 d pc stk st (σ, M, n) (eW rvR σ n o)) (kk : ∀ v S1, JS X G nL q sl n0 E (f v S1) (σ, S1, n) (pc + 3) lv (.inr (.inl v) :: st)) : JS X G nL q sl n0 E (bdW x f) (σ, M, n) pc lv stk := by
  intro o ho
  cases x with
  | none => cases ho
  | some r =>
    obtain ⟨k1, k2⟩ := kk r.1 r.2 o ho
    obtain ⟨e1, e2, e3, e4⟩ := hE o
    exact ⟨k1, h r rfl lv _ _ e1 e2 (Nat.le_refl _) (Nat.le_trans (Nat.sub_le_sub_right k1 n0) e3) (Nat.le_trans (Nat.add_le_add_left (Nat.mul_le_mul_left q (Nat.sub_le_sub_right k1 n0)) sl) e4) (fun rv hrv => by cases hrv; exact k2) (fun z hz => by cases hz)⟩
theorem s_SR (hE : CE E d q sl n0) {x : Option (Option Nat × Sg)} {f : Option Nat → Sg → Option ω} (h : ∀ o, x = some o → CJ X G nL q sl n0 d pc stk st (σ, M, n) (eS rvR M n o)) (kk : ∀ v S1, JS X G nL q sl n0 E (f v S1) (S1, M, n) (pc + 3) lv (.inr (.inl v) :: st)) : JS X G nL q sl n0 E (bdW x f) (σ, M, n) pc lv stk := by
  intro o ho
  cases x with
  | none => cases ho
  | some r =>
    obtain ⟨k1, k2⟩ := kk r.1 r.2 o ho
    obtain ⟨e1, e2, e3, e4⟩ := hE o
    exact ⟨k1, h r rfl lv _ _ e1 e2 (Nat.le_refl _) (Nat.le_trans (Nat.sub_le_sub_right k1 n0) e3) (Nat.le_trans (Nat.add_le_add_left (Nat.mul_le_mul_left q (Nat.sub_le_sub_right k1 n0)) sl) e4) (fun rv hrv => by cases hrv; exact k2) (fun z hz => by cases hz)⟩
theorem s_CR {β : Type} {rv : β → Option AV} (C : CX X G own cc P nL ret n0) (htab : ∀ z ∈ X.2.2.2.2.2.2.2.2.exceptionTable.toList, False) {x : Option ((Option Nat ⊕ Nat) × Mm × Nat)} {f : Option Nat → Mm → Nat → Option ((β ⊕ Nat) × Mm × Nat)} (h : ∀ o, x = some o → CJ X G nL q 0 n0 d pc stk st (σ, M, n) (eC rvR σ o)) (kk : ∀ v M1 n1, n ≤ n1 → JS X G nL q 0 n0 (EM X G n0 d q (eC rv σ)) (f v M1 n1) (σ, M1, n1) (pc + 3) lv (.inr (.inl v) :: st)) : JS X G nL q 0 n0 (EM X G n0 d q (eC rv σ)) (bdC x n f) (σ, M, n) pc lv stk := by
  intro o ho
  obtain ⟨e1, e2, e3, e4⟩ := CE_EM X G n0 d q (eC rv σ) o
  cases x with
  | none => cases ho
  | some r =>
    obtain ⟨r | r, M1, n1⟩ := r
    · have ho : (if n ≤ n1 then f r M1 n1 else none) = some o := ho
      by_cases hn : n ≤ n1
      · rw [if_pos hn] at ho
        obtain ⟨k1, k2⟩ := kk r M1 n1 hn o ho
        exact ⟨Nat.le_trans hn k1, h _ rfl lv _ _ e1 e2 hn (Nat.le_trans (Nat.sub_le_sub_right k1 n0) e3) (Nat.le_trans (Nat.add_le_add_left (Nat.mul_le_mul_left q (Nat.sub_le_sub_right k1 n0)) 0) e4) (fun rv hrv => by cases hrv; exact k2) (fun z hz => by cases hz)⟩
      · rw [if_neg hn] at ho; cases ho
    · have ho : (if n ≤ n1 then some (.inr r, M1, n1) else none) = some o := ho
      by_cases hn : n ≤ n1
      · rw [if_pos hn] at ho
        cases ho
        exact ⟨hn, h _ rfl lv _ _ e1 e2 hn e3 e4 (fun rv hrv => by cases hrv) (fun z hz => by cases hz; exact jx_out C htab rfl)⟩
      · rw [if_neg hn] at ho; cases ho
theorem s_RU (hE : CE E d q sl n0) {x : Option (Unit)} {f : Unit → Option ω} (h : ∀ o, x = some o → CJ X G nL q sl n0 d pc stk st (σ, M, n) (eR rvU σ M n o)) (kk : ∀ v, JS X G nL q sl n0 E (f v) (σ, M, n) (pc + 3) lv (st)) : JS X G nL q sl n0 E (bdR x f) (σ, M, n) pc lv stk := by
  intro o ho
  cases x with
  | none => cases ho
  | some r =>
    obtain ⟨k1, k2⟩ := kk r o ho
    obtain ⟨e1, e2, e3, e4⟩ := hE o
    exact ⟨k1, h r rfl lv _ _ e1 e2 (Nat.le_refl _) (Nat.le_trans (Nat.sub_le_sub_right k1 n0) e3) (Nat.le_trans (Nat.add_le_add_left (Nat.mul_le_mul_left q (Nat.sub_le_sub_right k1 n0)) sl) e4) (fun rv hrv => by cases hrv; exact k2) (fun z hz => by cases hz)⟩
theorem s_WU (hE : CE E d q sl n0) {x : Option (Unit × Mm)} {f : Unit → Mm → Option ω} (h : ∀ o, x = some o → CJ X G nL q sl n0 d pc stk st (σ, M, n) (eW rvU σ n o)) (kk : ∀ v S1, JS X G nL q sl n0 E (f v S1) (σ, S1, n) (pc + 3) lv (st)) : JS X G nL q sl n0 E (bdW x f) (σ, M, n) pc lv stk := by
  intro o ho
  cases x with
  | none => cases ho
  | some r =>
    obtain ⟨k1, k2⟩ := kk r.1 r.2 o ho
    obtain ⟨e1, e2, e3, e4⟩ := hE o
    exact ⟨k1, h r rfl lv _ _ e1 e2 (Nat.le_refl _) (Nat.le_trans (Nat.sub_le_sub_right k1 n0) e3) (Nat.le_trans (Nat.add_le_add_left (Nat.mul_le_mul_left q (Nat.sub_le_sub_right k1 n0)) sl) e4) (fun rv hrv => by cases hrv; exact k2) (fun z hz => by cases hz)⟩
theorem s_SU (hE : CE E d q sl n0) {x : Option (Unit × Sg)} {f : Unit → Sg → Option ω} (h : ∀ o, x = some o → CJ X G nL q sl n0 d pc stk st (σ, M, n) (eS rvU M n o)) (kk : ∀ v S1, JS X G nL q sl n0 E (f v S1) (S1, M, n) (pc + 3) lv (st)) : JS X G nL q sl n0 E (bdW x f) (σ, M, n) pc lv stk := by
  intro o ho
  cases x with
  | none => cases ho
  | some r =>
    obtain ⟨k1, k2⟩ := kk r.1 r.2 o ho
    obtain ⟨e1, e2, e3, e4⟩ := hE o
    exact ⟨k1, h r rfl lv _ _ e1 e2 (Nat.le_refl _) (Nat.le_trans (Nat.sub_le_sub_right k1 n0) e3) (Nat.le_trans (Nat.add_le_add_left (Nat.mul_le_mul_left q (Nat.sub_le_sub_right k1 n0)) sl) e4) (fun rv hrv => by cases hrv; exact k2) (fun z hz => by cases hz)⟩
theorem s_CU {β : Type} {rv : β → Option AV} (C : CX X G own cc P nL ret n0) (htab : ∀ z ∈ X.2.2.2.2.2.2.2.2.exceptionTable.toList, False) {x : Option ((Unit ⊕ Nat) × Mm × Nat)} {f : Unit → Mm → Nat → Option ((β ⊕ Nat) × Mm × Nat)} (h : ∀ o, x = some o → CJ X G nL q 0 n0 d pc stk st (σ, M, n) (eC rvU σ o)) (kk : ∀ v M1 n1, n ≤ n1 → JS X G nL q 0 n0 (EM X G n0 d q (eC rv σ)) (f v M1 n1) (σ, M1, n1) (pc + 3) lv (st)) : JS X G nL q 0 n0 (EM X G n0 d q (eC rv σ)) (bdC x n f) (σ, M, n) pc lv stk := by
  intro o ho
  obtain ⟨e1, e2, e3, e4⟩ := CE_EM X G n0 d q (eC rv σ) o
  cases x with
  | none => cases ho
  | some r =>
    obtain ⟨r | r, M1, n1⟩ := r
    · have ho : (if n ≤ n1 then f r M1 n1 else none) = some o := ho
      by_cases hn : n ≤ n1
      · rw [if_pos hn] at ho
        obtain ⟨k1, k2⟩ := kk r M1 n1 hn o ho
        exact ⟨Nat.le_trans hn k1, h _ rfl lv _ _ e1 e2 hn (Nat.le_trans (Nat.sub_le_sub_right k1 n0) e3) (Nat.le_trans (Nat.add_le_add_left (Nat.mul_le_mul_left q (Nat.sub_le_sub_right k1 n0)) 0) e4) (fun rv hrv => by cases hrv; exact k2) (fun z hz => by cases hz)⟩
      · rw [if_neg hn] at ho; cases ho
    · have ho : (if n ≤ n1 then some (.inr r, M1, n1) else none) = some o := ho
      by_cases hn : n ≤ n1
      · rw [if_pos hn] at ho
        cases ho
        exact ⟨hn, h _ rfl lv _ _ e1 e2 hn e3 e4 (fun rv hrv => by cases hrv) (fun z hz => by cases hz; exact jx_out C htab rfl)⟩
      · rw [if_neg hn] at ho; cases ho
end BW

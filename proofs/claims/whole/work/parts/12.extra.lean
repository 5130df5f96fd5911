section TE
variable {p : Program} {l : Launch} {e : Env} {R : Room} {s : State} {m : MethodId} {args : Array Value} {below : List Frame} {meth : Method} {c : Code} {H : Heap} {locs : List Loc} {cells slots : Nat} {Q : State → Prop}
variable {mc ms : Nat} {free : Addr → Prop} {A0 A1 : Nat → Prop} {H0 : Heap} {a : Array Value} {ls : Array Slot} {st0 rest : List Value}
variable {Qc : Array Value → State → Outcome → State → Prop} {XC : String → State → State → Prop}
/-- 'throw new E("text")', the text by a wide index -/
theorem vx_throwE {cc : ByteArray} {pc : Nat} (hexec : p.tables.exec = Jvm.exec) (hb : c.code = cc) (hl : l.stackTraces = false) {own cls text : String} {names : List String} {ik is ic mc ms sa : Nat} {A : Nat → Prop}
    (hown : s.vm.findClass own = some m.cls) (hcls : Bundle.fit cls = true) (hnames : ∀ n ∈ names, Bundle.fit n = true)
    (hk : (Cond.classLink own ik cls).before args s = true) (hini : (Cond.initialized cls).before args s = true) (hstr : vk_R own is text sa s) (hat : ∀ w ∈ vx_atS own ic cls names, w.before args s = true)
    (hgood : ∀ w ∈ Cond.classLink own ik cls :: Cond.initialized cls :: vx_atS own ic cls names, vx_ot w = true)
    (hU : vx_Zq Bundle.tN "UNASSIGNED_STACK" Bundle.steD A s s.heap) (hN : vx_Zq Bundle.tN "SUPPRESSED_SENTINEL" Bundle.listD A s s.heap) (hS : va_S A s.heap H locs) (hsize : ls.size = c.maxLocals)
    (d0 : decode cc pc = .ok (.new ik, 3)) (d3 : decode cc (pc + 3) = .ok (.dup, 1)) (d4 : decode cc (pc + 4) = .ok (.ldc_w is, 3)) (d7 : decode cc (pc + 7) = .ok (.invokespecial ic, 3)) (d10 : decode cc (pc + 10) = .ok (.athrow, 1))
    (hout : ∀ x ∈ c.exceptionTable.toList, covers x (pc + 10) = false)
    (hRframes : names.length + 3 < R.frames) (hRlocals : (rest.map fun v => v.category).sum + (13 * (names.length + 1) + 43) ≤ R.locals) (hRcells : cells + 1 ≤ R.cells) (hRslots : slots + 6 ≤ R.slots) (hlocks : meth.locks = false)
    (hx : ∀ t : State, s.vm.Alike t.vm → t.heap.size = H.size + 1 → (∀ q : Nat, q < H.size → t.heap[q]? = H[q]?) → XC cls s t)
    (hf : ∀ z ∈ locs, free z.base) (hc : cells + 1 ≤ mc) (hs : slots + 6 ≤ ms) :
    W p l e R s m args below meth c H locs cells slots (vx_MQ below Qc XC args s mc ms free) (F0 m pc ls rest) := by
  intro T hT X
  have htr : e.platform.stackTraces = false := (show e.platform.stackTraces = l.stackTraces by rw [X.admits.platform]).trans hl
  have Y := vx_rebase X (R' := { frames := R.frames, locals := R.locals, cells := 1, slots := 6 }) (Nat.le_refl _) (Nat.le_refl _) hRcells hRslots
  obtain ⟨s', hA⟩ : ∃ z, z = (T.setVm s.vm).setFrames (.invoking m args :: below) := ⟨_, rfl⟩
  rw [← hA] at Y
  have hvm : s'.vm = s.vm := by rw [hA]; rfl
  have hhp : s'.heap = H := by rw [hA]; exact hT
  have hW0 : s.WarmedH s'.vm := by rw [hvm]; exact State.WarmedH.refl s
  have hat' : ∀ w ∈ vx_atS own ic cls names, w.before args s' = true := fun w hw => vx_ot_at hW0 hvm.symm (hgood w (List.mem_cons_of_mem _ (List.mem_cons_of_mem _ hw))) (hat w hw)
  have hk' : (Cond.classLink own ik cls).before args s' = true := vx_ot_at hW0 hvm.symm (hgood _ List.mem_cons_self) hk
  have hini' : (Cond.initialized cls).before args s' = true := vx_ot_at hW0 hvm.symm (hgood _ (List.mem_cons_of_mem _ List.mem_cons_self)) hini
  have hU' : vx_Zq Bundle.tN "UNASSIGNED_STACK" Bundle.steD A s' s'.heap := by rw [hhp]; exact vx_Zq.moved hW0.alike (hU.kept hS.2.1)
  have hN' : vx_Zq Bundle.tN "SUPPRESSED_SENTINEL" Bundle.listD A s' s'.heap := by rw [hhp]; exact vx_Zq.moved hW0.alike (hN.kept hS.2.1)
  have h : ∀ w ∈ Bundle.ownAtoms own ic cls names, w.before args s' = true := vx_own hat' (vx_isRefq hU'.1) (vx_isRefq hN'.1) hU'.2.word hN'.2.word
  have hown' : s'.vm.findClass own = some m.cls := by rw [hvm]; exact hown
  have hins : (Cond.instantiable cls 6).before args s' = true := h _ (by simp [Bundle.ownAtoms])
  obtain ⟨vm₁, cX, kX, hfX, hkX, -, -, X₁, st1⟩ := Y.newCold hexec (own := own) (C := cls) (index := ik) (n := 6) hown' hk' hins hini'
    (g := F0 m pc ls rest) rfl (by rw [hb]; exact d0) (Nat.le_refl _) (Nat.le_refl _)
  generalize hT1 : (T.setVm vm₁).pushCell { cls := cX, slots := kX.instanceTypes.map defaultValue, vm := .none } = T1 at X₁ st1
  have hcat : (Value.ref T.heap.size).category = 1 := rfl
  have hcellA : T1.heap[T.heap.size]? = some (freshCell cX kX) := by rw [← hT1]; exact State.heap_pushCell_size _ _
  have d3' : decode c.code (pc + 3) = .ok (.dup, 1) := by rw [hb]; exact d3
  have d4' : decode c.code (pc + 4) = .ok (.ldc_w is, 3) := by rw [hb]; exact d4
  have hstr' : vk_R own is text sa s' := vk_R.warm hW0 hstr
  obtain ⟨U, hsteps, hrun, hend, hW, hsame, ce, hce, hO⟩ := X₁.ctorThrowS hexec htr (own := own) (cls := cls) (names := names) (ic := ic) hown' hcls hnames h (fun x hx => nomatch hx) hfX hkX hcellA (by rw [hhp, hT]; exact Nat.le_refl _) (msg := .ref sa) rfl
    (g := { method := m, pc := pc + 7, locals := ls, stack := .ref sa :: .ref T.heap.size :: .ref T.heap.size :: rest, locked := none }) rfl hsize rfl rfl (rest := rest) rfl
    (by rw [hb]; exact d7) (by rw [hb]; exact d10) hout hRframes (by simp only [List.map_cons, List.sum_cons, hcat]; omega) hlocks
  obtain ⟨f1, f2⟩ := vx_frame hsame
  rw [hhp] at f1 f2
  have f3 : U.heap.size ≤ H.size + 1 := by have h9 := hsame.2.2.1; rw [hhp] at h9; exact h9
  have f4 : H.size < U.heap.size := by rw [← hT]; exact (Array.getElem?_eq_some_iff.mp hce).1
  have hWs : s.WarmedH U.vm := State.WarmedH.trans hW0 hW
  have hcl : s.vm.findClass cls = some ce.cls := by
    have h9 := hO.cls
    rw [hvm] at h9
    exact h9
  have hall : s.sameButNew ({ U with vm := s.vm } : State) locs mc ms := by
    subst hA
    obtain ⟨e1, e2⟩ := hsame
    rw [State.setFrames_setFrames] at e1
    have h2 : (T.setVm s.vm).sameButNew ({ U with vm := s.vm } : State) [] (0 + 1) (0 + 6) := ⟨e1, e2⟩
    have h3 := X.same.trans h2
    rw [List.append_nil] at h3
    exact h3.mono hc hs
  refine ⟨U, ?_, .threw T.heap.size, hrun, hend, Or.inr ⟨T.heap.size, rfl, cls, ce, locs, hx U hWs.alike (Nat.le_antisymm f3 f4) (fun q hq => f2 q hq (fun z hz => nomatch hz)), hce, hO.vm, hcl, hWs, hall, hf⟩⟩
  refine st1 _ ?_
  show Steps p.tables e below (T1.setTop { method := m, pc := pc + 3, locals := ls, stack := .ref T.heap.size :: rest, locked := none }) _
  jvm_step X₁.here [X₁.here.top, hexec, d3', Value.category]
  exact X₁.ldcStringW hexec (own := own) (text := text) (index := is) (a := sa) hown' hstr'.1 hstr'.2
    (g := { method := m, pc := pc + 4, locals := ls, stack := .ref T.heap.size :: .ref T.heap.size :: rest, locked := none }) rfl d4' _ hsteps
end TE
theorem w_maxS : (Cond.static Lib.Math.max.name) ∈ TBG := tb_mem 507 (by decide +kernel) (by decide +kernel)
theorem w_minS : (Cond.static Lib.Math.min.name) ∈ TBG := tb_mem 607 (by decide +kernel) (by decide +kernel)
theorem w_math : (Cond.initialized "java/lang/Math") ∈ TBG := tb_mem 22 (by decide +kernel) (by decide +kernel)
theorem w_maxC : (Cond.code Lib.Math.max.name Lib.Math.max.code 2 (some .int)) ∈ TBG := tb_mem 508 (by decide +kernel) (by decide +kernel)
theorem w_minC : (Cond.code Lib.Math.min.name Lib.Math.min.code 2 (some .int)) ∈ TBG := tb_mem 608 (by decide +kernel) (by decide +kernel)
theorem w_gcI : (Cond.instanceMethod ⟨"java/lang/Object", "getClass", "()Ljava/lang/Class;"⟩) ∈ TBG := tb_mem 579 (by decide +kernel) (by decide +kernel)
theorem w_gcN : (Cond.native ⟨"java/lang/Object", "getClass", "()Ljava/lang/Class;"⟩) ∈ TBG := tb_mem 599 (by decide +kernel) (by decide +kernel)
theorem w_gcS : (Cond.selects "[Ljava/lang/Object;" ⟨"java/lang/Object", "getClass", "()Ljava/lang/Class;"⟩ ⟨"java/lang/Object", "getClass", "()Ljava/lang/Class;"⟩) ∈ TBG := tb_mem 1916 (by decide +kernel) (by decide +kernel)
theorem w_acN : (Cond.native arraycopyName) ∈ TBG := tb_mem 611 (by decide +kernel) (by decide +kernel)
theorem w_acS : (Cond.static arraycopyName) ∈ TBG := tb_mem 610 (by decide +kernel) (by decide +kernel)
theorem w_sys : (Cond.initialized "java/lang/System") ∈ TBG := tb_mem 26 (by decide +kernel) (by decide +kernel)
section XT
variable {X : MC} {G : GE} {own : String} {cc : ByteArray} {P : List BR} {nL : Nat} {ret : Option FieldType} {n0 q sl d : Nat} {ω : Type} {E : ω → Room × (State → Prop) × Nat} {σ : Sg} {M : Mm} {n : Nat} {pc nx len idx : Nat} {k : Int32} {lv : LV} {st : List AV}
def THK (ik is ic kx : Nat) (text : String) : Prop := Bundle.fit (exn kx) = true ∧ (∀ n ∈ ["java/lang/RuntimeException", "java/lang/Exception"], Bundle.fit n = true) ∧ Cond.classLink RX11 ik (exn kx) ∈ TBG ∧ Cond.initialized (exn kx) ∈ TBG ∧ (∀ w ∈ vx_atS RX11 ic (exn kx) ["java/lang/RuntimeException", "java/lang/Exception"], w ∈ TBG ∨ w ∈ NST) ∧
  (∀ w ∈ Cond.classLink RX11 ik (exn kx) :: Cond.initialized (exn kx) :: vx_atS RX11 ic (exn kx) ["java/lang/RuntimeException", "java/lang/Exception"], vx_ot w = true) ∧ (is, text) ∈ txts
/-- throw new E("text") -/
theorem s_thr {α : Type} {rv : α → Option AV} (C : CX X G RX11 cc P nL ret n0) (htab : ∀ z ∈ X.2.2.2.2.2.2.2.2.exceptionTable.toList, False) {ik is ic kx : Nat} {text : String} (th : THK ik is ic kx text) (i : Nat) {l0 l1 l2 l3 l4 n1 n2 n3 n4 n5 : Nat} {k0 k1 k2 k3 k4 : Int32} (h0 : P[i]? = some (pc, .new ik, l0, k0, n1)) (h1 : P[i + 1]? = some (pc + 3, .dup, l1, k1, n2)) (h2 : P[i + 2]? = some (pc + 4, .ldc_w is, l2, k2, n3)) (h3 : P[i + 3]? = some (pc + 7, .invokespecial ic, l3, k3, n4)) (h4 : P[i + 4]? = some (pc + 10, .athrow, l4, k4, n5)) (hd : 6 ≤ d) (hq : 6 ≤ q) (hst : stk8 st = true) :
    JS X G nL q 0 n0 (EM X G n0 d q (eC rv σ)) (some (.inr kx, M, n + 1)) (σ, M, n) pc lv st := by
  obtain ⟨hx, hb, hml, hown, hts, hK, hlk, hrt, hST, hZ, hn0, hAA, hP, htr⟩ := id C
  obtain ⟨d0, c0⟩ := bOK_at hP i h0
  obtain ⟨d1, c1⟩ := bOK_at hP (i + 1) h1
  obtain ⟨d2, c2⟩ := bOK_at hP (i + 2) h2
  obtain ⟨d3, c3⟩ := bOK_at hP (i + 3) h3
  obtain ⟨d4, c4⟩ := bOK_at hP (i + 4) h4
  obtain ⟨rfl, -⟩ := ck1 (b := 0) c0
  obtain ⟨rfl, -⟩ := ck1 (b := 0) c1
  obtain ⟨rfl, -⟩ := ck1 (b := 0) c2
  obtain ⟨rfl, -⟩ := ck1 (b := 0) c3
  obtain ⟨rfl, -⟩ := ck1 (b := 0) c4
  obtain ⟨t1, t2, t3, t4, t5, t6, t7⟩ := th
  obtain ⟨sa, hsa⟩ := hST.2.2.2.2.2.2.2.2.1 _ t7
  intro o ho
  cases ho
  refine ⟨Nat.le_succ n, fun H locs hW hS ls hl => ?_⟩
  have hHn : H.size = n := hW.1
  have hnn : n0 ≤ n := n0_le C hW hS
  have hsr := st_room hst
  have em : q * (n + 1 - n0) = q * (n - n0) + q := by rw [show n + 1 - n0 = (n - n0) + 1 by omega, Nat.mul_succ]
  refine vx_throwE hx hb htr hown t1 t2 (hts _ t3) (hts _ t4) hsa (fun w hw => ?_) t6 hST.2.2.2.1 hST.2.2.2.2.1 hS (hl.1.trans hml.symm) d0 d1 d2 d3 d4 (fun z hz => (htab z hz).elim) ?_ ?_ ?_ ?_ hlk (fun t ha hz hk => ⟨kx, rfl, rfl, ?_, ?_⟩) hS.2.2 ?_ ?_
  · rcases t5 w hw with h | h
    · exact hts _ h
    · have hn := List.mem_filter.mp h
      cases w with
      | fieldLinkNest a i b n d h0 => exact va_Nw.use rfl (hST.2.2.2.2.2.2.2.1 _ h)
      | methodLinkNest a i x h0 => exact va_Nw.use rfl (hST.2.2.2.2.2.2.2.1 _ h)
      | castable a b => exact va_Nw.use rfl (hST.2.2.2.2.2.2.2.1 _ h)
      | declares a => exact va_Nw.use rfl (hST.2.2.2.2.2.2.2.1 _ h)
      | _ => cases hn.2
  · show 2 + 3 < d; omega
  · show _ + (13 * (2 + 1) + 43) ≤ 100 * d; omega
  · show n - n0 + 1 ≤ n + 1 - n0; omega
  · show 0 + q * (n - n0) + 6 ≤ 0 + q * (n + 1 - n0); omega
  · show WDh G (σ, M, n + 1) t.heap
    refine ⟨by show t.heap.size = n + 1; rw [hz, hHn], fun a x hx => ?_, fun a ha => ?_, fun hh => ?_, hW.2.2.2.2.1, hW.2.2.2.2.2⟩
    · have hlt := hW.lt hx
      exact (hW.2.1 a x hx).kept (hk a (by rw [hHn]; exact hlt))
    · rcases hW.2.2.1 a ha with g | g
      · exact Or.inl ⟨g.1, Nat.lt_succ_of_lt g.2⟩
      · exact Or.inr ⟨g.1, g.2.1, Nat.lt_succ_of_lt g.2.2⟩
    · obtain ⟨⟨g1, g2⟩, g3, g4⟩ := hW.2.2.2.1 hh
      refine ⟨⟨g1.kept (hk _ g1.lt), fun kz hkz => ?_⟩, g3, g4⟩
      rw [hk _ (Array.getElem?_eq_some_iff.mp (g2 kz hkz)).1]
      exact g2 kz hkz
  · exact ⟨Nat.le_trans hS.1 (by omega), fun a h1 h2 => (hk a (Nat.lt_of_lt_of_le h1 hS.1)).trans (hS.2.1 a h1 h2)⟩
  · show n - n0 + 1 ≤ n + 1 - n0; omega
  · show 0 + q * (n - n0) + 6 ≤ 0 + q * (n + 1 - n0); omega
theorem s_rks {kd a : Nat} {f : Nat → Option ω} {stk : List AV} (kk : mK M a = kd → JS X G nL q sl n0 E (f a) (σ, M, n) pc lv stk) : JS X G nL q sl n0 E (rk kd (some a) M f) (σ, M, n) pc lv stk :=
  s_rk fun a' ha hk => by cases ha; exact kk hk
/-- a run that has no end -/
theorem s_none {S : WS} : JS X G nL q sl n0 E (none : Option ω) S pc lv st := fun o ho => by cases ho
theorem s_max (C : CX X G own cc P nL ret n0) (hE : CE E d q sl n0) (i : Nat) (hr : P[i]? = some (pc, .invokestatic idx, len, k, nx)) (hlk : Cond.methodLink own idx Lib.Math.max.name ∈ TBG) (hd : 1 ≤ d) (hst : stk8 st = true) {x y : Int32} {z : Option ω} (kk : JS X G nL q sl n0 E z (σ, M, n) (pc + 3) lv (.inl (if x < y then y else x) :: st)) : JS X G nL q sl n0 E z (σ, M, n) pc lv (.inl y :: .inl x :: st) := by
  obtain ⟨hx, hb, hml, hown, hts, hK, hlk', hrt, hST, hZ, hn0, hAA, hP, htr⟩ := id C
  obtain ⟨dd, c⟩ := bOK_at hP i hr
  obtain ⟨rfl, -⟩ := ck1 (b := 0) c
  intro o ho
  obtain ⟨k1, k2⟩ := kk o ho
  obtain ⟨e1, e2, e3, e4⟩ := hE o
  refine ⟨k1, fun H locs hW hS ls hl => ?_⟩
  have hsr := st_room hst
  exact va_mmax hx hb (hml.trans hl.1.symm) hown (hts _ hlk) (hts _ w_maxS) (hts _ w_math) (hts _ w_maxC) (Nat.le_trans hd e1) (by omega) (Nat.le_trans (Nat.sub_le_sub_right k1 n0) e3) (Nat.le_trans (Nat.add_le_add_left (Nat.mul_le_mul_left q (Nat.sub_le_sub_right k1 n0)) sl) e4) dd (k2 H locs hW hS ls hl)
theorem s_min (C : CX X G own cc P nL ret n0) (hE : CE E d q sl n0) (i : Nat) (hr : P[i]? = some (pc, .invokestatic idx, len, k, nx)) (hlk : Cond.methodLink own idx Lib.Math.min.name ∈ TBG) (hd : 1 ≤ d) (hst : stk8 st = true) {x y : Int32} {z : Option ω} (kk : JS X G nL q sl n0 E z (σ, M, n) (pc + 3) lv (.inl (if y < x then y else x) :: st)) : JS X G nL q sl n0 E z (σ, M, n) pc lv (.inl y :: .inl x :: st) := by
  obtain ⟨hx, hb, hml, hown, hts, hK, hlk', hrt, hST, hZ, hn0, hAA, hP, htr⟩ := id C
  obtain ⟨dd, c⟩ := bOK_at hP i hr
  obtain ⟨rfl, -⟩ := ck1 (b := 0) c
  intro o ho
  obtain ⟨k1, k2⟩ := kk o ho
  obtain ⟨e1, e2, e3, e4⟩ := hE o
  refine ⟨k1, fun H locs hW hS ls hl => ?_⟩
  have hsr := st_room hst
  exact va_mmin hx hb (hml.trans hl.1.symm) hown (hts _ hlk) (hts _ w_minS) (hts _ w_math) (hts _ w_minC) (Nat.le_trans hd e1) (by omega) (Nat.le_trans (Nat.sub_le_sub_right k1 n0) e3) (Nat.le_trans (Nat.add_le_add_left (Nat.mul_le_mul_left q (Nat.sub_le_sub_right k1 n0)) sl) e4) dd (k2 H locs hW hS ls hl)
theorem s_ldc (C : CX X G own cc P nL ret n0) (i : Nat) (hr : P[i]? = some (pc, .ldc idx, len, k, nx)) {v : Int32} (hc : Cond.constant own idx v ∈ TBG) {z : Option ω} (kk : JS X G nL q sl n0 E z (σ, M, n) (pc + 2) lv (.inl v :: st)) : JS X G nL q sl n0 E z (σ, M, n) pc lv st := by
  obtain ⟨hx, hb, hml, hown, hts, hK, hlk', hrt, hST, hZ, hn0, hAA, hP, htr⟩ := id C
  obtain ⟨dd, c⟩ := bOK_at hP i hr
  obtain ⟨rfl, -⟩ := ck1 (b := 0) c
  exact fun o ho => ⟨(kk o ho).1, fun H locs hW hS ls hl => lv_ldc hx hb hown (hts _ hc) dd ((kk o ho).2 H locs hW hS ls hl)⟩
/-- ArrayList's empty row -/
theorem s_getD (C : CX X G own cc P nL ret n0) (i : Nat) (hr : P[i]? = some (pc, .getstatic idx, len, k, nx)) (hlk : Cond.fieldLink own idx RJx4a65c "DEFAULTCAPACITY_EMPTY_ELEMENTDATA" "[Ljava/lang/Object;" ∈ TBG) {x : Option ω} (kk : JS X G nL q sl n0 E x (σ, M, n) (pc + 3) lv (.inr (.inl (some (mL M 0))) :: st)) : JS X G nL q sl n0 E x (σ, M, n) pc lv st := by
  obtain ⟨hx, hb, hml, hown, hts, hK, hlk', hrt, hST, hZ, hn0, hAA, hP, htr⟩ := C
  obtain ⟨dd, c⟩ := bOK_at hP i hr
  obtain ⟨rfl, -⟩ := ck1 (b := 0) c
  refine fun o ho => ⟨(kk o ho).1, fun H locs hW hS ls hl => va_gets hx hb hST.2.2.1 hS hown (hts _ hlk) (fun _ z => z) dd ?_⟩
  have e : mL M 0 = gE G := hW.2.2.2.2.1
  have h := (kk o ho).2 H locs hW hS ls hl
  rw [e] at h
  exact h
theorem s_acmpeq (C : CX X G own cc P nL ret n0) (i : Nat) {off : Int} (hr : P[i]? = some (pc, .if_acmp .eq off, len, k, nx)) {x y : Option Nat} {S : WS} {A B : Option ω} (kt : JS X G nL q sl n0 E A S nx lv st) (kf : JS X G nL q sl n0 E B S (pc + 3) lv st) : JS X G nL q sl n0 E (if x = y then A else B) S pc lv (.inr (.inl y) :: .inr (.inl x) :: st) := by
  obtain ⟨hx, hb, hml, hown, hts, hK, hlk, hrt, hST, hZ, hn0, hAA, hP, htr⟩ := C
  obtain ⟨dd, c⟩ := bOK_at hP i hr
  obtain ⟨c, rfl⟩ := ck5 c
  by_cases z : x = y
  · rw [if_pos z]; exact fun o ho => ⟨(kt o ho).1, fun H locs hW hS ls hl => lv_acmp_eq hx hb dd c (fun _ => (kt o ho).2 H locs hW hS ls hl) (fun z' => absurd z z')⟩
  · rw [if_neg z]; exact fun o ho => ⟨(kf o ho).1, fun H locs hW hS ls hl => lv_acmp_eq hx hb dd c (fun z' => absurd z' z) (fun _ => (kf o ho).2 H locs hW hS ls hl)⟩
/-- the class Object[] against itself -/
theorem s_acmpC (C : CX X G own cc P nL ret n0) (i : Nat) {off : Int} (hr : P[i]? = some (pc, .if_acmp .ne off, len, k, nx)) {a : Nat} {S : WS} {A : Option ω} (kf : JS X G nL q sl n0 E A S (pc + 3) lv st) : JS X G nL q sl n0 E A S pc lv (.inr (.inl (some a)) :: .inr (.inl (some a)) :: st) := by
  obtain ⟨hx, hb, hml, hown, hts, hK, hlk, hrt, hST, hZ, hn0, hAA, hP, htr⟩ := C
  obtain ⟨dd, c⟩ := bOK_at hP i hr
  obtain ⟨c, rfl⟩ := ck5 c
  exact fun o ho => ⟨(kf o ho).1, fun H locs hW hS ls hl => lv_acmp_ne (rx := some a) (ry := some a) hx hb dd c (fun z' => absurd rfl z') (fun _ => (kf o ho).2 H locs hW hS ls hl)⟩
theorem s_ldcC (C : CX X G own cc P nL ret n0) (i : Nat) (hr : P[i]? = some (pc, .ldc idx, len, k, nx)) (hlk : Cond.classLink own idx "[Ljava/lang/Object;" ∈ TBG) {S : WS} {x : Option ω} (kk : JS X G nL q sl n0 E x S (pc + 2) lv (.inr (.inl (some (gO G))) :: st)) : JS X G nL q sl n0 E x S pc lv st := by
  obtain ⟨hx, hb, hml, hown, hts, hK, hlk', hrt, hST, hZ, hn0, hAA, hP, htr⟩ := C
  obtain ⟨dd, c⟩ := bOK_at hP i hr
  obtain ⟨rfl, -⟩ := ck1 (b := 0) c
  refine fun o ho => ⟨(kk o ho).1, fun H locs hW hS ls hl => ?_⟩
  intro T hT Xs
  have hev : (Term.mirror "[Ljava/lang/Object;").eval X.2.2.2.2.2.1 X.2.2.2.1 none [] X.2.2.2.1 = some (.ref (gO G)) := by
    obtain ⟨c0, k0, h1, h2, h3⟩ := hST.2.2.2.2.2.1
    simp [Term.eval, h1, h2, h3]
  obtain ⟨vm', X', st'⟩ := Xs.ldcMirror hx hown (hts _ hlk) hev (g := F0 X.2.2.2.2.1 pc ls (st.map vv)) rfl (by rw [hb]; exact dd)
  obtain ⟨t, a1, b1⟩ := (kk o ho).2 H locs hW hS ls hl (T.setVm vm') hT X'
  exact ⟨t, st' t a1, b1⟩
theorem s_getC (C : CX X G own cc P nL ret n0) (hE : CE E d q sl n0) (i : Nat) (hr : P[i]? = some (pc, .invokevirtual idx, len, k, nx)) (hlk : Cond.methodLink own idx ⟨"java/lang/Object", "getClass", "()Ljava/lang/Class;"⟩ ∈ TBG) (hd : 1 ≤ d) (hst : stk8 st = true) {r : Option Nat} {x : Option ω} (kk : JS X G nL q sl n0 E x (σ, M, n) (pc + 3) lv (.inr (.inl (some (gO G))) :: st)) : JS X G nL q sl n0 E (rk 23 r M fun _ => x) (σ, M, n) pc lv (.inr (.inl r) :: st) := by
  obtain ⟨hx, hb, hml, hown, hts, hK, hlk', hrt, hST, hZ, hn0, hAA, hP, htr⟩ := C
  obtain ⟨dd, c⟩ := bOK_at hP i hr
  obtain ⟨rfl, -⟩ := ck1 (b := 0) c
  refine s_rk fun a ha hk => ?_
  cases ha
  intro o ho
  obtain ⟨k1, k2⟩ := kk o ho
  obtain ⟨e1, e2, e3, e4⟩ := hE o
  refine ⟨k1, fun H locs hW hS ls hl => ?_⟩
  have hsr := st_room hst
  obtain ⟨kA, comp, c1, c2, c3, c4⟩ := (hK.2 3 _ rfl).2
  exact va_getC hx hb (hml.trans hl.1.symm) hown (hts _ hlk) (va_Dc.use hST.2.2.2.2.2.2.1.1) (hts _ w_gcS) (hts _ w_gcI) (hts _ w_gcN) hST.2.2.2.2.2.1 ⟨_, hW.2.1 a _ (ent_arr.2.2.2.1 hk), rfl, c4⟩ (Nat.le_trans hd e1) (by omega) dd (k2 H locs hW hS ls hl)
/-- System.arraycopy from row to row of references -/
theorem s_acp (C : CX X G own cc P nL ret n0) (hE : CE E d q sl n0) (i : Nat) (hr : P[i]? = some (pc, .invokestatic idx, len, k, nx)) (hlk : Cond.methodLink own idx arraycopyName ∈ TBG) (hd : 1 ≤ d) (hst : stk8 st = true) {r r2 : Option Nat} {sp dp m : Int32} {f : Mm → Option ω} (kk : ∀ M', JS X G nL q sl n0 E (f M') (σ, M', n) (pc + 3) lv st) : JS X G nL q sl n0 E (acp r sp r2 dp m M f) (σ, M, n) pc lv (.inl m :: .inl dp :: .inr (.inl r2) :: .inl sp :: .inr (.inl r) :: st) := by
  obtain ⟨hx, hb, hml, hown, hts, hK, hlk', hrt, hST, hZ, hn0, hAA, hP, htr⟩ := C
  obtain ⟨dd, c⟩ := bOK_at hP i hr
  obtain ⟨rfl, -⟩ := ck1 (b := 0) c
  intro o ho
  rcases r with _ | a
  · cases ho
  rcases r2 with _ | b
  · cases ho
  unfold acp at ho
  dsimp only at ho
  split at ho
  · next hcond =>
    obtain ⟨g1, g2, g0, g3, g4, g5, g6, g7, g8⟩ := hcond
    obtain ⟨k1, k2⟩ := kk _ o ho
    obtain ⟨e1, e2, e3, e4⟩ := hE o
    refine ⟨k1, fun H locs hW hS ls hl => ?_⟩
    have hsr := st_room hst
    have hnw : nativeFrameWords "java/lang/System" "arraycopy" 5 ≤ 20 := by decide
    have nn : ∀ z : Int32, ¬ z < 0 → z.toInt = (z.toNatClampNeg : Int) := by
      intro z hz
      have hz0 : (0 : Int) ≤ z.toInt := by
        have := Int32.not_lt.mp hz
        simpa using Int32.le_iff_toInt_le.mp this
      show z.toInt = ((z.toInt.toNat : Nat) : Int)
      omega
    have hc0 := hW.2.1 a _ (ent_arr.2.2.2.1 g1)
    have hc1 := hW.2.1 b _ (ent_arr.2.2.2.1 g2)
    intro T hT Xs
    obtain ⟨-, k0, hk0, cm0, hkk0⟩ := (hK.2 3 _ rfl).1 (mL M a) (fun j => va_rf (mP M 0 a j))
    obtain ⟨-, k1', hk1, cm1, hkk1⟩ := (hK.2 3 _ rfl).1 (mL M b) (fun j => va_rf (mP M 0 b j))
    obtain ⟨vm', X', step⟩ := Xs.arraycopy hx hown (hts _ hlk) (hts _ w_acN) (hts _ w_acS) (hts _ w_sys) (src := a) (dst := b) (cs := vp_cell (gC G 3) (mL M a, .inr (.inr (.inr (.inr (mP M 0 a)))))) (cd := vp_cell (gC G 3) (mL M b, .inr (.inr (.inr (.inr (mP M 0 b)))))) (srcPos := sp) (destPos := dp) (n := m) (by rw [hT]; exact hc0) (by rw [hT]; exact hc1)
      (fun _ h => by cases h) (fun _ h => by cases h) (fun h => by cases h) (fun h => by cases h) hk0 hk1 hkk0 hkk1 rfl g3 g4 g5
      (by rw [nn sp g3, nn m g5]; show ¬ _ > ((arrV (gC G 3) (mL M a) (fun j => va_rf (mP M 0 a j))).slots.size : Int); rw [arrV_size]; omega)
      (by rw [nn dp g4, nn m g5]; show ¬ _ > ((arrV (gC G 3) (mL M b) (fun j => va_rf (mP M 0 b j))).slots.size : Int); rw [arrV_size]; omega)
      (fun vm₁ hal i hi => by
        have e : (vp_cell (gC G 3) (mL M a, .inr (.inr (.inr (.inr (mP M 0 a)))))).slots.getD (sp.toNatClampNeg + i) .null = va_rf (mP M 0 a (sp.toNatClampNeg + i)) := by
          show (arrV (gC G 3) (mL M a) (fun j => va_rf (mP M 0 a j))).slots.getD _ _ = _
          rw [Array.getD_eq_getD_getElem?, arrV_read _ _ (by omega)]
          rfl
        rw [e]
        have hok := List.all_eq_true.mp g8 i (List.mem_range.mpr hi)
        cases hy : mP M 0 a (sp.toNatClampNeg + i) with
        | none => exact ⟨rfl, trivial⟩
        | some y =>
          rw [hy] at hok
          have hok : decide (1 ≤ mK M y ∧ mK M y ≤ 12) = true := hok
          obtain ⟨b1, b2⟩ := of_decide_eq_true hok
          obtain ⟨r, hr1, hr2⟩ := cast_obj _ b1 b2
          obtain ⟨r', hr', cellV, v1, v2, v3, -⟩ := hW.2.1 y _ (ent_obj b1 (by omega) rfl)
          cases hr1.symm.trans hr'
          have hcls := (hK.1 _ r hr1).2
          obtain ⟨kC, hkC, -⟩ := hcls.2
          obtain ⟨kA, comp, r1, r2, r3, -⟩ := (hK.2 3 _ rfl).2
          cases hk1.symm.trans r1
          cases hkk1.symm.trans r2
          obtain ⟨kE, hkE, -⟩ := Vm.findClass_spec r3
          obtain ⟨kC', hkC', -⟩ := hal.2.2 _ _ hkC
          obtain ⟨kE', hkE', -⟩ := hal.2.2 _ _ hkE
          obtain ⟨c0, t1, f1, f2, f3⟩ := Cond.castable_spec (va_Nw.use (A := X.2.2.2.2.2.1) rfl (hST.2.2.2.2.2.2.2.1 _ hr2))
          cases hcls.1.symm.trans f1
          cases r3.symm.trans f2
          refine ⟨rfl, cellV, (show T.heap[y]? = some cellV by rw [hT]; exact v1), (fun q h => by rw [v3] at h; cases h), ⟨kC', by rw [v2]; exact hkC'⟩, ?_, ?_⟩
          · exact ⟨kE', hkE'⟩
          · show vm₁.assignable _ _ = true
            rw [hal.assignable, v2]
            exact f3)
      (g := F0 X.2.2.2.2.1 pc ls (.int m :: .int dp :: .ref b :: .int sp :: .ref a :: st.map vv)) rfl (hl.1.trans hml.symm) (rest := st.map vv) rfl (by rw [hb]; exact dd) (Nat.le_trans hd e1) (by show 2 * 0 + _ + _ ≤ _; omega)
    have e1 : copied (vp_cell (gC G 3) (mL M a, .inr (.inr (.inr (.inr (mP M 0 a)))))) (vp_cell (gC G 3) (mL M b, .inr (.inr (.inr (.inr (mP M 0 b)))))) sp dp m = vp_cell (gC G 3) (mL M b, .inr (.inr (.inr (.inr (mP (mC M a b sp.toNatClampNeg dp.toNatClampNeg m.toNatClampNeg) 0 b))))) := by
      have ef : mP (mC M a b sp.toNatClampNeg dp.toNatClampNeg m.toNatClampNeg) 0 b = va_cpy (mP M 0 a) (mP M 0 b) sp.toNatClampNeg dp.toNatClampNeg m.toNatClampNeg := by
        funext z
        show (if 0 = 0 ∧ b = b ∧ dp.toNatClampNeg ≤ z ∧ z < dp.toNatClampNeg + m.toNatClampNeg then M.2.1 0 a (sp.toNatClampNeg + (z - dp.toNatClampNeg)) else M.2.1 0 b z) = _
        unfold va_cpy mP
        by_cases hz : dp.toNatClampNeg ≤ z ∧ z < dp.toNatClampNeg + m.toNatClampNeg
        · rw [if_pos ⟨rfl, rfl, hz⟩, if_pos hz]
        · rw [if_neg (fun h => hz h.2.2), if_neg hz]
      rw [ef, vp_cell_q, vp_cell_q, vp_cell_q]
      exact va_copied (fun z => va_rf z) (gC G 3) (gC G 3) (mP M 0 a) (mP M 0 b) g6
    rw [e1] at X' step
    have hbl : b < H.size := (Array.getElem?_eq_some_iff.mp hc1).1
    have oq : ∀ (cell : Cell) (z : Nat), z ≠ b → (H.setIfInBounds b cell)[z]? = H[z]? := fun cell z hz => by simp [Array.getElem?_setIfInBounds, Ne.symm hz]
    have hgA : gAd G b := by
      rcases hW.2.2.1 b (by show mK M b ≠ 0; rw [g2]; decide) with z | ⟨-, z, -⟩
      · exact z.1
      · have z : mK M b = 26 := z
        omega
    obtain ⟨t, a1, b1⟩ := k2 (H.setIfInBounds b (vp_cell (gC G 3) (mL M b, .inr (.inr (.inr (.inr (mP (mC M a b sp.toNatClampNeg dp.toNatClampNeg m.toNatClampNeg) 0 b)))))) ) _ (hW.set (a := b) (M' := mC M a b sp.toNatClampNeg dp.toNatClampNeg m.toNatClampNeg) (by simp) (oq _) rfl rfl (by rw [g2]; decide) (fun z hz => ent_congr (fun c j => rfl) (fun c j => by
          show (if c = 0 ∧ z = b ∧ _ ∧ _ then _ else M.2.1 c z j) = _
          rw [if_neg (fun h => hz h.2.1)]; rfl) (fun j => rfl) rfl rfl) (fun x hx => by
          rw [ent_arr.2.2.2.1 (by exact g2)] at hx
          cases hx
          show (H.setIfInBounds b _)[b]? = some _
          simp [Array.getElem?_setIfInBounds, hbl]; rfl)) ⟨by simp; exact hS.1, fun z w1 w2 => by
          rw [oq _ z (fun e => w2 (by rw [e]; exact hgA))]
          exact hS.2.1 z w1 w2, fun z hz => by
          rcases List.mem_append.mp hz with h | h
          · exact hS.2.2 z h
          · obtain ⟨y, -, hy⟩ := List.mem_map.mp h
            rw [← hy]
            exact hgA⟩ ls hl _ (by rw [← hT]; rfl) X'
    exact ⟨t, step t a1, b1⟩
  · cases ho
/-- a switch on numbers -/
def tsw {ω : Type} (lo hi : Int) (x : Int32) (f : Nat → Option ω) (g : Option ω) : Option ω := if x.toInt < lo ∨ hi < x.toInt then g else f (x.toInt - lo).toNat
theorem s_tsw (C : CX X G own cc P nL ret n0) (i : Nat) {df lo hi : Int} {offs : Array Int} (hr : P[i]? = some (pc, .tableswitch df lo hi offs, len, k, nx)) {tg : Nat} (hdf : (pc : Int) + df = (tg : Int)) (hsz : (offs.size : Int) = hi - lo + 1) {x : Int32} {S : WS} {f : Nat → Option ω} {g : Option ω} (kd : JS X G nL q sl n0 E g S tg lv st) (kk : ∀ (j : Nat) (off : Int), offs[j]? = some off → ∃ t : Nat, (pc : Int) + off = (t : Int) ∧ JS X G nL q sl n0 E (f j) S t lv st) : JS X G nL q sl n0 E (tsw lo hi x f g) S pc lv (.inl x :: st) := by
  obtain ⟨hx, hb, hml, hown, hts, hK, hlk, hrt, hST, hZ, hn0, hAA, hP, htr⟩ := C
  obtain ⟨dd, -⟩ := bOK_at hP i hr
  unfold tsw
  by_cases z : x.toInt < lo ∨ hi < x.toInt
  · rw [if_pos z]; exact fun o ho => ⟨(kd o ho).1, fun H locs hW hS ls hl => lv_tableOut hx hb dd z hdf ((kd o ho).2 H locs hW hS ls hl)⟩
  · rw [if_neg z]
    have h1 : ¬ x.toInt < lo := fun h => z (Or.inl h)
    have h2 : ¬ hi < x.toInt := fun h => z (Or.inr h)
    have hlt : (x.toInt - lo).toNat < offs.size := by omega
    obtain ⟨t, ht, kt⟩ := kk _ _ (Array.getElem?_eq_getElem hlt)
    exact fun o ho => ⟨(kt o ho).1, fun H locs hW hS ls hl => lv_tableIn hx hb dd h1 h2 (Array.getElem?_eq_getElem hlt) ht ((kt o ho).2 H locs hW hS ls hl)⟩
theorem s_lcmp (C : CX X G own cc P nL ret n0) (i : Nat) (hr : P[i]? = some (pc, .lcmp, len, k, nx)) {x y : Int64} {S : WS} {z : Option ω} (kk : JS X G nL q sl n0 E z S (pc + 1) lv (.inl (lg_cmp x y) :: st)) : JS X G nL q sl n0 E z S pc lv (.inr (.inr y) :: .inr (.inr x) :: st) := by
  obtain ⟨hx, hb, hml, hown, hts, hK, hlk, hrt, hST, hZ, hn0, hAA, hP, htr⟩ := C
  obtain ⟨dd, c⟩ := bOK_at hP i hr
  obtain ⟨rfl, -⟩ := ck1 (b := 0) c
  exact fun o ho => ⟨(kk o ho).1, fun H locs hW hS ls hl => W.lcmp hx hb dd ((kk o ho).2 H locs hW hS ls hl)⟩
end XT
theorem th_w290 : ∀ w ∈ vx_atS RX11 290 (exn 0) ["java/lang/RuntimeException", "java/lang/Exception"], w ∈ TBG ∨ w ∈ NST := by
  have h : (vx_atS RX11 290 (exn 0) ["java/lang/RuntimeException", "java/lang/Exception"]).all (fun w => (goodWord w && decide (w ∈ lw_tbl)) || (isNest w && decide (w ∈ tables_1))) = true := by decide +kernel
  intro w hw
  have h1 := List.all_eq_true.mp h w hw
  rw [Bool.or_eq_true, Bool.and_eq_true, Bool.and_eq_true] at h1
  rcases h1 with ⟨g, m⟩ | ⟨g, m⟩
  · exact Or.inl (List.mem_filter.mpr ⟨of_decide_eq_true m, g⟩)
  · exact Or.inr (List.mem_filter.mpr ⟨of_decide_eq_true m, g⟩)
theorem th_288 : THK 286 288 290 0 "there is none such" := ⟨by decide +kernel, by decide +kernel, tb_mem 376 (by decide +kernel) (by decide +kernel), tb_mem 16 (by decide +kernel) (by decide +kernel), th_w290, by decide +kernel, by decide⟩
theorem th_w297 : ∀ w ∈ vx_atS RX11 297 (exn 1) ["java/lang/RuntimeException", "java/lang/Exception"], w ∈ TBG ∨ w ∈ NST := by
  have h : (vx_atS RX11 297 (exn 1) ["java/lang/RuntimeException", "java/lang/Exception"]).all (fun w => (goodWord w && decide (w ∈ lw_tbl)) || (isNest w && decide (w ∈ tables_1))) = true := by decide +kernel
  intro w hw
  have h1 := List.all_eq_true.mp h w hw
  rw [Bool.or_eq_true, Bool.and_eq_true, Bool.and_eq_true] at h1
  rcases h1 with ⟨g, m⟩ | ⟨g, m⟩
  · exact Or.inl (List.mem_filter.mpr ⟨of_decide_eq_true m, g⟩)
  · exact Or.inr (List.mem_filter.mpr ⟨of_decide_eq_true m, g⟩)
theorem th_295 : THK 293 295 297 1 "an argument is out of its range" := ⟨by decide +kernel, by decide +kernel, tb_mem 271 (by decide +kernel) (by decide +kernel), tb_mem 14 (by decide +kernel) (by decide +kernel), th_w297, by decide +kernel, by decide⟩
theorem th_w302 : ∀ w ∈ vx_atS RX11 302 (exn 2) ["java/lang/RuntimeException", "java/lang/Exception"], w ∈ TBG ∨ w ∈ NST := by
  have h : (vx_atS RX11 302 (exn 2) ["java/lang/RuntimeException", "java/lang/Exception"]).all (fun w => (goodWord w && decide (w ∈ lw_tbl)) || (isNest w && decide (w ∈ tables_1))) = true := by decide +kernel
  intro w hw
  have h1 := List.all_eq_true.mp h w hw
  rw [Bool.or_eq_true, Bool.and_eq_true, Bool.and_eq_true] at h1
  rcases h1 with ⟨g, m⟩ | ⟨g, m⟩
  · exact Or.inl (List.mem_filter.mpr ⟨of_decide_eq_true m, g⟩)
  · exact Or.inr (List.mem_filter.mpr ⟨of_decide_eq_true m, g⟩)
theorem th_300 : THK 298 300 302 2 "it cannot be done now" := ⟨by decide +kernel, by decide +kernel, tb_mem 341 (by decide +kernel) (by decide +kernel), tb_mem 15 (by decide +kernel) (by decide +kernel), th_w302, by decide +kernel, by decide⟩
theorem th_307 : THK 286 307 290 0 "there is no such version" := ⟨by decide +kernel, by decide +kernel, tb_mem 376 (by decide +kernel) (by decide +kernel), tb_mem 16 (by decide +kernel) (by decide +kernel), th_w290, by decide +kernel, by decide⟩
theorem th_313 : THK 286 313 290 0 "there is no such part" := ⟨by decide +kernel, by decide +kernel, tb_mem 376 (by decide +kernel) (by decide +kernel), tb_mem 16 (by decide +kernel) (by decide +kernel), th_w290, by decide +kernel, by decide⟩
def FU : Nat := 100000

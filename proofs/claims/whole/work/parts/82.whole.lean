set_option maxRecDepth 100000
/-! THE CLAIM OUT OF ONE WALK OF THE LAW'S BODY. Your part is whole_start (and what it stands on); all else here is the same for every law, but numbers. -/
def R_law : String := "BlobHarborLaw"
def lw_P (b : Addr) (xs : List Int32) (args : Array Value) (s : State) : Prop := args = #[.ref b] ∧ s.IntsAt b xs ∧ xs.length ≤ 2560 ∧ (Jvm.Cond.and given_1 narrow_1).before args s = true
def lw_Q (_ : Array Value) (s : State) (o : Outcome) (t : State) : Prop := o = .returned (some (.int 1)) ∧ Framed s o t [] 601024 7293034
def lw_Z (below : List Frame) (a : Array Value) (s : State) : State → Prop := fun t => ∃ o, t.status = .running ∧ Ended t below o ∧ lw_Q a s o t
/-- the law's own end, with 1 on the stack, nothing written that was there before, its room as the claim has it -/
theorem lw_ret {p : Program} {l : Launch} {e : Env} {s : State} {m : MethodId} {below : List Frame} {meth : Method} {c : Code} {b : Nat} (hx : p.tables.exec = Jvm.exec) (hb : c.code = code) (hr : meth.sig.returnType = ret) (hlocks : meth.locks = false) {pc : Nat} {H : Heap} {ls : Array Slot} (hdg : decode code pc = .ok (.ireturn, 1)) : W p l e room_1 s m #[Value.ref b] below meth c H [] 601024 7293034 (lw_Z below #[Value.ref b] s) (F0 m pc ls [.int 1]) := by
  intro T hT X
  obtain ⟨fs, hret, hrun, hended, hW, hframe⟩ := X.leave (v := some (.int 1)) (hlocks := hlocks) (fun h => by rw [hr] at h; cases h)
  have hmeth' : T.vm.method? m = some meth := X.method'
  refine ⟨T.setFrames fs, ?_, .returned (some (.int 1)), hrun, hended, rfl, ⟨_, rfl⟩, hW, hframe⟩
  jvm_step X.here [X.here.top, hx, hb, hdg, hmeth', hr, ret, narrow_b1]
  (try refine ⟨rfl, ?_⟩); (try refine ⟨rfl, ?_⟩)
  first | (intro acts; rw [hret _ acts rfl rfl rfl]) | rw [hret _ _ rfl rfl rfl]
  exact Steps.refl _
/-- what holds at the law's entry: the machine, the code, the tables' words (any of lw_tbl by 'hts w (by decide +kernel)'), the script of L ints xs at the cell b, what the Statement gives of the start (any of its parts by flat_of_before) -/
def lw_At (p : Program) (s : State) (m : MethodId) (meth : Method) (c : Code) (b L : Nat) (xs : Nat → Int32) : Prop :=
  p.tables.exec = Jvm.exec ∧ c.code = code ∧ meth.sig.returnType = ret ∧ c.maxLocals = 7 ∧ s.vm.findClass R_law = some m.cls ∧ (∀ w ∈ lw_tbl, w.before #[Value.ref b] s = true) ∧ va_X b L xs s s.heap ∧ b < s.heap.size ∧ meth.locks = false ∧ (Jvm.Cond.and given_1 narrow_1).before #[Value.ref b] s = true
theorem M00_W {s : State} {G : GE} {e0 : Nat} {σ : Sg} (h1 : gE G = e0) (h2 : gH G = false) (h3 : e0 < s.heap.size) : WDh G (σ, M00 e0, s.heap.size) s.heap := by
  have hk : ∀ a, mK (M00 e0) a = if a = e0 then 26 else 0 := fun a => rfl
  refine ⟨rfl, fun a x hx => ?_, fun a ha => ?_, fun hh => ?_, ?_, ?_⟩
  · have hx : ent G (M00 e0) a = some x := hx
    have hn : ent G (M00 e0) a = none := by
      unfold ent
      rw [hk]
      by_cases h : a = e0
      · rw [if_pos h]; rfl
      · rw [if_neg h]; rfl
    rw [hn] at hx; cases hx
  · have ha : mK (M00 e0) a ≠ 0 := ha
    rw [hk] at ha
    by_cases h : a = e0
    · subst h
      exact Or.inr ⟨h1.symm, by show mK (M00 a) a = 26; rw [hk, if_pos rfl], h3⟩
    · rw [if_neg h] at ha; exact absurd rfl ha
  · rw [h2] at hh; cases hh
  · show mL (M00 e0) 0 = gE G
    rw [h1]; rfl
  · show mK (M00 e0) (gE G) = 26
    rw [hk, h1, if_pos rfl]
theorem pLw_2191 : decode code 2191 = .ok (.ireturn, 1) := by decide +kernel
/-- the whole, out of what is left -/
theorem whole_start_of (hp : PURE) {p : Program} {e : Env} {s : State} {m : MethodId} {below : List Frame} {meth : Method} {c : Code} (l : Launch) (hflags : l.flags = flags0) {b L : Nat} {xs : Nat → Int32} (hL : L ≤ 2560) (C0 : lw_At p s m meth c b L xs) : W p l e room_1 s m #[Value.ref b] below meth c s.heap [] 0 0 (lw_Z below #[Value.ref b] s) (entryFrame m ([Value.ref b] : List Value).toArray 7) := by
  obtain ⟨hx, hb, hr, hml, hown, hts, hX, hbl, hlocks, hgv⟩ := C0
  obtain ⟨D, cs, hK⟩ := start_K hts
  obtain ⟨e0, f0, o0, he0, hST⟩ := start_ST hts hgv D cs
  have htr : l.stackTraces = false := by
    unfold Launch.stackTraces
    rw [hflags]
    decide +kernel
  obtain ⟨G, hGe⟩ : ∃ G : GE, G = (D, cs, s.heap.size, false, 0, (fun _ => 0), g3 e0 f0 o0) := ⟨_, rfl⟩
  rw [← hGe] at hST
  have hgE : gE G = e0 := by rw [hGe]; rfl
  have hgH : gH G = false := by rw [hGe]; rfl
  have hgZ : gZ G = s.heap.size := by rw [hGe]; rfl
  have hKG : va_K (gD G) kcl (ktys G) s := by rw [hGe]; exact hK
  have C : CX (p, l, e, s, m, #[Value.ref b], below, meth, c) G RL code pLw_law 7 (some .boolean) s.heap.size :=
    ⟨hx, hb, hml, hown, fun w hw => hts w (tb_in w hw), hKG, hlocks, hr, hST, Nat.le_of_eq hgZ, rfl, (fun h => by rw [hgH] at h; cases h), kLw_law, htr⟩
  have hXb : b < gZ G := by rw [hgZ]; exact hbl
  obtain ⟨r, hrun⟩ := hp s.heap.size e0 L xs he0 hL
  have hE : CE (fun _ : Nat × Nat × Nat × Mm × Nat => (room_1, lw_Z below #[Value.ref b] s, s.heap.size + 100)) 14 8100 0 s.heap.size := fun o => ⟨by show 14 ≤ 2048; decide, by show 100 * 14 ≤ 84000; decide, by show s.heap.size + 100 - s.heap.size ≤ 601024; omega, by show 0 + 8100 * (s.heap.size + 100 - s.heap.size) ≤ 7293034; omega⟩
  have HA := wLw_A (b := b) (σ := fun _ _ => 0) C hE (k := kG s.heap.size L xs) (fun a1 a2 a3 M n => ?_) (M00 e0) s.heap.size r hrun
  · rw [lg_entry_eq]
    have hl := lv_entry ([Value.ref b]) (n := 7) (Nat.le_of_ble_eq_true rfl)
    generalize (lg_sl ([Value.ref b]) ++ List.replicate (7 - (lg_sl ([Value.ref b])).length) Slot.unset).toArray = ls at hl ⊢
    have k2 := HA.2 s.heap [] (M00_W hgE hgH he0) va_S.rf ls hl
    refine W.cs (cells' := s.heap.size - s.heap.size) (slots' := 0 + 8100 * (s.heap.size - s.heap.size)) (by rw [Nat.sub_self]) (by rw [Nat.sub_self]) ?_
    exact k2
  · intro o ho
    have ho : @ite _ (GOODL s.heap.size L xs a1 a2 a3 M n) (Classical.propDecidable _) (some (a1, a2, a3, M, n)) none = some o := ho
    by_cases hg : GOODL s.heap.size L xs a1 a2 a3 M n
    · obtain ⟨g1, g2, nE, g3⟩ := hg
      refine ⟨g1, j_flip g2 (fun H hWH => ?_)⟩
      have hEB : CE (fun o : Nat => (room_1, lw_Z below #[Value.ref b] s, min o (s.heap.size + 21000))) 14 300 (7800 * (n - s.heap.size)) s.heap.size := fun o => by
        have hm : min o (s.heap.size + 21000) ≤ s.heap.size + 21000 := Nat.min_le_right _ _
        exact ⟨by show 14 ≤ 2048; decide, by show 100 * 14 ≤ 84000; decide, by show min o (s.heap.size + 21000) - s.heap.size ≤ 601024; omega, by show 7800 * (n - s.heap.size) + 300 * (min o (s.heap.size + 21000) - s.heap.size) ≤ 7293034; omega⟩
      have hend : LEND (p, l, e, s, m, #[Value.ref b], below, meth, c) (G1 G M a2) 300 (7800 * (n - s.heap.size)) s.heap.size (s.heap.size + 21000) (fun o : Nat => (room_1, lw_Z below #[Value.ref b] s, min o (s.heap.size + 21000))) := by
        intro σ' M' n' hn' o' ho'
        cases ho'
        refine ⟨by show n' ≤ min n' (s.heap.size + 21000); omega, fun H locs hW hS ls hl => ?_⟩
        refine va_forget (fun q hq => ?_) ?_
        · have h9 : gZ G ≤ q.base := hS.2.2 q hq
          rw [hgZ] at h9
          exact h9
        · refine W.widen (k := 601024) (n := 7293034) (by show n' - s.heap.size ≤ 601024; omega) (by show 7800 * (n - s.heap.size) + 300 * (n' - s.heap.size) ≤ 7293034; omega) ?_
          exact lw_ret hx hb hr hlocks pLw_2191
      exact (wLw_law_l23 (G := G1 G M a2) rfl (C.flip hWH g2) ⟨hX, hXb⟩ hEB hend a1 a3 FU 0 (σ1 M a2) (M1 M a2) n nE g3).2
    · have hno : @ite _ (GOODL s.heap.size L xs a1 a2 a3 M n) (Classical.propDecidable _) (some (a1, a2, a3, M, n)) none = none := @if_neg _ (Classical.propDecidable _) hg _ _ _
      rw [hno] at ho; cases ho

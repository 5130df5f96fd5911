def rm (d q mc : Nat) : Room := { frames := d, cells := mc, slots := 0 + q * mc, locals := 100 * d }
def exn : Nat → String := fun k => match k with
  | 0 => "java/lang/IndexOutOfBoundsException"
  | 1 => "java/lang/IllegalArgumentException"
  | _ => "java/lang/IllegalStateException"
def QcO (G : GE) (o : OUT) : Array Value → State → Outcome → State → Prop := fun _ st oc t => ∃ r, o.1 = .inl r ∧ oc = .returned (r.map vv) ∧ WDh G o.2 t.heap ∧ va_F (gAd G) st t
def XcO (G : GE) (o : OUT) : String → State → State → Prop := fun E st t => ∃ k, o.1 = .inr k ∧ E = exn k ∧ WDh G o.2 t.heap ∧ va_F (gAd G) st t
/-- what a method's body owes, o being what the pure run answers -/
def EM {ω : Type} (X : MC) (G : GE) (n0 d q : Nat) (emb : ω → OUT) : ω → Room × (State → Prop) × Nat := fun o =>
  (rm d q ((emb o).2.2.2 - n0), vx_MQ X.2.2.2.2.2.2.1 (QcO G (emb o)) (XcO G (emb o)) X.2.2.2.2.2.1 X.2.2.2.1 ((emb o).2.2.2 - n0) (0 + q * ((emb o).2.2.2 - n0)) (gAd G), (emb o).2.2.2)
def CE {ω : Type} (E : ω → Room × (State → Prop) × Nat) (d q sl n0 : Nat) : Prop := ∀ o, d ≤ (E o).1.frames ∧ 100 * d ≤ (E o).1.locals ∧ (E o).2.2 - n0 ≤ (E o).1.cells ∧ sl + q * ((E o).2.2 - n0) ≤ (E o).1.slots
theorem CE_EM {ω : Type} (X : MC) (G : GE) (n0 d q : Nat) (emb : ω → OUT) : CE (EM X G n0 d q emb) d q 0 n0 := fun _ => ⟨Nat.le_refl _, Nat.le_refl _, Nat.le_refl _, Nat.le_refl _⟩
theorem WDh.lt {G : GE} {S : WS} {H : Heap} (h : WDh G S H) {a : Nat} {x : va_E} (hx : ent G S.2.1 a = some x) : a < S.2.2 := by
  have := (h.2.1 a x hx).lt
  rw [h.1] at this
  exact this
/-- a new cell -/
theorem WDh.new {G : GE} {σ : Sg} {M : Mm} {n : Nat} {H H' : Heap} (h : WDh G (σ, M, n) H) (hz : H'.size = n + 1) (ho : ∀ q : Nat, q < n → H'[q]? = H[q]?) (hZ : gZ G ≤ n) {kd len : Nat} (hat : ∀ x, ent G (nA M n kd len) n = some x → va_at (gD G) kcl (n, x) H') : WDh G (σ, nA M n kd len, n + 1) H' := by
  have old : ∀ b, b ≠ n → ent G (nA M n kd len) b = ent G M b := fun b hb => by
    refine ent_congr (fun c j => ?_) (fun c j => ?_) (fun j => ?_) ?_ ?_
    · rw [mI_nA, if_neg hb]
    · rw [mP_nA, if_neg hb]
    · rw [mJ_nA, if_neg hb]
    · rw [mK_nA, if_neg hb]
    · rw [mL_nA, if_neg hb]
  have hlt : ∀ {a : Nat} {x : va_E}, ent G M a = some x → a < n := fun hx => h.lt hx
  obtain ⟨h1, h2, h3, h4, h5, h6⟩ := h
  have h5 : mL M 0 = gE G := h5
  have h6 : mK M (gE G) = 26 := h6
  have he : gE G < n := by
    rcases h3 (gE G) (by show mK M (gE G) ≠ 0; rw [h6]; decide) with g | g
    · exact g.2
    · exact g.2.2
  refine ⟨hz, fun b x hx => ?_, fun b hb => ?_, fun hh => ?_, ?_, ?_⟩
  · by_cases e : b = n
    · subst e; exact hat x hx
    · have hx' : ent G M b = some x := (old b e).symm.trans hx
      exact (h2 b x hx').kept (ho b (hlt hx'))
  · have hb : mK (nA M n kd len) b ≠ 0 := hb
    show (_ ∧ b < n + 1) ∨ (_ ∧ mK (nA M n kd len) b = 26 ∧ b < n + 1)
    by_cases e : b = n
    · subst e; exact Or.inl ⟨hZ, Nat.lt_succ_self b⟩
    · rw [mK_nA, if_neg e] at hb
      rw [mK_nA, if_neg e]
      rcases h3 b hb with g | g
      · exact Or.inl ⟨g.1, Nat.lt_succ_of_lt g.2⟩
      · exact Or.inr ⟨g.1, g.2.1, Nat.lt_succ_of_lt g.2.2⟩
  · obtain ⟨⟨g1, g2⟩, g3, g4⟩ := h4 hh
    have z1 : gM G < n := by have := g1.lt; rw [h1] at this; exact this
    have z2 : ∀ k, mfl[k]? = some true → gA G k < n := fun k hk => by
      have := (Array.getElem?_eq_some_iff.mp (g2 k hk)).1
      rw [h1] at this; exact this
    refine ⟨⟨g1.kept (ho _ z1), fun k hk => ?_⟩, ?_, fun k hk => ?_⟩
    · rw [ho _ (z2 k hk)]; exact g2 k hk
    · show mK (nA M n kd len) _ = 0
      rw [mK_nA, if_neg (Nat.ne_of_lt z1)]; exact g3
    · show mK (nA M n kd len) _ = 0
      rw [mK_nA, if_neg (Nat.ne_of_lt (z2 k hk))]; exact g4 k hk
  · show mL (nA M n kd len) 0 = _
    rw [mL_nA, if_neg (by omega)]; exact h5
  · show mK (nA M n kd len) _ = 26
    rw [mK_nA, if_neg (Nat.ne_of_lt he)]; exact h6
theorem va_S.push' {A : Nat → Prop} {H0 H H1 : Heap} {locs : List Loc} (h : va_S A H0 H locs) (z : H1.size = H.size + 1) (o : ∀ q : Nat, q < H.size → H1[q]? = H[q]?) : va_S A H0 H1 locs :=
  ⟨Nat.le_trans h.1 (by omega), fun x h1 h2 => (o x (Nat.lt_of_lt_of_le h1 h.1)).trans (h.2.1 x h1 h2), h.2.2⟩
theorem room_new {n n0 q sl N nf : Nat} (h0 : n0 ≤ n) (h1 : n + 1 ≤ nf) (hN : N ≤ q) {Rc Rs : Nat} (hc : nf - n0 ≤ Rc) (hs : sl + q * (nf - n0) ≤ Rs) : n - n0 + 1 ≤ Rc ∧ sl + q * (n - n0) + N ≤ Rs ∧ n - n0 + 1 = n + 1 - n0 ∧ sl + q * (n - n0) + N ≤ sl + q * (n + 1 - n0) := by
  have e : n + 1 - n0 = n - n0 + 1 := by omega
  have h2 : q * (n - n0) + q ≤ q * (nf - n0) := by
    rw [← Nat.mul_succ]
    exact Nat.mul_le_mul_left q (by omega)
  have h3 : q * (n + 1 - n0) = q * (n - n0) + q := by rw [e, Nat.mul_succ]
  exact ⟨by omega, by omega, by omega, by omega⟩
/-- the class of a kind can be made -/
def CLK (own : String) (idx kd : Nat) : Prop := ∃ (r : vw_C) (ty : Nat → FieldType), kcl[kd - 1]? = some r ∧ 1 ≤ kd ∧ kd ≤ 13 ∧ (kfl kd).length = r.2.2 ∧ (∀ w ∈ u_ws r.1 r.2.1 r.2.2, w ∈ TBG) ∧ (∀ k, k < r.2.2 → parseFieldDescriptor (r.2.1 k).2.2.1 = some (ty k)) ∧ (∀ j, j < r.2.2 → defaultValue (ty j) = if (kfl kd)[j]? = some true then .null else .int 0) ∧ r.2.2 ≤ 47 ∧
  Cond.classLink own idx r.1 ∈ TBG ∧ Cond.instantiable r.1 r.2.2 ∈ TBG ∧ Cond.initialized r.1 ∈ TBG
theorem w_abyte : (Cond.arrayClass .byte) ∈ TBG := tb_mem 120 (by decide +kernel) (by decide +kernel)
theorem w_aint : (Cond.arrayClass .int) ∈ TBG := tb_mem 100 (by decide +kernel) (by decide +kernel)
theorem w_aboolean : (Cond.arrayClass .boolean) ∈ TBG := tb_mem 82 (by decide +kernel) (by decide +kernel)
theorem w_along : (Cond.arrayClass .long) ∈ TBG := tb_mem 1886 (by decide +kernel) (by decide +kernel)
theorem w_oi : (Cond.instanceMethod objectInit) ∈ TBG := tb_mem 42 (by decide +kernel) (by decide +kernel)
theorem w_oc : (Cond.code objectInit ⟨#[0xb1]⟩ 1 none) ∈ TBG := tb_mem 43 (by decide +kernel) (by decide +kernel)
def stk8 (l : List AV) : Bool := Nat.ble (l.length + (l.filter avL).length) 8
theorem st_room {st : List AV} (h : stk8 st = true) : ((st.map vv).map fun v => v.category).sum ≤ 8 := by
  have h4 : st.length + (st.filter avL).length ≤ 8 := Nat.le_of_ble_eq_true h
  have hs : ∀ l : List AV, ((l.map vv).map fun v => v.category).sum = l.length + (l.filter avL).length := by
    intro l
    induction l with
    | nil => rfl
    | cons v l ih =>
      simp only [List.map_cons, List.sum_cons, List.length_cons, ih, vv_cat]
      cases e : avL v with
      | true => rw [List.filter_cons_of_pos e, List.length_cons, if_pos rfl]; omega
      | false => rw [List.filter_cons_of_neg (by rw [e]; decide), if_neg (by decide)]; omega
  rw [hs st]
  exact h4
section NW
variable {X : MC} {G : GE} {own : String} {cc : ByteArray} {P : List BR} {nL : Nat} {ret : Option FieldType} {n0 q sl d : Nat} {ω : Type} {E : ω → Room × (State → Prop) × Nat} {σ : Sg} {M : Mm} {n : Nat} {pc nx len idx : Nat} {k : Int32} {lv : LV} {st : List AV}
theorem s_new (C : CX X G own cc P nL ret n0) (hE : CE E d q sl n0) (i : Nat) (hr : P[i]? = some (pc, .new idx, len, k, nx)) {kd : Nat} (lk : CLK own idx kd) (hq : 47 ≤ q) {f : Option Nat → Mm → Nat → Option ω} (kk : ∀ r1 M1 n1, r1 = some n → n1 = n + 1 → JS X G nL q sl n0 E (f r1 M1 n1) (σ, M1, n1) (pc + 3) lv (.inr (.inl r1) :: st)) : JS X G nL q sl n0 E (nwO kd M n f) (σ, M, n) pc lv st := by
  obtain ⟨hx, hb, hml, hown, hts, hK, hlk, hrt, hST, hZ, hn0, hAA, hP, htr⟩ := C
  obtain ⟨dd, c⟩ := bOK_at hP i hr
  obtain ⟨rfl, -⟩ := ck1 (b := 0) c
  obtain ⟨⟨RC, T, N⟩, ty, l1, l2, l3, l4, l5, l6, l7, l8, l9, l10, l11⟩ := lk
  intro o ho
  obtain ⟨k1, k2⟩ := kk _ _ _ rfl rfl o ho
  have k1 : n + 1 ≤ (E o).2.2 := k1
  obtain ⟨-, -, e3, e4⟩ := hE o
  refine ⟨Nat.le_of_succ_le k1, fun H locs hW hS ls hl => ?_⟩
  have hHn : H.size = n := hW.1
  have hnn : n0 ≤ n := by rw [← hn0, ← hHn]; exact hS.1
  obtain ⟨r1, r2, r3, r4⟩ := room_new (N := N) hnn k1 (Nat.le_trans l8 hq) e3 e4
  have hKn := hK.1 _ _ l1
  refine W.newcK hx hb hown (hts _ l9) (hts _ l10) (hts _ l11) rfl dd r1 r2 hKn.2.1 hHn fun H1 kC hkC e1 z1 o1 => ?_
  refine W.widen (k := n + 1 - n0) (n := sl + q * (n + 1 - n0)) (Nat.le_of_eq r3) r4 ?_
  refine k2 H1 locs (hW.new z1 o1 (Nat.le_trans hZ (by omega)) (fun x hx => ?_)) (hS.push' (by rw [z1, hHn]) (fun z hz => o1 z (by rw [← hHn]; exact hz))) ls hl
  rw [ent_obj (kd := kd) l2 l3 (by rw [mK_nA, if_pos rfl])] at hx
  cases hx
  refine ⟨_, l1, (u_born ty hts l5 hKn hkC e1 l6).to (fun j hj => ?_)⟩
  rw [l7 j hj]
  show _ = (flds _ n kd 0 (kfl kd)).getD j .null
  have hj' : j < (kfl kd).length := by rw [l4]; exact hj
  have hb0 : (kfl kd)[j]? = some ((kfl kd)[j]) := List.getElem?_eq_getElem hj'
  rw [List.getD_eq_getElem?_getD, flds_at _ n kd (kfl kd) 0 j _ hb0, hb0]
  cases (kfl kd)[j] with
  | true => simp only [Option.getD_some, mP_nA, if_true]; rfl
  | false => simp only [Option.getD_some, mI_nA, if_true]; rfl
theorem s_newB (C : CX X G own cc P nL ret n0) (hE : CE E d q sl n0) (i : Nat) (hr : P[i]? = some (pc, .newarray .byte, len, k, nx)) {bd : Nat} (hbd : bd ≤ q) (hbq : bd ≤ 10000) {j : Int32} {f : Option Nat → Mm → Nat → Option ω} (kk : ∀ r1 M1 n1, r1 = some n → n1 = n + 1 → JS X G nL q sl n0 E (f r1 M1 n1) (σ, M1, n1) (pc + 2) lv (.inr (.inl r1) :: st)) : JS X G nL q sl n0 E (nwA 20 bd j M n f) (σ, M, n) pc lv (.inl j :: st) := by
  obtain ⟨hx, hb, hml, hown, hts, hK, hlk', hrt, hST, hZ, hn0, hAA, hP, htr⟩ := C
  obtain ⟨dd, c⟩ := bOK_at hP i hr
  obtain ⟨rfl, -⟩ := ck1 (b := 0) c
  intro o ho
  unfold nwA at ho
  by_cases h : j < 0 ∨ bd < j.toNatClampNeg
  · rw [if_pos h] at ho; cases ho
  · rw [if_neg h] at ho
    have hj0 : ¬ j < 0 := fun z => h (Or.inl z)
    have hj1 : j.toNatClampNeg ≤ bd := Nat.not_lt.mp fun z => h (Or.inr z)
    obtain ⟨k1, k2⟩ := kk _ _ _ rfl rfl o ho
    have k1 : n + 1 ≤ (E o).2.2 := k1
    obtain ⟨-, -, e3, e4⟩ := hE o
    refine ⟨Nat.le_of_succ_le k1, fun H locs hW hS ls hl => ?_⟩
    have hHn : H.size = n := hW.1
    have hnn : n0 ≤ n := by rw [← hn0, ← hHn]; exact hS.1
    obtain ⟨r1, r2, r3, r4⟩ := room_new (N := j.toNatClampNeg) hnn k1 (Nat.le_trans hj1 hbd) e3 e4
    have hby : j.toNatClampNeg * componentBytes (newarray.typeOf .byte) ≤ 536870912 := Nat.le_trans (Nat.mul_le_mul (Nat.le_trans hj1 hbq) (show componentBytes (newarray.typeOf .byte) ≤ 8 by decide)) (by decide)
    refine va_newaK (atype := .byte) hx hb (hts _ w_abyte) rfl dd rfl hj0 rfl hby r1 r2 hHn fun H1 cA e1 z1 o1 hAr hNm => ?_
    refine W.widen (k := n + 1 - n0) (n := sl + q * (n + 1 - n0)) (Nat.le_of_eq r3) r4 ?_
    refine k2 H1 locs (hW.new z1 o1 (Nat.le_trans hZ (by omega)) (fun x hx => ?_)) (hS.push' (by rw [z1, hHn]) (fun z hz => o1 z (by rw [← hHn]; exact hz))) ls hl
    have em : mI (nA M n 20 j.toNatClampNeg) 0 n = fun _ => 0 := funext fun z => by rw [mI_nA, if_pos rfl]
    have el : mL (nA M n 20 j.toNatClampNeg) n = j.toNatClampNeg := by rw [mL_nA, if_pos rfl]
    have ec : cA = gC G 0 := Option.some.inj (hNm.symm.trans (hK.2 0 _ rfl).2)
    rw [ent_arr.1 (by rw [mK_nA, if_pos rfl]), em, el] at hx
    cases hx
    show H1[n]? = some (vp_cell (gC G 0) _)
    rw [e1, ec]; rfl
theorem s_newI (C : CX X G own cc P nL ret n0) (hE : CE E d q sl n0) (i : Nat) (hr : P[i]? = some (pc, .newarray .int, len, k, nx)) {bd : Nat} (hbd : bd ≤ q) (hbq : bd ≤ 10000) {j : Int32} {f : Option Nat → Mm → Nat → Option ω} (kk : ∀ r1 M1 n1, r1 = some n → n1 = n + 1 → JS X G nL q sl n0 E (f r1 M1 n1) (σ, M1, n1) (pc + 2) lv (.inr (.inl r1) :: st)) : JS X G nL q sl n0 E (nwA 21 bd j M n f) (σ, M, n) pc lv (.inl j :: st) := by
  obtain ⟨hx, hb, hml, hown, hts, hK, hlk', hrt, hST, hZ, hn0, hAA, hP, htr⟩ := C
  obtain ⟨dd, c⟩ := bOK_at hP i hr
  obtain ⟨rfl, -⟩ := ck1 (b := 0) c
  intro o ho
  unfold nwA at ho
  by_cases h : j < 0 ∨ bd < j.toNatClampNeg
  · rw [if_pos h] at ho; cases ho
  · rw [if_neg h] at ho
    have hj0 : ¬ j < 0 := fun z => h (Or.inl z)
    have hj1 : j.toNatClampNeg ≤ bd := Nat.not_lt.mp fun z => h (Or.inr z)
    obtain ⟨k1, k2⟩ := kk _ _ _ rfl rfl o ho
    have k1 : n + 1 ≤ (E o).2.2 := k1
    obtain ⟨-, -, e3, e4⟩ := hE o
    refine ⟨Nat.le_of_succ_le k1, fun H locs hW hS ls hl => ?_⟩
    have hHn : H.size = n := hW.1
    have hnn : n0 ≤ n := by rw [← hn0, ← hHn]; exact hS.1
    obtain ⟨r1, r2, r3, r4⟩ := room_new (N := j.toNatClampNeg) hnn k1 (Nat.le_trans hj1 hbd) e3 e4
    have hby : j.toNatClampNeg * componentBytes (newarray.typeOf .int) ≤ 536870912 := Nat.le_trans (Nat.mul_le_mul (Nat.le_trans hj1 hbq) (show componentBytes (newarray.typeOf .int) ≤ 8 by decide)) (by decide)
    refine va_newaK (atype := .int) hx hb (hts _ w_aint) rfl dd rfl hj0 rfl hby r1 r2 hHn fun H1 cA e1 z1 o1 hAr hNm => ?_
    refine W.widen (k := n + 1 - n0) (n := sl + q * (n + 1 - n0)) (Nat.le_of_eq r3) r4 ?_
    refine k2 H1 locs (hW.new z1 o1 (Nat.le_trans hZ (by omega)) (fun x hx => ?_)) (hS.push' (by rw [z1, hHn]) (fun z hz => o1 z (by rw [← hHn]; exact hz))) ls hl
    have em : mI (nA M n 21 j.toNatClampNeg) 0 n = fun _ => 0 := funext fun z => by rw [mI_nA, if_pos rfl]
    have el : mL (nA M n 21 j.toNatClampNeg) n = j.toNatClampNeg := by rw [mL_nA, if_pos rfl]
    have ec : cA = gC G 1 := Option.some.inj (hNm.symm.trans (hK.2 1 _ rfl).2)
    rw [ent_arr.2.1 (by rw [mK_nA, if_pos rfl]), em, el] at hx
    cases hx
    show H1[n]? = some (vp_cell (gC G 1) _)
    rw [e1, ec]; rfl
theorem s_newZ (C : CX X G own cc P nL ret n0) (hE : CE E d q sl n0) (i : Nat) (hr : P[i]? = some (pc, .newarray .boolean, len, k, nx)) {bd : Nat} (hbd : bd ≤ q) (hbq : bd ≤ 10000) {j : Int32} {f : Option Nat → Mm → Nat → Option ω} (kk : ∀ r1 M1 n1, r1 = some n → n1 = n + 1 → JS X G nL q sl n0 E (f r1 M1 n1) (σ, M1, n1) (pc + 2) lv (.inr (.inl r1) :: st)) : JS X G nL q sl n0 E (nwA 22 bd j M n f) (σ, M, n) pc lv (.inl j :: st) := by
  obtain ⟨hx, hb, hml, hown, hts, hK, hlk', hrt, hST, hZ, hn0, hAA, hP, htr⟩ := C
  obtain ⟨dd, c⟩ := bOK_at hP i hr
  obtain ⟨rfl, -⟩ := ck1 (b := 0) c
  intro o ho
  unfold nwA at ho
  by_cases h : j < 0 ∨ bd < j.toNatClampNeg
  · rw [if_pos h] at ho; cases ho
  · rw [if_neg h] at ho
    have hj0 : ¬ j < 0 := fun z => h (Or.inl z)
    have hj1 : j.toNatClampNeg ≤ bd := Nat.not_lt.mp fun z => h (Or.inr z)
    obtain ⟨k1, k2⟩ := kk _ _ _ rfl rfl o ho
    have k1 : n + 1 ≤ (E o).2.2 := k1
    obtain ⟨-, -, e3, e4⟩ := hE o
    refine ⟨Nat.le_of_succ_le k1, fun H locs hW hS ls hl => ?_⟩
    have hHn : H.size = n := hW.1
    have hnn : n0 ≤ n := by rw [← hn0, ← hHn]; exact hS.1
    obtain ⟨r1, r2, r3, r4⟩ := room_new (N := j.toNatClampNeg) hnn k1 (Nat.le_trans hj1 hbd) e3 e4
    have hby : j.toNatClampNeg * componentBytes (newarray.typeOf .boolean) ≤ 536870912 := Nat.le_trans (Nat.mul_le_mul (Nat.le_trans hj1 hbq) (show componentBytes (newarray.typeOf .boolean) ≤ 8 by decide)) (by decide)
    refine va_newaK (atype := .boolean) hx hb (hts _ w_aboolean) rfl dd rfl hj0 rfl hby r1 r2 hHn fun H1 cA e1 z1 o1 hAr hNm => ?_
    refine W.widen (k := n + 1 - n0) (n := sl + q * (n + 1 - n0)) (Nat.le_of_eq r3) r4 ?_
    refine k2 H1 locs (hW.new z1 o1 (Nat.le_trans hZ (by omega)) (fun x hx => ?_)) (hS.push' (by rw [z1, hHn]) (fun z hz => o1 z (by rw [← hHn]; exact hz))) ls hl
    have em : mI (nA M n 22 j.toNatClampNeg) 0 n = fun _ => 0 := funext fun z => by rw [mI_nA, if_pos rfl]
    have el : mL (nA M n 22 j.toNatClampNeg) n = j.toNatClampNeg := by rw [mL_nA, if_pos rfl]
    have ec : cA = gC G 2 := Option.some.inj (hNm.symm.trans (hK.2 2 _ rfl).2)
    rw [ent_arr.2.2.1 (by rw [mK_nA, if_pos rfl]), em, el] at hx
    cases hx
    show H1[n]? = some (vp_cell (gC G 2) _)
    rw [e1, ec]; rfl
theorem s_newJ (C : CX X G own cc P nL ret n0) (hE : CE E d q sl n0) (i : Nat) (hr : P[i]? = some (pc, .newarray .long, len, k, nx)) {bd : Nat} (hbd : bd ≤ q) (hbq : bd ≤ 10000) {j : Int32} {f : Option Nat → Mm → Nat → Option ω} (kk : ∀ r1 M1 n1, r1 = some n → n1 = n + 1 → JS X G nL q sl n0 E (f r1 M1 n1) (σ, M1, n1) (pc + 2) lv (.inr (.inl r1) :: st)) : JS X G nL q sl n0 E (nwA 25 bd j M n f) (σ, M, n) pc lv (.inl j :: st) := by
  obtain ⟨hx, hb, hml, hown, hts, hK, hlk', hrt, hST, hZ, hn0, hAA, hP, htr⟩ := C
  obtain ⟨dd, c⟩ := bOK_at hP i hr
  obtain ⟨rfl, -⟩ := ck1 (b := 0) c
  intro o ho
  unfold nwA at ho
  by_cases h : j < 0 ∨ bd < j.toNatClampNeg
  · rw [if_pos h] at ho; cases ho
  · rw [if_neg h] at ho
    have hj0 : ¬ j < 0 := fun z => h (Or.inl z)
    have hj1 : j.toNatClampNeg ≤ bd := Nat.not_lt.mp fun z => h (Or.inr z)
    obtain ⟨k1, k2⟩ := kk _ _ _ rfl rfl o ho
    have k1 : n + 1 ≤ (E o).2.2 := k1
    obtain ⟨-, -, e3, e4⟩ := hE o
    refine ⟨Nat.le_of_succ_le k1, fun H locs hW hS ls hl => ?_⟩
    have hHn : H.size = n := hW.1
    have hnn : n0 ≤ n := by rw [← hn0, ← hHn]; exact hS.1
    obtain ⟨r1, r2, r3, r4⟩ := room_new (N := j.toNatClampNeg) hnn k1 (Nat.le_trans hj1 hbd) e3 e4
    have hby : j.toNatClampNeg * componentBytes (newarray.typeOf .long) ≤ 536870912 := Nat.le_trans (Nat.mul_le_mul (Nat.le_trans hj1 hbq) (show componentBytes (newarray.typeOf .long) ≤ 8 by decide)) (by decide)
    refine va_newaK (atype := .long) hx hb (hts _ w_along) rfl dd rfl hj0 rfl hby r1 r2 hHn fun H1 cA e1 z1 o1 hAr hNm => ?_
    refine W.widen (k := n + 1 - n0) (n := sl + q * (n + 1 - n0)) (Nat.le_of_eq r3) r4 ?_
    refine k2 H1 locs (hW.new z1 o1 (Nat.le_trans hZ (by omega)) (fun x hx => ?_)) (hS.push' (by rw [z1, hHn]) (fun z hz => o1 z (by rw [← hHn]; exact hz))) ls hl
    have em : mJ (nA M n 25 j.toNatClampNeg) n = fun _ => 0 := funext fun z => by rw [mJ_nA, if_pos rfl]
    have el : mL (nA M n 25 j.toNatClampNeg) n = j.toNatClampNeg := by rw [mL_nA, if_pos rfl]
    have ec : cA = gC G 5 := Option.some.inj (hNm.symm.trans (hK.2 5 _ rfl).2)
    rw [ent_arr.2.2.2.2.2 (by rw [mK_nA, if_pos rfl]), em, el] at hx
    cases hx
    show H1[n]? = some (vp_cell (gC G 5) _)
    rw [e1, ec]; rfl
theorem s_newP (C : CX X G own cc P nL ret n0) (hE : CE E d q sl n0) (i : Nat) (hr : P[i]? = some (pc, .anewarray idx, len, k, nx)) {kd bd : Nat} {CN : String} (hkd : (kd = 23 ∧ CN = "java/lang/Object") ∨ (kd = 24 ∧ CN = "BlobHarbor$Bytes")) (hlk : Cond.classLink own idx CN ∈ TBG) (hbd : bd ≤ q) (hbq : bd ≤ 10000) {j : Int32} {f : Option Nat → Mm → Nat → Option ω} (kk : ∀ r1 M1 n1, r1 = some n → n1 = n + 1 → JS X G nL q sl n0 E (f r1 M1 n1) (σ, M1, n1) (pc + 3) lv (.inr (.inl r1) :: st)) : JS X G nL q sl n0 E (nwA kd bd j M n f) (σ, M, n) pc lv (.inl j :: st) := by
  obtain ⟨hx, hb, hml, hown, hts, hK, hlk', hrt, hST, hZ, hn0, hAA, hP, htr⟩ := C
  obtain ⟨dd, c⟩ := bOK_at hP i hr
  obtain ⟨rfl, -⟩ := ck1 (b := 0) c
  intro o ho
  unfold nwA at ho
  by_cases h : j < 0 ∨ bd < j.toNatClampNeg
  · rw [if_pos h] at ho; cases ho
  · rw [if_neg h] at ho
    have hj0 : ¬ j < 0 := fun z => h (Or.inl z)
    have hj1 : j.toNatClampNeg ≤ bd := Nat.not_lt.mp fun z => h (Or.inr z)
    obtain ⟨k1, k2⟩ := kk _ _ _ rfl rfl o ho
    have k1 : n + 1 ≤ (E o).2.2 := k1
    obtain ⟨-, -, e3, e4⟩ := hE o
    refine ⟨Nat.le_of_succ_le k1, fun H locs hW hS ls hl => ?_⟩
    have hHn : H.size = n := hW.1
    have hnn : n0 ≤ n := by rw [← hn0, ← hHn]; exact hS.1
    obtain ⟨r1, r2, r3, r4⟩ := room_new (N := j.toNatClampNeg) hnn k1 (Nat.le_trans hj1 hbd) e3 e4
    have hao : va_AO CN X.2.2.2.1 := by
      rcases hkd with ⟨-, rfl⟩ | ⟨-, rfl⟩
      · exact hST.2.2.2.2.2.2.2.2.2.1
      · exact hST.2.2.2.2.2.2.2.2.2.2.1
    refine W.anew hx hb hown (hts _ hlk) (va_AO.use hao) rfl dd rfl hj0 (by omega) r1 r2 fun cA kA comp f1 f2 f3 f4 => ?_
    generalize hH1 : H.push ({ cls := cA, slots := Array.replicate j.toNatClampNeg .null, vm := .none } : Cell) = H1
    have z1 : H1.size = H.size + 1 := by rw [← hH1, Array.size_push]
    have e1 : H1[H.size]? = some (arrV cA j.toNatClampNeg (fun _ => .null)) := by rw [← hH1, Array.getElem?_push_size, ← arrV_new]
    have o1 : ∀ q : Nat, q < H.size → H1[q]? = H[q]? := fun q hq => by rw [← hH1, Array.getElem?_push, if_neg (Nat.ne_of_lt hq)]
    rw [hHn]
    refine W.widen (k := n + 1 - n0) (n := sl + q * (n + 1 - n0)) (Nat.le_of_eq r3) r4 ?_
    refine k2 H1 locs (hW.new (by rw [z1, hHn]) (fun z hz => o1 z (by rw [hHn]; exact hz)) (Nat.le_trans hZ (by omega)) (fun x hx => ?_)) (hS.push' z1 o1) ls hl
    have em : mP (nA M n kd j.toNatClampNeg) 0 n = fun _ => none := funext fun z => by rw [mP_nA, if_pos rfl]
    have el : mL (nA M n kd j.toNatClampNeg) n = j.toNatClampNeg := by rw [mL_nA, if_pos rfl]
    rcases hkd with ⟨rfl, rfl⟩ | ⟨rfl, rfl⟩
    · obtain ⟨kA', comp', c1, c2, c3, c4⟩ := (hK.2 3 _ rfl).2
      have ec : cA = gC G 3 := Option.some.inj (f1.symm.trans c4)
      rw [ent_arr.2.2.2.1 (by rw [mK_nA, if_pos rfl]), em, el] at hx
      cases hx
      show H1[n]? = some (vp_cell (gC G 3) _)
      rw [← hHn, e1, ec]; rfl
    · obtain ⟨kA', comp', c1, c2, c3, c4⟩ := (hK.2 4 _ rfl).2
      have ec : cA = gC G 4 := Option.some.inj (f1.symm.trans c4)
      rw [ent_arr.2.2.2.2.1 (by rw [mK_nA, if_pos rfl]), em, el] at hx
      cases hx
      show H1[n]? = some (vp_cell (gC G 4) _)
      rw [← hHn, e1, ec]; rfl
/-- super(): Object's own constructor -/
theorem s_sup (C : CX X G own cc P nL ret n0) (hE : CE E d q sl n0) (i : Nat) (hr : P[i]? = some (pc, .invokespecial idx, len, k, nx)) (hlk : Cond.methodLink own idx objectInit ∈ TBG) (hd : 1 ≤ d) (hst : stk8 st = true) {a : Nat} {x : Option ω} (kk : JS X G nL q sl n0 E x (σ, M, n) (pc + 3) lv st) : JS X G nL q sl n0 E x (σ, M, n) pc lv (.inr (.inl (some a)) :: st) := by
  obtain ⟨hx, hb, hml, hown, hts, hK, hlk', hrt, hST, hZ, hn0, hAA, hP, htr⟩ := C
  obtain ⟨dd, c⟩ := bOK_at hP i hr
  obtain ⟨rfl, -⟩ := ck1 (b := 0) c
  intro o ho
  obtain ⟨k1, k2⟩ := kk o ho
  obtain ⟨e1, e2, -, -⟩ := hE o
  refine ⟨k1, fun H locs hW hS ls hl => ?_⟩
  refine W.objInit hx hb hown (hts _ hlk) (hts _ w_oi) (hts _ w_oc) rfl (hl.1.trans hml.symm) rfl dd (Nat.le_trans hd e1) ?_ (k2 H locs hW hS ls hl)
  have h8 := st_room hst
  show 2 * 0 + _ + 12 ≤ _
  omega
end NW

/-! what a body stands on -/
def isNest : Cond → Bool := fun w => match w with
  | .fieldLinkNest _ _ _ _ _ _ => true
  | .methodLinkNest _ _ _ _ => true
  | .castable _ _ => true
  | .declares _ => true
  | _ => false
def NST : List Cond := tables_1.filter isNest
theorem ns_mem {w : Cond} (i : Nat) (h : tables_1[i]? = some w) (g : isNest w = true) : w ∈ NST := List.mem_filter.mpr ⟨List.mem_of_getElem? h, g⟩
def txts : List (Nat × String) := [(288, "there is none such"), (295, "an argument is out of its range"), (300, "it cannot be done now"), (307, "there is no such version"), (313, "there is no such part")]
def xprs : List (String × String) := [("java/lang/IllegalArgumentException", "java/lang/IndexOutOfBoundsException"), ("java/lang/IllegalArgumentException", "java/lang/IllegalStateException"), ("java/lang/IllegalStateException", "java/lang/IndexOutOfBoundsException"), ("java/lang/IllegalStateException", "java/lang/IllegalArgumentException"), ("java/lang/IndexOutOfBoundsException", "java/lang/IllegalArgumentException"), ("java/lang/IndexOutOfBoundsException", "java/lang/IllegalStateException")]
def ST (G : GE) (s : State) : Prop := va_Z RX1 "FACTORS" "[I" (.ref (gF G)) (gAd G) s s.heap ∧ va_T .int (gF G) 15 (fun j => .int (facs j)) (gAd G) s s.heap ∧
  va_Z RJx4a65c "DEFAULTCAPACITY_EMPTY_ELEMENTDATA" "[Ljava/lang/Object;" (.ref (gE G)) (gAd G) s s.heap ∧ vx_Zq Bundle.tN "UNASSIGNED_STACK" Bundle.steD (gAd G) s s.heap ∧ vx_Zq Bundle.tN "SUPPRESSED_SENTINEL" Bundle.listD (gAd G) s s.heap ∧
  va_Mi "[Ljava/lang/Object;" (gO G) s ∧ (va_Dc s ∧ va_T (.object "java/lang/Object") (gE G) 0 (fun _ => .null) (gAd G) s s.heap) ∧ (∀ w ∈ NST, va_Nw w s) ∧ (∀ q ∈ txts, ∃ sa, vk_R RX11 q.1 q.2 sa s) ∧ va_AO "java/lang/Object" s ∧ va_AO "BlobHarbor$Bytes" s ∧ ∀ q ∈ xprs, va_Nc q.1 q.2 s
theorem nest_warm {s U : State} (hW : s.WarmedH U.vm) {w : Cond} (hw : isNest w = true) (h : va_Nw w s) : va_Nw w U := by
  cases w with
  | fieldLinkNest a i b n d h0 => exact va_Nw.warmF hW h
  | methodLinkNest a i x h0 => exact va_Nw.warmM hW h
  | castable a b => exact va_Nw.warmC hW h
  | declares a => exact va_Nw.warmD hW h
  | _ => cases hw
theorem ST.go {G : GE} {s U : State} (h : ST G s) (hW : s.WarmedH U.vm) (hk : ∀ a : Nat, a < s.heap.size → ¬ gAd G a → U.heap[a]? = s.heap[a]?) : ST G U := by
  obtain ⟨h1, h2, h3, h4, h5, h6, h7, h8, h9, h10, h11, h12⟩ := h
  have ha := hW.alike
  refine ⟨va_Z.moved ha (h1.kept hk), va_T.moved ha (h2.kept hk), va_Z.moved ha (h3.kept hk), vx_Zq.moved ha (h4.kept hk), vx_Zq.moved ha (h5.kept hk), va_Mi.moved ha h6, ⟨va_Dc.moved ha h7.1, va_T.moved ha (h7.2.kept hk)⟩, fun w hw => nest_warm hW (List.mem_filter.mp hw).2 (h8 w hw), fun q hq => ?_, va_AO.moved ha h10, va_AO.moved ha h11, fun q hq => va_Nc.moved ha (h12 q hq)⟩
  obtain ⟨sa, hs⟩ := h9 q hq
  exact ⟨sa, vk_R.warm hW hs⟩
theorem ST.same {G : GE} {s U : State} (h : ST G s) (hv : s.vm = U.vm) (hh : s.heap = U.heap) : ST G U :=
  h.go (by rw [← hv]; exact State.WarmedH.refl s) (fun a _ _ => by rw [hh])
def CX (X : MC) (G : GE) (own : String) (cc : ByteArray) (P : List BR) (nL : Nat) (ret : Option FieldType) (n0 : Nat) : Prop :=
  X.1.tables.exec = Jvm.exec ∧ X.2.2.2.2.2.2.2.2.code = cc ∧ X.2.2.2.2.2.2.2.2.maxLocals = nL ∧ X.2.2.2.1.vm.findClass own = some X.2.2.2.2.1.cls ∧ (∀ w ∈ TBG, w.before X.2.2.2.2.2.1 X.2.2.2.1 = true) ∧
  va_K (gD G) kcl (ktys G) X.2.2.2.1 ∧ X.2.2.2.2.2.2.2.1.locks = false ∧ X.2.2.2.2.2.2.2.1.sig.returnType = ret ∧ ST G X.2.2.2.1 ∧ gZ G ≤ X.2.2.2.1.heap.size ∧ X.2.2.2.1.heap.size = n0 ∧ AAh G ∧ bOK cc nL P = true ∧ X.2.1.stackTraces = false
section RW
variable {X : MC} {G : GE} {own : String} {cc : ByteArray} {P : List BR} {nL : Nat} {ret : Option FieldType} {n0 q sl : Nat} {ω : Type} {E : ω → Room × (State → Prop) × Nat} {S : WS} {pc nx len idx : Nat} {k : Int32} {lv : LV} {st : List AV}
theorem bOK_sub {cc : ByteArray} {nL : Nat} {P : List BR} (h : bOK cc nL P = true) (i n : Nat) : bOK cc nL ((P.drop i).take n) = true :=
  List.all_eq_true.mpr fun r hr => List.all_eq_true.mp h r (List.mem_of_mem_drop (List.mem_of_mem_take hr))
def bxs (P : List BR) (i n : Nat) (ks : List Nat) (pc : Nat) (lv : LV) (st : List AV) : Option (Nat × LV × List AV) := match bx ((P.drop i).take n) pc lv st with
  | some r => some (r.1, lsel ks r.2.1, r.2.2)
  | none => none
/-- a straight stretch -/
theorem s_blk (C : CX X G own cc P nL ret n0) {x : Option ω} (i n : Nat) (ks : List Nat) {pc' : Nat} {lv' : LV} {st' : List AV} (h : bxs P i n ks pc lv st = some (pc', lv', st')) (kk : JS X G nL q sl n0 E x S pc' lv' st') : JS X G nL q sl n0 E x S pc lv st := by
  obtain ⟨hx, hb, hml, hown, hts, hK, hlk, hrt, hST, hZ, hn0, hAA, hP, htr⟩ := C
  intro o ho
  obtain ⟨h1, h2⟩ := kk o ho
  refine ⟨h1, fun H locs hW hS ls hl => ?_⟩
  unfold bxs at h
  split at h
  · next r hr =>
    obtain ⟨rp, rl, rs⟩ := r
    cases h
    exact bx_ok hx hb _ (bOK_sub hP i n) hr hl fun ls' hl' => h2 H locs hW hS ls' (lv_less hl' (lsel_in ks rl))
  · cases h
/-- only the locals that are still wanted -/
theorem s_lv {x : Option ω} (ks : List Nat) (kk : JS X G nL q sl n0 E x S pc (lsel ks lv) st) : JS X G nL q sl n0 E x S pc lv st :=
  fun o ho => ⟨(kk o ho).1, fun H locs hW hS ls hl => (kk o ho).2 H locs hW hS ls (lv_less hl (lsel_in ks lv))⟩
theorem s_ieq (C : CX X G own cc P nL ret n0) (i : Nat) {off : Int} (hr : P[i]? = some (pc, .ifCond .eq off, len, k, nx)) {x : Int32} {A B : Option ω} (kt : x = 0 → JS X G nL q sl n0 E A S nx lv st) (kf : ¬ x = 0 → JS X G nL q sl n0 E B S (pc + 3) lv st) : JS X G nL q sl n0 E (if x = 0 then A else B) S pc lv (.inl x :: st) := by
  obtain ⟨hx, hb, hml, hown, hts, hK, hlk, hrt, hST, hZ, hn0, hAA, hP, htr⟩ := C
  obtain ⟨d, c⟩ := bOK_at hP i hr
  obtain ⟨c, rfl⟩ := ck5 c
  by_cases z : x = 0
  · rw [if_pos z]; exact fun o ho => ⟨(kt z o ho).1, fun H locs hW hS ls hl => lv_if_eq hx hb d c (fun _ => (kt z o ho).2 H locs hW hS ls hl) (fun z' => absurd z z')⟩
  · rw [if_neg z]; exact fun o ho => ⟨(kf z o ho).1, fun H locs hW hS ls hl => lv_if_eq hx hb d c (fun z' => absurd z' z) (fun _ => (kf z o ho).2 H locs hW hS ls hl)⟩
theorem s_ine (C : CX X G own cc P nL ret n0) (i : Nat) {off : Int} (hr : P[i]? = some (pc, .ifCond .ne off, len, k, nx)) {x : Int32} {A B : Option ω} (kt : x = 0 → JS X G nL q sl n0 E A S (pc + 3) lv st) (kf : ¬ x = 0 → JS X G nL q sl n0 E B S nx lv st) : JS X G nL q sl n0 E (if x = 0 then A else B) S pc lv (.inl x :: st) := by
  obtain ⟨hx, hb, hml, hown, hts, hK, hlk, hrt, hST, hZ, hn0, hAA, hP, htr⟩ := C
  obtain ⟨d, c⟩ := bOK_at hP i hr
  obtain ⟨c, rfl⟩ := ck5 c
  by_cases z : x = 0
  · rw [if_pos z]; exact fun o ho => ⟨(kt z o ho).1, fun H locs hW hS ls hl => lv_if_ne hx hb d c (fun z' => absurd z z') (fun _ => (kt z o ho).2 H locs hW hS ls hl)⟩
  · rw [if_neg z]; exact fun o ho => ⟨(kf z o ho).1, fun H locs hW hS ls hl => lv_if_ne hx hb d c (fun _ => (kf z o ho).2 H locs hW hS ls hl) (fun z' => absurd z' z)⟩
theorem s_ilt (C : CX X G own cc P nL ret n0) (i : Nat) {off : Int} (hr : P[i]? = some (pc, .ifCond .lt off, len, k, nx)) {x : Int32} {A B : Option ω} (kt : x < 0 → JS X G nL q sl n0 E A S nx lv st) (kf : ¬ x < 0 → JS X G nL q sl n0 E B S (pc + 3) lv st) : JS X G nL q sl n0 E (if x < 0 then A else B) S pc lv (.inl x :: st) := by
  obtain ⟨hx, hb, hml, hown, hts, hK, hlk, hrt, hST, hZ, hn0, hAA, hP, htr⟩ := C
  obtain ⟨d, c⟩ := bOK_at hP i hr
  obtain ⟨c, rfl⟩ := ck5 c
  by_cases z : x < 0
  · rw [if_pos z]; exact fun o ho => ⟨(kt z o ho).1, fun H locs hW hS ls hl => lv_if_lt hx hb d c (fun _ => (kt z o ho).2 H locs hW hS ls hl) (fun z' => absurd z z')⟩
  · rw [if_neg z]; exact fun o ho => ⟨(kf z o ho).1, fun H locs hW hS ls hl => lv_if_lt hx hb d c (fun z' => absurd z' z) (fun _ => (kf z o ho).2 H locs hW hS ls hl)⟩
theorem s_ige (C : CX X G own cc P nL ret n0) (i : Nat) {off : Int} (hr : P[i]? = some (pc, .ifCond .ge off, len, k, nx)) {x : Int32} {A B : Option ω} (kt : 0 ≤ x → JS X G nL q sl n0 E A S nx lv st) (kf : ¬ 0 ≤ x → JS X G nL q sl n0 E B S (pc + 3) lv st) : JS X G nL q sl n0 E (if 0 ≤ x then A else B) S pc lv (.inl x :: st) := by
  obtain ⟨hx, hb, hml, hown, hts, hK, hlk, hrt, hST, hZ, hn0, hAA, hP, htr⟩ := C
  obtain ⟨d, c⟩ := bOK_at hP i hr
  obtain ⟨c, rfl⟩ := ck5 c
  by_cases z : 0 ≤ x
  · rw [if_pos z]; exact fun o ho => ⟨(kt z o ho).1, fun H locs hW hS ls hl => lv_if_ge hx hb d c (fun _ => (kt z o ho).2 H locs hW hS ls hl) (fun z' => absurd z z')⟩
  · rw [if_neg z]; exact fun o ho => ⟨(kf z o ho).1, fun H locs hW hS ls hl => lv_if_ge hx hb d c (fun z' => absurd z' z) (fun _ => (kf z o ho).2 H locs hW hS ls hl)⟩
theorem s_igt (C : CX X G own cc P nL ret n0) (i : Nat) {off : Int} (hr : P[i]? = some (pc, .ifCond .gt off, len, k, nx)) {x : Int32} {A B : Option ω} (kt : 0 < x → JS X G nL q sl n0 E A S nx lv st) (kf : ¬ 0 < x → JS X G nL q sl n0 E B S (pc + 3) lv st) : JS X G nL q sl n0 E (if 0 < x then A else B) S pc lv (.inl x :: st) := by
  obtain ⟨hx, hb, hml, hown, hts, hK, hlk, hrt, hST, hZ, hn0, hAA, hP, htr⟩ := C
  obtain ⟨d, c⟩ := bOK_at hP i hr
  obtain ⟨c, rfl⟩ := ck5 c
  by_cases z : 0 < x
  · rw [if_pos z]; exact fun o ho => ⟨(kt z o ho).1, fun H locs hW hS ls hl => lv_if_gt hx hb d c (fun _ => (kt z o ho).2 H locs hW hS ls hl) (fun z' => absurd z z')⟩
  · rw [if_neg z]; exact fun o ho => ⟨(kf z o ho).1, fun H locs hW hS ls hl => lv_if_gt hx hb d c (fun z' => absurd z' z) (fun _ => (kf z o ho).2 H locs hW hS ls hl)⟩
theorem s_ile (C : CX X G own cc P nL ret n0) (i : Nat) {off : Int} (hr : P[i]? = some (pc, .ifCond .le off, len, k, nx)) {x : Int32} {A B : Option ω} (kt : x ≤ 0 → JS X G nL q sl n0 E A S nx lv st) (kf : ¬ x ≤ 0 → JS X G nL q sl n0 E B S (pc + 3) lv st) : JS X G nL q sl n0 E (if x ≤ 0 then A else B) S pc lv (.inl x :: st) := by
  obtain ⟨hx, hb, hml, hown, hts, hK, hlk, hrt, hST, hZ, hn0, hAA, hP, htr⟩ := C
  obtain ⟨d, c⟩ := bOK_at hP i hr
  obtain ⟨c, rfl⟩ := ck5 c
  by_cases z : x ≤ 0
  · rw [if_pos z]; exact fun o ho => ⟨(kt z o ho).1, fun H locs hW hS ls hl => lv_if_le hx hb d c (fun _ => (kt z o ho).2 H locs hW hS ls hl) (fun z' => absurd z z')⟩
  · rw [if_neg z]; exact fun o ho => ⟨(kf z o ho).1, fun H locs hW hS ls hl => lv_if_le hx hb d c (fun z' => absurd z' z) (fun _ => (kf z o ho).2 H locs hW hS ls hl)⟩
theorem s_iceq (C : CX X G own cc P nL ret n0) (i : Nat) {off : Int} (hr : P[i]? = some (pc, .if_icmp .eq off, len, k, nx)) {x y : Int32} {A B : Option ω} (kt : x = y → JS X G nL q sl n0 E A S nx lv st) (kf : ¬ x = y → JS X G nL q sl n0 E B S (pc + 3) lv st) : JS X G nL q sl n0 E (if x = y then A else B) S pc lv (.inl y :: .inl x :: st) := by
  obtain ⟨hx, hb, hml, hown, hts, hK, hlk, hrt, hST, hZ, hn0, hAA, hP, htr⟩ := C
  obtain ⟨d, c⟩ := bOK_at hP i hr
  obtain ⟨c, rfl⟩ := ck5 c
  by_cases z : x = y
  · rw [if_pos z]; exact fun o ho => ⟨(kt z o ho).1, fun H locs hW hS ls hl => lv_icmp_eq hx hb d c (fun _ => (kt z o ho).2 H locs hW hS ls hl) (fun z' => absurd z z')⟩
  · rw [if_neg z]; exact fun o ho => ⟨(kf z o ho).1, fun H locs hW hS ls hl => lv_icmp_eq hx hb d c (fun z' => absurd z' z) (fun _ => (kf z o ho).2 H locs hW hS ls hl)⟩
theorem s_icne (C : CX X G own cc P nL ret n0) (i : Nat) {off : Int} (hr : P[i]? = some (pc, .if_icmp .ne off, len, k, nx)) {x y : Int32} {A B : Option ω} (kt : x = y → JS X G nL q sl n0 E A S (pc + 3) lv st) (kf : ¬ x = y → JS X G nL q sl n0 E B S nx lv st) : JS X G nL q sl n0 E (if x = y then A else B) S pc lv (.inl y :: .inl x :: st) := by
  obtain ⟨hx, hb, hml, hown, hts, hK, hlk, hrt, hST, hZ, hn0, hAA, hP, htr⟩ := C
  obtain ⟨d, c⟩ := bOK_at hP i hr
  obtain ⟨c, rfl⟩ := ck5 c
  by_cases z : x = y
  · rw [if_pos z]; exact fun o ho => ⟨(kt z o ho).1, fun H locs hW hS ls hl => lv_icmp_ne hx hb d c (fun z' => absurd z z') (fun _ => (kt z o ho).2 H locs hW hS ls hl)⟩
  · rw [if_neg z]; exact fun o ho => ⟨(kf z o ho).1, fun H locs hW hS ls hl => lv_icmp_ne hx hb d c (fun _ => (kf z o ho).2 H locs hW hS ls hl) (fun z' => absurd z' z)⟩
theorem s_iclt (C : CX X G own cc P nL ret n0) (i : Nat) {off : Int} (hr : P[i]? = some (pc, .if_icmp .lt off, len, k, nx)) {x y : Int32} {A B : Option ω} (kt : x < y → JS X G nL q sl n0 E A S nx lv st) (kf : ¬ x < y → JS X G nL q sl n0 E B S (pc + 3) lv st) : JS X G nL q sl n0 E (if x < y then A else B) S pc lv (.inl y :: .inl x :: st) := by
  obtain ⟨hx, hb, hml, hown, hts, hK, hlk, hrt, hST, hZ, hn0, hAA, hP, htr⟩ := C
  obtain ⟨d, c⟩ := bOK_at hP i hr
  obtain ⟨c, rfl⟩ := ck5 c
  by_cases z : x < y
  · rw [if_pos z]; exact fun o ho => ⟨(kt z o ho).1, fun H locs hW hS ls hl => lv_icmp_lt hx hb d c (fun _ => (kt z o ho).2 H locs hW hS ls hl) (fun z' => absurd z z')⟩
  · rw [if_neg z]; exact fun o ho => ⟨(kf z o ho).1, fun H locs hW hS ls hl => lv_icmp_lt hx hb d c (fun z' => absurd z' z) (fun _ => (kf z o ho).2 H locs hW hS ls hl)⟩
theorem s_icge (C : CX X G own cc P nL ret n0) (i : Nat) {off : Int} (hr : P[i]? = some (pc, .if_icmp .ge off, len, k, nx)) {x y : Int32} {A B : Option ω} (kt : y ≤ x → JS X G nL q sl n0 E A S nx lv st) (kf : ¬ y ≤ x → JS X G nL q sl n0 E B S (pc + 3) lv st) : JS X G nL q sl n0 E (if y ≤ x then A else B) S pc lv (.inl y :: .inl x :: st) := by
  obtain ⟨hx, hb, hml, hown, hts, hK, hlk, hrt, hST, hZ, hn0, hAA, hP, htr⟩ := C
  obtain ⟨d, c⟩ := bOK_at hP i hr
  obtain ⟨c, rfl⟩ := ck5 c
  by_cases z : y ≤ x
  · rw [if_pos z]; exact fun o ho => ⟨(kt z o ho).1, fun H locs hW hS ls hl => lv_icmp_ge hx hb d c (fun _ => (kt z o ho).2 H locs hW hS ls hl) (fun z' => absurd z z')⟩
  · rw [if_neg z]; exact fun o ho => ⟨(kf z o ho).1, fun H locs hW hS ls hl => lv_icmp_ge hx hb d c (fun z' => absurd z' z) (fun _ => (kf z o ho).2 H locs hW hS ls hl)⟩
theorem s_icgt (C : CX X G own cc P nL ret n0) (i : Nat) {off : Int} (hr : P[i]? = some (pc, .if_icmp .gt off, len, k, nx)) {x y : Int32} {A B : Option ω} (kt : y < x → JS X G nL q sl n0 E A S nx lv st) (kf : ¬ y < x → JS X G nL q sl n0 E B S (pc + 3) lv st) : JS X G nL q sl n0 E (if y < x then A else B) S pc lv (.inl y :: .inl x :: st) := by
  obtain ⟨hx, hb, hml, hown, hts, hK, hlk, hrt, hST, hZ, hn0, hAA, hP, htr⟩ := C
  obtain ⟨d, c⟩ := bOK_at hP i hr
  obtain ⟨c, rfl⟩ := ck5 c
  by_cases z : y < x
  · rw [if_pos z]; exact fun o ho => ⟨(kt z o ho).1, fun H locs hW hS ls hl => lv_icmp_gt hx hb d c (fun _ => (kt z o ho).2 H locs hW hS ls hl) (fun z' => absurd z z')⟩
  · rw [if_neg z]; exact fun o ho => ⟨(kf z o ho).1, fun H locs hW hS ls hl => lv_icmp_gt hx hb d c (fun z' => absurd z' z) (fun _ => (kf z o ho).2 H locs hW hS ls hl)⟩
theorem s_icle (C : CX X G own cc P nL ret n0) (i : Nat) {off : Int} (hr : P[i]? = some (pc, .if_icmp .le off, len, k, nx)) {x y : Int32} {A B : Option ω} (kt : x ≤ y → JS X G nL q sl n0 E A S nx lv st) (kf : ¬ x ≤ y → JS X G nL q sl n0 E B S (pc + 3) lv st) : JS X G nL q sl n0 E (if x ≤ y then A else B) S pc lv (.inl y :: .inl x :: st) := by
  obtain ⟨hx, hb, hml, hown, hts, hK, hlk, hrt, hST, hZ, hn0, hAA, hP, htr⟩ := C
  obtain ⟨d, c⟩ := bOK_at hP i hr
  obtain ⟨c, rfl⟩ := ck5 c
  by_cases z : x ≤ y
  · rw [if_pos z]; exact fun o ho => ⟨(kt z o ho).1, fun H locs hW hS ls hl => lv_icmp_le hx hb d c (fun _ => (kt z o ho).2 H locs hW hS ls hl) (fun z' => absurd z z')⟩
  · rw [if_neg z]; exact fun o ho => ⟨(kf z o ho).1, fun H locs hW hS ls hl => lv_icmp_le hx hb d c (fun z' => absurd z' z) (fun _ => (kf z o ho).2 H locs hW hS ls hl)⟩
theorem s_null (C : CX X G own cc P nL ret n0) (i : Nat) {off : Int} (hr : P[i]? = some (pc, .ifnull off, len, k, nx)) {r : Option Nat} {A B : Option ω} (kt : JS X G nL q sl n0 E A S nx lv st) (kf : JS X G nL q sl n0 E B S (pc + 3) lv st) : JS X G nL q sl n0 E (ifN r A B) S pc lv (.inr (.inl r) :: st) := by
  obtain ⟨hx, hb, hml, hown, hts, hK, hlk, hrt, hST, hZ, hn0, hAA, hP, htr⟩ := C
  obtain ⟨d, c⟩ := bOK_at hP i hr
  obtain ⟨c, rfl⟩ := ck5 c
  cases r with
  | none => exact fun o ho => ⟨(kt o ho).1, fun H locs hW hS ls hl => lv_ifnullN hx hb d c ((kt o ho).2 H locs hW hS ls hl)⟩
  | some a => exact fun o ho => ⟨(kf o ho).1, fun H locs hW hS ls hl => lv_ifnull hx hb d ((kf o ho).2 H locs hW hS ls hl)⟩
theorem s_nonnull (C : CX X G own cc P nL ret n0) (i : Nat) {off : Int} (hr : P[i]? = some (pc, .ifnonnull off, len, k, nx)) {r : Option Nat} {A B : Option ω} (kf : JS X G nL q sl n0 E A S (pc + 3) lv st) (kt : JS X G nL q sl n0 E B S nx lv st) : JS X G nL q sl n0 E (ifN r A B) S pc lv (.inr (.inl r) :: st) := by
  obtain ⟨hx, hb, hml, hown, hts, hK, hlk, hrt, hST, hZ, hn0, hAA, hP, htr⟩ := C
  obtain ⟨d, c⟩ := bOK_at hP i hr
  obtain ⟨c, rfl⟩ := ck5 c
  cases r with
  | none => exact fun o ho => ⟨(kf o ho).1, fun H locs hW hS ls hl => lv_ifnonnullN hx hb d ((kf o ho).2 H locs hW hS ls hl)⟩
  | some a => exact fun o ho => ⟨(kt o ho).1, fun H locs hW hS ls hl => lv_ifnonnull hx hb d c ((kt o ho).2 H locs hW hS ls hl)⟩
/-- a division: its divisor is looked at -/
theorem s_idiv (C : CX X G own cc P nL ret n0) (i : Nat) (hr : P[i]? = some (pc, .idiv, len, k, nx)) {x y : Int32} (hy : y ≠ 0) {z : Option ω} (kk : JS X G nL q sl n0 E z S (pc + 1) lv (.inl (x / y) :: st)) : JS X G nL q sl n0 E z S pc lv (.inl y :: .inl x :: st) := by
  obtain ⟨hx, hb, hml, hown, hts, hK, hlk, hrt, hST, hZ, hn0, hAA, hP, htr⟩ := C
  obtain ⟨d, c⟩ := bOK_at hP i hr
  obtain ⟨rfl, -⟩ := ck1 (b := 0) c
  exact fun o ho => ⟨(kk o ho).1, fun H locs hW hS ls hl => lv_idiv hx hb d hy ((kk o ho).2 H locs hW hS ls hl)⟩
theorem s_irem (C : CX X G own cc P nL ret n0) (i : Nat) (hr : P[i]? = some (pc, .irem, len, k, nx)) {x y : Int32} (hy : y ≠ 0) {z : Option ω} (kk : JS X G nL q sl n0 E z S (pc + 1) lv (.inl (x - x / y * y) :: st)) : JS X G nL q sl n0 E z S pc lv (.inl y :: .inl x :: st) := by
  obtain ⟨hx, hb, hml, hown, hts, hK, hlk, hrt, hST, hZ, hn0, hAA, hP, htr⟩ := C
  obtain ⟨d, c⟩ := bOK_at hP i hr
  obtain ⟨rfl, -⟩ := ck1 (b := 0) c
  exact fun o ho => ⟨(kk o ho).1, fun H locs hW hS ls hl => lv_irem hx hb d hy ((kk o ho).2 H locs hW hS ls hl)⟩
end RW

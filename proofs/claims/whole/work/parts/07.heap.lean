def FLK (own : String) (idx kd fk : Nat) : Prop := ∃ (r : vw_C) (ty : Nat → FieldType) (ref : String), kcl[kd - 1]? = some r ∧ 1 ≤ kd ∧ kd ≤ 13 ∧ fk < r.2.2 ∧ (kfl kd).length = r.2.2 ∧ (∀ w ∈ u_ws r.1 r.2.1 r.2.2, w ∈ TBG) ∧ (∀ k, k < r.2.2 → parseFieldDescriptor (r.2.1 k).2.2.1 = some (ty k)) ∧ (∀ a, a < r.2.2 → ∀ b, b < r.2.2 → a ≠ b → (r.2.1 a).2.1 ≠ (r.2.1 b).2.1) ∧
  (∀ (args : Array Value) (s : State), (∀ w ∈ TBG, w.before args s = true) → ∀ x, s.fieldFound? (r.2.1 fk).1 (r.2.1 fk).2.1 (r.2.1 fk).2.2.1 = some x → s.fieldFound? ref (r.2.1 fk).2.1 (r.2.1 fk).2.2.1 = some x) ∧
  (Cond.fieldLink own idx ref (r.2.1 fk).2.1 (r.2.1 fk).2.2.1 ∈ TBG ∨ ∃ h, Cond.fieldLinkNest own idx ref (r.2.1 fk).2.1 (r.2.1 fk).2.2.1 h ∈ NST)
/-- a field's type, and whether it is final -/
def FPT (own : String) (kd fk : Nat) (ft : FieldType) (fin : Bool) : Prop := ∃ r : vw_C, kcl[kd - 1]? = some r ∧ parseFieldDescriptor (r.2.1 fk).2.2.1 = some ft ∧ (r.2.1 fk).2.2.2 = fin ∧ (fin = true → (r.2.1 fk).1 = own)
theorem ent_obj {G : GE} {M : Mm} {a kd : Nat} (h1 : 1 ≤ kd) (h2 : kd ≤ 13) (hk : mK M a = kd) : ent G M a = some (.inr (kd - 1, flds M a kd 0 (kfl kd))) := by
  unfold ent
  rw [hk]
  have h : kd = 1 ∨ kd = 2 ∨ kd = 3 ∨ kd = 4 ∨ kd = 5 ∨ kd = 6 ∨ kd = 7 ∨ kd = 8 ∨ kd = 9 ∨ kd = 10 ∨ kd = 11 ∨ kd = 12 ∨ kd = 13 := by omega
  rcases h with rfl | rfl | rfl | rfl | rfl | rfl | rfl | rfl | rfl | rfl | rfl | rfl | rfl <;> rfl
theorem ent_congr {G : GE} {M M' : Mm} {b : Nat} (hI : ∀ c j, mI M' c b j = mI M c b j) (hP : ∀ c j, mP M' c b j = mP M c b j) (hJ : ∀ j, mJ M' b j = mJ M b j) (hK : mK M' b = mK M b) (hL : mL M' b = mL M b) : ent G M' b = ent G M b := by
  have e1 : mI M' 0 b = mI M 0 b := funext (hI 0)
  have e2 : mP M' 0 b = mP M 0 b := funext (hP 0)
  have e3 : mJ M' b = mJ M b := funext hJ
  have e4 : ∀ k, flds M' b k 0 (kfl k) = flds M b k 0 (kfl k) := fun k => flds_congr fun i f _ => by
    cases f with
    | true => exact hP _ 0
    | false => exact hI _ 0
  unfold ent
  rw [hK, hL, e1, e2, e3]
  split <;> first | rfl | (rw [e4])
theorem flds_setI (M : Mm) (a c fk : Nat) (v : Int32) (l : List Bool) (hf : l[fk]? = some false) : flds (uI M (100 * c + fk) a 0 v) a c 0 l = (flds M a c 0 l).set fk (.int v) := by
  refine List.ext_getElem? fun i => ?_
  cases hb : l[i]? with
  | none =>
    have h1 : l.length ≤ i := by simpa using hb
    rw [List.getElem?_eq_none (by rw [flds_len]; exact h1), List.getElem?_eq_none (by rw [List.length_set, flds_len]; exact h1)]
  | some b =>
    rw [flds_at _ a c l 0 i b hb]
    by_cases h : fk = i
    · subst h
      cases hb.symm.trans hf
      have hlt : fk < (flds M a c 0 l).length := by rw [flds_len]; exact (List.getElem?_eq_some_iff.mp hf).1
      rw [List.getElem?_set_self hlt]
      simp only [Nat.zero_add, mI_uI, true_and, and_self, if_true]
    · rw [List.getElem?_set_ne h, flds_at M a c l 0 i b hb]
      have hne : ¬ 100 * c + (0 + i) = 100 * c + fk := by omega
      cases b with
      | true => rfl
      | false => simp only [mI_uI, hne, false_and, if_false]
theorem flds_setP (M : Mm) (a c fk : Nat) (v : Option Nat) (l : List Bool) (hf : l[fk]? = some true) : flds (uP M (100 * c + fk) a 0 v) a c 0 l = (flds M a c 0 l).set fk (va_rf v) := by
  refine List.ext_getElem? fun i => ?_
  cases hb : l[i]? with
  | none =>
    have h1 : l.length ≤ i := by simpa using hb
    rw [List.getElem?_eq_none (by rw [flds_len]; exact h1), List.getElem?_eq_none (by rw [List.length_set, flds_len]; exact h1)]
  | some b =>
    rw [flds_at _ a c l 0 i b hb]
    by_cases h : fk = i
    · subst h
      cases hb.symm.trans hf
      have hlt : fk < (flds M a c 0 l).length := by rw [flds_len]; exact (List.getElem?_eq_some_iff.mp hf).1
      rw [List.getElem?_set_self hlt]
      simp only [Nat.zero_add, mP_uP, true_and, and_self, if_true]
    · rw [List.getElem?_set_ne h, flds_at M a c l 0 i b hb]
      have hne : ¬ 100 * c + (0 + i) = 100 * c + fk := by omega
      cases b with
      | true => simp only [mP_uP, hne, false_and, if_false]
      | false => rfl
theorem WDh.set {G : GE} {σ : Sg} {M M' : Mm} {n a : Nat} {H H' : Heap} (h : WDh G (σ, M, n) H) (hz : H'.size = H.size) (ho : ∀ q : Nat, q ≠ a → H'[q]? = H[q]?) (hK : mK M' = mK M) (hL : mL M' = mL M) (hka : mK M a ≠ 0) (hob : ∀ b, b ≠ a → ent G M' b = ent G M b) (hat : ∀ x, ent G M' a = some x → va_at (gD G) kcl (a, x) H') : WDh G (σ, M', n) H' := by
  obtain ⟨h1, h2, h3, h4, h5, h6⟩ := h
  refine ⟨hz.trans h1, fun b x hx => ?_, fun b hb => ?_, fun hh => ?_, ?_, ?_⟩
  · by_cases e : b = a
    · subst e; exact hat x hx
    · exact (h2 b x ((hob b e).symm.trans hx)).kept (ho b e)
  · show _ ∨ (_ ∧ mK M' b = 26 ∧ _)
    have hb : mK M' b ≠ 0 := hb
    rw [hK] at hb ⊢
    exact h3 b hb
  · obtain ⟨⟨g1, g2⟩, g3, g4⟩ := h4 hh
    refine ⟨⟨g1.kept (ho _ fun e => ?_), fun k hk => ?_⟩, ?_, fun k hk => ?_⟩
    · have e : gM G = a := e
      rw [e] at g3; exact hka g3
    · rw [ho _ fun e => ?_]
      · exact g2 k hk
      · have g5 := g4 k hk
        rw [e] at g5; exact hka g5
    · show mK M' _ = 0; rw [hK]; exact g3
    · show mK M' _ = 0; rw [hK]; exact g4 k hk
  · show mL M' 0 = _; rw [hL]; exact h5
  · show mK M' _ = 26; rw [hK]; exact h6
theorem WDh.one {G : GE} {S : WS} {H : Heap} (h : WDh G S H) {a : Nat} {x : va_E} (hx : ent G S.2.1 a = some x) : va_P (gD G) kcl [(a, x)] H := by
  intro k q hq
  cases k with
  | zero => cases hq; exact h.2.1 a x hx
  | succ k => cases hq
section HW
variable {X : MC} {G : GE} {own : String} {cc : ByteArray} {P : List BR} {nL : Nat} {ret : Option FieldType} {n0 q sl : Nat} {ω : Type} {E : ω → Room × (State → Prop) × Nat} {σ : Sg} {M : Mm} {n : Nat} {pc nx len idx : Nat} {k : Int32} {lv : LV} {st : List AV}
variable {H : Heap} {locs : List Loc} {R : Room} {cells slots : Nat} {Q : State → Prop} {ls : Array Slot} {rest : List Value}
theorem w_get (C : CX X G own cc P nL ret n0) {kd fk a : Nat} {S : WS} (hW : WDh G S H) (lk : FLK own idx kd fk) (hk : mK S.2.1 a = kd) (d : decode cc pc = .ok (.getfield idx, 3)) {v : Value} (hv : (flds S.2.1 a kd 0 (kfl kd))[fk]? = some v)
    (kk : W X.1 X.2.1 X.2.2.1 R X.2.2.2.1 X.2.2.2.2.1 X.2.2.2.2.2.1 X.2.2.2.2.2.2.1 X.2.2.2.2.2.2.2.1 X.2.2.2.2.2.2.2.2 H locs cells slots Q (F0 X.2.2.2.2.1 (pc + 3) ls (v :: rest))) : W X.1 X.2.1 X.2.2.1 R X.2.2.2.1 X.2.2.2.2.1 X.2.2.2.2.2.1 X.2.2.2.2.2.2.1 X.2.2.2.2.2.2.2.1 X.2.2.2.2.2.2.2.2 H locs cells slots Q (F0 X.2.2.2.2.1 pc ls (.ref a :: rest)) := by
  obtain ⟨hx, hb, hml, hown, hts, hK, hlk, hrt, hST, hZ, hn0, hAA, hP, htr⟩ := C
  obtain ⟨⟨RC, T, N⟩, ty, ref, h1, h2, h3, h4, h5, h6, h7, h8, h9, h10⟩ := lk
  have hone := hW.one (ent_obj (G := G) h2 h3 hk)
  rcases h10 with h10 | ⟨hh, h10⟩
  · exact va_get hx hb hts h6 hown hK hone 0 rfl h1 fk h4 (hts _ h10) (h9 _ _ hts) hv d kk
  · exact va_getN hx hb hts h6 hown hK hone 0 rfl h1 fk h4 (va_Nw.use rfl (hST.2.2.2.2.2.2.2.1 _ h10)) (h9 _ _ hts) hv d kk
theorem s_gI (C : CX X G own cc P nL ret n0) (i : Nat) (hr : P[i]? = some (pc, .getfield idx, len, k, nx)) {kd fk fid : Nat} (lk : FLK own idx kd fk) (hf : (kfl kd)[fk]? = some false) (hid : fid = 100 * kd + fk) {r : Option Nat} {f : Int32 → Option ω} (kk : ∀ v, JS X G nL q sl n0 E (f v) (σ, M, n) (pc + 3) lv (.inl v :: st)) : JS X G nL q sl n0 E (fgI kd fid r M f) (σ, M, n) pc lv (.inr (.inl r) :: st) := by
  obtain ⟨d, c⟩ := bOK_at C.2.2.2.2.2.2.2.2.2.2.2.2.1 i hr
  obtain ⟨rfl, -⟩ := ck1 (b := 0) c
  intro o ho
  cases r with
  | none => cases ho
  | some a =>
    have ho : (if mK M a = kd then f (mI M fid a 0) else none) = some o := ho
    by_cases h : mK M a = kd
    · rw [if_pos h] at ho
      refine ⟨(kk _ o ho).1, fun H locs hW hS ls hl => ?_⟩
      have hv := flds_at M a kd (kfl kd) 0 fk false hf
      rw [Nat.zero_add, ← hid] at hv
      exact w_get C hW lk h d hv ((kk _ o ho).2 H locs hW hS ls hl)
    · rw [if_neg h] at ho; cases ho
theorem s_gR (C : CX X G own cc P nL ret n0) (i : Nat) (hr : P[i]? = some (pc, .getfield idx, len, k, nx)) {kd fk fid : Nat} (lk : FLK own idx kd fk) (hf : (kfl kd)[fk]? = some true) (hid : fid = 100 * kd + fk) {r : Option Nat} {f : Option Nat → Option ω} (kk : ∀ v, JS X G nL q sl n0 E (f v) (σ, M, n) (pc + 3) lv (.inr (.inl v) :: st)) : JS X G nL q sl n0 E (fgR kd fid r M f) (σ, M, n) pc lv (.inr (.inl r) :: st) := by
  obtain ⟨d, c⟩ := bOK_at C.2.2.2.2.2.2.2.2.2.2.2.2.1 i hr
  obtain ⟨rfl, -⟩ := ck1 (b := 0) c
  intro o ho
  cases r with
  | none => cases ho
  | some a =>
    have ho : (if mK M a = kd then f (mP M fid a 0) else none) = some o := ho
    by_cases h : mK M a = kd
    · rw [if_pos h] at ho
      refine ⟨(kk _ o ho).1, fun H locs hW hS ls hl => ?_⟩
      have hv := flds_at M a kd (kfl kd) 0 fk true hf
      rw [Nat.zero_add, ← hid] at hv
      exact w_get C hW lk h d hv ((kk _ o ho).2 H locs hW hS ls hl)
    · rw [if_neg h] at ho; cases ho
/-- a field of the class's world is written: the new heap -/
theorem w_put (C : CX X G own cc P nL ret n0) {kd fk a : Nat} {S : WS} (hW : WDh G S H) (lk : FLK own idx kd fk) {ft : FieldType} {fin : Bool} (pt : FPT own kd fk ft fin) (hin : fin = true → X.2.2.2.2.2.2.2.1.name = "<init>") (hk : mK S.2.1 a = kd) (d : decode cc pc = .ok (.putfield idx, 3)) {v : Value} (hn : narrow ft v = v) (hfit : fits ft v = true)
    (kk : ∀ (H1 : Heap) (fs : Nat), va_at (gD G) kcl (a, .inr (kd - 1, (flds S.2.1 a kd 0 (kfl kd)).set fk v)) H1 → H1.size = H.size → (∀ q : Nat, q ≠ a → H1[q]? = H[q]?) →
      W X.1 X.2.1 X.2.2.1 R X.2.2.2.1 X.2.2.2.2.1 X.2.2.2.2.2.1 X.2.2.2.2.2.2.1 X.2.2.2.2.2.2.2.1 X.2.2.2.2.2.2.2.2 H1 (locs ++ [⟨a, fs⟩]) cells slots Q (F0 X.2.2.2.2.1 (pc + 3) ls rest)) : W X.1 X.2.1 X.2.2.1 R X.2.2.2.1 X.2.2.2.2.1 X.2.2.2.2.2.1 X.2.2.2.2.2.2.1 X.2.2.2.2.2.2.2.1 X.2.2.2.2.2.2.2.2 H locs cells slots Q (F0 X.2.2.2.2.1 pc ls (v :: .ref a :: rest)) := by
  obtain ⟨hx, hb, hml, hown, hts, hK, hlk, hrt, hST, hZ, hn0, hAA, hP, htr⟩ := C
  obtain ⟨⟨RC, T, N⟩, ty, ref, h1, h2, h3, h4, h5, h6, h7, h8, h9, h10⟩ := lk
  obtain ⟨r', p1, hd, p3, p4⟩ := pt
  cases h1.symm.trans p1
  have hone := hW.one (ent_obj (G := G) h2 h3 hk)
  have hl : fk < (flds S.2.1 a kd 0 (kfl kd)).length := by rw [flds_len, h5]; exact h4
  have hap := va_apart (own := own) hts h6 ty h7 h8 hK h1
  obtain ⟨r, g1, cell, q1, q2, q3, q4⟩ := hone 0 _ rfl
  have hr : r = (RC, T, N) := Option.some.inj (g1.symm.trans h1)
  subst hr
  obtain ⟨hS, hfc, kC, hkC, hkind⟩ := hK.1 _ _ h1
  obtain ⟨cf, kf, fi, f, hi, hsl⟩ := hS fk h4
  have hlay := hts _ (h6 _ (u_in_lay h4))
  unfold u_lay at hlay
  have hst := (u_facts hfc hkC (u_lays hts h6 h4) hi).1
  have fin_at : ∀ H1 : Heap, H1[a]? = some (cell.setSlot f.slot v) → va_at (gD G) kcl (a, .inr (kd - 1, (flds S.2.1 a kd 0 (kfl kd)).set fk v)) H1 := fun H1 e1 => by
    rw [hsl] at e1
    exact ⟨_, h1, t_OB.to (V := updV (vp_V (flds S.2.1 a kd 0 (kfl kd))) fk v) ⟨_, e1, q2, q3, t_set q4 hap h4 v⟩ (fun j _ => vp_updV_set hl v j)⟩
  cases fin with
  | false =>
    rw [if_neg (by rw [p3]; decide)] at hlay
    have h6' := u_store hfc hkC hkind hlay hi hd hn hfit
    rcases h10 with h10 | ⟨hh, h10⟩
    · exact W.putK hx hb (f := f) ⟨hown, hts _ h10, ⟨_, _, _, h9 _ _ hts _ hi⟩, hst⟩ (by rw [q2]; exact h6') q1 q3 (by rw [hsl]; exact k2_hasslot (q4 fk h4)) rfl rfl d fun H' e1 e2 e3 => kk H' _ (fin_at H' e1) e2 e3
    · exact va_WputK hx hb (f := f) hown (va_Nw.use rfl (hST.2.2.2.2.2.2.2.1 _ h10)) (h9 _ _ hts _ hi) hst (by rw [q2]; exact h6') q1 q3 (by rw [hsl]; exact k2_hasslot (q4 fk h4)) rfl rfl d fun H' e1 e2 e3 => kk H' _ (fin_at H' e1) e2 e3
  | true =>
    rw [if_pos p3] at hlay
    have hcf : X.2.2.2.2.1.cls = cf := by
      obtain ⟨_, _, c', _, _, _, -, -, hf', -, -, -, hown2, -⟩ := Cond.laysFinal_spec hlay
      have e1 : c' = cf := by have := hi.symm.trans hf'; simp at this; exact this.1.symm
      rw [p4 rfl] at hown2
      rw [← e1]; exact Option.some.inj (hown.symm.trans hown2)
    have h6' := u_fits hfc hkC hkind (Or.inr hlay) hi hd hn hfit
    rcases h10 with h10 | ⟨hh, h10⟩
    · exact W.putFinK hx hb hown (hts _ h10) (h9 _ _ hts _ hi) hst hcf (hin rfl) (by rw [q2]; exact h6') q1 q3 (by rw [hsl]; exact k2_hasslot (q4 fk h4)) rfl rfl d fun H' e1 e2 e3 => kk H' _ (fin_at H' e1) e2 e3
    · refine va_Wputf hx hb hown (va_Nw.use rfl (hST.2.2.2.2.2.2.2.1 _ h10)) (h9 _ _ hts _ hi) hst (Or.inr ⟨hcf, hin rfl⟩) q1 (by rw [q3]; exact fun h => by cases h) (by rw [hsl]; exact k2_hasslot (q4 fk h4)) h6'.1 (by rw [q3, q2]; exact h6'.2) rfl rfl d (kk _ _ (fin_at _ ?_) ?_ ?_)
      · have ha : a < H.size := (Array.getElem?_eq_some_iff.mp q1).1
        simp [Array.getElem?_setIfInBounds, ha]
      · simp
      · intro z hz
        simp [Array.getElem?_setIfInBounds, Ne.symm hz]
theorem va_S.put' {A : Nat → Prop} {H0 H H1 : Heap} {locs : List Loc} {a k : Nat} (h : va_S A H0 H locs) (z : H1.size = H.size) (oq : ∀ q : Nat, q ≠ a → H1[q]? = H[q]?) (ha : A a) : va_S A H0 H1 (locs ++ [⟨a, k⟩]) := h.put z oq ha
theorem kd_lt {G : GE} {S : WS} {H : Heap} (hW : WDh G S H) {a kd : Nat} (hk : mK S.2.1 a = kd) (h1 : kd ≠ 0) (h2 : kd ≠ 26) : gAd G a := by
  rcases hW.2.2.1 a (by rw [hk]; exact h1) with h | ⟨-, h, -⟩
  · exact h.1
  · exact absurd (hk.symm.trans h) h2
theorem s_pR (C : CX X G own cc P nL ret n0) (i : Nat) (hr : P[i]? = some (pc, .putfield idx, len, k, nx)) {kd fk fid : Nat} (lk : FLK own idx kd fk) {ft : FieldType} {fin : Bool} (pt : FPT own kd fk ft fin) (hin : fin = true → X.2.2.2.2.2.2.2.1.name = "<init>") (hft : ft.isReference = true) (hf : (kfl kd)[fk]? = some true) (hid : fid = 100 * kd + fk) {r v : Option Nat} {f : Mm → Option ω} (kk : ∀ M', M' = uP M fid (r.getD 0) 0 v → JS X G nL q sl n0 E (f M') (σ, M', n) (pc + 3) lv st) : JS X G nL q sl n0 E (fpR kd fid r v M f) (σ, M, n) pc lv (.inr (.inl v) :: .inr (.inl r) :: st) := by
  obtain ⟨d, c⟩ := bOK_at C.2.2.2.2.2.2.2.2.2.2.2.2.1 i hr
  obtain ⟨rfl, -⟩ := ck1 (b := 0) c
  intro o ho
  cases r with
  | none => cases ho
  | some a =>
    have ho : (if mK M a = kd then f (uP M fid a 0 v) else none) = some o := ho
    by_cases h : mK M a = kd
    · rw [if_pos h] at ho
      obtain ⟨k1, k2⟩ := kk _ rfl o ho
      refine ⟨k1, fun H locs hW hS ls hl => ?_⟩
      obtain ⟨r0, ty, ref, l1, l2, l3, l4⟩ := id lk
      have hn : narrow ft (va_rf v) = va_rf v := by cases ft <;> first | (cases hft; done) | (cases v <;> rfl)
      have hfit : fits ft (va_rf v) = true := by cases ft <;> first | (cases hft; done) | (cases v <;> rfl)
      refine w_put C hW lk pt hin h d hn hfit fun H1 fs e1 e2 e3 => ?_
      refine k2 H1 _ (hW.set e2 e3 rfl rfl (by rw [h]; omega) (fun b hb => ?_) (fun x hx => ?_)) (hS.put e2 e3 (kd_lt hW h (by omega) (by omega))) ls hl
      · refine ent_congr (fun c j => rfl) (fun c j => ?_) (fun j => rfl) rfl rfl
        simp only [Option.getD_some, mP_uP, hb, false_and, and_false, if_false]
      · rw [ent_obj (kd := kd) l2 l3 (by exact h)] at hx
        cases hx
        simp only [Option.getD_some]
        rw [hid, flds_setP _ _ _ _ _ _ hf]
        exact e1
    · rw [if_neg h] at ho; cases ho
theorem s_pI (C : CX X G own cc P nL ret n0) (i : Nat) (hr : P[i]? = some (pc, .putfield idx, len, k, nx)) {kd fk fid : Nat} (lk : FLK own idx kd fk) {fin : Bool} (pt : FPT own kd fk .int fin) (hin : fin = true → X.2.2.2.2.2.2.2.1.name = "<init>") (hf : (kfl kd)[fk]? = some false) (hid : fid = 100 * kd + fk) {r : Option Nat} {v : Int32} {f : Mm → Option ω} (kk : ∀ M', M' = uI M fid (r.getD 0) 0 v → JS X G nL q sl n0 E (f M') (σ, M', n) (pc + 3) lv st) : JS X G nL q sl n0 E (fpI kd fid r v M f) (σ, M, n) pc lv (.inl v :: .inr (.inl r) :: st) := by
  obtain ⟨d, c⟩ := bOK_at C.2.2.2.2.2.2.2.2.2.2.2.2.1 i hr
  obtain ⟨rfl, -⟩ := ck1 (b := 0) c
  intro o ho
  cases r with
  | none => cases ho
  | some a =>
    have ho : (if mK M a = kd then f (uI M fid a 0 v) else none) = some o := ho
    by_cases h : mK M a = kd
    · rw [if_pos h] at ho
      obtain ⟨k1, k2⟩ := kk _ rfl o ho
      refine ⟨k1, fun H locs hW hS ls hl => ?_⟩
      obtain ⟨r0, ty, ref, l1, l2, l3, l4⟩ := id lk
      refine w_put C hW lk pt hin h d rfl rfl fun H1 fs e1 e2 e3 => ?_
      refine k2 H1 _ (hW.set e2 e3 rfl rfl (by rw [h]; omega) (fun b hb => ?_) (fun x hx => ?_)) (hS.put e2 e3 (kd_lt hW h (by omega) (by omega))) ls hl
      · refine ent_congr (fun c j => ?_) (fun c j => rfl) (fun j => rfl) rfl rfl
        simp only [Option.getD_some, mI_uI, hb, false_and, and_false, if_false]
      · rw [ent_obj (kd := kd) l2 l3 (by exact h)] at hx
        cases hx
        simp only [Option.getD_some]
        rw [hid, flds_setI _ _ _ _ _ _ hf]
        exact e1
    · rw [if_neg h] at ho; cases ho
theorem s_pZ (C : CX X G own cc P nL ret n0) (i : Nat) (hr : P[i]? = some (pc, .putfield idx, len, k, nx)) {kd fk fid : Nat} (lk : FLK own idx kd fk) {fin : Bool} (pt : FPT own kd fk .boolean fin) (hin : fin = true → X.2.2.2.2.2.2.2.1.name = "<init>") (hf : (kfl kd)[fk]? = some false) (hid : fid = 100 * kd + fk) {r : Option Nat} {v : Int32} {f : Mm → Option ω} (kk : ∀ M', M' = uI M fid (r.getD 0) 0 v → JS X G nL q sl n0 E (f M') (σ, M', n) (pc + 3) lv st) : JS X G nL q sl n0 E (fpZ kd fid r v M f) (σ, M, n) pc lv (.inl v :: .inr (.inl r) :: st) := by
  obtain ⟨d, c⟩ := bOK_at C.2.2.2.2.2.2.2.2.2.2.2.2.1 i hr
  obtain ⟨rfl, -⟩ := ck1 (b := 0) c
  intro o ho
  cases r with
  | none => cases ho
  | some a =>
    have ho : (if mK M a = kd ∧ (v = 0 ∨ v = 1) then f (uI M fid a 0 v) else none) = some o := ho
    by_cases h : mK M a = kd ∧ (v = 0 ∨ v = 1)
    · rw [if_pos h] at ho
      obtain ⟨h, hv⟩ := h
      obtain ⟨k1, k2⟩ := kk _ rfl o ho
      refine ⟨k1, fun H locs hW hS ls hl => ?_⟩
      obtain ⟨r0, ty, ref, l1, l2, l3, l4⟩ := id lk
      refine w_put C hW lk pt hin h d (v := .int v) (by rcases hv with rfl | rfl <;> decide) (by rcases hv with rfl | rfl <;> decide) fun H1 fs e1 e2 e3 => ?_
      refine k2 H1 _ (hW.set e2 e3 rfl rfl (by rw [h]; omega) (fun b hb => ?_) (fun x hx => ?_)) (hS.put e2 e3 (kd_lt hW h (by omega) (by omega))) ls hl
      · refine ent_congr (fun c j => ?_) (fun c j => rfl) (fun j => rfl) rfl rfl
        simp only [Option.getD_some, mI_uI, hb, false_and, and_false, if_false]
      · rw [ent_obj (kd := kd) l2 l3 (by exact h)] at hx
        cases hx
        simp only [Option.getD_some]
        rw [hid, flds_setI _ _ _ _ _ _ hf]
        exact e1
    · rw [if_neg h] at ho; cases ho
end HW

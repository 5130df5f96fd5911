theorem cast_obj : ∀ kb, 1 ≤ kb → kb ≤ 12 → ∃ r, kcl[kb - 1]? = some r ∧ Cond.castable r.1 "java/lang/Object" ∈ NST := by
  intro kb h1 h2
  have h : kb = 1 ∨ kb = 2 ∨ kb = 3 ∨ kb = 4 ∨ kb = 5 ∨ kb = 6 ∨ kb = 7 ∨ kb = 8 ∨ kb = 9 ∨ kb = 10 ∨ kb = 11 ∨ kb = 12 := by omega
  rcases h with rfl | rfl | rfl | rfl | rfl | rfl | rfl | rfl | rfl | rfl | rfl | rfl
  · exact ⟨_, rfl, ns_mem 1896 (by decide +kernel) rfl⟩
  · exact ⟨_, rfl, ns_mem 1902 (by decide +kernel) rfl⟩
  · exact ⟨_, rfl, ns_mem 1901 (by decide +kernel) rfl⟩
  · exact ⟨_, rfl, ns_mem 1907 (by decide +kernel) rfl⟩
  · exact ⟨_, rfl, ns_mem 1909 (by decide +kernel) rfl⟩
  · exact ⟨_, rfl, ns_mem 1898 (by decide +kernel) rfl⟩
  · exact ⟨_, rfl, ns_mem 1913 (by decide +kernel) rfl⟩
  · exact ⟨_, rfl, ns_mem 1899 (by decide +kernel) rfl⟩
  · exact ⟨_, rfl, ns_mem 1912 (by decide +kernel) rfl⟩
  · exact ⟨_, rfl, ns_mem 1908 (by decide +kernel) rfl⟩
  · exact ⟨_, rfl, ns_mem 1897 (by decide +kernel) rfl⟩
  · exact ⟨_, rfl, ns_mem 1900 (by decide +kernel) rfl⟩
def FMK (idx fk : Nat) : Prop := FLK RX12 idx 13 fk
theorem WDh.setM {G : GE} {σ σ' : Sg} {M : Mm} {n a : Nat} {H H' : Heap} (h : WDh G (σ, M, n) H) (hG : gH G = true) (ha : a = gM G ∨ ∃ k, mfl[k]? = some true ∧ a = gA G k) (ho : ∀ q : Nat, q ≠ a → H'[q]? = H[q]?) (hz : H'.size = H.size) (hr : RepM G σ' H') : WDh G (σ', M, n) H' := by
  obtain ⟨h1, h2, h3, h4, h5⟩ := h
  obtain ⟨g1, g3, g4⟩ := h4 hG
  refine ⟨hz.trans h1, fun b x hx => (h2 b x hx).kept (ho b fun e => ?_), h3, fun _ => ⟨hr, g3, g4⟩, h5⟩
  have hb : mK M b = 0 := by
    rcases ha with ha | ⟨k, hk, ha⟩
    · rw [e, ha]; exact g3
    · rw [e, ha]; exact g4 k hk
  have hx : ent G M b = some x := hx
  unfold ent at hx
  rw [hb] at hx
  cases hx
section MW
variable {X : MC} {G : GE} {own : String} {cc : ByteArray} {P : List BR} {nL : Nat} {ret : Option FieldType} {n0 q sl d : Nat} {ω : Type} {E : ω → Room × (State → Prop) × Nat} {σ : Sg} {M : Mm} {n : Nat} {pc nx len idx : Nat} {k : Int32} {lv : LV} {st : List AV}
/-- a reference is laid into a row -/
theorem s_stP (C : CX X G own cc P nL ret n0) (i : Nat) (hr : P[i]? = some (pc, .aastore, len, k, nx)) {kd : Nat} (hkd : kd = 23 ∨ kd = 24) {r v : Option Nat} {j : Int32} {f : Mm → Option ω} (kk : ∀ M', M' = uP M 0 (r.getD 0) j.toNatClampNeg v → JS X G nL q sl n0 E (f M') (σ, M', n) (pc + 1) lv st) : JS X G nL q sl n0 E (asP kd r j v M f) (σ, M, n) pc lv (.inr (.inl v) :: .inl j :: .inr (.inl r) :: st) := by
  obtain ⟨hx, hb, hml, hown, hts, hK, hlk, hrt, hST, hZ, hn0, hAA, hP, htr⟩ := C
  obtain ⟨dd, c⟩ := bOK_at hP i hr
  obtain ⟨rfl, -⟩ := ck1 (b := 0) c
  intro o ho
  cases r with
  | none => cases ho
  | some a =>
    have ho : (if mK M a = kd ∧ pok kd v M = true then (if j < 0 ∨ mL M a ≤ j.toNatClampNeg then none else f (uP M 0 a j.toNatClampNeg v)) else none) = some o := ho
    by_cases h : mK M a = kd ∧ pok kd v M = true
    · rw [if_pos h] at ho
      obtain ⟨h, hv⟩ := h
      by_cases h2 : j < 0 ∨ mL M a ≤ j.toNatClampNeg
      · rw [if_pos h2] at ho; cases ho
      · rw [if_neg h2] at ho
        obtain ⟨k1, k2⟩ := kk _ rfl o ho
        refine ⟨k1, fun H locs hW hS ls hl => ?_⟩
        have hj0 : ¬ j < 0 := fun z => h2 (Or.inl z)
        have hj1 : j.toNatClampNeg < mL M a := Nat.not_le.mp fun z => h2 (Or.inr z)
        obtain ⟨ci, t0, CN, hent, hty⟩ : ∃ (ci t0 : Nat) (CN : String), ent G M a = some (.inl (gC G ci, mL M a, .inr (.inr (.inr (.inr (mP M 0 a)))))) ∧ (ktys G)[t0]? = some (gC G ci, .object CN) ∧ ((kd = 23 ∧ ci = 3 ∧ CN = "java/lang/Object") ∨ (kd = 24 ∧ ci = 4 ∧ CN = "BlobHarbor$Bytes")) ∧ ∀ H1 : Heap, (∀ x, ent G (uP M 0 a j.toNatClampNeg v) a = some x → x = .inl (gC G ci, mL M a, .inr (.inr (.inr (.inr (mP (uP M 0 a j.toNatClampNeg v) 0 a)))))) := by
          rcases hkd with rfl | rfl
          · exact ⟨3, 3, _, ent_arr.2.2.2.1 h, rfl, Or.inl ⟨rfl, rfl, rfl⟩, fun H1 x hx => by rw [ent_arr.2.2.2.1 (by exact h)] at hx; cases hx; rfl⟩
          · exact ⟨4, 4, _, ent_arr.2.2.2.2.1 h, rfl, Or.inr ⟨rfl, rfl, rfl⟩, fun H1 x hx => by rw [ent_arr.2.2.2.2.1 (by exact h)] at hx; cases hx; rfl⟩
        obtain ⟨hty, hcn, hnew⟩ := hty
        have hgA : gAd G a := by
          rcases hW.2.2.1 a (by show mK M a ≠ 0; rw [h]; omega) with z | ⟨-, z, -⟩
          · exact z.1
          · have z : mK M a = 26 := z
            omega
        have fin : ∀ H1 : Heap, H1[a]? = some ((vp_cell (gC G ci) (mL M a, .inr (.inr (.inr (.inr (mP M 0 a)))))).setSlot j.toNatClampNeg (va_rf v)) → H1.size = H.size → (∀ z : Nat, z ≠ a → H1[z]? = H[z]?) → W X.1 X.2.1 X.2.2.1 (E o).1 X.2.2.2.1 X.2.2.2.2.1 X.2.2.2.2.2.1 X.2.2.2.2.2.2.1 X.2.2.2.2.2.2.2.1 X.2.2.2.2.2.2.2.2 H1 (locs ++ [⟨a, j.toNatClampNeg⟩]) (n - n0) (sl + q * (n - n0)) (E o).2.1 (F0 X.2.2.2.2.1 (pc + 1) ls (st.map vv)) := fun H1 e z oq => by
          refine k2 H1 _ (hW.set z oq rfl rfl (by rw [h]; omega) (fun b hb => ?_) (fun x hx => ?_)) (hS.put z oq hgA) ls hl
          · exact ent_congr (fun c j => rfl) (fun c j => by simp only [Option.getD_some, mP_uP, hb, false_and, and_false, if_false]) (fun j => rfl) rfl rfl
          · cases hnew H1 x hx
            show H1[a]? = some (vp_cell _ (_, .inr (.inr (.inr (.inr (mP (uP M 0 a _ _) 0 a))))))
            rw [mP_upd]
            exact cell_q _ _ _ _ _ e
        have hcell : H[a]? = some (vp_cell (gC G ci) (mL M a, .inr (.inr (.inr (.inr (mP M 0 a)))))) := hW.2.1 a _ hent
        cases v with
        | none =>
          exact va_WaastN (C := CN) hx hb hcell ((hK.2 t0 _ hty).1 _ (fun z => va_rf (mP M 0 a z))) (fun z => by cases z) (by show ¬ (j < 0 ∨ (arrV _ _ _).slots.size ≤ _); rw [arrV_size]; exact h2) rfl rfl dd fun H1 e z oq => fin H1 e z oq
        | some b =>
          obtain ⟨kb, hb1, hb2, hcastk⟩ : ∃ kb, mK M b = kb ∧ (1 ≤ kb ∧ kb ≤ 12) ∧ (kd = 24 → kb = 1) := by
            refine ⟨mK M b, rfl, ?_, ?_⟩
            · rcases hkd with rfl | rfl
              · exact of_decide_eq_true hv
              · have hv : decide (mK M b = 1) = true := hv
                have := of_decide_eq_true hv
                omega
            · intro e; subst e
              have hv : decide (mK M b = 1) = true := hv
              exact of_decide_eq_true hv
          obtain ⟨r, hr1, hr2⟩ := cast_obj kb hb2.1 hb2.2
          obtain ⟨r', hr', cellV, g1, g2, g3, -⟩ := hW.2.1 b _ (ent_obj hb2.1 (by omega) hb1)
          cases hr1.symm.trans hr'
          have hcls := (hK.1 _ r hr1).2
          obtain ⟨kA, comp, c1, c2, c3, -⟩ := (hK.2 t0 _ hty).2
          obtain ⟨kE, hkE, -⟩ := Vm.findClass_spec c3
          obtain ⟨kC, hkC, -⟩ := hcls.2
          have hasg : X.2.2.2.1.vm.assignable ((gD G).1 (kb - 1)) comp = true := by
            rcases hcn with ⟨-, -, rfl⟩ | ⟨e, -, rfl⟩
            · obtain ⟨c0, t1, f1, f2, f3⟩ := Cond.castable_spec (va_Nw.use (A := X.2.2.2.2.2.1) rfl (hST.2.2.2.2.2.2.2.1 _ hr2))
              cases hcls.1.symm.trans f1
              cases c3.symm.trans f2
              exact f3
            · have e1 := hcastk e
              subst e1
              cases hr1
              have e2 : comp = (gD G).1 0 := Option.some.inj (c3.symm.trans hcls.1)
              rw [e2]
              exact va_assign hcls
          refine W.aast hx hb hcell (fun z h => by cases h) (fun h => by cases h) c1 c2 rfl hkE ⟨hj0, by show _ < (arrV _ _ _).slots.size; rw [arrV_size]; exact hj1⟩ g1 (fun z h => by rw [g3] at h; cases h) (by rw [g2]; exact hkC) (by rw [g2]; exact hasg) rfl rfl dd fun H1 e z oq => fin H1 e z oq
    · rw [if_neg h] at ho; cases ho
/-- a cast to an object's own class -/
theorem s_cast (C : CX X G own cc P nL ret n0) (i : Nat) (hr : P[i]? = some (pc, .checkcast idx, len, k, nx)) {kd : Nat} {nm : String} (hkd : (kcl[kd - 1]?).map (fun z => z.1) = some nm) (h1 : 1 ≤ kd) (h2 : kd ≤ 13) (hlk : Cond.classLink own idx nm ∈ TBG) {r : Option Nat} {f : Option Nat → Option ω} (kk : ∀ v, JS X G nL q sl n0 E (f v) (σ, M, n) (pc + 3) lv (.inr (.inl v) :: st)) : JS X G nL q sl n0 E (fca kd r M f) (σ, M, n) pc lv (.inr (.inl r) :: st) := by
  obtain ⟨hx, hb, hml, hown, hts, hK, hlk', hrt, hST, hZ, hn0, hAA, hP, htr⟩ := C
  obtain ⟨dd, c⟩ := bOK_at hP i hr
  obtain ⟨rfl, -⟩ := ck1 (b := 0) c
  intro o ho
  cases r with
  | none => exact ⟨(kk _ o ho).1, fun H locs hW hS ls hl => lv_castN hx hb dd ((kk _ o ho).2 H locs hW hS ls hl)⟩
  | some a =>
    have ho : (if mK M a = kd then f (some a) else none) = some o := ho
    by_cases h : mK M a = kd
    · rw [if_pos h] at ho
      refine ⟨(kk _ o ho).1, fun H locs hW hS ls hl => ?_⟩
      obtain ⟨r, hr1, cell, g1, g2, g3, -⟩ := hW.2.1 a _ (ent_obj h1 h2 h)
      rw [hr1] at hkd
      have e : r.1 = nm := Option.some.inj hkd
      have hcls := (hK.1 _ r hr1).2
      rw [e] at hcls
      exact va_castS hx hb hown (hts _ hlk) hcls ⟨cell, g1, by rw [g3]; rfl, by rw [g2]; exact hcls.1⟩ dd ((kk _ o ho).2 H locs hW hS ls hl)
    · rw [if_neg h] at ho; cases ho
/-- FACTORS -/
theorem s_getF (C : CX X G own cc P nL ret n0) (i : Nat) (hr : P[i]? = some (pc, .getstatic idx, len, k, nx)) (hlk : Cond.fieldLink own idx RX1 "FACTORS" "[I" ∈ TBG) {x : Option ω} (kk : JS X G nL q sl n0 E x (σ, M, n) (pc + 3) lv (.inr (.inl (some (gF G))) :: st)) : JS X G nL q sl n0 E x (σ, M, n) pc lv st := by
  obtain ⟨hx, hb, hml, hown, hts, hK, hlk', hrt, hST, hZ, hn0, hAA, hP, htr⟩ := C
  obtain ⟨dd, c⟩ := bOK_at hP i hr
  obtain ⟨rfl, -⟩ := ck1 (b := 0) c
  exact fun o ho => ⟨(kk o ho).1, fun H locs hW hS ls hl => va_gets hx hb hST.1 hS hown (hts _ hlk) (fun _ z => z) dd ((kk o ho).2 H locs hW hS ls hl)⟩
theorem s_lenF (C : CX X G own cc P nL ret n0) (i : Nat) (hr : P[i]? = some (pc, .arraylength, len, k, nx)) {x : Option ω} (kk : JS X G nL q sl n0 E x (σ, M, n) (pc + 1) lv (.inl 15 :: st)) : JS X G nL q sl n0 E x (σ, M, n) pc lv (.inr (.inl (some (gF G))) :: st) := by
  obtain ⟨hx, hb, hml, hown, hts, hK, hlk', hrt, hST, hZ, hn0, hAA, hP, htr⟩ := C
  obtain ⟨dd, c⟩ := bOK_at hP i hr
  obtain ⟨rfl, -⟩ := ck1 (b := 0) c
  exact fun o ho => ⟨(kk o ho).1, fun H locs hW hS ls hl => va_tlen hx hb hST.2.1 hS rfl dd ((kk o ho).2 H locs hW hS ls hl)⟩
theorem s_ldF (C : CX X G own cc P nL ret n0) (i : Nat) (hr : P[i]? = some (pc, .iaload, len, k, nx)) {j : Int32} {f : Int32 → Option ω} (kk : ∀ v, JS X G nL q sl n0 E (f v) (σ, M, n) (pc + 1) lv (.inl v :: st)) : JS X G nL q sl n0 E (kfa j f) (σ, M, n) pc lv (.inl j :: .inr (.inl (some (gF G))) :: st) := by
  obtain ⟨hx, hb, hml, hown, hts, hK, hlk', hrt, hST, hZ, hn0, hAA, hP, htr⟩ := C
  obtain ⟨dd, c⟩ := bOK_at hP i hr
  obtain ⟨rfl, -⟩ := ck1 (b := 0) c
  intro o ho
  unfold kfa at ho
  by_cases h : j < 0 ∨ 15 ≤ j.toNatClampNeg
  · rw [if_pos h] at ho; cases ho
  · rw [if_neg h] at ho
    exact ⟨(kk _ o ho).1, fun H locs hW hS ls hl => va_ti hx hb hST.2.1 hS h rfl dd ((kk _ o ho).2 H locs hW hS ls hl)⟩
/-- the check's fields and rows -/
theorem RepM.one {G : GE} {σ : Sg} {H : Heap} (h : RepM G σ H) : va_P (gD G) kcl [(gM G, .inr (12, mvals G σ 0 mfl))] H := by
  intro z w hw
  cases z with
  | zero => cases hw; exact h.1
  | succ z => cases hw
theorem w_mget (C : CX X G own cc P nL ret n0) {H : Heap} {locs : List Loc} {R : Room} {cells slots : Nat} {Q : State → Prop} {ls : Array Slot} {rest : List Value} {fk : Nat} (hG : gH G = true) {S : WS} (hW : WDh G S H) (lk : FLK own idx 13 fk) (dd : decode cc pc = .ok (.getfield idx, 3)) {v : Value} (hv : (mvals G S.1 0 mfl)[fk]? = some v)
    (kk : W X.1 X.2.1 X.2.2.1 R X.2.2.2.1 X.2.2.2.2.1 X.2.2.2.2.2.1 X.2.2.2.2.2.2.1 X.2.2.2.2.2.2.2.1 X.2.2.2.2.2.2.2.2 H locs cells slots Q (F0 X.2.2.2.2.1 (pc + 3) ls (v :: rest))) : W X.1 X.2.1 X.2.2.1 R X.2.2.2.1 X.2.2.2.2.1 X.2.2.2.2.2.1 X.2.2.2.2.2.2.1 X.2.2.2.2.2.2.2.1 X.2.2.2.2.2.2.2.2 H locs cells slots Q (F0 X.2.2.2.2.1 pc ls (.ref (gM G) :: rest)) := by
  obtain ⟨hx, hb, hml, hown, hts, hK, hlk, hrt, hST, hZ, hn0, hAA, hP, htr⟩ := C
  obtain ⟨⟨RC, T, N⟩, ty, ref, h1, h2, h3, h4, h5, h6, h7, h8, h9, h10⟩ := lk
  have hone := (hW.2.2.2.1 hG).1.one
  rcases h10 with h10 | ⟨hh, h10⟩
  · exact va_get hx hb hts h6 hown hK hone 0 rfl h1 fk h4 (hts _ h10) (h9 _ _ hts) hv dd kk
  · exact va_getN hx hb hts h6 hown hK hone 0 rfl h1 fk h4 (va_Nw.use rfl (hST.2.2.2.2.2.2.2.1 _ h10)) (h9 _ _ hts) hv dd kk
theorem s_mF (hG : gH G = true) (C : CX X G own cc P nL ret n0) (i : Nat) (hr : P[i]? = some (pc, .getfield idx, len, k, nx)) {fk : Nat} (lk : FLK own idx 13 fk) (hf : mfl[fk]? = some false) {f : Int32 → Option ω} (kk : ∀ v, JS X G nL q sl n0 E (f v) (σ, M, n) (pc + 3) lv (.inl v :: st)) : JS X G nL q sl n0 E (mgF fk σ f) (σ, M, n) pc lv (.inr (.inl (some (gM G))) :: st) := by
  obtain ⟨dd, c⟩ := bOK_at C.2.2.2.2.2.2.2.2.2.2.2.2.1 i hr
  obtain ⟨rfl, -⟩ := ck1 (b := 0) c
  intro o ho
  refine ⟨(kk _ o ho).1, fun H locs hW hS ls hl => ?_⟩
  have hv := mvals_at G σ mfl 0 fk false hf
  rw [Nat.zero_add] at hv
  exact w_mget C hG hW lk dd hv ((kk _ o ho).2 H locs hW hS ls hl)
theorem s_mR (hG : gH G = true) (C : CX X G own cc P nL ret n0) (i : Nat) (hr : P[i]? = some (pc, .getfield idx, len, k, nx)) (fk : Nat) (lk : FLK own idx 13 fk) (hf : mfl[fk]? = some true) {x : Option ω} (kk : JS X G nL q sl n0 E x (σ, M, n) (pc + 3) lv (.inr (.inl (some (gA G fk))) :: st)) : JS X G nL q sl n0 E x (σ, M, n) pc lv (.inr (.inl (some (gM G))) :: st) := by
  obtain ⟨dd, c⟩ := bOK_at C.2.2.2.2.2.2.2.2.2.2.2.2.1 i hr
  obtain ⟨rfl, -⟩ := ck1 (b := 0) c
  intro o ho
  refine ⟨(kk o ho).1, fun H locs hW hS ls hl => ?_⟩
  have hv := mvals_at G σ mfl 0 fk true hf
  rw [Nat.zero_add] at hv
  exact w_mget C hG hW lk dd hv ((kk o ho).2 H locs hW hS ls hl)
theorem s_mpF (hG : gH G = true) (C : CX X G own cc P nL ret n0) (i : Nat) (hr : P[i]? = some (pc, .putfield idx, len, k, nx)) {fk : Nat} (lk : FLK own idx 13 fk) (pt : FPT own 13 fk .int false) (hf : mfl[fk]? = some false) {v : Int32} {f : Sg → Option ω} (kk : ∀ σ', σ' = uS σ fk 0 v → JS X G nL q sl n0 E (f σ') (σ', M, n) (pc + 3) lv st) : JS X G nL q sl n0 E (mpF fk v σ f) (σ, M, n) pc lv (.inl v :: .inr (.inl (some (gM G))) :: st) := by
  obtain ⟨hx, hb, hml, hown, hts, hK, hlk, hrt, hST, hZ, hn0, hAA, hP, htr⟩ := C
  obtain ⟨dd, c⟩ := bOK_at hP i hr
  obtain ⟨rfl, -⟩ := ck1 (b := 0) c
  obtain ⟨⟨RC, T, N⟩, ty, ref, h1, h2, h3, h4, h5, h6, h7, h8, h9, h10⟩ := lk
  obtain ⟨r', p1, hd, p3, p4⟩ := pt
  cases h1.symm.trans p1
  intro o ho
  obtain ⟨k1, k2⟩ := kk _ rfl o ho
  refine ⟨k1, fun H locs hW hS ls hl => ?_⟩
  obtain ⟨hrep, hk0, hk1⟩ := hW.2.2.2.1 hG
  obtain ⟨a1, a2, a3⟩ := hAA hG
  have hll : fk < (mvals G σ 0 mfl).length := by rw [mvals_len]; exact (List.getElem?_eq_some_iff.mp hf).1
  have hap := va_apart (own := own) hts h6 ty h7 h8 hK h1
  obtain ⟨r, g1, cell, q1, q2, q3, q4⟩ := hrep.1
  have hrr : r = (RC, T, N) := Option.some.inj (g1.symm.trans h1)
  subst hrr
  obtain ⟨hSl, hfc, kC, hkC, hkind⟩ := hK.1 _ _ h1
  obtain ⟨cf, kf, fi, fd, hi, hsl⟩ := hSl fk h4
  have hlay := hts _ (h6 _ (u_in_lay h4))
  unfold u_lay at hlay
  rw [if_neg (by rw [p3]; decide)] at hlay
  have hst := (u_facts hfc hkC (u_lays hts h6 h4) hi).1
  have h6' := u_store (v := .int v) hfc hkC hkind hlay hi hd rfl rfl
  have fin : ∀ H1 : Heap, H1[gM G]? = some (cell.setSlot fd.slot (.int v)) → H1.size = H.size → (∀ z : Nat, z ≠ gM G → H1[z]? = H[z]?) → W X.1 X.2.1 X.2.2.1 (E o).1 X.2.2.2.1 X.2.2.2.2.1 X.2.2.2.2.2.1 X.2.2.2.2.2.2.1 X.2.2.2.2.2.2.2.1 X.2.2.2.2.2.2.2.2 H1 (locs ++ [⟨gM G, fd.slot⟩]) (n - n0) (sl + q * (n - n0)) (E o).2.1 (F0 X.2.2.2.2.1 (pc + 3) ls (st.map vv)) := fun H1 e z oq => by
    refine k2 H1 _ (hW.setM hG (Or.inl rfl) oq z ⟨?_, fun kz hkz => ?_⟩) (hS.put z oq a1) ls hl
    · rw [hsl] at e
      have em : mvals G (uS σ fk 0 v) 0 mfl = (mvals G σ 0 mfl).set fk (.int v) := by
        refine List.ext_getElem? fun z => ?_
        cases hbz : mfl[z]? with
        | none =>
          have hlz : mfl.length ≤ z := by simpa using hbz
          rw [List.getElem?_eq_none (by rw [mvals_len]; exact hlz), List.getElem?_eq_none (by rw [List.length_set, mvals_len]; exact hlz)]
        | some bz =>
          rw [mvals_at _ _ mfl 0 z bz hbz]
          by_cases hz : fk = z
          · subst hz
            cases hbz.symm.trans hf
            rw [List.getElem?_set_self hll]
            simp only [Nat.zero_add, uS_at, and_self, if_true]
          · rw [List.getElem?_set_ne hz, mvals_at G σ mfl 0 z bz hbz]
            have hne : ¬ 0 + z = fk := by omega
            cases bz with
            | true => rfl
            | false => simp only [uS_at, hne, false_and, if_false]
      rw [em]
      exact ⟨_, h1, t_OB.to (V := updV (vp_V (mvals G σ 0 mfl)) fk (.int v)) ⟨_, e, q2, q3, t_set q4 hap h4 (.int v)⟩ (fun j _ => vp_updV_set hll (.int v) j)⟩
    · rw [oq _ (a2 kz hkz).2]
      have hne : kz ≠ fk := fun e => by rw [e, hf] at hkz; cases hkz
      have es : uS σ fk 0 v kz = σ kz := funext fun z => by rw [uS_at, if_neg (fun h => hne h.1)]
      rw [es]
      exact hrep.2 kz hkz
  rcases h10 with h10 | ⟨hh, h10⟩
  · exact W.putK hx hb (f := fd) ⟨hown, hts _ h10, ⟨_, _, _, h9 _ _ hts _ hi⟩, hst⟩ (by rw [q2]; exact h6') q1 q3 (by rw [hsl]; exact k2_hasslot (q4 fk h4)) rfl rfl dd fun H' e1 e2 e3 => fin H' e1 e2 e3
  · exact va_WputK hx hb (f := fd) hown (va_Nw.use rfl (hST.2.2.2.2.2.2.2.1 _ h10)) (h9 _ _ hts _ hi) hst (by rw [q2]; exact h6') q1 q3 (by rw [hsl]; exact k2_hasslot (q4 fk h4)) rfl rfl dd fun H' e1 e2 e3 => fin H' e1 e2 e3
theorem s_mldI (hG : gH G = true) (C : CX X G own cc P nL ret n0) (i : Nat) (hr : P[i]? = some (pc, .iaload, len, k, nx)) {fk : Nat} (hf : mfl[fk]? = some true) (hm : mbool fk = false) {j : Int32} {f : Int32 → Option ω} (kk : ∀ v, JS X G nL q sl n0 E (f v) (σ, M, n) (pc + 1) lv (.inl v :: st)) : JS X G nL q sl n0 E (mgA fk j σ f) (σ, M, n) pc lv (.inl j :: .inr (.inl (some (gA G fk))) :: st) := by
  obtain ⟨hx, hb, hml, hown, hts, hK, hlk, hrt, hST, hZ, hn0, hAA, hP, htr⟩ := C
  obtain ⟨dd, c⟩ := bOK_at hP i hr
  obtain ⟨rfl, -⟩ := ck1 (b := 0) c
  intro o ho
  unfold mgA at ho
  by_cases h : j < 0 ∨ mlen fk ≤ j.toNatClampNeg
  · rw [if_pos h] at ho; cases ho
  · rw [if_neg h] at ho
    refine ⟨(kk _ o ho).1, fun H locs hW hS ls hl => ?_⟩
    have hc := (hW.2.2.2.1 hG).1.2 fk hf
    rw [hm] at hc
    have hone : va_P (gD G) kcl [(gA G fk, .inl (gC G 1, mlen fk, .inl (σ fk)))] H := by
      intro z w hw
      cases z with
      | zero => cases hw; exact hc
      | succ z => cases hw
    exact va_iald hx hb hK hone 0 1 rfl rfl h dd ((kk _ o ho).2 H locs hW hS ls hl)
theorem s_mldZ (hG : gH G = true) (C : CX X G own cc P nL ret n0) (i : Nat) (hr : P[i]? = some (pc, .baload, len, k, nx)) {fk : Nat} (hf : mfl[fk]? = some true) (hm : mbool fk = true) {j : Int32} {f : Int32 → Option ω} (kk : ∀ v, JS X G nL q sl n0 E (f v) (σ, M, n) (pc + 1) lv (.inl v :: st)) : JS X G nL q sl n0 E (mgA fk j σ f) (σ, M, n) pc lv (.inl j :: .inr (.inl (some (gA G fk))) :: st) := by
  obtain ⟨hx, hb, hml, hown, hts, hK, hlk, hrt, hST, hZ, hn0, hAA, hP, htr⟩ := C
  obtain ⟨dd, c⟩ := bOK_at hP i hr
  obtain ⟨rfl, -⟩ := ck1 (b := 0) c
  intro o ho
  unfold mgA at ho
  by_cases h : j < 0 ∨ mlen fk ≤ j.toNatClampNeg
  · rw [if_pos h] at ho; cases ho
  · rw [if_neg h] at ho
    refine ⟨(kk _ o ho).1, fun H locs hW hS ls hl => ?_⟩
    have hc := (hW.2.2.2.1 hG).1.2 fk hf
    rw [hm] at hc
    have hone : va_P (gD G) kcl [(gA G fk, .inl (gC G 2, mlen fk, .inl (σ fk)))] H := by
      intro z w hw
      cases z with
      | zero => cases hw; exact hc
      | succ z => cases hw
    exact va_zald hx hb hK hone 0 2 rfl rfl h dd ((kk _ o ho).2 H locs hW hS ls hl)
theorem s_mstI (hG : gH G = true) (C : CX X G own cc P nL ret n0) (i : Nat) (hr : P[i]? = some (pc, .iastore, len, k, nx)) {fk : Nat} (hf : mfl[fk]? = some true) (hm : mbool fk = false) {j v : Int32} {f : Sg → Option ω} (kk : ∀ σ', σ' = uS σ fk j.toNatClampNeg v → JS X G nL q sl n0 E (f σ') (σ', M, n) (pc + 1) lv st) : JS X G nL q sl n0 E (mpA fk j v σ f) (σ, M, n) pc lv (.inl v :: .inl j :: .inr (.inl (some (gA G fk))) :: st) := by
  obtain ⟨hx, hb, hml, hown, hts, hK, hlk, hrt, hST, hZ, hn0, hAA, hP, htr⟩ := C
  obtain ⟨dd, c⟩ := bOK_at hP i hr
  obtain ⟨rfl, -⟩ := ck1 (b := 0) c
  intro o ho
  unfold mpA at ho
  by_cases h : j < 0 ∨ mlen fk ≤ j.toNatClampNeg
  · rw [if_pos h] at ho; cases ho
  · rw [if_neg h] at ho
    obtain ⟨k1, k2⟩ := kk _ rfl o ho
    refine ⟨k1, fun H locs hW hS ls hl => ?_⟩
    obtain ⟨hrep, hk0, hk1⟩ := hW.2.2.2.1 hG
    obtain ⟨a1, a2, a3⟩ := hAA hG
    have hc := hrep.2 fk hf
    rw [hm] at hc
    refine W.iast hx hb hc ((hK.2 1 _ rfl).1 _ (fun z => .int (σ fk z))) (fun z => by cases z) (by show ¬ (j < 0 ∨ (arrV _ _ _).slots.size ≤ _); rw [arrV_size]; exact h) rfl rfl dd fun H1 e z oq => ?_
    have e : H1[gA G fk]? = some ((vp_cell (gC G 1) (mlen fk, .inl (σ fk))).setSlot j.toNatClampNeg (.int v)) := e
    refine k2 H1 _ (hW.setM hG (Or.inr ⟨fk, hf, rfl⟩) oq z ⟨?_, fun kz hkz => ?_⟩) (hS.put z oq (a2 fk hf).1) ls hl
    · have em : mvals G (uS σ fk j.toNatClampNeg v) 0 mfl = mvals G σ 0 mfl := mvals_congr fun z hz => by
        have hne : ¬ 0 + z = fk := fun e => by rw [Nat.zero_add] at e; rw [e, hf] at hz; cases hz
        rw [uS_at, if_neg (fun h => hne h.1)]
      rw [em]
      exact hrep.1.kept (oq _ (Ne.symm (a2 fk hf).2))
    · by_cases hk : kz = fk
      · subst hk
        have es : uS σ kz j.toNatClampNeg v kz = upd (σ kz) j.toNatClampNeg v := funext fun z => by
          by_cases hz : z = j.toNatClampNeg
          · subst hz; simp only [uS_at, upd, and_self, if_true]
          · simp only [uS_at, upd, true_and, hz, if_false]
        rw [es, hm]
        exact cell_i _ _ _ _ _ e
      · have es : uS σ fk j.toNatClampNeg v kz = σ kz := funext fun z => by rw [uS_at, if_neg (fun h => hk h.1)]
        rw [es, oq _ (fun e => hk (a3 kz fk hkz hf e))]
        exact hrep.2 kz hkz

theorem s_mstZ (hG : gH G = true) (C : CX X G own cc P nL ret n0) (i : Nat) (hr : P[i]? = some (pc, .bastore, len, k, nx)) {fk : Nat} (hf : mfl[fk]? = some true) (hm : mbool fk = true) {j v : Int32} {f : Sg → Option ω} (kk : ∀ σ', σ' = uS σ fk j.toNatClampNeg v → JS X G nL q sl n0 E (f σ') (σ', M, n) (pc + 1) lv st) : JS X G nL q sl n0 E (mpZ fk j v σ f) (σ, M, n) pc lv (.inl v :: .inl j :: .inr (.inl (some (gA G fk))) :: st) := by
  obtain ⟨hx, hb, hml, hown, hts, hK, hlk, hrt, hST, hZ, hn0, hAA, hP, htr⟩ := C
  obtain ⟨dd, c⟩ := bOK_at hP i hr
  obtain ⟨rfl, -⟩ := ck1 (b := 0) c
  intro o ho
  unfold mpZ at ho
  by_cases hv : v = 0 ∨ v = 1
  · rw [if_pos hv] at ho
    by_cases h : j < 0 ∨ mlen fk ≤ j.toNatClampNeg
    · rw [if_pos h] at ho; cases ho
    · rw [if_neg h] at ho
      obtain ⟨k1, k2⟩ := kk _ rfl o ho
      refine ⟨k1, fun H locs hW hS ls hl => ?_⟩
      obtain ⟨hrep, hk0, hk1⟩ := hW.2.2.2.1 hG
      obtain ⟨a1, a2, a3⟩ := hAA hG
      have hc := hrep.2 fk hf
      rw [hm] at hc
      refine W.zast hx hb hc ((hK.2 2 _ rfl).1 _ (fun z => .int (σ fk z))) (fun z => by cases z) (by show ¬ (j < 0 ∨ (arrV _ _ _).slots.size ≤ _); rw [arrV_size]; exact h) rfl rfl dd fun H1 e z oq => ?_
      have e : H1[gA G fk]? = some ((vp_cell (gC G 2) (mlen fk, .inl (σ fk))).setSlot j.toNatClampNeg (.int v)) := by rw [e]; rcases hv with rfl | rfl <;> rfl
      refine k2 H1 _ (hW.setM hG (Or.inr ⟨fk, hf, rfl⟩) oq z ⟨?_, fun kz hkz => ?_⟩) (hS.put z oq (a2 fk hf).1) ls hl
      · have em : mvals G (uS σ fk j.toNatClampNeg v) 0 mfl = mvals G σ 0 mfl := mvals_congr fun z hz => by
          have hne : ¬ 0 + z = fk := fun e => by rw [Nat.zero_add] at e; rw [e, hf] at hz; cases hz
          rw [uS_at, if_neg (fun h => hne h.1)]
        rw [em]
        exact hrep.1.kept (oq _ (Ne.symm (a2 fk hf).2))
      · by_cases hk : kz = fk
        · subst hk
          have es : uS σ kz j.toNatClampNeg v kz = upd (σ kz) j.toNatClampNeg v := funext fun z => by
            by_cases hz : z = j.toNatClampNeg
            · subst hz; simp only [uS_at, upd, and_self, if_true]
            · simp only [uS_at, upd, true_and, hz, if_false]
          rw [es, hm]
          exact cell_i _ _ _ _ _ e
        · have es : uS σ fk j.toNatClampNeg v kz = σ kz := funext fun z => by rw [uS_at, if_neg (fun h => hk h.1)]
          rw [es, oq _ (fun e => hk (a3 kz fk hkz hf e))]
          exact hrep.2 kz hkz
  · rw [if_neg hv] at ho; cases ho
/-- the end -/
theorem js_ret {emb : ω → OUT} {r : ω} {rv : Option AV} (C : CX X G own cc P nL ret n0) (hemb : emb r = (.inl rv, (σ, M, n))) (hw : ∀ (H : Heap) (locs : List Loc) (ls : Array Slot) (Qc : Array Value → State → Outcome → State → Prop), (∀ t : State, t.heap = H → X.2.2.2.1.WarmedH t.vm → Qc X.2.2.2.2.2.1 X.2.2.2.1 (.returned (rv.map vv)) t) → (∀ z ∈ locs, gAd G z.base) → W X.1 X.2.1 X.2.2.1 (rm d q (n - n0)) X.2.2.2.1 X.2.2.2.2.1 X.2.2.2.2.2.1 X.2.2.2.2.2.2.1 X.2.2.2.2.2.2.2.1 X.2.2.2.2.2.2.2.2 H locs (n - n0) (0 + q * (n - n0)) (MQ X.2.2.2.2.2.2.1 Qc X.2.2.2.2.2.1 X.2.2.2.1 (n - n0) (0 + q * (n - n0)) (gAd G)) (F0 X.2.2.2.2.1 pc ls (st.map vv))) : JS X G nL q 0 n0 (EM X G n0 d q emb) (some r) (σ, M, n) pc lv st := by
  intro o ho
  cases ho
  unfold EM
  rw [hemb]
  refine ⟨Nat.le_refl _, fun H locs hW hS ls hl => vx_ret (hw H locs ls _ (fun t ht _ => ⟨rv, rfl, rfl, by rw [ht]; exact hW, hS.F ht⟩) hS.2.2)⟩
theorem s_iret {emb : ω → OUT} (C : CX X G own cc P nL (some .int) n0) (i : Nat) (hr : P[i]? = some (pc, .ireturn, len, k, nx)) {v : Int32} {r : ω} (hemb : emb r = (.inl (some (.inl v)), (σ, M, n))) : JS X G nL q 0 n0 (EM X G n0 d q emb) (some r) (σ, M, n) pc lv [.inl v] := by
  obtain ⟨hx, hb, hml, hown, hts, hK, hlk, hrt, hST, hZ, hn0, hAA, hP, htr⟩ := id C
  obtain ⟨dd, c⟩ := bOK_at hP i hr
  obtain ⟨rfl, -⟩ := ck1 (b := 0) c
  exact js_ret C hemb fun H locs ls Qc hq hf => W.iret hx hb hrt hq hf dd hlk
theorem s_zret {emb : ω → OUT} (C : CX X G own cc P nL (some .boolean) n0) (i : Nat) (hr : P[i]? = some (pc, .ireturn, len, k, nx)) {v : Int32} {r : ω} (hemb : emb r = (.inl (some (.inl v)), (σ, M, n))) : JS X G nL q 0 n0 (EM X G n0 d q emb) (rZ v (some r)) (σ, M, n) pc lv [.inl v] := by
  obtain ⟨hx, hb, hml, hown, hts, hK, hlk, hrt, hST, hZ, hn0, hAA, hP, htr⟩ := id C
  obtain ⟨dd, c⟩ := bOK_at hP i hr
  obtain ⟨rfl, -⟩ := ck1 (b := 0) c
  unfold rZ
  by_cases h : v = 0 ∨ v = 1
  · rw [if_pos h]
    exact js_ret C hemb fun H locs ls Qc hq hf => W.zret hx hb hrt (by rcases h with rfl | rfl <;> decide) hq hf dd hlk
  · rw [if_neg h]; exact fun o ho => by cases ho
theorem s_cret {emb : ω → OUT} (C : CX X G own cc P nL (some .char) n0) (i : Nat) (hr : P[i]? = some (pc, .ireturn, len, k, nx)) {v : Int32} {r : ω} (hemb : emb r = (.inl (some (.inl v)), (σ, M, n))) : JS X G nL q 0 n0 (EM X G n0 d q emb) (rC v (some r)) (σ, M, n) pc lv [.inl v] := by
  obtain ⟨hx, hb, hml, hown, hts, hK, hlk, hrt, hST, hZ, hn0, hAA, hP, htr⟩ := id C
  obtain ⟨dd, c⟩ := bOK_at hP i hr
  obtain ⟨rfl, -⟩ := ck1 (b := 0) c
  unfold rC
  by_cases h : (v.toUInt32 % 65536).toInt32 = v
  · rw [if_pos h]
    exact js_ret C hemb fun H locs ls Qc hq hf => W.zret hx hb hrt (by have e := pk_nc v; rw [h] at e; exact e) hq hf dd hlk
  · rw [if_neg h]; exact fun o ho => by cases ho
theorem s_aret {emb : ω → OUT} {rt : FieldType} (hrt' : (∃ n, rt = .object n) ∨ ∃ t, rt = .array t) (C : CX X G own cc P nL (some rt) n0) (i : Nat) (hr : P[i]? = some (pc, .areturn, len, k, nx)) {v : Option Nat} {r : ω} (hemb : emb r = (.inl (some (.inr (.inl v))), (σ, M, n))) : JS X G nL q 0 n0 (EM X G n0 d q emb) (some r) (σ, M, n) pc lv [.inr (.inl v)] := by
  obtain ⟨hx, hb, hml, hown, hts, hK, hlk, hrt, hST, hZ, hn0, hAA, hP, htr⟩ := id C
  obtain ⟨dd, c⟩ := bOK_at hP i hr
  obtain ⟨rfl, -⟩ := ck1 (b := 0) c
  exact js_ret C hemb fun H locs ls Qc hq hf => W.aret hx hb hrt hrt' (by cases v with | none => exact Or.inl rfl | some a => exact Or.inr ⟨a, rfl⟩) hq hf dd hlk
theorem s_vret {emb : ω → OUT} (C : CX X G own cc P nL none n0) (i : Nat) (hr : P[i]? = some (pc, .return_, len, k, nx)) {r : ω} (hemb : emb r = (.inl none, (σ, M, n))) : JS X G nL q 0 n0 (EM X G n0 d q emb) (some r) (σ, M, n) pc lv [] := by
  obtain ⟨hx, hb, hml, hown, hts, hK, hlk, hrt, hST, hZ, hn0, hAA, hP, htr⟩ := id C
  obtain ⟨dd, c⟩ := bOK_at hP i hr
  obtain ⟨rfl, -⟩ := ck1 (b := 0) c
  exact js_ret C hemb fun H locs ls Qc hq hf => W.vret hx hb hrt hq hf dd hlk
end MW

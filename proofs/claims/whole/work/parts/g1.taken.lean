set_option maxRecDepth 100000
/-! all parts of an object stored: both sides -/
section TK
variable {h c n r : Nat} {own : Nat → Nat} {B : BK} {σ σ' τ : Sg} {M M' : Mm}
def tkS (τ : Sg) (r : Nat) (g : Nat → Int32) (C : CS) : Nat → Sg
  | 0 => τ
  | q + 1 => (stP (tkS τ r g C q) r (C.2.2.1 q) (C.2.2.2 q) g).2
def pnS (τ : Sg) (r : Nat) (g : Nat → Int32) (C : CS) (q : Nat) : Nat := (stP (tkS τ r g C q) r (C.2.2.1 q) (C.2.2.2 q) g).1
theorem tkS_S {g : Nat → Int32} {C : CS} {q : Nat} : tkS τ r g C (q + 1) = (stP (tkS τ r g C q) r (C.2.2.1 q) (C.2.2.2 q) g).2 := rfl
theorem fstF_all {p : Nat → Bool} : ∀ {d i : Nat}, fstF p i d = none → ∀ j, i ≤ j → j < i + d → p j = false := by
  intro d
  induction d with
  | zero => intro i _ j h1 h2; omega
  | succ d ih =>
    intro i e j h1 h2
    rw [fstF_S] at e
    by_cases z : p i = true
    · rw [if_pos z] at e; cases e
    · rw [if_neg z] at e
      by_cases w : j = i
      · rw [w]; exact Bool.eq_false_iff.mpr z
      · exact ih e j (by omega) (by omega)
theorem cntF_mono {p : Nat → Bool} {i : Nat} : ∀ {e d : Nat}, cntF p i d ≤ cntF p i (d + e) := by
  intro e
  induction e with
  | zero => intro d; exact Nat.le_refl _
  | succ e ih =>
    intro d
    show _ ≤ cntF p i (d + e + 1)
    rw [cntF_up]
    have := ih (d := d)
    omega
theorem smB_iff {g : Nat → Int32} {C : CS} {x y : Nat} : smB g C x y = true ↔ C.2.2.2 x = C.2.2.2 y ∧ ∀ j, j < C.2.2.2 x → g (C.2.2.1 x + j) = g (C.2.2.1 y + j) := by
  unfold smB
  rw [Bool.and_eq_true, decide_eq_true_eq, allF_iff]
  constructor
  · rintro ⟨a, b⟩
    exact ⟨a, fun j hj => of_decide_eq_true (b j (Nat.zero_le j) (by omega))⟩
  · rintro ⟨a, b⟩
    exact ⟨a, fun j _ hj => decide_eq_true (b j (by omega))⟩
def TKI (r : Nat) (g : Nat → Int32) (C : CS) (τ : Sg) (τ' : Sg) (pn : Nat → Nat) (q : Nat) : Prop := (PQ τ') ∧
  (∀ p0, p0 < nv (τ' 18 r) → nv (τ' 20 (90 * r + p0)) = (if p0 < nv (τ 18 r) then nv (τ 20 (90 * r + p0)) else 0) + cntF (fun o => decide (pn o = p0)) 0 q) ∧
  (∀ r0, r0 < 2 → r0 ≠ r → τ' 18 r0 = τ 18 r0 ∧ ∀ p0, p0 < nv (τ 18 r0) → nv (τ' 20 (90 * r0 + p0)) = nv (τ 20 (90 * r0 + p0))) ∧
  (∀ o, o < q → pn o < nv (τ' 18 r) ∧ fnB τ' r g (C.2.2.1 o) (C.2.2.2 o) (pn o) = true) ∧
  (∀ r0, r0 < 2 → ∀ p0, p0 < nv (τ 18 r0) → τ' 19 (90 * r0 + p0) = τ 19 (90 * r0 + p0) ∧ τ' 21 (90 * r0 + p0) = τ 21 (90 * r0 + p0) ∧ ∀ j, j < 6 → τ' 22 (6 * (90 * r0 + p0) + j) = τ 22 (6 * (90 * r0 + p0) + j)) ∧
  (nv (τ 18 r) ≤ nv (τ' 18 r) ∧ nv (τ' 18 r) ≤ nv (τ 18 r) + cntF (nwp τ r g C) 0 q) ∧
  (∀ k, k < 18 ∨ 25 < k → τ' k = τ k)
theorem TKI.pq {r : Nat} {g : Nat → Int32} {C : CS} {τ : Sg} {τ' : Sg} {pn : Nat → Nat} {q : Nat} (Z : TKI r g C τ τ' pn q) : PQ τ' := Z.1
theorem TKI.ct {r : Nat} {g : Nat → Int32} {C : CS} {τ : Sg} {τ' : Sg} {pn : Nat → Nat} {q : Nat} (Z : TKI r g C τ τ' pn q) : ∀ p0, p0 < nv (τ' 18 r) → nv (τ' 20 (90 * r + p0)) = (if p0 < nv (τ 18 r) then nv (τ 20 (90 * r + p0)) else 0) + cntF (fun o => decide (pn o = p0)) 0 q := Z.2.1
theorem TKI.oc {r : Nat} {g : Nat → Int32} {C : CS} {τ : Sg} {τ' : Sg} {pn : Nat → Nat} {q : Nat} (Z : TKI r g C τ τ' pn q) : ∀ r0, r0 < 2 → r0 ≠ r → τ' 18 r0 = τ 18 r0 ∧ ∀ p0, p0 < nv (τ 18 r0) → nv (τ' 20 (90 * r0 + p0)) = nv (τ 20 (90 * r0 + p0)) := Z.2.2.1
theorem TKI.fn {r : Nat} {g : Nat → Int32} {C : CS} {τ : Sg} {τ' : Sg} {pn : Nat → Nat} {q : Nat} (Z : TKI r g C τ τ' pn q) : ∀ o, o < q → pn o < nv (τ' 18 r) ∧ fnB τ' r g (C.2.2.1 o) (C.2.2.2 o) (pn o) = true := Z.2.2.2.1
theorem TKI.ol {r : Nat} {g : Nat → Int32} {C : CS} {τ : Sg} {τ' : Sg} {pn : Nat → Nat} {q : Nat} (Z : TKI r g C τ τ' pn q) : ∀ r0, r0 < 2 → ∀ p0, p0 < nv (τ 18 r0) → τ' 19 (90 * r0 + p0) = τ 19 (90 * r0 + p0) ∧ τ' 21 (90 * r0 + p0) = τ 21 (90 * r0 + p0) ∧ ∀ j, j < 6 → τ' 22 (6 * (90 * r0 + p0) + j) = τ 22 (6 * (90 * r0 + p0) + j) := Z.2.2.2.2.1
theorem TKI.n18 {r : Nat} {g : Nat → Int32} {C : CS} {τ : Sg} {τ' : Sg} {pn : Nat → Nat} {q : Nat} (Z : TKI r g C τ τ' pn q) : nv (τ 18 r) ≤ nv (τ' 18 r) ∧ nv (τ' 18 r) ≤ nv (τ 18 r) + cntF (nwp τ r g C) 0 q := Z.2.2.2.2.2.1
theorem TKI.nk {r : Nat} {g : Nat → Int32} {C : CS} {τ : Sg} {τ' : Sg} {pn : Nat → Nat} {q : Nat} (Z : TKI r g C τ τ' pn q) : ∀ k, k < 18 ∨ 25 < k → τ' k = τ k := Z.2.2.2.2.2.2
theorem tk_room {g : Nat → Int32} {C : CS} {τ' : Sg} {pn : Nat → Nat} {q : Nat} (I : TKI r g C τ τ' pn q) (hr : r < 2) (hl : ∀ o, o ≤ q → C.2.2.2 o ≤ 6) (Q : PQ τ) (he : fnd τ' r g (C.2.2.1 q) (C.2.2.2 q) = none) : nwp τ r g C q = true := by
  have al := fstF_all (show fstF (fnB τ' r g (C.2.2.1 q) (C.2.2.2 q)) 0 (nv (τ' 18 r)) = none from he)
  unfold nwp
  rw [Bool.and_eq_true]
  constructor
  · cases hf : fnd τ r g (C.2.2.1 q) (C.2.2.2 q) with
    | none => rfl
    | some p =>
      exfalso
      have hp := fstF_lt (show fstF (fnB τ r g (C.2.2.1 q) (C.2.2.2 q)) 0 (nv (τ 18 r)) = some p from hf)
      obtain ⟨a, b, d⟩ := fnB_iff.mp hp.2.2
      obtain ⟨o1, o2, o3⟩ := I.ol r hr p (by omega)
      have l6 := hl q (Nat.le_refl q)
      have t : fnB τ' r g (C.2.2.1 q) (C.2.2.2 q) p = true := fnB_iff.mpr ⟨by rw [o1]; exact a, by rw [o2]; exact b, fun j hj => by rw [o3 j (by omega)]; exact d j hj⟩
      have := al p (Nat.zero_le p) (by have := I.n18.1; omega)
      rw [t] at this; cases this
  · cases hf : fstF (fun o => smB g C o q) 0 q with
    | none => rfl
    | some o =>
      exfalso
      have ho := fstF_lt hf
      obtain ⟨s1, s2⟩ := smB_iff.mp ho.2.2
      obtain ⟨f1, f2⟩ := I.fn o (by omega)
      obtain ⟨a, b, d⟩ := fnB_iff.mp f2
      have t : fnB τ' r g (C.2.2.1 q) (C.2.2.2 q) (pn o) = true := fnB_iff.mpr ⟨a, by rw [b]; exact s1, fun j hj => by rw [d j (by omega)]; exact s2 j (by omega)⟩
      have := al (pn o) (Nat.zero_le _) (by omega)
      rw [t] at this; cases this
theorem tk_inv {m : Nat} {g : Nat → Int32} {C : CS} (Q : PQ τ) (hr : r < 2) (K : CIN C m) (hg : ∀ j, j < m → NB 15 (g j)) (room : nv (τ 18 r) + cntF (nwp τ r g C) 0 C.1 ≤ 90) (h780 : ∀ p, p < nv (τ 18 r) → nv (τ 20 (90 * r + p)) ≤ 780) : ∀ q, q ≤ C.1 → TKI r g C τ (tkS τ r g C q) (pnS τ r g C) q ∧ (q < C.1 → (fnd (tkS τ r g C q) r g (C.2.2.1 q) (C.2.2.2 q) = none → nv (tkS τ r g C q 18 r) < 90) ∧ ∀ p, p < nv (tkS τ r g C q 18 r) → nv (tkS τ r g C q 20 (90 * r + p)) < 800) := by
  have c20 := K.1
  have nxt : ∀ q, q ≤ C.1 → TKI r g C τ (tkS τ r g C q) (pnS τ r g C) q → (q < C.1 → (fnd (tkS τ r g C q) r g (C.2.2.1 q) (C.2.2.2 q) = none → nv (tkS τ r g C q 18 r) < 90) ∧ ∀ p, p < nv (tkS τ r g C q 18 r) → nv (tkS τ r g C q 20 (90 * r + p)) < 800) := fun q _ I hq => by
    refine ⟨fun e => ?_, fun p hp => ?_⟩
    · have nw := tk_room I hr (fun o ho => (K.2 o (by omega)).2.2) Q e
      have u : cntF (nwp τ r g C) 0 (q + 1) = cntF (nwp τ r g C) 0 q + 1 := by rw [cntF_up, Nat.zero_add, if_pos nw]
      have mo := cntF_mono (p := nwp τ r g C) (i := 0) (d := q + 1) (e := C.1 - (q + 1))
      rw [show q + 1 + (C.1 - (q + 1)) = C.1 by omega] at mo
      have := I.n18.2
      omega
    · rw [I.ct p hp]
      have cl : cntF (fun o => decide (pnS τ r g C o = p)) 0 q ≤ q := cntF_le
      by_cases z : p < nv (τ 18 r)
      · rw [if_pos z]
        have := h780 p z
        omega
      · rw [if_neg z]; omega
  have inv : ∀ q, q ≤ C.1 → TKI r g C τ (tkS τ r g C q) (pnS τ r g C) q := by
    intro q
    induction q with
    | zero =>
      intro _
      refine ⟨Q, fun p0 hp0 => (by have w : p0 < nv (τ 18 r) := hp0; rw [if_pos w]; rfl), fun r0 _ _ => ⟨rfl, fun _ _ => rfl⟩, fun o ho => by omega, fun r0 _ p0 _ => ⟨rfl, rfl, fun _ _ => rfl⟩, ⟨Nat.le_refl _, Nat.le_refl _⟩, fun _ _ => rfl⟩
    | succ q ih =>
      intro hq
      have I := ih (by omega)
      obtain ⟨n1, n2⟩ := nxt q (by omega) I (by omega)
      obtain ⟨k1, k2, k3⟩ := K.2 q (by omega)
      have S := stP_stf I.pq hr k2 k3 (fun j hj => hg _ (by omega)) n1 n2
      have i18 := I.n18
      have s18 := S.n18
      have le1 : nv (tkS τ r g C q 18 r) ≤ nv (tkS τ r g C (q + 1) 18 r) := by
        rw [tkS_S, s18]
        by_cases z : (fnd (tkS τ r g C q) r g (C.2.2.1 q) (C.2.2.2 q)).isSome = true
        · rw [if_pos z]; omega
        · rw [if_neg z]; omega
      refine ⟨S.pq, fun p0 hp0 => ?_, fun r0 hr0 h0 => ?_, fun o ho => ?_, fun r0 hr0 p0 hp0 => ?_, ⟨by omega, ?_⟩, fun k hk => (S.nk k hk).trans (I.nk k hk)⟩
      · rw [tkS_S] at hp0 ⊢
        rw [S.ct r hr p0 hp0, cntF_up, Nat.zero_add]
        have e : (if r = r ∧ p0 = (stP (tkS τ r g C q) r (C.2.2.1 q) (C.2.2.2 q) g).1 then 1 else 0) = (if decide (pnS τ r g C q = p0) = true then 1 else 0) := by
          by_cases z : p0 = (stP (tkS τ r g C q) r (C.2.2.1 q) (C.2.2.2 q) g).1
          · rw [if_pos ⟨rfl, z⟩, if_pos (show decide (pnS τ r g C q = p0) = true from decide_eq_true z.symm)]
          · rw [if_neg (fun w => z w.2), if_neg (by rw [decide_eq_true_eq]; exact fun w => z w.symm)]
        rw [e]
        by_cases z : p0 < nv (tkS τ r g C q 18 r)
        · rw [if_pos z, I.ct p0 z]; omega
        · rw [if_neg z, if_neg (show ¬ p0 < nv (τ 18 r) by omega)]
          have no : cntF (fun o => decide (pnS τ r g C o = p0)) 0 q = 0 := by
            have al : ∀ d, d ≤ q → cntF (fun o => decide (pnS τ r g C o = p0)) 0 d = 0 := by
              intro d
              induction d with
              | zero => intro _; rfl
              | succ d ih2 =>
                intro hd
                rw [cntF_up, ih2 (by omega), Nat.zero_add, if_neg]
                rw [decide_eq_true_eq]
                intro w
                rw [Nat.zero_add] at w
                have := (I.fn d (by omega)).1
                omega
            exact al q (Nat.le_refl q)
          rw [no]; omega
      · obtain ⟨a1, a2⟩ := I.oc r0 hr0 h0
        rw [tkS_S]
        refine ⟨(S.o18 r0 h0).trans a1, fun p0 hp0 => ?_⟩
        rw [S.ct r0 hr0 p0 (by rw [S.o18 r0 h0, a1]; exact hp0), a1, if_pos hp0, if_neg (fun w => h0 w.1), a2 p0 hp0, Nat.add_zero]
      · by_cases z : o = q
        · subst z
          exact ⟨S.pl, S.fn⟩
        · obtain ⟨a1, a2⟩ := I.fn o (by omega)
          refine ⟨by omega, ?_⟩
          obtain ⟨b1, b2, b3⟩ := fnB_iff.mp a2
          obtain ⟨o1, o2, o3⟩ := S.ol r hr _ a1
          have l6 := (K.2 o (by omega)).2.2
          rw [tkS_S]
          exact fnB_iff.mpr ⟨by rw [o1]; exact b1, by rw [o2]; exact b2, fun j hj => by rw [o3 j (by omega)]; exact b3 j hj⟩
      · obtain ⟨a1, a2, a3⟩ := I.ol r0 hr0 p0 hp0
        have hp1 : p0 < nv (tkS τ r g C q 18 r0) := by
          by_cases z : r0 = r
          · subst z; omega
          · rw [(I.oc r0 hr0 z).1]; exact hp0
        obtain ⟨b1, b2, b3⟩ := S.ol r0 hr0 p0 hp1
        rw [tkS_S]
        exact ⟨b1.trans a1, b2.trans a2, fun j hj => (b3 j hj).trans (a3 j hj)⟩
      · rw [tkS_S, s18]
        by_cases z : (fnd (tkS τ r g C q) r g (C.2.2.1 q) (C.2.2.2 q)).isSome = true
        · rw [if_pos z]
          have := cntF_mono (p := nwp τ r g C) (i := 0) (d := q) (e := 1)
          omega
        · rw [if_neg z]
          have en : fnd (tkS τ r g C q) r g (C.2.2.1 q) (C.2.2.2 q) = none := by
            cases hf : fnd (tkS τ r g C q) r g (C.2.2.1 q) (C.2.2.2 q) with
            | none => rfl
            | some p => rw [hf] at z; exact absurd rfl z
          have nw := tk_room I hr (fun o ho => (K.2 o (by omega)).2.2) Q en
          rw [cntF_up, Nat.zero_add, if_pos nw]; omega
  exact fun q hq => ⟨inv q hq, nxt q hq (inv q hq)⟩
/-- a write to the row in the making -/
theorem RR.wry {y q : Nat} {v : Int32} (R : RR h own B τ M n) (hr : r < 2) (oy : own y = 18 + r) (ap : ∀ i, i < nv (τ 26 r) → ve B r i ≠ y ∧ ve B r i + 1 ≠ y) : RR h own B τ (uI M 0 y q v) n := by
  have f : FRM (fun t => t = 18 + r) own M own (uI M 0 y q v) := (IOS.uI _ _ _ _).frm fun cc a z _ => by rw [z.2]; exact oy
  have hvo : ∀ r0, r0 < 2 → ∀ i, i < nv (τ 26 r0) → VEC own (uI M 0 y q v) (ve B r0 i) r0 (en B (nv (τ 27 (40 * r0 + i)))) (nv (τ 33 (40 * r0 + i))) (τ 30 (40 * r0 + i)) (τ 31 (40 * r0 + i)) (τ 32 (40 * r0 + i)) (fun q => τ 34 (20 * (40 * r0 + i) + q)) := fun r0 hr0 i hi => by
    by_cases z : r0 = r
    · subst z
      have V := R.vo r0 hr0 i hi
      obtain ⟨a1, a2⟩ := ap i hi
      exact ⟨V.b.keep fun a o => ⟨rfl, rfl, rfl, fun _ _ => rfl⟩, (mI_uI_a _ _ _ _ a1 _ _).trans V.lv, (mI_uI_a _ _ _ _ a1 _ _).trans V.lk, (mI_uI_a _ _ _ _ a1 _ _).trans V.ak, fun q' hq' => (mI_uI_a _ _ _ _ a2 _ _).trans (V.pt q' hq')⟩
    · exact R.k_vo f hr0 (by omega) i hi
  exact ⟨R.fr, R.k_em f, R.k_hb f, R.k_rg f, R.k_nm f (by first | omega | (intro z; dsimp only at z; omega)), R.k_dy f (by first | omega | (intro z; dsimp only at z; omega)), R.k_dm f (by first | omega | (intro z; dsimp only at z; omega)), R.k_db f (by first | omega | (intro z; dsimp only at z; omega)), R.k_nb f (by first | omega | (intro z; dsimp only at z; omega)), R.k_co f (by first | omega | (intro z; dsimp only at z; omega)), fun r0 hr0 => R.k_up f hr0 (by first | omega | (intro z; dsimp only at z; omega)), fun r0 hr0 => R.k_hd f hr0 (by first | omega | (intro z; dsimp only at z; omega)), R.k_en f (by first | omega | (intro z; dsimp only at z; omega)), fun r0 hr0 => R.k_vl f hr0 (by first | omega | (intro z; dsimp only at z; omega)), hvo, fun r0 hr0 => R.k_kl f hr0 (by first | omega | (intro z; dsimp only at z; omega)), fun r0 hr0 => R.k_pl f hr0 (by first | omega | (intro z; dsimp only at z; omega)), fun r0 hr0 => R.k_po f hr0 (by first | omega | (intro z; dsimp only at z; omega)), R.k_us f (by first | omega | (intro z; dsimp only at z; omega)), fun u0 hu0 => R.k_uo f hu0 (by first | omega | (intro z; dsimp only at z; omega)), R.k_rs f (by first | omega | (intro z; dsimp only at z; omega)), R.k_ro f (by first | omega | (intro z; dsimp only at z; omega))⟩
/-- places that keep what they hold, but the row in the making -/
def FRY (r y : Nat) (own : Nat → Nat) (M : Mm) (own' : Nat → Nat) (M' : Mm) : Prop := ∀ a, own a ≠ 0 → own' a = own a ∧ (¬ (own a = 26 + r ∨ own a = 10 + r ∨ own a = 20 + r) → mK M' a = mK M a ∧ mL M' a = mL M a ∧ (∀ cc j, mP M' cc a j = mP M cc a j) ∧ (a ≠ y → ∀ cc j, mI M' cc a j = mI M cc a j))
theorem FRY.refl {y : Nat} : FRY r y own M own M := fun a _ => ⟨rfl, fun _ => ⟨rfl, rfl, fun _ _ => rfl, fun _ _ _ => rfl⟩⟩
theorem FRY.trans {y : Nat} {own' own2 : Nat → Nat} {M2 : Mm} (f : FRY r y own M own' M') (g : FRY r y own' M' own2 M2) : FRY r y own M own2 M2 := fun a ha => by
  obtain ⟨f1, f2⟩ := f a ha
  obtain ⟨g1, g2⟩ := g a (by rw [f1]; exact ha)
  refine ⟨g1.trans f1, fun hn => ?_⟩
  obtain ⟨a1, a2, a3, a4⟩ := f2 hn
  obtain ⟨b1, b2, b3, b4⟩ := g2 (by rw [f1]; exact hn)
  exact ⟨b1.trans a1, b2.trans a2, fun cc j => (b3 cc j).trans (a3 cc j), fun hy cc j => (b4 hy cc j).trans (a4 hy cc j)⟩
theorem FRY.of {y : Nat} {own' : Nat → Nat} (f : FRM (fun t => t = 26 + r ∨ t = 10 + r ∨ t = 20 + r) own M own' M') : FRY r y own M own' M' := fun a ha => by
  obtain ⟨f1, f2, -⟩ := f a ha
  exact ⟨f1, fun hn => by obtain ⟨a1, a2, a3, a4⟩ := f2 hn; exact ⟨a1, a2, a3, fun _ => a4⟩⟩
theorem FRY.wr {y q : Nat} {v : Int32} : FRY r y own M own (uI M 0 y q v) := fun a _ => ⟨rfl, fun _ => ⟨rfl, rfl, fun _ _ => rfl, fun hy cc j => mI_uI_a _ _ _ _ hy _ _⟩⟩
theorem BY.fry {b t m y : Nat} {g : Nat → Int32} {own' : Nat → Nat} (Y : BY own M b t m g) (t0 : t ≠ 0) (h1 : t ≠ 26 + r) (h2 : t ≠ 10 + r) (h3 : t ≠ 20 + r) (hy : b ≠ y) (hy1 : b + 1 ≠ y) (f : FRY r y own M own' M') : BY own' M' b t m g := by
  obtain ⟨a1, a2⟩ := f b (by rw [Y.b.o]; exact t0)
  obtain ⟨b1, b2⟩ := f (b + 1) (by rw [Y.b.ro]; exact t0)
  rw [Y.b.o] at a2
  rw [Y.b.ro] at b2
  obtain ⟨c1, c2, c3, c4⟩ := a2 (by omega)
  obtain ⟨d1, d2, d3, d4⟩ := b2 (by omega)
  exact ⟨⟨c1.trans Y.b.k, (c3 _ _).trans Y.b.p, d1.trans Y.b.rk, d2.trans Y.b.rl, a1.trans Y.b.o, b1.trans Y.b.ro⟩, (c4 hy _ _).trans Y.ma, fun j hj => (d4 hy1 _ _).trans (Y.by j hj)⟩
theorem c_take_l {b t m y : Nat} {g : Nat → Int32} {C : CS} (Q : PQ τ) (hr : r < 2) (t0 : t ≠ 0) (ht1 : t ≠ 26 + r) (ht2 : t ≠ 10 + r) (ht3 : t ≠ 20 + r) (h40 : m ≤ 40) (K : CIN C m) (hg : ∀ j, j < m → NB 15 (g j)) (room : nv (τ 18 r) + cntF (nwp τ r g C) 0 C.1 ≤ 90) (h780 : ∀ p, p < nv (τ 18 r) → nv (τ 20 (90 * r + p)) ≤ 780) (by1 : b ≠ y) (by2 : b + 1 ≠ y) (yz : y < gr h r + 4 ∨ gr h r + 6 < y) : ∀ d q f (own : Nat → Nat) (B : BK) (M : Mm) n, d + q = C.1 → d < f → RR h own B (tkS τ r g C q) M n → BY own M b t m g → CUR M (gr h r) C → mK M y = 21 → mL M y = C.1 → own y = 18 + r → (∀ i, i < nv (τ 26 r) → ve B r i ≠ y ∧ ve B r i + 1 ≠ y) → (∀ o, o < q → mI M 0 y o = i3 (pnS τ r g C o)) → ∃ own' B' M' n', fStore_takeIn_l24 (gr h r + 1) f (some b) (some y) (i3 q) M n = some (.inl (some y), M', n') ∧ n ≤ n' ∧ n' + 6 * nv (tkS τ r g C q 18 r) ≤ n + 6 * nv (tkS τ r g C C.1 18 r) ∧ RR h own' B' (tkS τ r g C C.1) M' n' ∧ FRY r y own M own' M' ∧ B'.1 = B.1 ∧ B'.2.1 = B.2.1 ∧ B'.2.2.2 = B.2.2.2 ∧ ∀ o, o < C.1 → mI M' 0 y o = i3 (pnS τ r g C o) := by
  have c20 := K.1
  intro d
  induction d with
  | zero =>
    intro q f own B M n hd hf R Y u ky ly oy ap el
    obtain ⟨f', rfl⟩ : ∃ f', f = f' + 1 := ⟨f - 1, by omega⟩
    have hq : q = C.1 := by omega
    subst hq
    refine ⟨own, B, M, n, ?_, Nat.le_refl n, by omega, R, FRY.refl, rfl, rfl, rfl, el⟩
    rw [fStore_takeIn_l24_S, fStore_takeIn_b24_E, aln_i ky (by decide) (by decide), ly, if_pos ((i3_le (by omega) (by omega)).mpr (Nat.le_refl _))]
  | succ d ih =>
    intro q f own B M n hd hf R Y u ky ly oy ap el
    obtain ⟨f', rfl⟩ : ∃ f', f = f' + 1 := ⟨f - 1, by omega⟩
    obtain ⟨I, nx⟩ := tk_inv Q hr K hg room h780 q (by omega)
    obtain ⟨n1, n2⟩ := nx (by omega)
    obtain ⟨own1, B1, M1, m1', e1, e2, e3, R1, f1, v1, b1, b2, b3⟩ := sto_i R I.pq hr Y t0 h40 hg u K (q := q) (by omega) n1 n2 ky ly c20 (by omega) (by rw [oy]; omega) (by rw [oy]; omega) (by rw [oy]; omega) (by rw [oy]; omega)
    have S := stP_stf I.pq hr (K.2 q (by omega)).2.1 (K.2 q (by omega)).2.2 (fun j hj => hg _ (by have := (K.2 q (by omega)).1; omega)) n1 n2
    have s18 := S.n18
    rw [← tkS_S] at R1 s18
    have oy1 : own1 y = 18 + r := (f1.dyO oy (by omega) (by omega)).trans oy
    have ap1 : ∀ i, i < nv (tkS τ r g C (q + 1) 26 r) → ve B1 r i ≠ y ∧ ve B1 r i + 1 ≠ y := fun i hi => by
      have e26 : tkS τ r g C (q + 1) 26 = τ 26 := (tk_inv Q hr K hg room h780 (q + 1) (by omega)).1.nk 26 (Or.inr (by decide))
      rw [e26] at hi
      have : ve B1 r i = ve B r i := by unfold ve; rw [b1]
      rw [this]; exact ap i hi
    have R2 := R1.wry (q := q) (v := i3 (pnS τ r g C q)) hr oy1 ap1
    have fy : FRY r y own M own1 (uI M1 0 y q (i3 (pnS τ r g C q))) := (FRY.of f1).trans FRY.wr
    have Y2 := Y.fry t0 ht1 ht2 ht3 by1 by2 fy
    have u2 : CUR (uI M1 0 y q (i3 (pnS τ r g C q))) (gr h r) C := by
      have s4 := v1 (gr h r + 4) (by omega) (by omega)
      have s5 := v1 (gr h r + 5) (by omega) (by omega)
      have s6 := v1 (gr h r + 6) (by omega) (by omega)
      refine ⟨?_, fun x hx => ⟨?_, ?_⟩⟩
      · rw [mI_uI_c _ _ _ _ (by decide), s4.2.2.2]; exact u.1
      · rw [mI_uI_a _ _ _ _ (by omega), s5.2.2.2]; exact (u.2 x hx).1
      · rw [mI_uI_a _ _ _ _ (by omega), s6.2.2.2]; exact (u.2 x hx).2
    have ky2 : mK (uI M1 0 y q (i3 (pnS τ r g C q))) y = 21 := (f1.dyK oy (by omega) (by omega)).trans ky
    have ly2 : mL (uI M1 0 y q (i3 (pnS τ r g C q))) y = C.1 := (f1.dyL oy (by omega) (by omega)).trans ly
    have el2 : ∀ o, o < q + 1 → mI (uI M1 0 y q (i3 (pnS τ r g C q))) 0 y o = i3 (pnS τ r g C o) := fun o ho => by
      by_cases z : o = q
      · subst z; rw [mI_uI_e]
      · rw [mI_uI_j _ _ _ _ z, f1.dyI oy (by omega) (by omega)]; exact el o (by omega)
    have ap2 : ∀ i, i < nv (τ 26 r) → ve B1 r i ≠ y ∧ ve B1 r i + 1 ≠ y := fun i hi => by
      have : ve B1 r i = ve B r i := by unfold ve; rw [b1]
      rw [this]; exact ap i hi
    obtain ⟨own2, B2, M2, m2', g1, g2, g3, g4, g5, g6, g7, g8, g9⟩ := ih (q + 1) f' own1 B1 _ m1' (by omega) (by omega) R2 Y2 u2 ky2 ly2 oy1 ap2 el2
    refine ⟨own2, B2, M2, m2', ?_, by omega, ?_, g4, fy.trans g5, g6.trans b1, g7.trans b2, g8.trans b3, g9⟩
    · rw [e1 f']; exact g1
    · by_cases z : (fnd (tkS τ r g C q) r g (C.2.2.1 q) (C.2.2.2 q)).isSome = true
      · rw [if_pos z] at e3 s18; omega
      · rw [if_neg z] at e3 s18; omega
/-- the check's loop -/
theorem m_take_l {m to : Nat} {g : Nat → Int32} {C : CS} (Q : PQ τ) (hr : r < 2) (h40 : m ≤ 40) (K : CIN C m) (hg : ∀ j, j < m → NB 15 (g j)) (room : nv (τ 18 r) + cntF (nwp τ r g C) 0 C.1 ≤ 90) (h780 : ∀ p, p < nv (τ 18 r) → nv (τ 20 (90 * r + p)) ≤ 780) (hto : to < 80) {σA : Sg} (A : ∀ j, j < m → σA 4 j = g j) (u : ∀ q, q < C.1 → σA 6 q = i3 (C.2.2.1 q) ∧ σA 7 q = i3 (C.2.2.2 q)) (e33 : σA 33 to = i3 C.1) : ∀ d q f (σ : Sg), d + q = C.1 → d < f → PFE σ (tkS τ r g C q) → (∀ k, k < 18 ∨ 25 < k → k ≠ 34 → σ k = σA k) → (∀ j, σ 34 j = if 20 * to ≤ j ∧ j < 20 * to + q then i3 (pnS τ r g C (j - 20 * to)) else σA 34 j) → ∃ σ', fMd_enters_l154 f (i3 r) (i3 to) (i3 q) σ = some ((), σ') ∧ PFE σ' (tkS τ r g C C.1) ∧ (∀ k, k < 18 ∨ 25 < k → k ≠ 34 → σ' k = σA k) ∧ ∀ j, σ' 34 j = if 20 * to ≤ j ∧ j < 20 * to + C.1 then i3 (pnS τ r g C (j - 20 * to)) else σA 34 j := by
  have c20 := K.1
  intro d
  induction d with
  | zero =>
    intro q f σ hd hf e ek e34
    obtain ⟨f', rfl⟩ : ∃ f', f = f' + 1 := ⟨f - 1, by omega⟩
    have hq : q = C.1 := by omega
    subst hq
    refine ⟨σ, ?_, e, ek, e34⟩
    rw [fMd_enters_l154_S, fMd_enters_b154_E, mgA_33 (by omega), ek 33 (Or.inr (by decide)) (by decide), e33, if_pos ((i3_le (by omega) (by omega)).mpr (Nat.le_refl _))]
  | succ d ih =>
    intro q f σ hd hf e ek e34
    obtain ⟨f', rfl⟩ : ∃ f', f = f' + 1 := ⟨f - 1, by omega⟩
    have hq : q < C.1 := by omega
    obtain ⟨I, nx⟩ := tk_inv Q hr K hg room h780 q (by omega)
    obtain ⟨n1, n2⟩ := nx hq
    have e18 := e 18 (by decide) (by decide)
    have e20 := e 20 (by decide) (by decide)
    have Qσ : PQ σ := fun r0 hr0 => by
      have := I.pq r0 hr0
      unfold IVP at this ⊢
      rw [e18, e 19 (by decide) (by decide), e20, e 21 (by decide) (by decide), e 22 (by decide) (by decide), e 23 (by decide) (by decide), e 24 (by decide) (by decide), e 25 (by decide) (by decide)]
      exact this
    obtain ⟨u1, u2⟩ := u q hq
    have s6 : σ 6 = σA 6 := ek 6 (Or.inl (by decide)) (by decide)
    have s7 : σ 7 = σA 7 := ek 7 (Or.inl (by decide)) (by decide)
    have s4 : σ 4 = σA 4 := ek 4 (Or.inl (by decide)) (by decide)
    have ms := m_stores (m := m) Qσ hr (q := q) (by omega) (by rw [s6]; exact u1) (by rw [s7]; exact u2) (fun j hj => by rw [s4]; exact A j hj) (K.2 q hq).2.1 (K.2 q hq).2.2 (K.2 q hq).1 h40 hg (fun w => by
      rw [fnd_e e] at w
      rw [e18]; exact n1 w) (fun p hp => by
      rw [e18] at hp
      rw [e20]; exact n2 p hp)
    obtain ⟨p1, p2⟩ := stP_e (r := r) (s := C.2.2.1 q) (l := C.2.2.2 q) (g := g) e
    rw [p1] at ms
    have nk : ∀ k, k < 18 ∨ 25 < k → (stP σ r (C.2.2.1 q) (C.2.2.2 q) g).2 k = σ k := fun k hk => stP_n hk
    obtain ⟨σ2, a1, a2, a3, a4⟩ := ih (q + 1) f' (uS (stP σ r (C.2.2.1 q) (C.2.2.2 q) g).2 34 (20 * to + q) (i3 (pnS τ r g C q))) (by omega) (by omega) (fun k k1 k2 => by rw [uS_n _ _ _ (by omega)]; exact p2 k k1 k2) (fun k hk h34 => by rw [uS_n _ _ _ h34, nk k hk]; exact ek k hk h34) (fun j => by
      by_cases z : j = 20 * to + q
      · rw [z, uS_e, if_pos (by omega), Nat.add_sub_cancel_left]
      · rw [uS_d _ _ _ _ z, nk 34 (Or.inr (by decide)), e34]
        by_cases w : 20 * to ≤ j ∧ j < 20 * to + q
        · rw [if_pos w, if_pos (by omega)]
        · rw [if_neg w, if_neg (by omega)])
    refine ⟨σ2, ?_, a2, a3, a4⟩
    rw [fMd_enters_l154_S, fMd_enters_b154_E, mgA_33 (by omega), ek 33 (Or.inr (by decide)) (by decide), e33, if_neg (fun w => absurd ((i3_le (by omega) (by omega)).mp w) (by omega)), ms, bdW_s, i3_mul, i3_add, mpA_34 (by omega), i3_add]
    exact a1
end TK

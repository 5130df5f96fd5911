set_option maxRecDepth 100000
/-! bytes cut: both sides -/
section CT
variable {h c n r : Nat} {own : Nat → Nat} {B : BK} {σ σ' : Sg} {M M' : Mm}
def md5 (a b : Int32) : Bool := decide (((((i3 3) * a) + b) - (((i3 3) * a) + b) / (i3 5) * (i3 5)) = (i3 0))
def endB (g : Nat → Int32) (m fr k : Nat) : Bool := decide (k + 1 - fr = 6) || ((decide (2 ≤ k + 1 - fr) && md5 (g (k - 1)) (g k)) || decide (k + 1 = m))
abbrev CS : Type := Nat × Nat × (Nat → Nat) × (Nat → Nat)
def updF (f : Nat → Nat) (q v : Nat) : Nat → Nat := fun x => if x = q then v else f x
def cSt (g : Nat → Int32) (m k : Nat) (C : CS) : CS := if endB g m C.2.1 k = true then (C.1 + 1, k + 1, updF C.2.2.1 C.1 C.2.1, updF C.2.2.2 C.1 (k + 1 - C.2.1)) else C
def cS (g : Nat → Int32) (m : Nat) : Nat → CS
  | 0 => (0, 0, fun _ => 0, fun _ => 0)
  | k + 1 => cSt g m k (cS g m k)
def psum (f : Nat → Nat) : Nat → Nat
  | 0 => 0
  | q + 1 => psum f q + f q
theorem psum_S {f : Nat → Nat} {q : Nat} : psum f (q + 1) = psum f q + f q := rfl
theorem psum_upd {f : Nat → Nat} {x v : Nat} : ∀ q, q ≤ x → psum (updF f x v) q = psum f q := by
  intro q
  induction q with
  | zero => intro _; rfl
  | succ q ih =>
    intro hq
    rw [psum_S, psum_S, ih (by omega)]
    unfold updF
    rw [if_neg (by omega)]
theorem updF_e {f : Nat → Nat} {x v : Nat} : updF f x v x = v := if_pos rfl
theorem updF_n {f : Nat → Nat} {x v y : Nat} (e : y ≠ x) : updF f x v y = f y := if_neg e
def CSI (C : CS) (m k : Nat) : Prop := (C.2.1 ≤ k) ∧
  (C.2.1 = psum C.2.2.2 C.1) ∧
  (∀ q, q < C.1 → C.2.2.1 q = psum C.2.2.2 q ∧ 1 ≤ C.2.2.2 q ∧ C.2.2.2 q ≤ 6) ∧
  (k ≤ C.2.1 + 5) ∧
  (2 * C.1 ≤ C.2.1 + 1) ∧
  (k < m → 2 * C.1 ≤ C.2.1) ∧
  (k = m → C.2.1 = m)
theorem CSI.f1 {C : CS} {m k : Nat} (Z : CSI C m k) : C.2.1 ≤ k := Z.1
theorem CSI.f2 {C : CS} {m k : Nat} (Z : CSI C m k) : C.2.1 = psum C.2.2.2 C.1 := Z.2.1
theorem CSI.q {C : CS} {m k : Nat} (Z : CSI C m k) : ∀ q, q < C.1 → C.2.2.1 q = psum C.2.2.2 q ∧ 1 ≤ C.2.2.2 q ∧ C.2.2.2 q ≤ 6 := Z.2.2.1
theorem CSI.s {C : CS} {m k : Nat} (Z : CSI C m k) : k ≤ C.2.1 + 5 := Z.2.2.2.1
theorem CSI.t {C : CS} {m k : Nat} (Z : CSI C m k) : 2 * C.1 ≤ C.2.1 + 1 := Z.2.2.2.2.1
theorem CSI.t2 {C : CS} {m k : Nat} (Z : CSI C m k) : k < m → 2 * C.1 ≤ C.2.1 := Z.2.2.2.2.2.1
theorem CSI.e {C : CS} {m k : Nat} (Z : CSI C m k) : k = m → C.2.1 = m := Z.2.2.2.2.2.2
theorem cS_inv {g : Nat → Int32} {m : Nat} : ∀ k, k ≤ m → CSI (cS g m k) m k := by
  intro k
  induction k with
  | zero => intro _; exact ⟨Nat.le_refl 0, rfl, fun q hq => absurd hq (Nat.not_lt_zero q), Nat.zero_le _, Nat.zero_le _, fun _ => Nat.le_refl 0, fun e => e⟩
  | succ k ih =>
    intro hk
    have I := ih (by omega)
    show CSI (cSt g m k (cS g m k)) m (k + 1)
    generalize cS g m k = C at I
    have i1 := I.f1
    have i2 := I.f2
    have is := I.s
    have it := I.t2 (by omega)
    unfold cSt
    by_cases z : endB g m C.2.1 k = true
    · rw [if_pos z]
      unfold endB at z
      rw [Bool.or_eq_true, Bool.or_eq_true, Bool.and_eq_true, decide_eq_true_eq, decide_eq_true_eq, decide_eq_true_eq] at z
      refine ⟨Nat.le_refl _, ?_, fun q hq => ?_, Nat.le_add_right _ _, ?_, fun w => ?_, fun w => w⟩
      · show k + 1 = psum (updF C.2.2.2 C.1 (k + 1 - C.2.1)) (C.1 + 1)
        rw [psum_S, psum_upd _ (Nat.le_refl _), updF_e, ← i2]; omega
      · have hq : q < C.1 + 1 := hq
        show updF C.2.2.1 C.1 C.2.1 q = psum (updF C.2.2.2 C.1 (k + 1 - C.2.1)) q ∧ 1 ≤ updF C.2.2.2 C.1 (k + 1 - C.2.1) q ∧ updF C.2.2.2 C.1 (k + 1 - C.2.1) q ≤ 6
        rw [psum_upd _ (by omega)]
        by_cases y : q = C.1
        · subst y
          rw [updF_e, updF_e]
          exact ⟨i2, by omega, by omega⟩
        · rw [updF_n y, updF_n y]
          exact I.q q (by omega)
      · show 2 * (C.1 + 1) ≤ k + 1 + 1
        omega
      · show 2 * (C.1 + 1) ≤ k + 1
        omega
    · rw [if_neg z]
      have z2 : endB g m C.2.1 k = false := Bool.eq_false_iff.mpr z
      unfold endB at z2
      rw [Bool.or_eq_false_iff, Bool.or_eq_false_iff, decide_eq_false_iff_not, decide_eq_false_iff_not] at z2
      exact ⟨by omega, i2, I.q, by omega, I.t, fun _ => it, fun w => absurd w z2.2.2⟩
theorem cS_20 {g : Nat → Int32} {m : Nat} (h40 : m ≤ 40) : (cS g m m).1 ≤ 20 := by
  have I := cS_inv (g := g) (m := m) m (Nat.le_refl m)
  have := I.t
  have := I.f1
  omega
theorem psum_le {f : Nat → Nat} : ∀ {d q : Nat}, psum f q ≤ psum f (q + d) := by
  intro d
  induction d with
  | zero => intro q; exact Nat.le_refl _
  | succ d ih =>
    intro q
    show psum f q ≤ psum f (q + d) + f (q + d)
    have := ih (q := q)
    omega
theorem cS_end {g : Nat → Int32} {m q : Nat} (hq : q < (cS g m m).1) : (cS g m m).2.2.1 q + (cS g m m).2.2.2 q ≤ m ∧ 1 ≤ (cS g m m).2.2.2 q ∧ (cS g m m).2.2.2 q ≤ 6 := by
  have I := cS_inv (g := g) (m := m) m (Nat.le_refl m)
  obtain ⟨q1, q2, q3⟩ := I.q q hq
  have l := psum_le (f := (cS g m m).2.2.2) (d := (cS g m m).1 - (q + 1)) (q := q + 1)
  rw [show q + 1 + ((cS g m m).1 - (q + 1)) = (cS g m m).1 by omega, ← I.f2, I.e rfl, psum_S, ← q1] at l
  exact ⟨l, q2, q3⟩
def BY (own : Nat → Nat) (M : Mm) (b t m : Nat) (g : Nat → Int32) : Prop := (BYT own M b t) ∧
  (mI M 101 b 0 = i3 m) ∧
  (∀ j, j < m → mI M 0 (b + 1) j = g j)
theorem BY.b {own : Nat → Nat} {M : Mm} {b t m : Nat} {g : Nat → Int32} (Z : BY own M b t m g) : BYT own M b t := Z.1
theorem BY.ma {own : Nat → Nat} {M : Mm} {b t m : Nat} {g : Nat → Int32} (Z : BY own M b t m g) : mI M 101 b 0 = i3 m := Z.2.1
theorem BY.by {own : Nat → Nat} {M : Mm} {b t m : Nat} {g : Nat → Int32} (Z : BY own M b t m g) : ∀ j, j < m → mI M 0 (b + 1) j = g j := Z.2.2
theorem BY.ios {b t m : Nat} {g : Nat → Int32} {S : Nat → Nat → Prop} (Y : BY own M b t m g) (f : IOS S M M') (k : ∀ cc a, S cc a → own a ≠ t) : BY own M' b t m g :=
  ⟨Y.b.keep fun a _ => ⟨rfl, f.K a, f.L a, fun cc j => f.P cc a j⟩, (f.2 _ _ _ fun z => k _ _ z Y.b.o).trans Y.ma, fun j hj => (f.2 _ _ _ fun z => k _ _ z Y.b.ro).trans (Y.by j hj)⟩
theorem BY.at {b t m j : Nat} {g : Nat → Int32} (Y : BY own M b t m g) (h40 : m ≤ 40) (hj : j < m) : fBytes_at b (i3 j) M = some (g j) := by
  rw [fBytes_at_E, if_neg (fun w => absurd ((i3_lt (by omega) (by omega)).mp w) (by omega)), fgR_s Y.b.k, Y.b.p, aln_i Y.b.rk (by decide) (by decide), Y.b.rl, if_neg (fun w => absurd ((i3_le (by omega) (by omega)).mp w) (by omega)), fgR_s Y.b.k, Y.b.p, alI_i Y.b.rk (by rw [Y.b.rl]; omega) (by omega), Y.by j hj]
/-- the places that a cut is laid at -/
def SCU (g : Nat) (_ x : Nat) : Prop := x = g + 4 ∨ x = g + 5 ∨ x = g + 6
theorem scu_own {g x cc : Nat} (G : RG own M g r) (z : SCU g cc x) : own x = 10 + r := by
  rcases z with rfl | rfl | rfl
  · exact G.o4
  · exact G.o5
  · exact G.o6
def CUR (M : Mm) (g : Nat) (C : CS) : Prop := mI M 302 (g + 4) 0 = i3 C.1 ∧ ∀ q, q < C.1 → mI M 0 (g + 5) q = i3 (C.2.2.1 q) ∧ mI M 0 (g + 6) q = i3 (C.2.2.1 q + C.2.2.2 q)
theorem RG.ios {S : Nat → Nat → Prop} {g : Nat} (G : RG own M g r) (f : IOS S M M') : RG own M' g r :=
  G.keep (fun a _ => ⟨rfl, f.K a, f.L a, fun cc j => f.P cc a j⟩) (fun a _ => ⟨rfl, f.K a, f.L a, fun cc j => f.P cc a j⟩) (fun a _ => ⟨rfl, f.K a, f.L a, fun cc j => f.P cc a j⟩) (fun a _ => ⟨rfl, f.K a, f.L a, fun cc j => f.P cc a j⟩)
theorem c_endsPart {b t m fr k : Nat} {g : Nat → Int32} (Y : BY own M b t m g) (h40 : m ≤ 40) (hk : k < m) (hf : fr ≤ k) : fCut_endsPart (some b) (i3 fr) (i3 (k + 1)) M = some (bI (decide (k + 1 - fr = 6) || (decide (2 ≤ k + 1 - fr) && md5 (g (k - 1)) (g k)))) := by
  rw [fCut_endsPart_E, i3_sub (by omega)]
  by_cases z : k + 1 - fr = 6
  · rw [if_pos (by rw [z]), rZ_1, decide_eq_true z]; rfl
  · rw [if_neg (fun w => z ((i3_inj (by omega) (by omega)).mp w)), decide_eq_false z]
    by_cases y : 2 ≤ k + 1 - fr
    · rw [if_neg (fun w => absurd ((i3_lt (by omega) (by omega)).mp w) (by omega)), rk_s Y.b.k, i3_sub (by omega), show k + 1 - 2 = k - 1 by omega, Y.at h40 (by omega), bdR_s, rk_s Y.b.k, i3_sub (by omega), Nat.add_sub_cancel, Y.at h40 hk, bdR_s, decide_eq_true y]
      unfold md5
      by_cases w : ((((i3 3) * g (k - 1)) + g k) - (((i3 3) * g (k - 1)) + g k) / (i3 5) * (i3 5)) = (i3 0)
      · rw [if_pos w, rZ_1, decide_eq_true w]; rfl
      · rw [if_neg w, rZ_0, decide_eq_false w]; rfl
    · rw [if_pos ((i3_lt (by omega) (by omega)).mpr (by omega)), rZ_0, decide_eq_false y]; rfl
theorem c_cut {b t m : Nat} {g : Nat → Int32} (G : RG own M (gr h r) r) (Y : BY own M b t m g) (h40 : m ≤ 40) (ht : t ≠ 10 + r) : ∃ M', fCut_cut (gr h r + 4) (some b) M = some ((), M') ∧ IOS (SCU (gr h r)) M M' ∧ CUR M' (gr h r) (cS g m m) := by
  have lp : ∀ d k fu (M2 : Mm), d + k = m → d < fu → IOS (SCU (gr h r)) M M2 → CUR M2 (gr h r) (cS g m k) → ∃ M', fCut_cut_l9 (gr h r + 4) fu (some b) (i3 (cS g m k).2.1) (i3 (k + 1)) M2 = some ((), M') ∧ IOS (SCU (gr h r)) M M' ∧ CUR M' (gr h r) (cS g m m) := by
    intro d
    induction d with
    | zero =>
      intro k fu M2 hd hfu f2 u2
      obtain ⟨f, rfl⟩ : ∃ f, fu = f + 1 := ⟨fu - 1, by omega⟩
      have Y2 := Y.ios f2 (fun cc a z => by rw [scu_own G z]; omega)
      refine ⟨M2, ?_, f2, by rw [show m = k by omega] at u2 ⊢; exact u2⟩
      rw [fCut_cut_l9_S, fCut_cut_b9_E, fgI_s Y2.b.k, Y2.ma, if_pos ((i3_lt (by omega) (by omega)).mpr (by omega))]
    | succ d ih =>
      intro k fu M2 hd hfu f2 u2
      obtain ⟨f, rfl⟩ : ∃ f, fu = f + 1 := ⟨fu - 1, by omega⟩
      have Y2 := Y.ios f2 (fun cc a z => by rw [scu_own G z]; omega)
      have G2 := G.ios f2
      have IC := cS_inv (g := g) (m := m) k (by omega)
      have i1 := IC.f1
      have i2 := IC.t2 (by omega)
      have en := c_endsPart Y2 h40 (k := k) (by omega) i1
      have st : fCut_cut_l9 (gr h r + 4) (f + 1) (some b) (i3 (cS g m k).2.1) (i3 (k + 1)) M2 = if endB g m (cS g m k).2.1 k = true then fCut_cut_j34 (gr h r + 4) (fCut_cut_l9 (gr h r + 4) f) (some b) (i3 (cS g m k).2.1) (i3 (k + 1)) M2 else fCut_cut_j42 (gr h r + 4) (fCut_cut_l9 (gr h r + 4) f) (some b) (i3 (cS g m k).2.1) (i3 (k + 1)) M2 := by
        rw [fCut_cut_l9_S, fCut_cut_b9_E, fgI_s Y2.b.k, Y2.ma, if_neg (fun w => absurd ((i3_lt (by omega) (by omega)).mp w) (by omega)), fgI_s Y2.b.k, Y2.ma]
        unfold endB
        by_cases z : k + 1 = m
        · rw [if_pos (by rw [z]), decide_eq_true z, Bool.or_true, Bool.or_true, if_pos rfl]
        · rw [if_neg (fun w => z ((i3_inj (by omega) (by omega)).mp w)), en, bdR_s, decide_eq_false z, Bool.or_false]
          cases (decide (k + 1 - (cS g m k).2.1 = 6) || (decide (2 ≤ k + 1 - (cS g m k).2.1) && md5 (g (k - 1)) (g k))) with
          | false => rw [if_pos (show bI false = i3 0 from rfl), if_neg (by decide)]
          | true => rw [if_neg (show ¬ bI true = i3 0 by decide), if_pos rfl]
      rw [st]
      have eS : cS g m (k + 1) = cSt g m k (cS g m k) := rfl
      by_cases z : endB g m (cS g m k).2.1 k = true
      · have e1 : cS g m (k + 1) = ((cS g m k).1 + 1, k + 1, updF (cS g m k).2.2.1 (cS g m k).1 (cS g m k).2.1, updF (cS g m k).2.2.2 (cS g m k).1 (k + 1 - (cS g m k).2.1)) := by rw [eS]; unfold cSt; rw [if_pos z]
        obtain ⟨M3, hM3⟩ : ∃ M3, M3 = uI (uI (uI M2 0 (gr h r + 5) (cS g m k).1 (i3 (cS g m k).2.1)) 0 (gr h r + 6) (cS g m k).1 (i3 (k + 1))) 302 (gr h r + 4) 0 (i3 ((cS g m k).1 + 1)) := ⟨_, rfl⟩
        have f3 : IOS (SCU (gr h r)) M M3 := by
          rw [hM3]
          exact (((f2.trans (IOS.uI _ _ _ _)).trans (IOS.uI _ _ _ _)).trans (IOS.uI _ _ _ _)).mono fun cc x w => by unfold SCU at *; omega
        have u3 : CUR M3 (gr h r) (cS g m (k + 1)) := by
          rw [e1, hM3]
          refine ⟨mI_uI_e _ _ _ _ _, fun q hq => ?_⟩
          have hq : q < (cS g m k).1 + 1 := hq
          show mI _ 0 (gr h r + 5) q = i3 (updF (cS g m k).2.2.1 (cS g m k).1 (cS g m k).2.1 q) ∧ mI _ 0 (gr h r + 6) q = i3 (updF (cS g m k).2.2.1 (cS g m k).1 (cS g m k).2.1 q + updF (cS g m k).2.2.2 (cS g m k).1 (k + 1 - (cS g m k).2.1) q)
          by_cases w : q = (cS g m k).1
          · refine ⟨?_, ?_⟩
            · rw [mI_uI_c _ _ _ _ (by decide), mI_uI_a _ _ _ _ (by omega), w, mI_uI_e, updF_e]
            · rw [mI_uI_c _ _ _ _ (by decide), w, mI_uI_e, updF_e, updF_e, show (cS g m k).2.1 + (k + 1 - (cS g m k).2.1) = k + 1 by omega]
          · obtain ⟨w1, w2⟩ := u2.2 q (by omega)
            refine ⟨?_, ?_⟩
            · rw [mI_uI_c _ _ _ _ (by decide), mI_uI_a _ _ _ _ (by omega), mI_uI_j _ _ _ _ w, updF_n w]
              exact w1
            · rw [mI_uI_c _ _ _ _ (by decide), mI_uI_j _ _ _ _ w, mI_uI_a _ _ _ _ (by omega), updF_n w, updF_n w]
              exact w2
        obtain ⟨M', a1, a2, a3⟩ := ih (k + 1) f M3 (by omega) (by omega) f3 u3
        refine ⟨M', ?_, a2, a3⟩
        have e2 : (cS g m (k + 1)).2.1 = k + 1 := by rw [e1]
        rw [e2] at a1
        have q5 : mK (uI M2 0 (gr h r + 5) (cS g m k).1 (i3 (cS g m k).2.1)) (gr h r + 4) = 3 := G2.k4
        rw [if_pos z, fCut_cut_j34_E, rk_s G2.k4, fCut_addPart_E, fgI_s G2.k4, u2.1, if_neg (fun w => absurd ((i3_lt (by omega) (by omega)).mp w) (by omega)), fgI_s G2.k4, u2.1, fgR_s G2.k4, G2.c0, aln_i G2.k5 (by decide) (by decide), G2.l5, if_neg (fun w => absurd ((i3_le (by omega) (by omega)).mp w) (by omega)), fgI_s G2.k4, u2.1, fgR_s G2.k4, G2.c1, aln_i G2.k6 (by decide) (by decide), G2.l6, if_neg (fun w => absurd ((i3_le (by omega) (by omega)).mp w) (by omega)), fgR_s G2.k4, G2.c0, fgI_s G2.k4, u2.1, asI_i G2.k5 (by rw [G2.l5]; omega) (by omega)]
        have G3 : RG own (uI M2 0 (gr h r + 5) (cS g m k).1 (i3 (cS g m k).2.1)) (gr h r) r := G2.ios (IOS.uI _ _ _ _)
        have r3 : mI (uI M2 0 (gr h r + 5) (cS g m k).1 (i3 (cS g m k).2.1)) 302 (gr h r + 4) 0 = i3 (cS g m k).1 := by rw [mI_uI_c _ _ _ _ (by decide)]; exact u2.1
        rw [fgR_s G3.k4, G3.c1, fgI_s G3.k4, r3, asI_i G3.k6 (by rw [G3.l6]; omega) (by omega)]
        have G4 : RG own (uI (uI M2 0 (gr h r + 5) (cS g m k).1 (i3 (cS g m k).2.1)) 0 (gr h r + 6) (cS g m k).1 (i3 (k + 1))) (gr h r) r := G3.ios (IOS.uI _ _ _ _)
        have r4 : mI (uI (uI M2 0 (gr h r + 5) (cS g m k).1 (i3 (cS g m k).2.1)) 0 (gr h r + 6) (cS g m k).1 (i3 (k + 1))) 302 (gr h r + 4) 0 = i3 (cS g m k).1 := by rw [mI_uI_c _ _ _ _ (by decide)]; exact r3
        rw [fgI_s G4.k4, r4, fpI_s G4.k4, i3_add, ← hM3, bdW_s, fCut_cut_j42_E, i3_add]
        exact a1
      · have e1 : cS g m (k + 1) = cS g m k := by rw [eS]; unfold cSt; rw [if_neg z]
        obtain ⟨M', a1, a2, a3⟩ := ih (k + 1) f M2 (by omega) (by omega) f2 (by rw [e1]; exact u2)
        rw [e1] at a1
        refine ⟨M', ?_, a2, a3⟩
        rw [if_neg z, fCut_cut_j42_E, i3_add]
        exact a1
  obtain ⟨M', a1, a2, a3⟩ := lp m 0 FU (uI M 302 (gr h r + 4) 0 (i3 0)) (by omega) (FU_S (by omega)) ((IOS.uI _ _ _ _).mono fun cc x w => by unfold SCU; omega) ⟨mI_uI_e _ _ _ _ _, fun q hq => absurd hq (Nat.not_lt_zero q)⟩
  refine ⟨M', ?_, a2, a3⟩
  rw [fCut_cut_E, fpI_s G.k4]
  exact a1
/-- the object at hand, and its cut, in the check -/
def AHD (σ : Sg) (m : Nat) (g : Nat → Int32) : Prop := σ 3 0 = i3 m ∧ ∀ j, j < m → σ 4 j = g j
def MCR (σ : Sg) (C : CS) : Prop := σ 5 0 = i3 C.1 ∧ ∀ q, q < C.1 → σ 6 q = i3 (C.2.2.1 q) ∧ σ 7 q = i3 (C.2.2.2 q)
theorem m_cuts {m : Nat} {g : Nat → Int32} (A : AHD σ m g) (h40 : m ≤ 40) : ∃ σ', fMd_cuts σ = some ((), σ') ∧ (∀ k, k ≠ 5 → k ≠ 6 → k ≠ 7 → σ' k = σ k) ∧ MCR σ' (cS g m m) := by
  have lp : ∀ d k fu (σ2 : Sg), d + k = m → d < fu → (∀ k, k ≠ 5 → k ≠ 6 → k ≠ 7 → σ2 k = σ k) → MCR σ2 (cS g m k) → ∃ σ', fMd_cuts_l9 fu (i3 (cS g m k).2.1) (i3 k) σ2 = some ((), σ') ∧ (∀ k, k ≠ 5 → k ≠ 6 → k ≠ 7 → σ' k = σ k) ∧ MCR σ' (cS g m m) := by
    intro d
    induction d with
    | zero =>
      intro k fu σ2 hd hfu f2 u2
      obtain ⟨f, rfl⟩ : ∃ f, fu = f + 1 := ⟨fu - 1, by omega⟩
      refine ⟨σ2, ?_, f2, by rw [show m = k by omega] at u2 ⊢; exact u2⟩
      rw [fMd_cuts_l9_S, fMd_cuts_b9_E, mgF_s, f2 3 (by decide) (by decide) (by decide), A.1, if_pos ((i3_le (by omega) (by omega)).mpr (by omega))]
    | succ d ih =>
      intro k fu σ2 hd hfu f2 u2
      obtain ⟨f, rfl⟩ : ∃ f, fu = f + 1 := ⟨fu - 1, by omega⟩
      have IC := cS_inv (g := g) (m := m) k (by omega)
      have i1 := IC.f1
      have i2 := IC.t2 (by omega)
      have e3 := f2 3 (by decide) (by decide) (by decide)
      have e4 := f2 4 (by decide) (by decide) (by decide)
      have st : fMd_cuts_l9 (f + 1) (i3 (cS g m k).2.1) (i3 k) σ2 = if endB g m (cS g m k).2.1 k = true then fMd_cuts_j66 (fMd_cuts_l9 f) (i3 (cS g m k).2.1) (i3 k) (i3 (k + 1 - (cS g m k).2.1)) σ2 else fMd_cuts_l9 f (i3 (cS g m k).2.1) (i3 (k + 1)) σ2 := by
        have j56 : fMd_cuts_j56 (fMd_cuts_l9 f) (i3 (cS g m k).2.1) (i3 k) (i3 (k + 1 - (cS g m k).2.1)) σ2 = if k + 1 = m then fMd_cuts_j66 (fMd_cuts_l9 f) (i3 (cS g m k).2.1) (i3 k) (i3 (k + 1 - (cS g m k).2.1)) σ2 else fMd_cuts_l9 f (i3 (cS g m k).2.1) (i3 (k + 1)) σ2 := by
          rw [fMd_cuts_j56_E, mgF_s, e3, A.1, i3_add]
          by_cases z : k + 1 = m
          · rw [if_pos (by rw [z]), if_pos z]
          · rw [if_neg (fun w => z ((i3_inj (by omega) (by omega)).mp w)), if_neg z, fMd_cuts_j71_E, if_pos rfl, fMd_cuts_j112_E, i3_add]
        rw [fMd_cuts_l9_S, fMd_cuts_b9_E, mgF_s, e3, A.1, if_neg (fun w => absurd ((i3_le (by omega) (by omega)).mp w) (by omega)), i3_add, i3_sub (by omega), j56]
        unfold endB
        by_cases z : k + 1 - (cS g m k).2.1 = 6
        · rw [if_pos (by rw [z]), decide_eq_true z, Bool.true_or, if_pos rfl]
        · rw [if_neg (fun w => z ((i3_inj (by omega) (by omega)).mp w)), decide_eq_false z, Bool.false_or]
          by_cases y : 2 ≤ k + 1 - (cS g m k).2.1
          · rw [if_neg (fun w => absurd ((i3_le (by omega) (by omega)).mp w) (by omega)), i3_sub (by omega), mgA_4 (by omega), mgA_4 (by omega), e4, A.2 _ (by omega), A.2 _ (by omega), decide_eq_true y, Bool.true_and]
            unfold md5
            by_cases w : ((((i3 3) * g (k - 1)) + g k) - (((i3 3) * g (k - 1)) + g k) / (i3 5) * (i3 5)) = (i3 0)
            · rw [if_pos w, decide_eq_true w, Bool.true_or, if_pos rfl]
            · rw [if_neg w, decide_eq_false w, Bool.false_or]
              by_cases v : k + 1 = m
              · rw [if_pos v, decide_eq_true v, if_pos rfl]
              · rw [if_neg v, decide_eq_false v, if_neg (by decide)]
          · rw [if_pos ((i3_le (by omega) (by omega)).mpr (by omega)), decide_eq_false y, Bool.false_and, Bool.false_or]
            by_cases v : k + 1 = m
            · rw [if_pos v, decide_eq_true v, if_pos rfl]
            · rw [if_neg v, decide_eq_false v, if_neg (by decide)]
      rw [st]
      have eS : cS g m (k + 1) = cSt g m k (cS g m k) := rfl
      by_cases z : endB g m (cS g m k).2.1 k = true
      · have e1 : cS g m (k + 1) = ((cS g m k).1 + 1, k + 1, updF (cS g m k).2.2.1 (cS g m k).1 (cS g m k).2.1, updF (cS g m k).2.2.2 (cS g m k).1 (k + 1 - (cS g m k).2.1)) := by rw [eS]; unfold cSt; rw [if_pos z]
        obtain ⟨σ3, h3⟩ : ∃ σ3, σ3 = uS (uS (uS σ2 6 (cS g m k).1 (i3 (cS g m k).2.1)) 7 (cS g m k).1 (i3 (k + 1 - (cS g m k).2.1))) 5 0 (i3 ((cS g m k).1 + 1)) := ⟨_, rfl⟩
        have f3 : ∀ k, k ≠ 5 → k ≠ 6 → k ≠ 7 → σ3 k = σ k := fun k k1 k2 k3 => by rw [h3, uS_n _ _ _ k1, uS_n _ _ _ k3, uS_n _ _ _ k2]; exact f2 k k1 k2 k3
        have u3 : MCR σ3 (cS g m (k + 1)) := by
          rw [e1, h3]
          refine ⟨uS_e _ _ _ _, fun q hq => ?_⟩
          have hq : q < (cS g m k).1 + 1 := hq
          show uS _ 5 0 _ 6 q = i3 (updF (cS g m k).2.2.1 (cS g m k).1 (cS g m k).2.1 q) ∧ uS _ 5 0 _ 7 q = i3 (updF (cS g m k).2.2.2 (cS g m k).1 (k + 1 - (cS g m k).2.1) q)
          by_cases w : q = (cS g m k).1
          · refine ⟨?_, ?_⟩
            · rw [uS_n _ _ _ (show (6 : Nat) ≠ 5 by decide), uS_n _ _ _ (show (6 : Nat) ≠ 7 by decide), w, uS_e, updF_e]
            · rw [uS_n _ _ _ (show (7 : Nat) ≠ 5 by decide), w, uS_e, updF_e]
          · obtain ⟨w1, w2⟩ := u2.2 q (by omega)
            refine ⟨?_, ?_⟩
            · rw [uS_n _ _ _ (show (6 : Nat) ≠ 5 by decide), uS_n _ _ _ (show (6 : Nat) ≠ 7 by decide), uS_d _ _ _ _ w, updF_n w]
              exact w1
            · rw [uS_n _ _ _ (show (7 : Nat) ≠ 5 by decide), uS_d _ _ _ _ w, uS_n _ _ _ (show (7 : Nat) ≠ 6 by decide), updF_n w]
              exact w2
        obtain ⟨σ', a1, a2, a3⟩ := ih (k + 1) f σ3 (by omega) (by omega) f3 u3
        refine ⟨σ', ?_, a2, a3⟩
        have e2 : (cS g m (k + 1)).2.1 = k + 1 := by rw [e1]
        rw [e2] at a1
        rw [if_pos z, fMd_cuts_j66_E, fMd_cuts_j71_E, if_neg (by decide), mgF_s, u2.1, mpA_6 (by omega), mgF_s, uS_n _ _ _ (by decide), u2.1, mpA_7 (by omega), mgF_s, uS_n _ _ _ (by decide), uS_n _ _ _ (by decide), u2.1, mpF_s, i3_add, i3_add, ← h3, fMd_cuts_j112_E, i3_add]
        exact a1
      · have e1 : cS g m (k + 1) = cS g m k := by rw [eS]; unfold cSt; rw [if_neg z]
        obtain ⟨σ', a1, a2, a3⟩ := ih (k + 1) f σ2 (by omega) (by omega) f2 (by rw [e1]; exact u2)
        rw [e1] at a1
        refine ⟨σ', ?_, a2, a3⟩
        rw [if_neg z]
        exact a1
  obtain ⟨σ', a1, a2, a3⟩ := lp m 0 FU (uS σ 5 0 (i3 0)) (by omega) (FU_S (by omega)) (fun k k1 k2 k3 => uS_n _ _ _ k1) ⟨uS_e _ _ _ _, fun q hq => absurd hq (Nat.not_lt_zero q)⟩
  refine ⟨σ', ?_, a2, a3⟩
  rw [fMd_cuts_E, mpF_s]
  exact a1
end CT

set_option maxRecDepth 100000
/-! parts found by their bytes; room: both sides -/
section FD
variable {h c n r : Nat} {own : Nat → Nat} {B : BK} {σ σ' : Sg} {M M' : Mm}
def PQ (σ : Sg) : Prop := ∀ r, r < 2 → NB 90 (σ 18 r) ∧ ∀ p, p < nv (σ 18 r) → IVP σ r (90 * r + p)
theorem IV.pq (I : IV c σ) : PQ σ := fun r hr => ⟨I.pn r hr, fun p hp => (I.po r hr p hp).1⟩
theorem PQ.p90 (Q : PQ σ) : ∀ r, r < 2 → nv (σ 18 r) ≤ 90 := fun r hr => (Q r hr).1.2
def fnB (σ : Sg) (r : Nat) (g : Nat → Int32) (s l : Nat) : Nat → Bool := fun p => decide (σ 19 (90 * r + p) = i3 0) && (decide (nv (σ 21 (90 * r + p)) = l) && allF (fun j => decide (σ 22 (6 * (90 * r + p) + j) = g (s + j))) 0 l)
def fnd (σ : Sg) (r : Nat) (g : Nat → Int32) (s l : Nat) : Option Nat := fstF (fnB σ r g s l) 0 (nv (σ 18 r))
theorem fnB_iff {g : Nat → Int32} {s l p : Nat} : fnB σ r g s l p = true ↔ σ 19 (90 * r + p) = i3 0 ∧ nv (σ 21 (90 * r + p)) = l ∧ ∀ j, j < l → σ 22 (6 * (90 * r + p) + j) = g (s + j) := by
  unfold fnB
  rw [Bool.and_eq_true, Bool.and_eq_true, decide_eq_true_eq, decide_eq_true_eq, allF_iff]
  constructor
  · rintro ⟨a, b, d⟩
    exact ⟨a, b, fun j hj => of_decide_eq_true (d j (Nat.zero_le j) (by omega))⟩
  · rintro ⟨a, b, d⟩
    exact ⟨a, b, fun j _ hj => decide_eq_true (d j (by omega))⟩
theorem c_isSame {b t m s l p : Nat} {g : Nat → Int32} (R : RR h own B σ M n) (Y : BY own M b t m g) (h40 : m ≤ 40) (hr : r < 2) (hp : p < nv (σ 18 r)) (X : IVP σ r (90 * r + p)) (hl : l ≤ 6) (hs : s + l ≤ m) : fPart_isSame (pa B r p) (some b) (i3 s) (i3 (s + l)) M = some (bI (decide (nv (σ 21 (90 * r + p)) = l) && allF (fun j => decide (σ 22 (6 * (90 * r + p) + j) = g (s + j))) 0 l)) := by
  have A := R.po r hr p hp
  obtain ⟨lo, hlo6, hlo⟩ := X.lo.to
  have elo : nv (σ 21 (90 * r + p)) = lo := by rw [hlo]; exact nv_i (by omega)
  have alo := A.lo
  rw [hlo] at alo
  have aby := A.by
  rw [elo] at aby
  rw [elo, fPart_isSame_E, fgI_s A.b.k, alo, i3_sub (by omega), Nat.add_sub_cancel_left]
  by_cases z : lo = l
  · rw [if_pos (by rw [z]), decide_eq_true z]
    have lp : ∀ d j fu, d + j = l → d < fu → fPart_isSame_l15 (pa B r p) fu (some b) (i3 s) (i3 j) M = some (bI (allF (fun j => decide (σ 22 (6 * (90 * r + p) + j) = g (s + j))) j d)) := by
      intro d
      induction d with
      | zero =>
        intro j fu hd hfu
        obtain ⟨f, rfl⟩ : ∃ f, fu = f + 1 := ⟨fu - 1, by omega⟩
        rw [fPart_isSame_l15_S, fPart_isSame_b15_E, fgI_s A.b.k, alo, if_pos ((i3_le (by omega) (by omega)).mpr (by omega)), rZ_1]
        rfl
      | succ d ih =>
        intro j fu hd hfu
        obtain ⟨f, rfl⟩ : ∃ f, fu = f + 1 := ⟨fu - 1, by omega⟩
        have ih' := ih (j + 1) f (by omega) (by omega)
        have ab := aby j (by omega)
        rw [if_pos (by omega)] at ab
        rw [fPart_isSame_l15_S, fPart_isSame_b15_E, fgI_s A.b.k, alo, if_neg (fun w => absurd ((i3_le (by omega) (by omega)).mp w) (by omega)), fgR_s A.b.k, A.b.p2, aln_i A.b.k1 (by decide) (by decide), A.b.l1, if_neg (fun w => absurd ((i3_le (by omega) (by omega)).mp w) (by omega)), fgR_s A.b.k, A.b.p2, alI_i A.b.k1 (by rw [A.b.l1]; omega) (by omega), ab, rk_s Y.b.k, i3_add, Y.at h40 (by omega), bdR_s]
        show _ = some (bI (decide (σ 22 (6 * (90 * r + p) + j) = g (s + j)) && allF (fun j => decide (σ 22 (6 * (90 * r + p) + j) = g (s + j))) (j + 1) d))
        by_cases y : σ 22 (6 * (90 * r + p) + j) = g (s + j)
        · rw [if_pos y, decide_eq_true y, i3_add]; exact ih'
        · rw [if_neg y, decide_eq_false y, rZ_0]; rfl
    exact lp l 0 FU (by omega) (FU_S (by omega))
  · rw [if_neg (fun w => z ((i3_inj (by omega) (by omega)).mp w)), decide_eq_false z, rZ_0]; rfl
theorem c_findP {b t m s l : Nat} {g : Nat → Int32} (R : RR h own B σ M n) (Q : PQ σ) (Y : BY own M b t m g) (h40 : m ≤ 40) (hr : r < 2) (hl : l ≤ 6) (hs : s + l ≤ m) : fStore_find (gr h r + 1) (some b) (i3 s) (i3 (s + l)) M = some ((fnd σ r g s l).map (pa B r)) := by
  have L := R.pl r hr
  have hk := L.k
  have hz := L.size
  have G := R.rg r hr
  have p90 := Q.p90 r hr
  have lp : ∀ d i fu, d + i = nv (σ 18 r) → d < fu → fStore_find_l3 (gr h r + 1) fu (some b) (i3 s) (i3 (s + l)) (i3 i) M = some ((fstF (fnB σ r g s l) i d).map (pa B r)) := by
    intro d
    induction d with
    | zero =>
      intro i fu hd hfu
      obtain ⟨f, rfl⟩ : ∃ f, fu = f + 1 := ⟨fu - 1, by omega⟩
      rw [fStore_find_l3_S, fStore_find_b3_E, fgR_s G.ks, G.s1, rk_s hk, hz, bdR_s, if_pos ((i3_le (by omega) (by omega)).mpr (by omega))]
      rfl
    | succ d ih =>
      intro i fu hd hfu
      obtain ⟨f, rfl⟩ : ∃ f, fu = f + 1 := ⟨fu - 1, by omega⟩
      have ih' := ih (i + 1) f (by omega) (by omega)
      have hi : i < nv (σ 18 r) := by omega
      have A := R.po r hr i hi
      have sm := c_isSame R Y h40 hr hi ((Q r hr).2 i hi) hl hs
      rw [fStore_find_l3_S, fStore_find_b3_E, fgR_s G.ks, G.s1, rk_s hk, hz, bdR_s, if_neg (fun w => absurd ((i3_le (by omega) (by omega)).mp w) (by omega)), fgR_s G.ks, G.s1, rk_s hk, L.get hi, bdR_s, fca_s A.b.k, fgI_s A.b.k, A.sw, fstF_S]
      by_cases z : σ 19 (90 * r + i) = i3 0
      · have e1 : fnB σ r g s l i = (decide (nv (σ 21 (90 * r + i)) = l) && allF (fun j => decide (σ 22 (6 * (90 * r + i) + j) = g (s + j))) 0 l) := by unfold fnB; rw [decide_eq_true z, Bool.true_and]
        rw [if_pos z, rk_s A.b.k, sm, bdR_s, ← e1]
        cases fnB σ r g s l i with
        | false => rw [if_pos (show bI false = i3 0 from rfl), if_neg (by decide), fStore_find_j51_E, i3_add]; exact ih'
        | true => rw [if_neg (show ¬ bI true = i3 0 by decide), if_pos rfl]; rfl
      · have e1 : ¬ fnB σ r g s l i = true := by unfold fnB; rw [decide_eq_false z, Bool.false_and]; decide
        rw [if_neg z, if_neg e1, fStore_find_j51_E, i3_add]; exact ih'
  rw [fStore_find_E]
  exact lp _ 0 FU (by omega) (FU_S (by omega))
theorem m_found {q s l : Nat} {g : Nat → Int32} (Q : PQ σ) (hr : r < 2) (hq : q < 20) (h6 : σ 6 q = i3 s) (h7 : σ 7 q = i3 l) (h4 : ∀ j, j < l → σ 4 (s + j) = g (s + j)) (hl : l ≤ 6) (hs : s + l ≤ 40) : fMd_found (i3 r) (i3 q) σ = some (eO (fnd σ r g s l)) := by
  obtain ⟨P, h90, hP⟩ := (Q r hr).1.to
  have eP : nv (σ 18 r) = P := by rw [hP]; exact nv_i (by omega)
  have inn : ∀ (k2 : Int32 → Int32 → Int32 → Sg → Option Int32) p, p < 90 → ∀ d j fu (b : Bool), d + j = l → d < fu → fMd_found_l56 k2 fu (i3 r) (i3 q) (i3 p) (i3 (90 * r + p)) (bI b) (i3 j) σ = if (b && allF (fun j => decide (σ 22 (6 * (90 * r + p) + j) = g (s + j))) j d) = true then some (i3 p) else k2 (i3 r) (i3 q) (i3 (p + 1)) σ := by
    intro k2 p hp d
    induction d with
    | zero =>
      intro j fu b hd hfu
      obtain ⟨f, rfl⟩ : ∃ f, fu = f + 1 := ⟨fu - 1, by omega⟩
      rw [fMd_found_l56_S, fMd_found_b56_E, mgA_7 (by omega), h7, if_pos ((i3_le (by omega) (by omega)).mpr (by omega)), fMd_found_j115_E, i3_add]
      cases b with
      | false => rfl
      | true => rfl
    | succ d ih =>
      intro j fu b hd hfu
      obtain ⟨f, rfl⟩ : ∃ f, fu = f + 1 := ⟨fu - 1, by omega⟩
      have ih0 := ih (j + 1) f false (by omega) (by omega)
      have ih1 := ih (j + 1) f true (by omega) (by omega)
      rw [Bool.false_and, if_neg (by decide)] at ih0
      rw [fMd_found_l56_S, fMd_found_b56_E, mgA_7 (by omega), h7, if_neg (fun w => absurd ((i3_le (by omega) (by omega)).mp w) (by omega))]
      cases b with
      | false =>
        rw [if_pos (show bI false = i3 0 from rfl), fMd_found_j115_E, if_pos (show bI false = i3 0 from rfl), i3_add, Bool.false_and, if_neg (by decide)]
      | true =>
        rw [if_neg (show ¬ bI true = i3 0 by decide), i3_mul, i3_add, mgA_22 (by omega), mgA_6 (by omega), h6, i3_add, mgA_4 (by omega), h4 j (by omega)]
        show _ = if (true && (decide (σ 22 (6 * (90 * r + p) + j) = g (s + j)) && allF (fun j => decide (σ 22 (6 * (90 * r + p) + j) = g (s + j))) (j + 1) d)) = true then some (i3 p) else k2 (i3 r) (i3 q) (i3 (p + 1)) σ
        by_cases y : σ 22 (6 * (90 * r + p) + j) = g (s + j)
        · rw [if_pos y, decide_eq_true y, Bool.true_and, Bool.true_and, fMd_found_j107_E, i3_add]
          rw [Bool.true_and] at ih1
          exact ih1
        · rw [if_neg y, decide_eq_false y, Bool.false_and, Bool.and_false, if_neg (by decide), fMd_found_j107_E, i3_add]
          exact ih0
  have lp : ∀ d i fu, d + i = P → d < fu → fMd_found_l2 fu (i3 r) (i3 q) (i3 i) σ = some (eO (fstF (fnB σ r g s l) i d)) := by
    intro d
    induction d with
    | zero =>
      intro i fu hd hfu
      obtain ⟨f, rfl⟩ : ∃ f, fu = f + 1 := ⟨fu - 1, by omega⟩
      rw [fMd_found_l2_S, fMd_found_b2_E, mgA_18 (by omega), hP, if_pos ((i3_le (by omega) (by omega)).mpr (by omega))]
      rfl
    | succ d ih =>
      intro i fu hd hfu
      obtain ⟨f, rfl⟩ : ∃ f, fu = f + 1 := ⟨fu - 1, by omega⟩
      have ih' := ih (i + 1) f (by omega) (by omega)
      have X := (Q r hr).2 i (by omega)
      obtain ⟨lo, hlo6, hlo⟩ := X.lo.to
      have elo : nv (σ 21 (90 * r + i)) = lo := by rw [hlo]; exact nv_i (by omega)
      have i1 := inn (fMd_found_l2 f) i (by omega) l 0 FU true (by omega) (FU_S (by omega))
      have i0 := inn (fMd_found_l2 f) i (by omega) l 0 FU false (by omega) (FU_S (by omega))
      rw [Bool.true_and] at i1
      rw [Bool.false_and, if_neg (by decide)] at i0
      have n0 : fMd_found_j50 (fMd_found_l2 f) (i3 r) (i3 q) (i3 i) (i3 (90 * r + i)) σ = some (eO (fstF (fnB σ r g s l) (i + 1) d)) := by
        rw [fMd_found_j50_E, fMd_found_j51_E]; exact i0.trans ih'
      rw [fMd_found_l2_S, fMd_found_b2_E, mgA_18 (by omega), hP, if_neg (fun w => absurd ((i3_le (by omega) (by omega)).mp w) (by omega)), i3_mul, i3_add, mgA_19 (by omega), fstF_S]
      by_cases z : σ 19 (90 * r + i) = i3 0
      · rw [if_pos z, mgA_21 (by omega), hlo, mgA_7 (by omega), h7]
        by_cases y : lo = l
        · have e1 : fnB σ r g s l i = allF (fun j => decide (σ 22 (6 * (90 * r + i) + j) = g (s + j))) 0 l := by unfold fnB; rw [decide_eq_true z, Bool.true_and, elo, decide_eq_true y, Bool.true_and]
          rw [if_pos (by rw [y]), fMd_found_j51_E, e1]
          refine i1.trans ?_
          by_cases w : allF (fun j => decide (σ 22 (6 * (90 * r + i) + j) = g (s + j))) 0 l = true
          · rw [if_pos w, if_pos w]; rfl
          · rw [if_neg w, if_neg w]; exact ih'
        · have e1 : ¬ fnB σ r g s l i = true := by unfold fnB; rw [decide_eq_true z, Bool.true_and, elo, decide_eq_false y, Bool.false_and]; decide
          rw [if_neg (fun w => y ((i3_inj (by omega) (by omega)).mp w)), if_neg e1]; exact n0
      · have e1 : ¬ fnB σ r g s l i = true := by unfold fnB; rw [decide_eq_false z, Bool.false_and]; decide
        rw [if_neg z, if_neg e1]; exact n0
  unfold fnd
  rw [fMd_found_E, eP]
  exact lp P 0 FU (by omega) (FU_S (by omega))
theorem c_ends {q : Nat} {C : CS} (G : RG own M (gr h r) r) (u : CUR M (gr h r) C) (hq : q < C.1) (h20 : C.1 ≤ 20) : fCut_startOf (gr h r + 4) (i3 q) M = some (i3 (C.2.2.1 q)) ∧ fCut_endOf (gr h r + 4) (i3 q) M = some (i3 (C.2.2.1 q + C.2.2.2 q)) := by
  obtain ⟨u1, u2⟩ := u.2 q hq
  constructor
  · rw [fCut_startOf_E, if_neg (fun w => absurd ((i3_lt (by omega) (by omega)).mp w) (by omega)), fgR_s G.k4, G.c0, aln_i G.k5 (by decide) (by decide), G.l5, if_neg (fun w => absurd ((i3_le (by omega) (by omega)).mp w) (by omega)), fgR_s G.k4, G.c0, alI_i G.k5 (by rw [G.l5]; omega) (by omega), u1]
  · rw [fCut_endOf_E, if_neg (fun w => absurd ((i3_lt (by omega) (by omega)).mp w) (by omega)), fgR_s G.k4, G.c1, aln_i G.k6 (by decide) (by decide), G.l6, if_neg (fun w => absurd ((i3_le (by omega) (by omega)).mp w) (by omega)), fgR_s G.k4, G.c1, alI_i G.k6 (by rw [G.l6]; omega) (by omega), u2]
def smB (g : Nat → Int32) (C : CS) (x y : Nat) : Bool := decide (C.2.2.2 x = C.2.2.2 y) && allF (fun j => decide (g (C.2.2.1 x + j) = g (C.2.2.1 y + j))) 0 (C.2.2.2 x)
/-- what is known of a cut -/
def CIN (C : CS) (m : Nat) : Prop := C.1 ≤ 20 ∧ ∀ q, q < C.1 → C.2.2.1 q + C.2.2.2 q ≤ m ∧ 1 ≤ C.2.2.2 q ∧ C.2.2.2 q ≤ 6
theorem cS_cin {g : Nat → Int32} {m : Nat} (h40 : m ≤ 40) : CIN (cS g m m) m := ⟨cS_20 h40, fun _ hq => cS_end hq⟩
theorem c_areSame {b t m x y : Nat} {g : Nat → Int32} {C : CS} (G : RG own M (gr h r) r) (u : CUR M (gr h r) C) (K : CIN C m) (Y : BY own M b t m g) (h40 : m ≤ 40) (hx : x < C.1) (hy : y < C.1) : fStore_areSame (gr h r + 1) (some b) (i3 x) (i3 y) M = some (bI (smB g C x y)) := by
  obtain ⟨x1, x2⟩ := c_ends G u hx K.1
  obtain ⟨y1, y2⟩ := c_ends G u hy K.1
  obtain ⟨kx1, kx2, kx3⟩ := K.2 x hx
  obtain ⟨ky1, ky2, ky3⟩ := K.2 y hy
  unfold smB
  rw [fStore_areSame_E, fgR_s G.ks, G.s2, rk_s G.k4, x2, bdR_s, fgR_s G.ks, G.s2, rk_s G.k4, x1, bdR_s, fgR_s G.ks, G.s2, rk_s G.k4, y2, bdR_s, fgR_s G.ks, G.s2, rk_s G.k4, y1, bdR_s, i3_sub (by omega), i3_sub (by omega), Nat.add_sub_cancel_left, Nat.add_sub_cancel_left]
  by_cases z : C.2.2.2 x = C.2.2.2 y
  · rw [if_pos (by rw [z]), decide_eq_true z, Bool.true_and]
    have lp : ∀ d j fu, d + j = C.2.2.2 x → d < fu → fStore_areSame_l46 (gr h r + 1) fu (some b) (i3 x) (i3 y) (i3 (C.2.2.2 x)) (i3 j) M = some (bI (allF (fun j => decide (g (C.2.2.1 x + j) = g (C.2.2.1 y + j))) j d)) := by
      intro d
      induction d with
      | zero =>
        intro j fu hd hfu
        obtain ⟨f, rfl⟩ : ∃ f, fu = f + 1 := ⟨fu - 1, by omega⟩
        rw [fStore_areSame_l46_S, fStore_areSame_b46_E, if_pos ((i3_le (by omega) (by omega)).mpr (by omega)), rZ_1]
        rfl
      | succ d ih =>
        intro j fu hd hfu
        obtain ⟨f, rfl⟩ : ∃ f, fu = f + 1 := ⟨fu - 1, by omega⟩
        have ih' := ih (j + 1) f (by omega) (by omega)
        rw [fStore_areSame_l46_S, fStore_areSame_b46_E, if_neg (fun w => absurd ((i3_le (by omega) (by omega)).mp w) (by omega)), fgR_s G.ks, G.s2, rk_s G.k4, x1, bdR_s, rk_s Y.b.k, i3_add, Y.at h40 (by omega), bdR_s, fgR_s G.ks, G.s2, rk_s G.k4, y1, bdR_s, rk_s Y.b.k, i3_add, Y.at h40 (by omega), bdR_s]
        show _ = some (bI (decide (g (C.2.2.1 x + j) = g (C.2.2.1 y + j)) && allF (fun j => decide (g (C.2.2.1 x + j) = g (C.2.2.1 y + j))) (j + 1) d))
        by_cases w : g (C.2.2.1 x + j) = g (C.2.2.1 y + j)
        · rw [if_pos w, decide_eq_true w, i3_add]; exact ih'
        · rw [if_neg w, decide_eq_false w, rZ_0]; rfl
    exact lp _ 0 FU (by omega) (FU_S (by omega))
  · rw [if_neg (fun w => z ((i3_inj (by omega) (by omega)).mp w)), decide_eq_false z, rZ_0]; rfl
theorem m_isSame {m x y : Nat} {g : Nat → Int32} {C : CS} (A : AHD σ m g) (u : MCR σ C) (K : CIN C m) (h40 : m ≤ 40) (hx : x < C.1) (hy : y < C.1) : fMd_isSame (i3 x) (i3 y) σ = some (bI (smB g C x y)) := by
  obtain ⟨kx1, kx2, kx3⟩ := K.2 x hx
  obtain ⟨ky1, ky2, ky3⟩ := K.2 y hy
  obtain ⟨x1, x2⟩ := u.2 x hx
  obtain ⟨y1, y2⟩ := u.2 y hy
  have c20 := K.1
  have lp : ∀ d j fu (b : Bool), (b = true → C.2.2.2 x = C.2.2.2 y) → d + j = C.2.2.2 x → d < fu → fMd_isSame_l24 fu (i3 x) (i3 y) (bI b) (i3 j) σ = some (bI (b && allF (fun j => decide (g (C.2.2.1 x + j) = g (C.2.2.1 y + j))) j d)) := by
    intro d
    induction d with
    | zero =>
      intro j fu b hb hd hfu
      obtain ⟨f, rfl⟩ : ∃ f, fu = f + 1 := ⟨fu - 1, by omega⟩
      rw [fMd_isSame_l24_S, fMd_isSame_b24_E, mgA_7 (by omega), x2, if_pos ((i3_le (by omega) (by omega)).mpr (by omega))]
      show rZ (bI b) (some (bI b)) = some (bI (b && true))
      cases b <;> rfl
    | succ d ih =>
      intro j fu b hb hd hfu
      obtain ⟨f, rfl⟩ : ∃ f, fu = f + 1 := ⟨fu - 1, by omega⟩
      rw [fMd_isSame_l24_S, fMd_isSame_b24_E, mgA_7 (by omega), x2, if_neg (fun w => absurd ((i3_le (by omega) (by omega)).mp w) (by omega))]
      cases b with
      | false => rfl
      | true =>
        have ih0 := ih (j + 1) f false (fun w => (by cases w)) (by omega) (by omega)
        have ih1 := ih (j + 1) f true hb (by omega) (by omega)
        have e := hb rfl
        rw [if_neg (show ¬ bI true = i3 0 by decide), mgA_6 (by omega), x1, i3_add, mgA_4 (by omega), A.2 _ (by omega), mgA_6 (by omega), y1, i3_add, mgA_4 (by omega), A.2 _ (by omega)]
        show _ = some (bI (true && (decide (g (C.2.2.1 x + j) = g (C.2.2.1 y + j)) && allF (fun j => decide (g (C.2.2.1 x + j) = g (C.2.2.1 y + j))) (j + 1) d)))
        by_cases w : g (C.2.2.1 x + j) = g (C.2.2.1 y + j)
        · rw [if_pos w, decide_eq_true w, fMd_isSame_j75_E, i3_add]; exact ih1
        · rw [if_neg w, decide_eq_false w, fMd_isSame_j75_E, i3_add]; exact ih0
  unfold smB
  rw [fMd_isSame_E, mgA_7 (by omega), mgA_7 (by omega), x2, y2]
  by_cases z : C.2.2.2 x = C.2.2.2 y
  · rw [if_pos (by rw [z]), decide_eq_true z, fMd_isSame_j20_E]
    exact lp _ 0 FU true (fun _ => z) (by omega) (FU_S (by omega))
  · rw [if_neg (fun w => z ((i3_inj (by omega) (by omega)).mp w)), decide_eq_false z, fMd_isSame_j20_E]
    exact lp _ 0 FU false (fun w => (by cases w)) (by omega) (FU_S (by omega))
/-- a piece that would come anew -/
def nwp (σ : Sg) (r : Nat) (g : Nat → Int32) (C : CS) : Nat → Bool := fun q => (fnd σ r g (C.2.2.1 q) (C.2.2.2 q)).isNone && !(fstF (fun o => smB g C o q) 0 q).isSome
theorem c_isFirst {b t m q : Nat} {g : Nat → Int32} {C : CS} (G : RG own M (gr h r) r) (u : CUR M (gr h r) C) (K : CIN C m) (Y : BY own M b t m g) (h40 : m ≤ 40) (hq : q < C.1) : fStore_isFirstInCut (gr h r + 1) (some b) (i3 q) M = some (bI (!(fstF (fun o => smB g C o q) 0 q).isSome)) := by
  have c20 := K.1
  have lp : ∀ d o fu, d + o = q → d < fu → fStore_isFirstInCut_l2 (gr h r + 1) fu (some b) (i3 q) (i3 o) M = some (bI (!(fstF (fun o => smB g C o q) o d).isSome)) := by
    intro d
    induction d with
    | zero =>
      intro o fu hd hfu
      obtain ⟨f, rfl⟩ : ∃ f, fu = f + 1 := ⟨fu - 1, by omega⟩
      rw [fStore_isFirstInCut_l2_S, fStore_isFirstInCut_b2_E, if_pos ((i3_le (by omega) (by omega)).mpr (by omega)), rZ_1]
      rfl
    | succ d ih =>
      intro o fu hd hfu
      obtain ⟨f, rfl⟩ : ∃ f, fu = f + 1 := ⟨fu - 1, by omega⟩
      have ih' := ih (o + 1) f (by omega) (by omega)
      rw [fStore_isFirstInCut_l2_S, fStore_isFirstInCut_b2_E, if_neg (fun w => absurd ((i3_le (by omega) (by omega)).mp w) (by omega)), rk_s G.ks, c_areSame G u K Y h40 (by omega) hq, bdR_s, fstF_S]
      cases smB g C o q with
      | false => rw [if_pos (show bI false = i3 0 from rfl), if_neg (by decide), i3_add]; exact ih'
      | true => rw [if_neg (show ¬ bI true = i3 0 by decide), if_pos rfl, rZ_0]; rfl
  rw [fStore_isFirstInCut_E]
  exact lp q 0 FU (by omega) (FU_S (by omega))
theorem c_manyEver {b t m : Nat} {g : Nat → Int32} (R : RR h own B σ M n) (Q : PQ σ) (Y : BY own M b t m g) (h40 : m ≤ 40) (ht : t ≠ 10 + r) (hr : r < 2) : ∃ M', fStore_manyEverWith (gr h r + 1) (some b) M = some (i3 (nv (σ 18 r) + cntF (nwp σ r g (cS g m m)) 0 (cS g m m).1), M') ∧ IOS (SCU (gr h r)) M M' ∧ CUR M' (gr h r) (cS g m m) := by
  have G0 := R.rg r hr
  obtain ⟨M1, e1, e2, e3⟩ := c_cut G0 Y h40 ht
  have fm : FRM (fun x => x = 10 + r) own M own M1 := e2.frm fun cc a z _ => scu_own G0 z
  have R1 : RR h own B σ M1 n := R.scr fm fun x hx => by omega
  have Y1 := Y.ios e2 (fun cc a z => by rw [scu_own G0 z]; omega)
  have G := R1.rg r hr
  have K := cS_cin (g := g) h40
  have c20 := K.1
  have L := R1.pl r hr
  have p90 := Q.p90 r hr
  generalize cS g m m = C at *
  have cle : ∀ {d i : Nat}, cntF (nwp σ r g C) i d ≤ d := fun {d i} => cntF_le
  have lp : ∀ d q k fu, d + q = C.1 → d < fu → k ≤ 90 + q → fStore_manyEverWith_l18 (gr h r + 1) fu (some b) (i3 k) (i3 q) M1 = some (i3 (k + cntF (nwp σ r g C) q d), M1) := by
    intro d
    induction d with
    | zero =>
      intro q k fu hd hfu hk
      obtain ⟨f, rfl⟩ : ∃ f, fu = f + 1 := ⟨fu - 1, by omega⟩
      rw [fStore_manyEverWith_l18_S, fStore_manyEverWith_b18_E, fgR_s G.ks, G.s2, fgI_s G.k4, e3.1, if_pos ((i3_le (by omega) (by omega)).mpr (by omega))]
      rfl
    | succ d ih =>
      intro q k fu hd hfu hk
      obtain ⟨f, rfl⟩ : ∃ f, fu = f + 1 := ⟨fu - 1, by omega⟩
      have hq : q < C.1 := by omega
      obtain ⟨k1, k2, k3⟩ := K.2 q hq
      obtain ⟨s1, s2⟩ := c_ends G e3 hq c20
      have cf := c_findP R1 Q Y1 h40 hr (s := C.2.2.1 q) (l := C.2.2.2 q) k3 k1
      have ih0 := ih (q + 1) k f (by omega) (by omega) (by omega)
      have ih1 := ih (q + 1) (k + 1) f (by omega) (by omega) (by omega)
      have n0 : fStore_manyEverWith_j65 (gr h r + 1) (fStore_manyEverWith_l18 (gr h r + 1) f) (some b) (i3 k) (i3 q) M1 = some (i3 (k + cntF (nwp σ r g C) (q + 1) d), M1) := by
        rw [fStore_manyEverWith_j65_E, i3_add]; exact ih0
      have n1 : fStore_manyEverWith_j65 (gr h r + 1) (fStore_manyEverWith_l18 (gr h r + 1) f) (some b) (i3 (k + 1)) (i3 q) M1 = some (i3 (k + (1 + cntF (nwp σ r g C) (q + 1) d)), M1) := by
        rw [fStore_manyEverWith_j65_E, i3_add, ← Nat.add_assoc]; exact ih1
      rw [fStore_manyEverWith_l18_S, fStore_manyEverWith_b18_E, fgR_s G.ks, G.s2, fgI_s G.k4, e3.1, if_neg (fun w => absurd ((i3_le (by omega) (by omega)).mp w) (by omega)), fgR_s G.ks, G.s2, rk_s G.k4, s1, bdR_s, fgR_s G.ks, G.s2, rk_s G.k4, s2, bdR_s, rk_s G.ks, cf, bdR_s, cntF_S]
      cases hf : fnd σ r g (C.2.2.1 q) (C.2.2.2 q) with
      | some p =>
        have e : ¬ nwp σ r g C q = true := by unfold nwp; rw [hf]; exact Bool.false_ne_true
        rw [if_neg e, Nat.zero_add]
        exact n0
      | none =>
        have e : nwp σ r g C q = !(fstF (fun o => smB g C o q) 0 q).isSome := by unfold nwp; rw [hf]; rfl
        show (rk 8 (some (gr h r + 1)) M1 fun _ => _) = _
        rw [rk_s G.ks, c_isFirst G e3 K Y1 h40 hq, bdR_s, ← e]
        cases nwp σ r g C q with
        | false => rw [if_pos (show bI false = i3 0 from rfl), if_neg (by decide), Nat.zero_add]; exact n0
        | true => rw [if_neg (show ¬ bI true = i3 0 by decide), if_pos rfl, i3_add]; exact n1
  refine ⟨M1, ?_, e2, e3⟩
  rw [fStore_manyEverWith_E, fgR_s G0.ks, G0.s2, rk_s G0.k4, e1, bdW_s, fgR_s G.ks, G.s1, rk_s L.k, L.size, bdR_s]
  exact lp _ 0 _ FU (by omega) (FU_S (by omega)) (by omega)
theorem m_newMany {m : Nat} {g : Nat → Int32} {C : CS} (Q : PQ σ) (A : AHD σ m g) (u : MCR σ C) (K : CIN C m) (h40 : m ≤ 40) (hr : r < 2) : fMd_newMany (i3 r) σ = some (i3 (cntF (nwp σ r g C) 0 C.1)) := by
  have c20 := K.1
  have inn : ∀ (k4 : Int32 → Int32 → Int32 → Sg → Option Int32) k q, q < C.1 → k ≤ 20 → ∀ d o fu (b : Bool), d + o = q → d < fu → fMd_newMany_l32 k4 fu (i3 r) (i3 k) (i3 q) (bI b) (i3 o) σ = if (b && !(fstF (fun o => smB g C o q) o d).isSome) = true then k4 (i3 r) (i3 (k + 1)) (i3 (q + 1)) σ else k4 (i3 r) (i3 k) (i3 (q + 1)) σ := by
    intro k4 k q hq hk d
    have fin : ∀ b : Bool, fMd_newMany_j66 k4 (i3 r) (i3 k) (i3 q) (bI b) σ = if b = true then k4 (i3 r) (i3 (k + 1)) (i3 (q + 1)) σ else k4 (i3 r) (i3 k) (i3 (q + 1)) σ := fun b => by
      rw [fMd_newMany_j66_E]
      cases b with
      | false => rw [if_pos (show bI false = i3 0 from rfl), fMd_newMany_j77_E, i3_add, i3_add, Nat.add_zero, if_neg (by decide)]
      | true => rw [if_neg (show ¬ bI true = i3 0 by decide), fMd_newMany_j77_E, i3_add, i3_add, if_pos rfl]
    induction d with
    | zero =>
      intro o fu b hd hfu
      obtain ⟨f, rfl⟩ : ∃ f, fu = f + 1 := ⟨fu - 1, by omega⟩
      rw [fMd_newMany_l32_S, fMd_newMany_b32_E, if_pos ((i3_le (by omega) (by omega)).mpr (by omega)), fin b]
      cases b <;> rfl
    | succ d ih =>
      intro o fu b hd hfu
      obtain ⟨f, rfl⟩ : ∃ f, fu = f + 1 := ⟨fu - 1, by omega⟩
      rw [fMd_newMany_l32_S, fMd_newMany_b32_E, if_neg (fun w => absurd ((i3_le (by omega) (by omega)).mp w) (by omega))]
      cases b with
      | false => rw [if_pos (show bI false = i3 0 from rfl), fin false]; rfl
      | true =>
        have ih0 := ih (o + 1) f false (by omega) (by omega)
        have ih1 := ih (o + 1) f true (by omega) (by omega)
        rw [Bool.false_and, if_neg (by decide)] at ih0
        rw [if_neg (show ¬ bI true = i3 0 by decide), m_isSame A u K h40 (x := o) (y := q) (by omega) hq, bdR_s, fstF_S]
        cases smB g C o q with
        | false => rw [if_pos (show bI false = i3 0 from rfl), if_neg Bool.false_ne_true, fMd_newMany_j58_E, i3_add]; exact ih1
        | true => rw [if_neg (show ¬ bI true = i3 0 by decide), if_pos rfl, fMd_newMany_j58_E, i3_add]; exact ih0
  have lp : ∀ d q k fu, d + q = C.1 → d < fu → k ≤ q → fMd_newMany_l4 fu (i3 r) (i3 k) (i3 q) σ = some (i3 (k + cntF (nwp σ r g C) q d)) := by
    intro d
    induction d with
    | zero =>
      intro q k fu hd hfu hk
      obtain ⟨f, rfl⟩ : ∃ f, fu = f + 1 := ⟨fu - 1, by omega⟩
      rw [fMd_newMany_l4_S, fMd_newMany_b4_E, mgF_s, u.1, if_pos ((i3_le (by omega) (by omega)).mpr (by omega))]
      rfl
    | succ d ih =>
      intro q k fu hd hfu hk
      obtain ⟨f, rfl⟩ : ∃ f, fu = f + 1 := ⟨fu - 1, by omega⟩
      have hq : q < C.1 := by omega
      obtain ⟨k1, k2, k3⟩ := K.2 q hq
      obtain ⟨u1, u2⟩ := u.2 q hq
      have mf := m_found (g := g) Q hr (q := q) (by omega) u1 u2 (fun j hj => A.2 _ (by omega)) k3 (by omega)
      have ih0 := ih (q + 1) k f (by omega) (by omega) (by omega)
      have ih1 := ih (q + 1) (k + 1) f (by omega) (by omega) (by omega)
      have i1 := inn (fMd_newMany_l4 f) k q hq (by omega) q 0 FU true (by omega) (FU_S (by omega))
      have i0 := inn (fMd_newMany_l4 f) k q hq (by omega) q 0 FU false (by omega) (FU_S (by omega))
      rw [Bool.true_and] at i1
      rw [Bool.false_and, if_neg (by decide)] at i0
      rw [fMd_newMany_l4_S, fMd_newMany_b4_E, mgF_s, u.1, if_neg (fun w => absurd ((i3_le (by omega) (by omega)).mp w) (by omega)), mf, bdR_s, cntF_S]
      cases hf : fnd σ r g (C.2.2.1 q) (C.2.2.2 q) with
      | some p =>
        have e : ¬ nwp σ r g C q = true := by unfold nwp; rw [hf]; exact Bool.false_ne_true
        have hp : p < 90 := by have := (fstF_lt (show fstF (fnB σ r g (C.2.2.1 q) (C.2.2.2 q)) 0 (nv (σ 18 r)) = some p from hf)).2.1; have := Q.p90 r hr; omega
        rw [if_neg (show ¬ eO (some p) = m1 from fun w => by have w2 : i3 p = m1 := w; rw [i3_m1 (by omega)] at w2; exact w2), if_neg e, Nat.zero_add, fMd_newMany_j27_E]
        exact i0.trans ih0
      | none =>
        have e : nwp σ r g C q = !(fstF (fun o => smB g C o q) 0 q).isSome := by unfold nwp; rw [hf]; rfl
        rw [if_pos (show eO none = m1 from rfl), fMd_newMany_j27_E]
        rw [← e] at i1
        refine i1.trans ?_
        cases nwp σ r g C q with
        | false => rw [if_neg (by decide), if_neg (by decide), Nat.zero_add]; exact ih0
        | true => rw [if_pos rfl, if_pos rfl, ih1, Nat.add_assoc]
  rw [fMd_newMany_E]
  have := lp C.1 0 0 FU (by omega) (FU_S (by omega)) (by omega)
  rw [Nat.zero_add] at this
  exact this
def upN (σ : Sg) (r : Nat) : Nat := cntF (fun j => decide (σ 17 (6 * r + j) = i3 0)) 0 6
theorem c_manyUp (R : RR h own B σ M n) (hr : r < 2) : fStore_manyUp (gr h r + 1) M = some (i3 (upN σ r)) := by
  have G := R.rg r hr
  have lp : ∀ d j k fu, d + j = 6 → d < fu → fStore_manyUp_l4 (gr h r + 1) fu (i3 k) (i3 j) M = some (i3 (k + cntF (fun j => decide (σ 17 (6 * r + j) = i3 0)) j d)) := by
    intro d
    induction d with
    | zero =>
      intro j k fu hd hfu
      obtain ⟨f, rfl⟩ : ∃ f, fu = f + 1 := ⟨fu - 1, by omega⟩
      rw [fStore_manyUp_l4_S, fStore_manyUp_b4_E, if_pos ((i3_le (by omega) (by omega)).mpr (by omega))]
      rfl
    | succ d ih =>
      intro j k fu hd hfu
      obtain ⟨f, rfl⟩ : ∃ f, fu = f + 1 := ⟨fu - 1, by omega⟩
      have u := c_isUp R hr (j := j) (by omega)
      rw [fStore_manyUp_l4_S, fStore_manyUp_b4_E, if_neg (fun w => absurd ((i3_le (by omega) (by omega)).mp w) (by omega)), rk_s G.ks, u, bdR_s, cntF_S]
      by_cases z : σ 17 (6 * r + j) = i3 0
      · rw [if_pos z, if_neg (by decide), if_pos (decide_eq_true z), fStore_manyUp_j21_E, i3_add, i3_add, ih (j + 1) (k + 1) f (by omega) (by omega), Nat.add_assoc]
      · rw [if_neg z, if_pos rfl, if_neg (by rw [decide_eq_true_eq]; exact z), fStore_manyUp_j21_E, i3_add, ih (j + 1) k f (by omega) (by omega), Nat.zero_add]
  rw [fStore_manyUp_E, lp 6 0 0 FU (by omega) (FU_S (by omega)), Nat.zero_add]; rfl
theorem m_upMany (hr : r < 2) : fMd_upMany (i3 r) σ = some (i3 (upN σ r)) := by
  have lp : ∀ d j k fu, d + j = 6 → d < fu → fMd_upMany_l4 fu (i3 r) (i3 k) (i3 j) σ = some (i3 (k + cntF (fun j => decide (σ 17 (6 * r + j) = i3 0)) j d)) := by
    intro d
    induction d with
    | zero =>
      intro j k fu hd hfu
      obtain ⟨f, rfl⟩ : ∃ f, fu = f + 1 := ⟨fu - 1, by omega⟩
      rw [fMd_upMany_l4_S, fMd_upMany_b4_E, if_pos ((i3_le (by omega) (by omega)).mpr (by omega))]
      rfl
    | succ d ih =>
      intro j k fu hd hfu
      obtain ⟨f, rfl⟩ : ∃ f, fu = f + 1 := ⟨fu - 1, by omega⟩
      rw [fMd_upMany_l4_S, fMd_upMany_b4_E, if_neg (fun w => absurd ((i3_le (by omega) (by omega)).mp w) (by omega)), i3_mul, i3_add, mgA_17 (by omega), cntF_S]
      by_cases z : σ 17 (6 * r + j) = i3 0
      · rw [if_pos z, if_pos (decide_eq_true z), fMd_upMany_j30_E, i3_add, i3_add, ih (j + 1) (k + 1) f (by omega) (by omega), Nat.add_assoc]
      · rw [if_neg z, if_neg (by rw [decide_eq_true_eq]; exact z), fMd_upMany_j30_E, i3_add, i3_add, Nat.add_zero, ih (j + 1) k f (by omega) (by omega), Nat.zero_add]
  rw [fMd_upMany_E, lp 6 0 0 FU (by omega) (FU_S (by omega)), Nat.zero_add]; rfl
/-- whether an object has room -/
def rom (σ : Sg) (r m : Nat) (g : Nat → Int32) : Bool := decide (3 ≤ upN σ r) && (decide (nv (σ 26 r) < 40) && decide (nv (σ 18 r) + cntF (nwp σ r g (cS g m m)) 0 (cS g m m).1 ≤ 90))
theorem c_hasRoom {b t m : Nat} {g : Nat → Int32} (R : RR h own B σ M n) (Q : PQ σ) (V40 : nv (σ 26 r) ≤ 40) (Y : BY own M b t m g) (h40 : m ≤ 40) (ht : t ≠ 10 + r) (hr : r < 2) : ∃ M', fRegion_hasRoom (gr h r) (some b) M = some (bI (if m = 0 then decide (nv (σ 26 r) < 40) else rom σ r m g), M') ∧ IOS (SCU (gr h r)) M M' := by
  have G := R.rg r hr
  have L := R.vl r hr
  have p90 := Q.p90 r hr
  have c20 := cS_20 (g := g) h40
  have cle : cntF (nwp σ r g (cS g m m)) 0 (cS g m m).1 ≤ (cS g m m).1 := cntF_le
  have ul : upN σ r ≤ 6 := cntF_le
  have j19 : fRegion_hasRoom_j19 (gr h r) M = some (bI (decide (nv (σ 26 r) < 40)), M) := by
    rw [fRegion_hasRoom_j19_E, fgR_s G.k, G.p1, rk_s L.k, L.size, bdR_s]
    by_cases z : nv (σ 26 r) < 40
    · rw [if_neg (fun w => absurd ((i3_le (by omega) (by omega)).mp w) (by omega)), rZ_1, decide_eq_true z]; rfl
    · rw [if_pos ((i3_le (by omega) (by omega)).mpr (by omega)), rZ_0, decide_eq_false z]; rfl
  by_cases z : nv (σ 26 r) < 40
  · by_cases y : m = 0
    · refine ⟨M, ?_, IOS.refl⟩
      rw [fRegion_hasRoom_E, fgR_s G.k, G.p1, rk_s L.k, L.size, bdR_s, if_neg (fun w => absurd ((i3_le (by omega) (by omega)).mp w) (by omega)), fgI_s Y.b.k, Y.ma, if_pos (by rw [y]), if_pos y]
      exact j19
    · unfold rom
      rw [decide_eq_true z, Bool.true_and]
      by_cases u : 3 ≤ upN σ r
      · obtain ⟨M1, e1, e2, e3⟩ := c_manyEver R Q Y h40 ht hr
        refine ⟨M1, ?_, e2⟩
        rw [fRegion_hasRoom_E, fgR_s G.k, G.p1, rk_s L.k, L.size, bdR_s, if_neg (fun w => absurd ((i3_le (by omega) (by omega)).mp w) (by omega)), fgI_s Y.b.k, Y.ma, if_neg (fun w => y ((i3_inj (by omega) (by omega)).mp w)), fgR_s G.k, G.p0, rk_s G.ks, c_manyUp R hr, bdR_s, if_neg (fun w => absurd ((i3_lt (by omega) (by omega)).mp w) (by omega)), fgR_s G.k, G.p0, rk_s G.ks, e1, bdW_s, decide_eq_true u, Bool.true_and, if_neg y]
        by_cases v : nv (σ 18 r) + cntF (nwp σ r g (cS g m m)) 0 (cS g m m).1 ≤ 90
        · rw [if_neg (fun w => absurd ((i3_lt (by omega) (by omega)).mp w) (by omega)), rZ_1, decide_eq_true v]; rfl
        · rw [if_pos ((i3_lt (by omega) (by omega)).mpr (by omega)), rZ_0, decide_eq_false v]; rfl
      · refine ⟨M, ?_, IOS.refl⟩
        rw [fRegion_hasRoom_E, fgR_s G.k, G.p1, rk_s L.k, L.size, bdR_s, if_neg (fun w => absurd ((i3_le (by omega) (by omega)).mp w) (by omega)), fgI_s Y.b.k, Y.ma, if_neg (fun w => y ((i3_inj (by omega) (by omega)).mp w)), fgR_s G.k, G.p0, rk_s G.ks, c_manyUp R hr, bdR_s, if_pos ((i3_lt (by omega) (by omega)).mpr (by omega)), rZ_0, decide_eq_false u, Bool.false_and, if_neg y]; rfl
  · refine ⟨M, ?_, IOS.refl⟩
    have e : (if m = 0 then decide (nv (σ 26 r) < 40) else rom σ r m g) = decide (nv (σ 26 r) < 40) := by
      by_cases y : m = 0
      · rw [if_pos y]
      · rw [if_neg y]
        unfold rom
        rw [decide_eq_false z, Bool.false_and, Bool.and_false]
    rw [e, fRegion_hasRoom_E, fgR_s G.k, G.p1, rk_s L.k, L.size, bdR_s, if_pos ((i3_le (by omega) (by omega)).mpr (by omega))]
    exact j19
theorem m_hasRoom {m : Nat} {g : Nat → Int32} (Q : PQ σ) (V40 : NB 40 (σ 26 r)) (A : AHD σ m g) (u : MCR σ (cS g m m)) (h40 : m ≤ 40) (hr : r < 2) : fMd_hasRoom (i3 r) σ = some (bI (rom σ r m g)) := by
  obtain ⟨P, h90, hP⟩ := (Q r hr).1.to
  have eP : nv (σ 18 r) = P := by rw [hP]; exact nv_i (by omega)
  obtain ⟨V, hV40, hV⟩ := V40.to
  have eV : nv (σ 26 r) = V := by rw [hV]; exact nv_i (by omega)
  have c20 := cS_20 (g := g) h40
  have cle : cntF (nwp σ r g (cS g m m)) 0 (cS g m m).1 ≤ (cS g m m).1 := cntF_le
  have ul : upN σ r ≤ 6 := cntF_le
  unfold rom
  rw [fMd_hasRoom_E, m_upMany hr, bdR_s, eV, eP]
  by_cases x : 3 ≤ upN σ r
  · rw [if_neg (fun w => absurd ((i3_lt (by omega) (by omega)).mp w) (by omega)), decide_eq_true x, Bool.true_and, mgA_26 (by omega), hV]
    by_cases z : V < 40
    · rw [if_neg (fun w => absurd ((i3_le (by omega) (by omega)).mp w) (by omega)), decide_eq_true z, Bool.true_and, mgA_18 (by omega), hP, m_newMany Q A u (cS_cin h40) h40 hr, bdR_s, i3_add]
      by_cases v : P + cntF (nwp σ r g (cS g m m)) 0 (cS g m m).1 ≤ 90
      · rw [if_neg (fun w => absurd ((i3_lt (by omega) (by omega)).mp w) (by omega)), rZ_1, decide_eq_true v]; rfl
      · rw [if_pos ((i3_lt (by omega) (by omega)).mpr (by omega)), rZ_0, decide_eq_false v]; rfl
    · rw [if_pos ((i3_le (by omega) (by omega)).mpr (by omega)), rZ_0, decide_eq_false z, Bool.false_and]; rfl
  · rw [if_pos ((i3_lt (by omega) (by omega)).mpr (by omega)), rZ_0, decide_eq_false x, Bool.false_and]; rfl
end FD

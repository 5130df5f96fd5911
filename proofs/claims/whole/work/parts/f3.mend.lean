set_option maxRecDepth 100000
/-! mend -/
section ME
variable {h c n r : Nat} {own : Nat → Nat} {B : BK} {σ σ' : Sg} {M M' : Mm}
def mqd (σ : Sg) (r p : Nat) : Nat → Bool := fun s => !gdb σ (90 * r + p) s && (!decide (σ 25 (5 * (90 * r + p) + s) = i3 0) || (frM p (avl σ r (90 * r + p))).isSome)
def mnd (σ : Sg) (r p : Nat) : Option Nat := fstF (mqd σ r p) 0 5
def gN : Option Nat → Nat
  | none => 0
  | some x => x
def tgt (σ : Sg) (r p s : Nat) : Nat := if σ 25 (5 * (90 * r + p) + s) = i3 0 then gN (frM p (avl σ r (90 * r + p))) else nv (σ 23 (5 * (90 * r + p) + s))
theorem m_mendable (hr : r < 2) {p : Nat} (h90 : p < 90) : fMd_mendable (i3 r) (i3 p) σ = some (eO (mnd σ r p)) := by
  have fn := m_freeNode (σ := σ) hr h90
  have lp : ∀ d s fu, d + s = 5 → d < fu → fMd_mendable_l18 fu (i3 (90 * r + p)) (eO (frM p (avl σ r (90 * r + p)))) (i3 s) σ = some (eO (fstF (mqd σ r p) s d)) := by
    intro d
    induction d with
    | zero =>
      intro s fu hd hfu
      obtain ⟨f, rfl⟩ : ∃ f, fu = f + 1 := ⟨fu - 1, by omega⟩
      rw [fMd_mendable_l18_S, fMd_mendable_b18_E, if_pos ((i3_le (by omega) (by omega)).mpr (by omega))]
      rfl
    | succ d ih =>
      intro s fu hd hfu
      obtain ⟨f, rfl⟩ : ∃ f, fu = f + 1 := ⟨fu - 1, by omega⟩
      have ih' := ih (s + 1) f (by omega) (by omega)
      have g := m_isGood (σ := σ) (a := 90 * r + p) (s := s) (by omega) (by omega)
      have nx : fMd_mendable_j57 (fMd_mendable_l18 f) (i3 (90 * r + p)) (eO (frM p (avl σ r (90 * r + p)))) (i3 s) σ = some (eO (fstF (mqd σ r p) (s + 1) d)) := by
        rw [fMd_mendable_j57_E, i3_add]; exact ih'
      rw [fMd_mendable_l18_S, fMd_mendable_b18_E, if_neg (fun w => absurd ((i3_le (by omega) (by omega)).mp w) (by omega)), g, bdR_s, fstF_S]
      by_cases z : gdb σ (90 * r + p) s = true
      · have e : ¬ mqd σ r p s = true := by unfold mqd; rw [z, Bool.not_true, Bool.false_and]; exact Bool.false_ne_true
        rw [if_pos z, if_neg (by decide), if_neg e]; exact nx
      · have z2 : gdb σ (90 * r + p) s = false := Bool.eq_false_iff.mpr z
        rw [if_neg z, if_pos rfl, i3_mul, i3_add, mgA_25 (by omega)]
        by_cases y : σ 25 (5 * (90 * r + p) + s) = i3 0
        · rw [if_pos y]
          cases q : frM p (avl σ r (90 * r + p)) with
          | none =>
            rw [q] at nx
            have e : ¬ mqd σ r p s = true := by unfold mqd; rw [z2, decide_eq_true y, q]; decide
            rw [if_pos (show eO none = m1 from rfl), if_neg e]; exact nx
          | some x =>
            have x6 := frM_lt h90 q
            have e : mqd σ r p s = true := by unfold mqd; rw [z2, decide_eq_true y, q]; rfl
            rw [if_neg (show ¬ eO (some x) = m1 from fun w => by have w2 : i3 x = m1 := w; rw [i3_m1 (by omega)] at w2; exact w2), if_pos e]; rfl
        · have e : mqd σ r p s = true := by unfold mqd; rw [z2, decide_eq_false y]; rfl
          rw [if_neg y, if_pos e]; rfl
  rw [fMd_mendable_E, fn, bdR_s, i3_mul, i3_add]
  exact lp 5 0 FU (by omega) (FU_S (by omega))
theorem c_mendShard (R : RR h own B σ M n) (I : IV c σ) (hr : r < 2) {p : Nat} (hp : p < nv (σ 18 r)) (hw : σ 19 (90 * r + p) = i3 0) (hg : 3 ≤ gcn σ (90 * r + p)) : (mnd σ r p = none → fStore_mendShard (gr h r + 1) (some (pa B r p)) M = some (i3 0, M)) ∧ ∀ t, mnd σ r p = some t → t < 5 ∧ tgt σ r p t < 6 ∧ ∃ M', fStore_mendShard (gr h r + 1) (some (pa B r p)) M = some (i3 1, M') ∧ RR h own B (lay σ (90 * r + p) t (tgt σ r p t)) M' n := by
  have h90 := I.p90
  have hp90 : p < 90 := Nat.lt_of_lt_of_le hp (h90 r hr)
  have X := (I.po r hr p hp).1
  have A := R.po r hr p hp
  have G := R.rg r hr
  have fn := c_freeNode R hr hp hp90 hw
  have doit : ∀ K s x, s < 5 → x < 6 → gdb σ (90 * r + p) s = false → ∃ M', fStore_mendShard_j29 (gr h r + 1) K (some (pa B r p)) (i3 s) (i3 x) M = some (i3 1, M') ∧ RR h own B (lay σ (90 * r + p) s x) M' n := fun K s x hs hx hgd => by
    have g := c_isGood R hr hp hs hw
    rw [hgd, if_neg (by decide)] at g
    obtain ⟨M1, d1, d2, d3⟩ := c_decode R hr hp hw X
    rw [if_pos hg] at d1
    have R1 := R.code hr d2
    obtain ⟨M2, e1, e2, e3⟩ := c_encode R1 hr X.by (d3 hg)
    have R2 := R1.code hr (e2.mono fun cc y w => by omega)
    obtain ⟨M3, p1, -, p3, -⟩ := lay_i R2 hr hp h90 hw X hs hx e3
    have G1 := R1.rg r hr
    have G2 := R2.rg r hr
    have A2 := R2.po r hr p hp
    refine ⟨M3, ?_, p3⟩
    rw [fStore_mendShard_j29_E, rk_s A.b.k, g, bdR_s, if_pos rfl, if_neg (fun w => by rw [i3_m1 (by omega)] at w; exact w), fgR_s G.ks, G.s3, rk_s G.k7, d1, bdW_s, if_neg (by decide), fgR_s G1.ks, G1.s3, rk_s G1.k7, e1, bdW_s, fgR_s G2.ks, G2.s3, rk_s A2.b.k, p1, bdW_s, rZ_1]
  have lp : ∀ d s fu, d + s = 5 → d < fu → (fstF (mqd σ r p) s d = none → fStore_mendShard_l2 (gr h r + 1) fu (some (pa B r p)) (i3 s) M = some (i3 0, M)) ∧ ∀ t, fstF (mqd σ r p) s d = some t → t < 5 ∧ tgt σ r p t < 6 ∧ ∃ M', fStore_mendShard_l2 (gr h r + 1) fu (some (pa B r p)) (i3 s) M = some (i3 1, M') ∧ RR h own B (lay σ (90 * r + p) t (tgt σ r p t)) M' n := by
    intro d
    induction d with
    | zero =>
      intro s fu hd hfu
      obtain ⟨f, rfl⟩ : ∃ f, fu = f + 1 := ⟨fu - 1, by omega⟩
      refine ⟨fun _ => ?_, fun t e => (by cases e)⟩
      rw [fStore_mendShard_l2_S, fStore_mendShard_b2_E, if_pos ((i3_le (by omega) (by omega)).mpr (by omega)), rZ_0]
    | succ d ih =>
      intro s fu hd hfu
      obtain ⟨f, rfl⟩ : ∃ f, fu = f + 1 := ⟨fu - 1, by omega⟩
      obtain ⟨ih1, ih2⟩ := ih (s + 1) f (by omega) (by omega)
      have hs : s < 5 := by omega
      have nd := c_nodeOf R hr hp hs
      rw [if_pos hw] at nd
      have g := c_isGood R hr hp hs hw
      obtain ⟨s0, hs0, st⟩ : ∃ s0, s0 = (if σ 23 (5 * (90 * r + p) + s) = m1 then eO (frM p (avl σ r (90 * r + p))) else σ 23 (5 * (90 * r + p) + s)) ∧ fStore_mendShard_l2 (gr h r + 1) (f + 1) (some (pa B r p)) (i3 s) M = fStore_mendShard_j29 (gr h r + 1) (fStore_mendShard_l2 (gr h r + 1) f) (some (pa B r p)) (i3 s) s0 M := by
        refine ⟨_, rfl, ?_⟩
        rw [fStore_mendShard_l2_S, fStore_mendShard_b2_E, if_neg (fun w => absurd ((i3_le (by omega) (by omega)).mp w) (by omega)), rk_s A.b.k, nd, bdR_s]
        by_cases z : σ 23 (5 * (90 * r + p) + s) = m1
        · rw [if_pos z, if_pos z, rk_s G.ks, fn, bdR_s]
        · rw [if_neg z, if_neg z, rk_s A.b.k, nd, bdR_s]
      have nx : fStore_mendShard_j73 (gr h r + 1) (fStore_mendShard_l2 (gr h r + 1) f) (some (pa B r p)) (i3 s) M = fStore_mendShard_l2 (gr h r + 1) f (some (pa B r p)) (i3 (s + 1)) M := by
        rw [fStore_mendShard_j73_E, i3_add]
      have skip : mqd σ r p s = false → fStore_mendShard_l2 (gr h r + 1) (f + 1) (some (pa B r p)) (i3 s) M = fStore_mendShard_l2 (gr h r + 1) f (some (pa B r p)) (i3 (s + 1)) M := fun e => by
        rw [st, fStore_mendShard_j29_E, rk_s A.b.k, g, bdR_s]
        by_cases y : gdb σ (90 * r + p) s = true
        · rw [if_pos y, if_neg (by decide)]; exact nx
        · have y2 := Bool.eq_false_iff.mpr y
          unfold mqd at e
          rw [y2, Bool.not_false, Bool.true_and, Bool.or_eq_false_iff] at e
          have e1 : σ 25 (5 * (90 * r + p) + s) = i3 0 := by
            have := e.1
            rw [Bool.not_eq_false'] at this
            exact of_decide_eq_true this
          have e2 : σ 23 (5 * (90 * r + p) + s) = m1 := by
            by_cases w : σ 23 (5 * (90 * r + p) + s) = m1
            · exact w
            · exact absurd (decide_eq_true ⟨w, e1⟩) y
          have e3 : s0 = m1 := by
            rw [hs0, if_pos e2]
            cases q : frM p (avl σ r (90 * r + p)) with
            | none => rfl
            | some x => have := e.2; rw [q] at this; cases this
          rw [if_neg y, if_pos rfl, if_pos e3]; exact nx
      cases hm : mqd σ r p s with
      | false =>
        rw [fstF_S, hm, if_neg (by decide), skip hm]
        exact ⟨ih1, ih2⟩
      | true =>
        rw [fstF_S, hm, if_pos rfl]
        refine ⟨fun e => (by cases e), fun t e => ?_⟩
        injection e with e
        subst e
        unfold mqd at hm
        rw [Bool.and_eq_true] at hm
        have gf : gdb σ (90 * r + p) s = false := by have := hm.1; rw [Bool.not_eq_true'] at this; exact this
        have key : ∃ x, x < 6 ∧ s0 = i3 x ∧ tgt σ r p s = x := by
          by_cases w : σ 23 (5 * (90 * r + p) + s) = m1
          · have w2 : σ 25 (5 * (90 * r + p) + s) = i3 0 := by
              have rr := X.ro s hs
              obtain ⟨q, hq, hqe⟩ := rr.1.to
              rcases (by omega : q = 0 ∨ q = 1) with rfl | rfl
              · exact hqe
              · exact absurd w (rr.2 hqe)
            have f2 := hm.2
            rw [decide_eq_true w2, Bool.not_true, Bool.false_or] at f2
            obtain ⟨x, hx⟩ := Option.isSome_iff_exists.mp f2
            refine ⟨x, (frM_lt hp90 hx).1, ?_, ?_⟩
            · rw [hs0, if_pos w, hx]; rfl
            · unfold tgt; rw [if_pos w2, hx]; rfl
          · have nb : NB 5 (σ 23 (5 * (90 * r + p) + s)) := (X.nd s hs).resolve_left w
            have w2 : ¬ σ 25 (5 * (90 * r + p) + s) = i3 0 := fun y => by
              have z : gdb σ (90 * r + p) s = true := decide_eq_true ⟨w, y⟩
              rw [gf] at z; cases z
            refine ⟨nv (σ 23 (5 * (90 * r + p) + s)), by have := nb.2; omega, ?_, ?_⟩
            · rw [hs0, if_neg w]; exact nb.1
            · unfold tgt; rw [if_neg w2]
        obtain ⟨x, x6, ex, et⟩ := key
        obtain ⟨M', a1, a2⟩ := doit (fStore_mendShard_l2 (gr h r + 1) f) s x hs x6 gf
        refine ⟨hs, by omega, M', ?_, ?_⟩
        · rw [st, ex]; exact a1
        · rw [et]; exact a2
  have e := lp 5 0 FU (by omega) (FU_S (by omega))
  rw [fStore_mendShard_E]
  exact e
/-- parts that can be mended, with so many good shards -/
def pgd (σ : Sg) (r g : Nat) : Nat → Bool := fun p => decide (σ 19 (90 * r + p) = i3 0) && (decide (gcn σ (90 * r + p) = g) && (mnd σ r p).isSome)
theorem fstF_end {p : Nat → Bool} : ∀ {d i : Nat}, fstF p i (d + 1) = match fstF p i d with | some x => some x | none => if p (i + d) = true then some (i + d) else none := by
  intro d
  induction d with
  | zero => intro i; rfl
  | succ d ih =>
    intro i
    have e1 : fstF p i (d + 1 + 1) = if p i = true then some i else fstF p (i + 1) (d + 1) := rfl
    have e2 : fstF p i (d + 1) = if p i = true then some i else fstF p (i + 1) d := rfl
    by_cases z : p i = true
    · rw [if_pos z] at e1 e2
      rw [e1, e2]
    · rw [if_neg z] at e1 e2
      rw [e1, e2, ih, show i + 1 + d = i + (d + 1) by omega]
theorem c_mendOne_l (R : RR h own B σ M n) (I : IV c σ) (hr : r < 2) {g : Nat} (hg : 3 ≤ g) (hg5 : g < 5) (K : Int32 → Mm → Option (Int32 × Mm)) : ∀ d i fu, d + i = nv (σ 18 r) → d < fu → (fstF (pgd σ r g) i d = none → fStore_mendOne_l9 (gr h r + 1) K fu (i3 g) (i3 i) M = K (i3 (g + 1)) M) ∧ ∀ p, fstF (pgd σ r g) i d = some p → ∃ M', fStore_mendShard (gr h r + 1) (some (pa B r p)) M = some (i3 1, M') ∧ fStore_mendOne_l9 (gr h r + 1) K fu (i3 g) (i3 i) M = some (i3 1, M') := by
  have L := R.pl r hr
  have hl := L.k
  have hs := L.size
  have G := R.rg r hr
  have p90 := I.p90 r hr
  intro d
  induction d with
  | zero =>
    intro i fu hd hfu
    obtain ⟨f, rfl⟩ : ∃ f, fu = f + 1 := ⟨fu - 1, by omega⟩
    refine ⟨fun _ => ?_, fun p e => (by cases e)⟩
    rw [fStore_mendOne_l9_S, fStore_mendOne_b9_E, fgR_s G.ks, G.s1, rk_s hl, hs, bdR_s, if_pos ((i3_le (by omega) (by omega)).mpr (by omega)), i3_add]
  | succ d ih =>
    intro i fu hd hfu
    obtain ⟨f, rfl⟩ : ∃ f, fu = f + 1 := ⟨fu - 1, by omega⟩
    have ih' := ih (i + 1) f (by omega) (by omega)
    have hi : i < nv (σ 18 r) := by omega
    have A := R.po r hr i hi
    have ge := L.get hi
    have st : fStore_mendOne_l9 (gr h r + 1) K (f + 1) (i3 g) (i3 i) M = if σ 19 (90 * r + i) = i3 0 then (if i3 (gcn σ (90 * r + i)) = i3 g then bdW (fStore_mendShard (gr h r + 1) (some (pa B r i)) M) fun v18 M19 => if v18 = i3 0 then fStore_mendOne_l9 (gr h r + 1) K f (i3 g) (i3 (i + 1)) M19 else rZ (i3 1) (some (i3 1, M19)) else fStore_mendOne_l9 (gr h r + 1) K f (i3 g) (i3 (i + 1)) M) else fStore_mendOne_l9 (gr h r + 1) K f (i3 g) (i3 (i + 1)) M := by
      rw [fStore_mendOne_l9_S, fStore_mendOne_b9_E, fgR_s G.ks, G.s1, rk_s hl, hs, bdR_s, if_neg (fun w => absurd ((i3_le (by omega) (by omega)).mp w) (by omega)), fgR_s G.ks, G.s1, rk_s hl, ge, bdR_s, fca_s A.b.k, fgI_s A.b.k, A.sw]
      by_cases z : σ 19 (90 * r + i) = i3 0
      · rw [if_pos z, if_pos z, rk_s A.b.k, c_manyGood R hr hi z, bdR_s]
        by_cases y : i3 (gcn σ (90 * r + i)) = i3 g
        · rw [if_pos y, if_pos y, rk_s G.ks]
          simp only [fStore_mendOne_j57_E, i3_add]
        · rw [if_neg y, if_neg y, fStore_mendOne_j57_E, i3_add]
      · rw [if_neg z, if_neg z, fStore_mendOne_j57_E, i3_add]
    have g5 : gcn σ (90 * r + i) ≤ 5 := cntF_le
    have skip : pgd σ r g i = false → fStore_mendOne_l9 (gr h r + 1) K (f + 1) (i3 g) (i3 i) M = fStore_mendOne_l9 (gr h r + 1) K f (i3 g) (i3 (i + 1)) M := fun e => by
      rw [st]
      by_cases z : σ 19 (90 * r + i) = i3 0
      · rw [if_pos z]
        by_cases y : i3 (gcn σ (90 * r + i)) = i3 g
        · have y2 : gcn σ (90 * r + i) = g := (i3_inj (by omega) (by omega)).mp y
          rw [if_pos y]
          unfold pgd at e
          rw [decide_eq_true z, decide_eq_true y2, Bool.true_and, Bool.true_and] at e
          have e2 : mnd σ r i = none := by
            cases q : mnd σ r i with
            | none => rfl
            | some t => rw [q] at e; cases e
          rw [(c_mendShard R I hr hi z (by omega)).1 e2, bdW_s, if_pos rfl]
        · rw [if_neg y]
      · rw [if_neg z]
    cases hm : pgd σ r g i with
    | false =>
      rw [fstF_S, hm, if_neg (by decide), skip hm]
      exact ih'
    | true =>
      rw [fstF_S, hm, if_pos rfl]
      refine ⟨fun e => (by cases e), fun p e => ?_⟩
      injection e with e
      subst e
      unfold pgd at hm
      rw [Bool.and_eq_true, Bool.and_eq_true] at hm
      have z := of_decide_eq_true hm.1
      have y := of_decide_eq_true hm.2.1
      obtain ⟨t, ht⟩ := Option.isSome_iff_exists.mp hm.2.2
      obtain ⟨-, -, M', a1, a2⟩ := (c_mendShard R I hr hi z (by omega)).2 t ht
      refine ⟨M', a1, ?_⟩
      rw [st, if_pos z, if_pos (by rw [y]), a1, bdW_s, if_neg (by decide), rZ_1]
def bsm (σ : Sg) (r i : Nat) : Option Nat := match fstF (pgd σ r 3) 0 i with
  | some x => some x
  | none => fstF (pgd σ r 4) 0 i
def few (σ : Sg) (r i : Nat) : Nat := match fstF (pgd σ r 3) 0 i with
  | some _ => 3
  | none => match fstF (pgd σ r 4) 0 i with
    | some _ => 4
    | none => 5
theorem c_mendOne (R : RR h own B σ M n) (I : IV c σ) (hr : r < 2) : (bsm σ r (nv (σ 18 r)) = none → fStore_mendOne (gr h r + 1) M = some (i3 0, M)) ∧ ∀ p, bsm σ r (nv (σ 18 r)) = some p → ∃ M', fStore_mendShard (gr h r + 1) (some (pa B r p)) M = some (i3 1, M') ∧ fStore_mendOne (gr h r + 1) M = some (i3 1, M') := by
  have p90 := I.p90 r hr
  obtain ⟨a1, a2⟩ := c_mendOne_l R I hr (g := 3) (by omega) (by omega) (fStore_mendOne_l2 (gr h r + 1) 99999) (nv (σ 18 r)) 0 FU (by omega) (FU_S (by omega))
  obtain ⟨b1, b2⟩ := c_mendOne_l R I hr (g := 4) (by omega) (by omega) (fStore_mendOne_l2 (gr h r + 1) 99998) (nv (σ 18 r)) 0 FU (by omega) (FU_S (by omega))
  have s3 : fStore_mendOne (gr h r + 1) M = fStore_mendOne_l9 (gr h r + 1) (fStore_mendOne_l2 (gr h r + 1) 99999) FU (i3 3) (i3 0) M := by
    rw [fStore_mendOne_E]
    show fStore_mendOne_l2 (gr h r + 1) (99999 + 1) (i3 3) M = _
    rw [fStore_mendOne_l2_S, fStore_mendOne_b2_E, if_neg (by decide)]
  have s4 : fStore_mendOne_l2 (gr h r + 1) 99999 (i3 (3 + 1)) M = fStore_mendOne_l9 (gr h r + 1) (fStore_mendOne_l2 (gr h r + 1) 99998) FU (i3 4) (i3 0) M := by
    show fStore_mendOne_l2 (gr h r + 1) (99998 + 1) (i3 (3 + 1)) M = _
    rw [fStore_mendOne_l2_S, fStore_mendOne_b2_E, if_neg (by decide)]
  have s5 : fStore_mendOne_l2 (gr h r + 1) 99998 (i3 (4 + 1)) M = some (i3 0, M) := by
    show fStore_mendOne_l2 (gr h r + 1) (99997 + 1) (i3 (4 + 1)) M = _
    rw [fStore_mendOne_l2_S, fStore_mendOne_b2_E, if_pos (by decide), rZ_0]
  unfold bsm
  cases q3 : fstF (pgd σ r 3) 0 (nv (σ 18 r)) with
  | some x =>
    refine ⟨fun e => (by cases e), fun p e => ?_⟩
    have e2 : some x = some p := e
    injection e2 with e2
    subst e2
    obtain ⟨M', z1, z2⟩ := a2 x q3
    exact ⟨M', z1, s3.trans z2⟩
  | none =>
    have t := (s3.trans (a1 q3)).trans s4
    refine ⟨fun e => ?_, fun p e => ?_⟩
    · have e2 : fstF (pgd σ r 4) 0 (nv (σ 18 r)) = none := e
      exact (t.trans (b1 e2)).trans s5
    · have e2 : fstF (pgd σ r 4) 0 (nv (σ 18 r)) = some p := e
      obtain ⟨M', z1, z2⟩ := b2 p e2
      exact ⟨M', z1, t.trans z2⟩
theorem m_mends_l (I : IV c σ) (hr : r < 2) : ∀ d i fu, d + i = nv (σ 18 r) → d < fu → fMd_mends_l7 fu (i3 r) (eO (bsm σ r i)) (i3 (few σ r i)) (i3 i) σ = fMd_mends_b7 (fMd_mends_l7 0) (i3 r) (eO (bsm σ r (nv (σ 18 r)))) (i3 5) (i3 (nv (σ 18 r))) σ := by
  obtain ⟨P, h90, hP⟩ := (I.pn r hr).to
  have eP : nv (σ 18 r) = P := by rw [hP]; exact nv_i (by omega)
  rw [eP]
  intro d
  induction d with
  | zero =>
    intro i fu hd hfu
    obtain ⟨f, rfl⟩ : ∃ f, fu = f + 1 := ⟨fu - 1, by omega⟩
    rw [Nat.zero_add] at hd
    rw [hd, fMd_mends_l7_S, fMd_mends_b7_E, fMd_mends_b7_E, mgA_18 (by omega), mgA_18 (by omega), hP, if_pos ((i3_le (by omega) (by omega)).mpr (Nat.le_refl P)), if_pos ((i3_le (by omega) (by omega)).mpr (Nat.le_refl P))]
  | succ d ih =>
    intro i fu hd hfu
    obtain ⟨f, rfl⟩ : ∃ f, fu = f + 1 := ⟨fu - 1, by omega⟩
    have ih' := ih (i + 1) f (by omega) (by omega)
    have gm := m_goodMany (σ := σ) (a := 90 * r + i) (by omega)
    have g5 : gcn σ (90 * r + i) ≤ 5 := cntF_le
    have mm := m_mendable (σ := σ) hr (p := i) (by omega)
    have e3 := fstF_end (p := pgd σ r 3) (d := i) (i := 0)
    have e4 := fstF_end (p := pgd σ r 4) (d := i) (i := 0)
    rw [Nat.zero_add] at e3 e4
    have fw : 3 ≤ few σ r i ∧ few σ r i ≤ 5 := by
      unfold few
      cases fstF (pgd σ r 3) 0 i with
      | some x => exact ⟨Nat.le_refl 3, (by decide : 3 ≤ 5)⟩
      | none => cases fstF (pgd σ r 4) 0 i with
        | some x => exact ⟨(by decide : 3 ≤ 4), (by decide : 4 ≤ 5)⟩
        | none => exact ⟨(by decide : 3 ≤ 5), Nat.le_refl 5⟩
    have st : fMd_mends_l7 (f + 1) (i3 r) (eO (bsm σ r i)) (i3 (few σ r i)) (i3 i) σ = if σ 19 (90 * r + i) = i3 0 ∧ 2 < gcn σ (90 * r + i) ∧ gcn σ (90 * r + i) < few σ r i ∧ mnd σ r i ≠ none then fMd_mends_l7 f (i3 r) (i3 i) (i3 (gcn σ (90 * r + i))) (i3 (i + 1)) σ else fMd_mends_l7 f (i3 r) (eO (bsm σ r i)) (i3 (few σ r i)) (i3 (i + 1)) σ := by
      have n0 : fMd_mends_j73 (fMd_mends_l7 f) (i3 r) (eO (bsm σ r i)) (i3 (few σ r i)) (i3 i) (i3 (gcn σ (90 * r + i))) σ = fMd_mends_l7 f (i3 r) (eO (bsm σ r i)) (i3 (few σ r i)) (i3 (i + 1)) σ := by
        rw [fMd_mends_j73_E, fMd_mends_j74_E, if_pos rfl, fMd_mends_j87_E, if_pos rfl, fMd_mends_j99_E, i3_add]
      have n1 : fMd_mends_j74 (fMd_mends_l7 f) (i3 r) (eO (bsm σ r i)) (i3 (few σ r i)) (i3 i) (i3 (gcn σ (90 * r + i))) (i3 1) σ = fMd_mends_l7 f (i3 r) (i3 i) (i3 (gcn σ (90 * r + i))) (i3 (i + 1)) σ := by
        rw [fMd_mends_j74_E, if_neg (by decide), fMd_mends_j87_E, if_neg (by decide), fMd_mends_j99_E, i3_add]
      rw [fMd_mends_l7_S, fMd_mends_b7_E, mgA_18 (by omega), hP, if_neg (fun w => absurd ((i3_le (by omega) (by omega)).mp w) (by omega)), i3_mul, i3_add, gm, bdR_s, mgA_19 (by omega)]
      by_cases z : σ 19 (90 * r + i) = i3 0
      · rw [if_pos z]
        by_cases y : gcn σ (90 * r + i) ≤ 2
        · rw [if_pos ((i3_le (by omega) (by omega)).mpr y), n0, if_neg (by omega)]
        · rw [if_neg (fun w => y ((i3_le (by omega) (by omega)).mp w))]
          by_cases x : few σ r i ≤ gcn σ (90 * r + i)
          · rw [if_pos ((i3_le (by omega) (by omega)).mpr x), n0, if_neg (by omega)]
          · rw [if_neg (fun w => x ((i3_le (by omega) (by omega)).mp w)), mm, bdR_s]
            cases q : mnd σ r i with
            | none =>
              rw [if_pos (show eO none = m1 from rfl), n0, if_neg (fun w => w.2.2.2 rfl)]
            | some t =>
              have t5 : t < 5 := by have := (fstF_lt (show fstF (mqd σ r i) 0 5 = some t from q)).2.1; omega
              rw [if_neg (show ¬ eO (some t) = m1 from fun w => by have w2 : i3 t = m1 := w; rw [i3_m1 (by omega)] at w2; exact w2), n1, if_pos ⟨z, by omega, by omega, fun w => (by cases w)⟩]
      · rw [if_neg z, n0, if_neg (fun w => z w.1)]
    have pgi : ∀ g, pgd σ r g i = true ↔ σ 19 (90 * r + i) = i3 0 ∧ gcn σ (90 * r + i) = g ∧ mnd σ r i ≠ none := fun g => by
      unfold pgd
      rw [Bool.and_eq_true, Bool.and_eq_true, decide_eq_true_eq, decide_eq_true_eq]
      constructor
      · rintro ⟨h1, h2, h3⟩
        exact ⟨h1, h2, fun w => by rw [w] at h3; cases h3⟩
      · rintro ⟨h1, h2, h3⟩
        refine ⟨h1, h2, ?_⟩
        cases q : mnd σ r i with
        | none => exact absurd q h3
        | some t => rfl
    rw [st]
    have fin : ∀ b w, bsm σ r (i + 1) = b → few σ r (i + 1) = w → fMd_mends_l7 f (i3 r) (eO b) (i3 w) (i3 (i + 1)) σ = fMd_mends_b7 (fMd_mends_l7 0) (i3 r) (eO (bsm σ r P)) (i3 5) (i3 P) σ := fun b w hb hw => by
      rw [hb, hw] at ih'; exact ih'
    unfold bsm few at fin
    unfold bsm few
    rw [e3, e4] at fin
    cases q3 : fstF (pgd σ r 3) 0 i with
    | some x =>
      rw [q3] at fin
      rw [if_neg (fun w => by have a := w.2.1; have b : gcn σ (90 * r + i) < 3 := w.2.2.1; omega)]
      exact fin _ _ rfl rfl
    | none =>
      rw [q3] at fin
      by_cases p3 : pgd σ r 3 i = true
      · obtain ⟨z1, z2, z3⟩ := (pgi 3).mp p3
        have fin2 := fin (some i) 3 (by rw [if_pos p3]) (by rw [if_pos p3])
        cases q4 : fstF (pgd σ r 4) 0 i with
        | some x => rw [if_pos ⟨z1, by omega, (show gcn σ (90 * r + i) < 4 by omega), z3⟩, z2]; exact fin2
        | none => rw [if_pos ⟨z1, by omega, (show gcn σ (90 * r + i) < 5 by omega), z3⟩, z2]; exact fin2
      · rw [if_neg p3] at fin
        cases q4 : fstF (pgd σ r 4) 0 i with
        | some x =>
          rw [q4] at fin
          rw [if_neg (fun w => by have b : gcn σ (90 * r + i) < 4 := w.2.2.1; exact p3 ((pgi 3).mpr ⟨w.1, by have := w.2.1; omega, w.2.2.2⟩))]
          exact fin _ _ rfl rfl
        | none =>
          rw [q4] at fin
          by_cases p4 : pgd σ r 4 i = true
          · obtain ⟨z1, z2, z3⟩ := (pgi 4).mp p4
            rw [if_pos p4] at fin
            rw [if_pos ⟨z1, by omega, (show gcn σ (90 * r + i) < 5 by omega), z3⟩, z2]
            exact fin _ _ rfl rfl
          · rw [if_neg p4] at fin
            rw [if_neg (fun w => by
              have b : gcn σ (90 * r + i) < 5 := w.2.2.1
              have a := w.2.1
              by_cases v : gcn σ (90 * r + i) = 3
              · exact p3 ((pgi 3).mpr ⟨w.1, v, w.2.2.2⟩)
              · exact p4 ((pgi 4).mpr ⟨w.1, by omega, w.2.2.2⟩))]
            exact fin _ _ rfl rfl
/-- both sides mend one shard, or none -/
theorem mends_i (R : RR h own B σ M n) (I : IV c σ) (hr : r < 2) : (fStore_mendOne (gr h r + 1) M = some (i3 0, M) ∧ fMd_mends (i3 r) σ = some (i3 0, σ)) ∨ ∃ M' σ', fStore_mendOne (gr h r + 1) M = some (i3 1, M') ∧ fMd_mends (i3 r) σ = some (i3 1, σ') ∧ RR h own B σ' M' n ∧ IV c σ' ∧ ∀ k, k ≠ 23 → k ≠ 24 → k ≠ 25 → σ' k = σ k := by
  obtain ⟨P, h90, hP⟩ := (I.pn r hr).to
  have eP : nv (σ 18 r) = P := by rw [hP]; exact nv_i (by omega)
  obtain ⟨c1, c2⟩ := c_mendOne R I hr
  have ml := m_mends_l I hr (nv (σ 18 r)) 0 FU (by omega) (FU_S (by omega))
  rw [eP] at c1 c2 ml
  have e0 : fMd_mends (i3 r) σ = fMd_mends_b7 (fMd_mends_l7 0) (i3 r) (eO (bsm σ r P)) (i3 5) (i3 P) σ := by
    rw [fMd_mends_E]; exact ml
  rw [fMd_mends_b7_E, mgA_18 (by omega), hP, if_pos ((i3_le (by omega) (by omega)).mpr (Nat.le_refl P))] at e0
  cases q : bsm σ r P with
  | none =>
    left
    refine ⟨c1 q, ?_⟩
    rw [e0, q, if_pos (show eO none = m1 from rfl), rZ_0]
  | some p =>
    right
    obtain ⟨M', a1, a2⟩ := c2 p q
    have pp : p < P ∧ ∃ g, 3 ≤ g ∧ pgd σ r g p = true := by
      unfold bsm at q
      cases q3 : fstF (pgd σ r 3) 0 P with
      | some x =>
        rw [q3] at q
        have q' : some x = some p := q
        injection q' with q'
        subst q'
        have := fstF_lt q3
        exact ⟨by omega, 3, by omega, this.2.2⟩
      | none =>
        rw [q3] at q
        have q' : fstF (pgd σ r 4) 0 P = some p := q
        have := fstF_lt q'
        exact ⟨by omega, 4, by omega, this.2.2⟩
    obtain ⟨hpP, g, g3, pg⟩ := pp
    unfold pgd at pg
    rw [Bool.and_eq_true, Bool.and_eq_true] at pg
    have hw := of_decide_eq_true pg.1
    have hgc := of_decide_eq_true pg.2.1
    obtain ⟨t, ht⟩ := Option.isSome_iff_exists.mp pg.2.2
    have hp : p < nv (σ 18 r) := by omega
    obtain ⟨t5, t6, M2, b1, b2⟩ := (c_mendShard R I hr hp hw (by omega)).2 t ht
    rw [b1] at a1
    have eM : M2 = M' := by
      have a3 : (i3 1, M2) = (i3 1, M') := Option.some.inj a1
      exact congrArg Prod.snd a3
    subst eM
    have X := (I.po r hr p hp).1
    have mm := m_mendable (σ := σ) hr (p := p) (by omega)
    have fn := m_freeNode (σ := σ) hr (p := p) (by omega)
    refine ⟨M2, lay σ (90 * r + p) t (tgt σ r p t), a2, ?_, b2, ?_, fun k k1 k2 k3 => lay_n k1 k2 k3⟩
    · have ls := m_lays (σ := σ) (a := 90 * r + p) (s := t) (x := tgt σ r p t) (by omega) t5 X.lo X.by
      have kn : ¬ eO (some p) = m1 := fun w => by have w2 : i3 p = m1 := w; rw [i3_m1 (by omega)] at w2; exact w2
      have ep : eO (some p) = i3 p := rfl
      have et0 : eO (some t) = i3 t := rfl
      rw [e0, q, if_neg kn, ep, mm, bdR_s, ht, et0, i3_mul, i3_add, i3_mul, i3_add, mgA_25 (by omega)]
      by_cases z : σ 25 (5 * (90 * r + p) + t) = i3 0
      · have et : tgt σ r p t = gN (frM p (avl σ r (90 * r + p))) := by unfold tgt; rw [if_pos z]
        have ef : eO (frM p (avl σ r (90 * r + p))) = i3 (tgt σ r p t) := by
          rw [et]
          cases qf : frM p (avl σ r (90 * r + p)) with
          | some x => rfl
          | none =>
            exfalso
            have m := (fstF_lt (show fstF (mqd σ r p) 0 5 = some t from ht)).2.2
            unfold mqd at m
            rw [qf, decide_eq_true z] at m
            rw [Bool.and_eq_true] at m
            cases m.2
        rw [if_pos z, fn, bdR_s, ef, fMd_mends_j170_E, ls, bdW_s, rZ_1]
      · have et : tgt σ r p t = nv (σ 23 (5 * (90 * r + p) + t)) := by unfold tgt; rw [if_neg z]
        have nn1 : σ 23 (5 * (90 * r + p) + t) ≠ m1 := by
          have rr := X.ro t t5
          obtain ⟨u, hu, hue⟩ := rr.1.to
          rcases (by omega : u = 0 ∨ u = 1) with rfl | rfl
          · exact absurd hue z
          · exact rr.2 hue
        have nb : NB 5 (σ 23 (5 * (90 * r + p) + t)) := (X.nd t t5).resolve_left nn1
        have ef : σ 23 (5 * (90 * r + p) + t) = i3 (tgt σ r p t) := by rw [et]; exact nb.1
        rw [if_neg z, mgA_23 (by omega), ef, fMd_mends_j170_E, ls, bdW_s, rZ_1]
    · have Y := lay_p X t6 t5
      refine I.setg (fun k hk => lay_n (by omega) (by omega) (by omega)) fun r0 hr0 p0 hp0 => ?_
      by_cases z : 90 * r0 + p0 = 90 * r + p
      · have Y21 : lay σ (90 * r + p) t (tgt σ r p t) 21 = σ 21 := lay_n (by decide) (by decide) (by decide)
        have Y22 : lay σ (90 * r + p) t (tgt σ r p t) 22 = σ 22 := lay_n (by decide) (by decide) (by decide)
        have ysb := Y.sb
        rw [Y21, Y22] at ysb
        rw [z]
        exact ⟨Y.nd, Y.ro, ysb⟩
      · have X0 := (I.po r0 hr0 p0 hp0).1
        refine ⟨fun s hs => ?_, fun s hs => ?_, fun s hs y1 y2 k hk => ?_⟩
        · rw [lay_23, if_neg (by omega)]; exact X0.nd s hs
        · rw [lay_23, lay_25, if_neg (by omega), if_neg (by omega)]; exact X0.ro s hs
        · rw [lay_23, if_neg (by omega)] at y1
          rw [lay_25, if_neg (by omega)] at y2
          rw [lay_24, if_neg (by omega), if_neg (by omega)]
          exact X0.sb s hs y1 y2 k hk
theorem mend_l (hr : r < 2) {m : Nat} (hm : m ≤ 99) : ∀ d k fu fu' (σ : Sg) (M : Mm), d + k = m → d < fu → d < fu' → RR h own B σ M n → IV c σ → ∃ v M' σ', fHb_mend_l19 h fu (i3 m) (some (gr h r + 1)) (i3 k) M n = some (.inl v, M', n) ∧ fMd_mend_l37 fu' (i3 r) (i3 m) (i3 k) σ = some (v, σ') ∧ RR h own B σ' M' n ∧ IV c σ' ∧ ∀ k, k ≠ 23 → k ≠ 24 → k ≠ 25 → σ' k = σ k := by
  intro d
  induction d with
  | zero =>
    intro k fu fu' σ M hd hfu hfu' R I
    obtain ⟨f, rfl⟩ : ∃ f, fu = f + 1 := ⟨fu - 1, by omega⟩
    obtain ⟨f', rfl⟩ : ∃ f, fu' = f + 1 := ⟨fu' - 1, by omega⟩
    rw [Nat.zero_add] at hd
    subst hd
    refine ⟨i3 k, M, σ, ?_, ?_, R, I, fun _ _ _ _ => rfl⟩
    · rw [fHb_mend_l19_S, fHb_mend_b19_E, if_pos ((i3_le (by omega) (by omega)).mpr (Nat.le_refl k))]
    · rw [fMd_mend_l37_S, fMd_mend_b37_E, if_pos ((i3_le (by omega) (by omega)).mpr (Nat.le_refl k))]
  | succ d ih =>
    intro k fu fu' σ M hd hfu hfu' R I
    obtain ⟨f, rfl⟩ : ∃ f, fu = f + 1 := ⟨fu - 1, by omega⟩
    obtain ⟨f', rfl⟩ : ∃ f, fu' = f + 1 := ⟨fu' - 1, by omega⟩
    have G := R.rg r hr
    rw [fHb_mend_l19_S, fHb_mend_b19_E, fMd_mend_l37_S, fMd_mend_b37_E, if_neg (fun w => absurd ((i3_le (by omega) (by omega)).mp w) (by omega)), if_neg (fun w => absurd ((i3_le (by omega) (by omega)).mp w) (by omega)), rk_s G.ks]
    rcases mends_i R I hr with ⟨a1, a2⟩ | ⟨M', σ', a1, a2, a3, a4, a5⟩
    · refine ⟨i3 k, M, σ, ?_, ?_, R, I, fun _ _ _ _ => rfl⟩
      · rw [a1, bdW_s, if_pos rfl]
      · rw [a2, bdW_s, if_pos rfl]
    · obtain ⟨v, M2, σ2, b1, b2, b3, b4, b5⟩ := ih (k + 1) f f' σ' M' (by omega) (by omega) (by omega) a3 a4
      refine ⟨v, M2, σ2, ?_, ?_, b3, b4, fun k k1 k2 k3 => (b5 k k1 k2 k3).trans (a5 k k1 k2 k3)⟩
      · rw [a1, bdW_s, if_neg (by decide), i3_add]; exact b1
      · rw [a2, bdW_s, if_neg (by decide), i3_add]; exact b2
theorem op_mend (R : RR h own B σ M n) (I : IV c σ) (x1 x2 : Int32) : OPR h c σ n (fHb_mend h x1 x2 M n) (fMd_mend x1 x2 σ) (cdf 1 2 0) := by
  have k := R.hb.k
  have hn : n ≤ n + 1 := Nat.le_succ n
  have hn0 : n ≤ n := Nat.le_refl n
  rcases regs x1 with ⟨r, hr, rfl⟩ | ⟨h0, h1⟩
  · have q1 := c_reg (n := n) R hr
    have q2 := m_reg hr
    have G := R.rg r hr
    have gk := G.k
    have gp := G.p0
    by_cases hx : inR x2 1 99
    · have q6 := inR_c (M := M) (n := n) hx (by omega)
      have q7 := inR_m hx (by omega)
      obtain ⟨m, hm1, hm, rfl⟩ := hx
      obtain ⟨v, M', σ', b1, b2, b3, b4, b5⟩ := mend_l (h := h) (own := own) (B := B) (n := n) (c := c) hr hm m 0 FU FU (uS σ 0 0 (i3 0)) M (by omega) (FU_S (by omega)) (FU_S (by omega)) (R.scf (scf0 _)) (I.scf (scf0 _))
      refine ⟨.inl v, M', n, v, σ', ?_, ?_, ⟨by rw [b5 0 (by decide) (by decide) (by decide)]; rfl, rfl⟩, hn0, POT.same (by omega) (by omega) (b5 36 (by decide) (by decide) (by decide)) (b5 18 (by decide) (by decide) (by decide)) (b5 8 (by decide) (by decide) (by decide)), own, B, b3, b4.up0⟩
      · rw [fHb_mend_E, rk_s k, q1, bdC_li hn0, fgR_s gk, gp, q6, bdC_li hn0]; exact b1
      · rw [fMd_mend_E, q2, bdR_s, if_neg (by decide), q7, bdR_s, if_neg (by decide), fMd_mend_j27_E, m_holds0, bdW_s, if_neg (by decide)]; exact b2
    · have q6 := noR_c (M := M) (n := n) hx (by omega) (by omega)
      have q7 := noR_m hx (by omega) (by omega)
      refine OPR.err R I 1 2 (v := i3 0) ?_ ?_ rfl (by omega) (by omega)
      · rw [fHb_mend_E, rk_s k, q1, bdC_li hn0, fgR_s gk, gp, q6, bdC_ri hn]
      · rw [fMd_mend_E, q2, bdR_s, if_neg (by decide), q7, bdR_s, if_pos rfl, fMd_mend_j27_E, m_holdsk (by decide) (by decide), bdW_s, if_pos rfl]
  · have q1 := c_noreg (h := h) (M := M) (n := n) h0 h1
    have q2 := m_noreg h0 h1
    refine OPR.err R I 0 1 (v := i3 0) ?_ ?_ rfl (by omega) (by omega)
    · rw [fHb_mend_E, rk_s k, q1, bdC_ri hn]
    · rw [fMd_mend_E, q2, bdR_s, if_pos rfl, fMd_mend_j27_E, m_holdsk (by decide) (by decide), bdW_s, if_pos rfl]
end ME

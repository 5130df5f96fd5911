set_option maxRecDepth 100000
/-! a version entered: what always holds goes on holding -/
section EI
variable {h c n r : Nat} {own : Nat → Nat} {B : BK} {σ σ' σh τ : Sg} {M M' : Mm}
theorem posD_e {N : Nat} (e : σ' 27 = σ 27) : ∀ k, posD σ' r N k = posD σ r N k := by
  intro k
  induction k with
  | zero => rfl
  | succ k ih =>
    show (if N < nE σ' r k then posD σ' r N k else k + 1) = (if N < nE σ r k then posD σ r N k else k + 1)
    unfold nE
    rw [e, ih]
theorem IVV.mv2 {x y : Nat} (X : IVV σ r x) (e8 : σ' 8 = σ 8) (e9 : σ' 9 = σ 9) (e10 : σ' 10 = σ 10) (e11 : σ' 11 = σ 11) (e38 : σ' 38 = σ 38) (e39 : σ' 39 = σ 39) (h18 : nv (σ 18 r) ≤ nv (σ' 18 r)) (lo6 : ∀ p, p < nv (σ 18 r) → nv (σ 21 (90 * r + p)) ≤ 6) (ol : ∀ p0, p0 < nv (σ 18 r) → σ' 19 (90 * r + p0) = σ 19 (90 * r + p0) ∧ σ' 21 (90 * r + p0) = σ 21 (90 * r + p0) ∧ ∀ j, j < 6 → σ' 22 (6 * (90 * r + p0) + j) = σ 22 (6 * (90 * r + p0) + j)) (h35 : ∀ k, σ 35 (201 * r + k) = i3 1 → σ' 35 (201 * r + k) = i3 1) (ev : ∀ f, 27 ≤ f → f ≤ 33 → σ' f y = σ f x) (ep : ∀ q, q < nv (σ 33 x) → σ' 34 (20 * y + q) = σ 34 (20 * x + q)) : IVV σ' r y := by
  have v27 := ev 27 (by decide) (by decide)
  have v28 := ev 28 (by decide) (by decide)
  have v29 := ev 29 (by decide) (by decide)
  have v30 := ev 30 (by decide) (by decide)
  have v32 := ev 32 (by decide) (by decide)
  have v33 := ev 33 (by decide) (by decide)
  obtain ⟨x1, x2, x3, x4, x5, x6, x7, x8, x9, x10, x11⟩ := X
  have ps : ∀ q, q ≤ nv (σ 33 x) → partsum (σ' 21) (σ' 34) r y q = partsum (σ 21) (σ 34) r x q := by
    intro q
    induction q with
    | zero => intro _; rfl
    | succ q ih =>
      intro hq
      show partsum (σ' 21) (σ' 34) r y q + nv (σ' 21 (90 * r + nv (σ' 34 (20 * y + q)))) = partsum (σ 21) (σ 34) r x q + nv (σ 21 (90 * r + nv (σ 34 (20 * x + q))))
      rw [ih (by omega), ep q (by omega), (ol _ (x8 q (by omega)).2.1).2.1]
  unfold IVV
  rw [e8, e9, e10, e11, e38, e39, v27, v28, v29, v30, v32, v33]
  refine ⟨x1, x2, x3, x4, x5, x6, x7, fun q hq => ?_, ?_, h35 _ x10, x11⟩
  · obtain ⟨y1, y2, y3, y4⟩ := x8 q hq
    obtain ⟨o1, o2, o3⟩ := ol _ y2
    rw [ep q hq, ps q (by omega), o1, o2]
    exact ⟨y1, by omega, y3, fun j hj => by rw [o3 j (by have := lo6 _ y2; omega)]; exact y4 j hj⟩
  · rw [ps _ (Nat.le_refl _)]; exact x9
theorem uses_le {s33 s34 : Nat → Int32} {p : Nat} : ∀ i, (∀ j, j < i → nv (s33 (40 * r + j)) ≤ 20) → uses s33 s34 r p i ≤ 20 * i := by
  intro i
  induction i with
  | zero => intro _; exact Nat.le_refl 0
  | succ i ih =>
    intro hh
    rw [uses_S]
    have a := ih fun j hj => hh j (by omega)
    have b : cI s33 s34 r p i ≤ nv (s33 (40 * r + i)) := cntF_le
    have d := hh i (by omega)
    omega
theorem uses_none {s33 s34 : Nat → Int32} {p : Nat} (hp : p < 100) : ∀ i, (∀ j, j < i → ∀ q, q < nv (s33 (40 * r + j)) → ∃ x, x < p ∧ s34 (20 * (40 * r + j) + q) = i3 x) → uses s33 s34 r p i = 0 := by
  intro i
  induction i with
  | zero => intro _; rfl
  | succ i ih =>
    intro hh
    rw [uses_S, ih fun j hj => hh j (by omega), Nat.zero_add]
    have al : ∀ d, d ≤ nv (s33 (40 * r + i)) → cntF (fun q => decide (s34 (20 * (40 * r + i) + q) = i3 p)) 0 d = 0 := by
      intro d
      induction d with
      | zero => intro _; rfl
      | succ d ih2 =>
        intro hd
        rw [cntF_up, ih2 (by omega), Nat.zero_add, if_neg]
        rw [decide_eq_true_eq, Nat.zero_add]
        intro w
        obtain ⟨x, hx, e⟩ := hh i (by omega) d (by omega)
        rw [e] at w
        have := (i3_inj (by omega) (by omega)).mp w
        omega
    exact al _ (Nat.le_refl _)
/-- the numbers fit -/
def FIT (σ : Sg) (r N V m : Nat) (C : CS) (g : Nat → Int32) : Prop := (1 ≤ N) ∧
  (N ≤ nv (σ 8 0)) ∧
  (σ 26 r = i3 V) ∧
  (V < 40) ∧
  (∀ i, i < V → nE σ r i ≠ N) ∧
  (σ 9 N = i3 m) ∧
  (m ≤ 40) ∧
  (∀ j, j < m → g j = σ 10 (40 * N + j)) ∧
  (C = cS g m m) ∧
  (nv (σ 18 r) + cntF (nwp σ r g C) 0 C.1 ≤ 90)
theorem FIT.n1 {σ : Sg} {r N V m : Nat} {C : CS} {g : Nat → Int32} (Z : FIT σ r N V m C g) : 1 ≤ N := Z.1
theorem FIT.n2 {σ : Sg} {r N V m : Nat} {C : CS} {g : Nat → Int32} (Z : FIT σ r N V m C g) : N ≤ nv (σ 8 0) := Z.2.1
theorem FIT.hV {σ : Sg} {r N V m : Nat} {C : CS} {g : Nat → Int32} (Z : FIT σ r N V m C g) : σ 26 r = i3 V := Z.2.2.1
theorem FIT.v4 {σ : Sg} {r N V m : Nat} {C : CS} {g : Nat → Int32} (Z : FIT σ r N V m C g) : V < 40 := Z.2.2.2.1
theorem FIT.ne {σ : Sg} {r N V m : Nat} {C : CS} {g : Nat → Int32} (Z : FIT σ r N V m C g) : ∀ i, i < V → nE σ r i ≠ N := Z.2.2.2.2.1
theorem FIT.hm {σ : Sg} {r N V m : Nat} {C : CS} {g : Nat → Int32} (Z : FIT σ r N V m C g) : σ 9 N = i3 m := Z.2.2.2.2.2.1
theorem FIT.m4 {σ : Sg} {r N V m : Nat} {C : CS} {g : Nat → Int32} (Z : FIT σ r N V m C g) : m ≤ 40 := Z.2.2.2.2.2.2.1
theorem FIT.hg {σ : Sg} {r N V m : Nat} {C : CS} {g : Nat → Int32} (Z : FIT σ r N V m C g) : ∀ j, j < m → g j = σ 10 (40 * N + j) := Z.2.2.2.2.2.2.2.1
theorem FIT.hC {σ : Sg} {r N V m : Nat} {C : CS} {g : Nat → Int32} (Z : FIT σ r N V m C g) : C = cS g m m := Z.2.2.2.2.2.2.2.2.1
theorem FIT.rm {σ : Sg} {r N V m : Nat} {C : CS} {g : Nat → Int32} (Z : FIT σ r N V m C g) : nv (σ 18 r) + cntF (nwp σ r g C) 0 C.1 ≤ 90 := Z.2.2.2.2.2.2.2.2.2
def gam (σ σ' : Sg) : Sg := fun k => if 18 ≤ k ∧ k ≤ 35 then σ' k else σ k
theorem FIT.by15 {N V m : Nat} {C : CS} {g : Nat → Int32} (F : FIT σ r N V m C g) (I : IV c σ) : ∀ j, j < m → NB 15 (g j) := fun j hj => by
  have E := I.en N F.n1 F.n2
  have m4 := F.m4
  rw [F.hg j hj]
  exact E.by j (by rw [F.hm, nv_i (by omega)]; exact hj)
theorem FIT.c780 {N V m : Nat} {C : CS} {g : Nat → Int32} (F : FIT σ r N V m C g) (I : IV c σ) (hr : r < 2) : ∀ p, p < nv (σ 18 r) → nv (σ 20 (90 * r + p)) ≤ 780 := fun p hp => by
  have v4 := F.v4
  have eV : nv (σ 26 r) = V := by rw [F.hV]; exact nv_i (by omega)
  rw [(I.po r hr p hp).2, eV]
  have := uses_le (s33 := σ 33) (s34 := σ 34) (r := r) (p := p) V (fun j hj => (I.vo r hr j (by omega)).pc.2)
  omega
theorem enter_iv {N V m : Nat} {C : CS} {g : Nat → Int32} (I : IV c σ) (hr : r < 2) (F : FIT σ r N V m C g) (AG : ∀ k, 17 ≤ k → k ≤ 39 → k ≠ 36 → k ≠ 37 → σh k = σ k) (E : ENS r N V (posD σ r N V) C g σ σh σ') : IV c (gam σ σ') := by
  have n1 := F.n1
  have n2 := F.n2
  have v4 := F.v4
  have m4 := F.m4
  have eV : nv (σ 26 r) = V := by rw [F.hV]; exact nv_i (by omega)
  have K : CIN C m := by rw [F.hC]; exact cS_cin m4
  have c20 := K.1
  have IC : CSI C m m := by rw [F.hC]; exact cS_inv m (Nat.le_refl m)
  have hg := F.by15 I
  obtain ⟨T, -⟩ := tk_inv I.pq hr K hg F.rm (F.c780 I hr) C.1 (Nat.le_refl _)
  obtain ⟨pos, hpos⟩ : ∃ pos, pos = posD σ r N V := ⟨_, rfl⟩
  have pl := (posD_le (σ := σ) (r := r) (N := N) (k := V)).1
  have pgt := (posD_le (σ := σ) (r := r) (N := N) (k := V)).2
  have plt := posD_lt (σ := σ) (r := r) (N := N) (k := V)
  rw [← hpos] at E pl pgt plt
  have a27 : σh 27 = σ 27 := AG 27 (by omega) (by omega) (by omega) (by omega)
  have sAG : ∀ f, 27 ≤ f → f ≤ 35 → σh f = σ f := fun f h1 h2 => AG f (by omega) (by omega) (by omega) (by omega)
  have e8 := I.ev.2
  have PF := E.pf
  have QQ : PQ σ' := fun r0 hr0 => by
    have := T.pq r0 hr0
    unfold IVP at this ⊢
    rw [PF 18 (by decide) (by decide), PF 19 (by decide) (by decide), PF 20 (by decide) (by decide), PF 21 (by decide) (by decide), PF 22 (by decide) (by decide), PF 23 (by decide) (by decide), PF 24 (by decide) (by decide), PF 25 (by decide) (by decide)]
    exact this
  have n18 : ∀ r0, r0 < 2 → nv (σ 18 r0) ≤ nv (σ' 18 r0) := fun r0 hr0 => by
    rw [PF 18 (by decide) (by decide)]
    by_cases z : r0 = r
    · subst z; exact T.n18.1
    · rw [(T.oc r0 hr0 z).1]; exact Nat.le_refl _
  have ol : ∀ r0, r0 < 2 → ∀ p0, p0 < nv (σ 18 r0) → σ' 19 (90 * r0 + p0) = σ 19 (90 * r0 + p0) ∧ σ' 21 (90 * r0 + p0) = σ 21 (90 * r0 + p0) ∧ ∀ j, j < 6 → σ' 22 (6 * (90 * r0 + p0) + j) = σ 22 (6 * (90 * r0 + p0) + j) := fun r0 hr0 p0 hp0 => by
    rw [PF 19 (by decide) (by decide), PF 21 (by decide) (by decide), PF 22 (by decide) (by decide)]
    exact T.ol r0 hr0 p0 hp0
  obtain ⟨w27, w28, w29, w30, w31, w32, w33⟩ := E.nw
  have n26 : ∀ r0, r0 < 2 → nv (σ' 26 r0) = (if r0 = r then V + 1 else nv (σ 26 r0)) := fun r0 hr0 => by
    by_cases z : r0 = r
    · subst z; rw [if_pos rfl, E.v6.1, nv_i (by omega)]
    · rw [if_neg z, E.v6.2 r0 z, AG 26 (by omega) (by omega) (by omega) (by omega)]
  -- the place of an old version
  have old : ∀ r0 j, r0 < 2 → j < nv (σ' 26 r0) → ¬ (r0 = r ∧ j = pos) → ∃ x, x < nv (σ 26 r0) ∧ x = (if r0 = r ∧ pos < j then j - 1 else j) ∧ (∀ f, 27 ≤ f → f ≤ 33 → σ' f (40 * r0 + j) = σ f (40 * r0 + x)) ∧ ∀ q, q < nv (σ 33 (40 * r0 + x)) → σ' 34 (20 * (40 * r0 + j) + q) = σ 34 (20 * (40 * r0 + x) + q) := fun r0 j hr0 hj hn => by
    rw [n26 r0 hr0] at hj
    have v40 := (I.vn r0 hr0).2
    have hx : (if r0 = r ∧ pos < j then j - 1 else j) < nv (σ 26 r0) := by
      by_cases z : r0 = r
      · subst z
        rw [if_pos rfl] at hj
        have : j ≠ pos := fun w => hn ⟨rfl, w⟩
        by_cases y : pos < j
        · rw [if_pos ⟨rfl, y⟩]; omega
        · rw [if_neg (fun w => y w.2)]; omega
      · rw [if_neg z] at hj
        rw [if_neg (fun w => z w.1)]; exact hj
    have j40 : j < 40 := by
      by_cases z : r0 = r
      · rw [if_pos z] at hj; omega
      · rw [if_neg z] at hj; omega
    have ne : 40 * r0 + j ≠ 40 * r + pos := fun w => by
      have p40 : pos < 40 := by omega
      obtain ⟨a, b⟩ : r0 = r ∧ j = pos := by omega
      exact hn ⟨a, b⟩
    have key : ∀ f, 27 ≤ f → f ≤ 33 → σ' f (40 * r0 + j) = σ f (40 * r0 + (if r0 = r ∧ pos < j then j - 1 else j)) := fun f h1 h2 => by
      rw [E.vv f h1 h2 _ ne, sAG f h1 (by omega)]
      by_cases y : r0 = r ∧ pos < j
      · obtain ⟨rfl, y2⟩ := y
        rw [if_pos rfl] at hj
        rw [if_pos (by omega), if_pos ⟨rfl, y2⟩, show 40 * r0 + j - 1 = 40 * r0 + (j - 1) by omega]
      · rw [if_neg (fun w => by
          by_cases z : r0 = r
          · subst z; exact y ⟨rfl, by omega⟩
          · rw [if_neg z] at hj; omega), if_neg y]
    refine ⟨_, hx, rfl, key, fun q hq => ?_⟩
    have q20 : q < 20 := Nat.lt_of_lt_of_le hq (I.vo r0 hr0 _ hx).pc.2
    rw [E.pp _ (by omega) ne q (by rw [key 33 (by decide) (by decide)]; exact hq) q20, sAG 34 (by decide) (by decide)]
    by_cases y : r0 = r ∧ pos < j
    · obtain ⟨rfl, y2⟩ := y
      rw [if_pos rfl] at hj
      rw [if_pos (by omega), if_pos ⟨rfl, y2⟩, show 40 * r0 + j - 1 = 40 * r0 + (j - 1) by omega]
    · rw [if_neg (fun w => by
        by_cases z : r0 = r
        · subst z; exact y ⟨rfl, by omega⟩
        · rw [if_neg z] at hj; omega), if_neg y]
  -- numbers below and above
  have below : ∀ i, i < pos → nE σ r i < N := fun i hi => by
    have q := plt (by omega)
    have q2 := F.ne (pos - 1) (by omega)
    by_cases z : i = pos - 1
    · rw [z]; omega
    · have : nE σ r i < nE σ r (pos - 1) := I.vi r hr i (pos - 1) (by omega) (by omega)
      omega
  have num : ∀ r0 j x, (∀ f, 27 ≤ f → f ≤ 33 → σ' f (40 * r0 + j) = σ f (40 * r0 + x)) → nv (σ' 27 (40 * r0 + j)) = nE σ r0 x := fun r0 j x hx => by rw [hx 27 (by decide) (by decide)]
  have numN : nv (σ' 27 (40 * r + pos)) = N := by rw [w27, nv_i (by omega)]
  have ivn : ∀ r0, r0 < 2 → NB 40 (gam σ σ' 26 r0) := fun r0 hr0 => by
    show NB 40 (σ' 26 r0)
    by_cases z : r0 = r
    · subst z; rw [E.v6.1]; exact NB.of (by omega) (by omega)
    · rw [E.v6.2 r0 z, AG 26 (by omega) (by omega) (by omega) (by omega)]; exact I.vn r0 hr0
  have ivi : ∀ r0, r0 < 2 → ∀ i j, i < j → j < nv (gam σ σ' 26 r0) → nv (gam σ σ' 27 (40 * r0 + i)) < nv (gam σ σ' 27 (40 * r0 + j)) := fun r0 hr0 i j hij hj => by
    have hj : j < nv (σ' 26 r0) := hj
    show nv (σ' 27 (40 * r0 + i)) < nv (σ' 27 (40 * r0 + j))
    by_cases zi : r0 = r ∧ i = pos
    · obtain ⟨rfl, rfl⟩ := zi
      obtain ⟨x, x1, x2, x3, -⟩ := old r0 j hr0 hj (fun w => by omega)
      rw [if_pos ⟨rfl, hij⟩] at x2
      rw [numN, num _ _ _ x3]
      exact pgt x (by omega) (by omega)
    · obtain ⟨y, y1, y2, y3, -⟩ := old r0 i hr0 (by omega) zi
      by_cases zj : r0 = r ∧ j = pos
      · obtain ⟨rfl, rfl⟩ := zj
        rw [if_neg (by omega)] at y2
        rw [numN, num _ _ _ y3, y2]
        exact below i hij
      · obtain ⟨x, x1, x2, x3, -⟩ := old r0 j hr0 hj zj
        rw [num _ _ _ y3, num _ _ _ x3]
        refine I.vi r0 hr0 y x ?_ x1
        rw [y2, x2]
        by_cases a : r0 = r ∧ pos < i
        · rw [if_pos a, if_pos ⟨a.1, by omega⟩]; omega
        · rw [if_neg a]
          by_cases b : r0 = r ∧ pos < j
          · rw [if_pos b]
            have : i ≠ pos := fun w => zi ⟨b.1, w⟩
            have : ¬ pos < i := fun w => a ⟨b.1, w⟩
            omega
          · rw [if_neg b]; exact hij
  have fnp : ∀ o, o < C.1 → pnS σ r g C o < nv (σ' 18 r) ∧ σ' 19 (90 * r + pnS σ r g C o) = i3 0 ∧ nv (σ' 21 (90 * r + pnS σ r g C o)) = C.2.2.2 o ∧ ∀ j, j < C.2.2.2 o → σ' 22 (6 * (90 * r + pnS σ r g C o) + j) = g (C.2.2.1 o + j) := fun o ho => by
    obtain ⟨a, b⟩ := T.fn o ho
    obtain ⟨b1, b2, b3⟩ := fnB_iff.mp b
    rw [PF 18 (by decide) (by decide), PF 19 (by decide) (by decide), PF 21 (by decide) (by decide), PF 22 (by decide) (by decide)]
    exact ⟨a, b1, b2, b3⟩
  have pn90 : ∀ o, o < C.1 → pnS σ r g C o < 90 := fun o ho => by
    have := (fnp o ho).1
    have := (QQ r hr).1.2
    omega
  have psn : ∀ q, q ≤ C.1 → partsum (σ' 21) (σ' 34) r (40 * r + pos) q = psum C.2.2.2 q := by
    intro q
    induction q with
    | zero => intro _; rfl
    | succ q ih =>
      intro hq
      show partsum (σ' 21) (σ' 34) r (40 * r + pos) q + nv (σ' 21 (90 * r + nv (σ' 34 (20 * (40 * r + pos) + q)))) = _
      have p9 := pn90 q (by omega)
      rw [ih (by omega), E.np q (by omega), nv_i (by omega), (fnp q (by omega)).2.2.1, psum_S]
  have ivo : ∀ r0, r0 < 2 → ∀ j, j < nv (gam σ σ' 26 r0) → IVV (gam σ σ') r0 (40 * r0 + j) := fun r0 hr0 j hj => by
    have hj : j < nv (σ' 26 r0) := hj
    by_cases z : r0 = r ∧ j = pos
    · obtain ⟨rfl, rfl⟩ := z
      have ps1 := psn C.1 (Nat.le_refl _)
      refine ⟨?_, ?_, ?_, ?_, ?_, Or.inl w32, ?_, fun q hq => ?_, ?_, ?_, fun _ => w30⟩
      · show 1 ≤ nv (σ' 27 (40 * r0 + j)); rw [numN]; exact n1
      · show NB (nv (σ 8 0)) (σ' 27 (40 * r0 + j)); rw [w27]; exact NB.of n2 (by omega)
      · show σ' 28 (40 * r0 + j) = σ 38 (nv (σ' 27 (40 * r0 + j)))
        rw [w28, numN, AG 38 (by omega) (by omega) (by omega) (by omega)]
      · show σ' 29 (40 * r0 + j) = σ 39 (nv (σ' 27 (40 * r0 + j)))
        rw [w29, numN, AG 39 (by omega) (by omega) (by omega) (by omega)]
      · show NB 2 (σ' 30 (40 * r0 + j)); rw [w30]; exact NB.of (by omega) (by omega)
      · show NB 20 (σ' 33 (40 * r0 + j)); rw [w33]; exact NB.of c20 (by omega)
      · have hq : q < nv (σ' 33 (40 * r0 + j)) := hq
        rw [w33, nv_i (by omega)] at hq
        have p9 := pn90 q hq
        obtain ⟨f1, f2, f3, f4⟩ := fnp q hq
        show NB 89 (σ' 34 (20 * (40 * r0 + j) + q)) ∧ nv (σ' 34 (20 * (40 * r0 + j) + q)) < nv (σ' 18 r0) ∧ σ' 19 (90 * r0 + nv (σ' 34 (20 * (40 * r0 + j) + q))) = i3 0 ∧ ∀ x, x < nv (σ' 21 (90 * r0 + nv (σ' 34 (20 * (40 * r0 + j) + q)))) → σ' 22 (6 * (90 * r0 + nv (σ' 34 (20 * (40 * r0 + j) + q))) + x) = σ 10 (40 * nv (σ' 27 (40 * r0 + j)) + (partsum (σ' 21) (σ' 34) r0 (40 * r0 + j) q + x))
        rw [E.np q hq, nv_i (by omega), numN, psn q (by omega)]
        refine ⟨NB.of (by omega) (by omega), f1, f2, fun x hx => ?_⟩
        rw [f3] at hx
        rw [f4 x hx, F.hg _ (by have := (K.2 q hq).1; omega), (IC.q q hq).1]
      · show partsum (σ' 21) (σ' 34) r0 (40 * r0 + j) (nv (σ' 33 (40 * r0 + j))) = nv (σ 9 (nv (σ' 27 (40 * r0 + j))))
        rw [w33, nv_i (by omega), ps1, numN, F.hm, nv_i (by omega), ← IC.f2, IC.e rfl]
      · show σ' 35 (201 * r0 + nv (σ' 27 (40 * r0 + j))) = i3 1
        rw [numN, E.hd, if_pos rfl]
    · obtain ⟨x, x1, x2, x3, x4⟩ := old r0 j hr0 hj z
      refine (I.vo r0 hr0 x x1).mv2 (σ' := gam σ σ') rfl rfl rfl rfl rfl rfl (n18 r0 hr0) (fun p hp => (I.po r0 hr0 p hp).1.lo.2) (ol r0 hr0) (fun k hk => ?_) (fun f h1 h2 => by
        show (if 18 ≤ f ∧ f ≤ 35 then σ' f else σ f) (40 * r0 + j) = _
        rw [if_pos (by omega)]; exact x3 f h1 h2) x4
      show σ' 35 (201 * r0 + k) = i3 1
      rw [E.hd]
      by_cases y : 201 * r0 + k = 201 * r + N
      · rw [if_pos y]
      · rw [if_neg y, sAG 35 (by decide) (by decide)]; exact hk
  have ihd : ∀ r0, r0 < 2 → ∀ k, k < 201 → NB 1 (gam σ σ' 35 (201 * r0 + k)) := fun r0 hr0 k hk => by
    show NB 1 (σ' 35 (201 * r0 + k))
    rw [E.hd]
    by_cases y : 201 * r0 + k = 201 * r + N
    · rw [if_pos y]; exact NB.of (by omega) (by omega)
    · rw [if_neg y, sAG 35 (by decide) (by decide)]; exact I.hd r0 hr0 k hk
  have ipn : ∀ r0, r0 < 2 → NB 90 (gam σ σ' 18 r0) := fun r0 hr0 => (QQ r0 hr0).1
  have icI : ∀ r0, r0 < 2 → ∀ p j x, (∀ f, 27 ≤ f → f ≤ 33 → σ' f (40 * r0 + j) = σ f (40 * r0 + x)) → (∀ q, q < nv (σ 33 (40 * r0 + x)) → σ' 34 (20 * (40 * r0 + j) + q) = σ 34 (20 * (40 * r0 + x) + q)) → cI (σ' 33) (σ' 34) r0 p j = cI (σ 33) (σ 34) r0 p x := fun r0 _ p j x k1 k2 => by
    unfold cI
    rw [k1 33 (by decide) (by decide)]
    refine cntF_congr fun q _ hq => ?_
    show decide _ = decide _
    rw [k2 q (by omega)]
  have ipo : ∀ r0, r0 < 2 → ∀ p, p < nv (gam σ σ' 18 r0) → IVP (gam σ σ') r0 (90 * r0 + p) ∧ nv (gam σ σ' 20 (90 * r0 + p)) = uses (gam σ σ' 33) (gam σ σ' 34) r0 p (nv (gam σ σ' 26 r0)) := fun r0 hr0 p hp => by
    have hp : p < nv (σ' 18 r0) := hp
    have Y := (QQ r0 hr0).2 p hp
    have p90 := (QQ r0 hr0).1.2
    have hp9 : p < 90 := by omega
    refine ⟨⟨Y.ct, Y.l1, Y.lo, Y.by, Y.sw, Y.nd, Y.ro, Y.sb⟩, ?_⟩
    show nv (σ' 20 (90 * r0 + p)) = uses (σ' 33) (σ' 34) r0 p (nv (σ' 26 r0))
    rw [PF 20 (by decide) (by decide), n26 r0 hr0]
    rw [PF 18 (by decide) (by decide)] at hp
    by_cases z : r0 = r
    · subst z
      rw [if_pos rfl, T.ct p hp]
      have ud := uses_del (s33 := σ' 33) (s34 := σ' 34) (s33' := σ 33) (s34' := σ 34) (r := r0) (p := p) (i := pos) (V - pos) (fun j hj => by
        obtain ⟨x, x1, x2, x3, x4⟩ := old r0 j hr0 (by rw [n26 r0 hr0, if_pos rfl]; omega) (fun w => by omega)
        rw [if_neg (by omega)] at x2
        rw [icI r0 hr0 p j x x3 x4, x2]) (fun j h1 h2 => by
        obtain ⟨x, x1, x2, x3, x4⟩ := old r0 (j + 1) hr0 (by rw [n26 r0 hr0, if_pos rfl]; omega) (fun w => by omega)
        rw [if_pos ⟨rfl, by omega⟩, Nat.add_sub_cancel] at x2
        rw [icI r0 hr0 p (j + 1) x x3 x4, x2])
      rw [show pos + (V - pos) = V by omega] at ud
      have cn : cI (σ' 33) (σ' 34) r0 p pos = cntF (fun o => decide (pnS σ r0 g C o = p)) 0 C.1 := by
        unfold cI
        rw [w33, nv_i (by omega)]
        refine cntF_congr fun q _ hq => ?_
        show decide _ = decide _
        have p9 := pn90 q (by omega)
        rw [E.np q (by omega)]
        by_cases y : pnS σ r0 g C q = p
        · rw [y, decide_eq_true rfl, decide_eq_true rfl]
        · rw [decide_eq_false y, decide_eq_false fun w => y ((i3_inj (by omega) (by omega)).mp w)]
      rw [← ud, cn]
      by_cases y : p < nv (σ 18 r0)
      · rw [if_pos y, (I.po r0 hr0 p y).2, eV]
      · rw [if_neg y]
        have uz := uses_none (s33 := σ 33) (s34 := σ 34) (r := r0) (p := p) (by omega) V (fun j hj q hq => by
          obtain ⟨t1, t2, -, -⟩ := (I.vo r0 hr0 j (by omega)).pt q hq
          exact ⟨_, by omega, t1.1⟩)
        rw [uz]
    · obtain ⟨o1, o2⟩ := T.oc r0 hr0 z
      rw [o1] at hp
      rw [if_neg z, o2 p hp, (I.po r0 hr0 p hp).2]
      refine (uses_congr _ fun j hj => ?_).symm
      obtain ⟨x, x1, x2, x3, x4⟩ := old r0 j hr0 (by rw [n26 r0 hr0, if_neg z]; exact hj) (fun w => z w.1)
      rw [if_neg (fun w => z w.1)] at x2
      rw [icI r0 hr0 p j x x3 x4, x2]
  exact ⟨I.dr, I.db, I.ev, I.dy, I.dc, I.en, ivn, ivo, ivi, ihd, I.kn, I.ks, I.ko, ipn, ipo, I.dn, I.un, I.uo, I.uz, I.up, I.rn, I.rk⟩
end EI

set_option maxRecDepth 100000
/-! a part's shards go to nodes: both sides -/
section SP
variable {h c n r : Nat} {own : Nat → Nat} {B : BK} {σ σ' : Sg} {M M' : Mm}
def losS (σ : Sg) (a s : Nat) : Sg := fun k j => if k = 23 ∧ 5 * a ≤ j ∧ j < 5 * a + s then m1 else if k = 25 ∧ 5 * a ≤ j ∧ j < 5 * a + s then i3 0 else σ k j
abbrev los (σ : Sg) (a : Nat) : Sg := losS σ a 5
theorem losS_n {a s k : Nat} (h1 : k ≠ 23) (h2 : k ≠ 25) : losS σ a s k = σ k := funext fun j => by
  show (if k = 23 ∧ 5 * a ≤ j ∧ j < 5 * a + s then m1 else if k = 25 ∧ 5 * a ≤ j ∧ j < 5 * a + s then i3 0 else σ k j) = σ k j
  rw [if_neg (by omega), if_neg (by omega)]
theorem losS_23 {a s : Nat} (j : Nat) : losS σ a s 23 j = if 5 * a ≤ j ∧ j < 5 * a + s then m1 else σ 23 j := by
  show (if 23 = 23 ∧ 5 * a ≤ j ∧ j < 5 * a + s then m1 else if 23 = 25 ∧ 5 * a ≤ j ∧ j < 5 * a + s then i3 0 else σ 23 j) = _
  by_cases z : 5 * a ≤ j ∧ j < 5 * a + s
  · rw [if_pos ⟨rfl, z⟩, if_pos z]
  · rw [if_neg (fun w => z w.2), if_neg (fun w => z w.2), if_neg z]
theorem losS_25 {a s : Nat} (j : Nat) : losS σ a s 25 j = if 5 * a ≤ j ∧ j < 5 * a + s then i3 0 else σ 25 j := by
  show (if 25 = 23 ∧ 5 * a ≤ j ∧ j < 5 * a + s then m1 else if 25 = 25 ∧ 5 * a ≤ j ∧ j < 5 * a + s then i3 0 else σ 25 j) = _
  rw [if_neg (by omega)]
  by_cases z : 5 * a ≤ j ∧ j < 5 * a + s
  · rw [if_pos ⟨rfl, z⟩, if_pos z]
  · rw [if_neg (fun w => z w.2), if_neg z]
theorem losS_S {a s : Nat} : uS (uS (losS σ a s) 23 (5 * a + s) m1) 25 (5 * a + s) (i3 0) = losS σ a (s + 1) := funext fun k => funext fun j => by
  show (if k = 25 ∧ j = 5 * a + s then i3 0 else if k = 23 ∧ j = 5 * a + s then m1 else if k = 23 ∧ 5 * a ≤ j ∧ j < 5 * a + s then m1 else if k = 25 ∧ 5 * a ≤ j ∧ j < 5 * a + s then i3 0 else σ k j) = (if k = 23 ∧ 5 * a ≤ j ∧ j < 5 * a + (s + 1) then m1 else if k = 25 ∧ 5 * a ≤ j ∧ j < 5 * a + (s + 1) then i3 0 else σ k j)
  by_cases z : k = 25 ∧ j = 5 * a + s
  · rw [if_pos z, if_neg (by omega), if_pos (by omega)]
  · rw [if_neg z]
    by_cases y : k = 23 ∧ j = 5 * a + s
    · rw [if_pos y, if_pos (by omega)]
    · rw [if_neg y]
      by_cases x : k = 23 ∧ 5 * a ≤ j ∧ j < 5 * a + s
      · rw [if_pos x, if_pos (by omega)]
      · rw [if_neg x]
        by_cases w : k = 25 ∧ 5 * a ≤ j ∧ j < 5 * a + s
        · rw [if_pos w, if_neg (by omega), if_pos (by omega)]
        · rw [if_neg w, if_neg (by omega), if_neg (by omega)]
theorem losS_0 {a : Nat} : losS σ a 0 = σ := funext fun k => funext fun j => by
  show (if k = 23 ∧ 5 * a ≤ j ∧ j < 5 * a + 0 then m1 else if k = 25 ∧ 5 * a ≤ j ∧ j < 5 * a + 0 then i3 0 else σ k j) = σ k j
  rw [if_neg (by omega), if_neg (by omega)]
theorem los_n {a k : Nat} (h1 : k ≠ 23) (h2 : k ≠ 25) : los σ a k = σ k := losS_n h1 h2
theorem los_23 {a : Nat} (j : Nat) : los σ a 23 j = if 5 * a ≤ j ∧ j < 5 * a + 5 then m1 else σ 23 j := losS_23 j
theorem los_25 {a : Nat} (j : Nat) : los σ a 25 j = if 5 * a ≤ j ∧ j < 5 * a + 5 then i3 0 else σ 25 j := losS_25 j
theorem los_los {a : Nat} : los (los σ a) a = los σ a := funext fun k => funext fun j => by
  by_cases z : k = 23
  · subst z
    rw [los_23, los_23]
    by_cases y : 5 * a ≤ j ∧ j < 5 * a + 5
    · rw [if_pos y, if_pos y]
    · rw [if_neg y, if_neg y]
  · by_cases w : k = 25
    · subst w
      rw [los_25, los_25]
      by_cases y : 5 * a ≤ j ∧ j < 5 * a + 5
      · rw [if_pos y, if_pos y]
      · rw [if_neg y, if_neg y]
    · rw [los_n z w]
theorem los_p {a : Nat} (ct : NB 800 (σ 20 a)) (l1 : 1 ≤ nv (σ 21 a)) (lo : NB 6 (σ 21 a)) (by' : ∀ j, j < nv (σ 21 a) → NB 15 (σ 22 (6 * a + j))) (sw : NB 1 (σ 19 a)) : IVP (los σ a) r a := by
  refine ⟨?_, ?_, ?_, ?_, ?_, fun s hs => Or.inl ?_, fun s hs => ?_, fun s hs y1 => ?_⟩
  · rw [los_n (by decide) (by decide)]; exact ct
  · rw [los_n (by decide) (by decide)]; exact l1
  · rw [los_n (by decide) (by decide)]; exact lo
  · rw [los_n (by decide) (by decide), los_n (by decide) (by decide)]; exact by'
  · rw [los_n (by decide) (by decide)]; exact sw
  · rw [los_23, if_pos (by omega)]
  · rw [los_25, if_pos (by omega)]
    exact ⟨NB.of (by omega) (by omega), fun w => absurd w (by decide)⟩
  · rw [los_23, if_pos (by omega)] at y1
    exact absurd rfl y1
theorem c_loseAll2 (R : RR h own B σ M n) (hr : r < 2) {p : Nat} (hp : p < nv (σ 18 r)) (h90 : ∀ r, r < 2 → nv (σ 18 r) ≤ 90) : ∃ M', fPart_loseAll (pa B r p) M = some ((), M') ∧ RR h own B (los σ (90 * r + p)) M' n ∧ FRM (fun t => t = 26 + r ∨ t = 10 + r ∨ t = 20 + r) own M own M' ∧ KPC h r M M' := by
  have A := R.po r hr p hp
  obtain ⟨M', e1, e2, e3⟩ := c_fill (v := m1) A.b.k3 A.b.l3 (by omega)
  refine ⟨M', ?_, ?_, e2.frm fun cc a z _ => Or.inl (A.b.own5 (by omega) (by omega)), KPC.ios (R.rg r hr) e2 fun cc a z => Or.inl (by rw [A.b.own5 (by omega) (by omega)]; omega)⟩
  · rw [fPart_loseAll_E, fgR_s A.b.k, A.b.p4, e1, bdW_s]
  · refine R.setp hr hp h90 (e2.mono fun cc a z => by omega) (fun k hk => los_n (fun w => hk (by unfold PTF; omega)) (fun w => hk (by unfold PTF; omega))) (fun a ha => ⟨by rw [los_n (by decide) (by decide)], by rw [los_n (by decide) (by decide)], fun s hs => ⟨by rw [los_23, if_neg (by omega)], by rw [los_25, if_neg (by omega)]⟩, fun j hj => by rw [los_n (by decide) (by decide)]⟩) ?_
    rw [los_n (k := 19) (by decide) (by decide), los_n (k := 20) (by decide) (by decide), los_n (k := 21) (by decide) (by decide), los_n (k := 22) (by decide) (by decide), los_n (k := 24) (by decide) (by decide)]
    have z : ∀ cc x j, x ≠ pa B r p + 3 → mI M' cc x j = mI M cc x j := fun cc x j hx => e2.2 cc x j fun w => hx w.2
    have l : ∀ s, s < 5 → los σ (90 * r + p) 23 (5 * (90 * r + p) + s) = m1 := fun s hs => by rw [los_23, if_pos (by omega)]
    refine ⟨A.b.keep fun a' o => ⟨rfl, e2.K a', e2.L a', fun cc j => e2.P cc a' j⟩, (z _ _ _ (by omega)).trans A.nu, (z _ _ _ (by omega)).trans A.lo, (z _ _ _ (by omega)).trans A.ct, (z _ _ _ (by omega)).trans A.sw, fun j hj => (z _ _ _ (by omega)).trans (A.by j hj), fun s hs => ?_, fun s hs w1 w2 => absurd (l s hs) w2, fun s hs w1 w2 => absurd (l s hs) w2⟩
    show mI M' 0 (pa B r p + 3) s = if σ 19 (90 * r + p) = i3 0 then los σ (90 * r + p) 23 (5 * (90 * r + p) + s) else m1
    rw [e3, if_pos hs, l s hs]
    by_cases w : σ 19 (90 * r + p) = i3 0
    · rw [if_pos w]
    · rw [if_neg w]
theorem c_takePlain (R : RR h own B σ M n) (hr : r < 2) {p : Nat} (hp : p < nv (σ 18 r)) (hby : ∀ j, j < nv (σ 21 (90 * r + p)) → NB 15 (σ 22 (6 * (90 * r + p) + j))) : ∃ M', fCode_takePlain (gr h r + 7) (some (pa B r p)) M = some ((), M') ∧ IOS (fun cc x => cc = 0 ∧ x = gr h r + 8) M M' ∧ ∀ j, j < 6 → mI M' 0 (gr h r + 8) j = i3 (dat (nv (σ 21 (90 * r + p))) (byg σ (90 * r + p)) j) := by
  have lp : ∀ d x fu (M2 : Mm), d + x = 6 → d < fu → IOS (fun cc x => cc = 0 ∧ x = gr h r + 8) M M2 → (∀ j, j < x → mI M2 0 (gr h r + 8) j = i3 (dat (nv (σ 21 (90 * r + p))) (byg σ (90 * r + p)) j)) → ∃ M', fCode_takePlain_l2 (gr h r + 7) fu (some (pa B r p)) (i3 x) M2 = some ((), M') ∧ IOS (fun cc x => cc = 0 ∧ x = gr h r + 8) M M' ∧ ∀ j, j < 6 → mI M' 0 (gr h r + 8) j = i3 (dat (nv (σ 21 (90 * r + p))) (byg σ (90 * r + p)) j) := by
    intro d
    induction d with
    | zero =>
      intro x fu M2 hd hfu f2 v2
      obtain ⟨f, rfl⟩ : ∃ f, fu = f + 1 := ⟨fu - 1, by omega⟩
      have G := (R.code hr (f2.mono fun cc y w => by omega)).rg r hr
      refine ⟨M2, ?_, f2, fun j hj => v2 j (by omega)⟩
      rw [fCode_takePlain_l2_S, fCode_takePlain_b2_E, fgR_s G.k7, G.d0, aln_i G.k8 (by decide) (by decide), G.l8, if_pos ((i3_le (by omega) (by omega)).mpr (by omega))]
    | succ d ih =>
      intro x fu M2 hd hfu f2 v2
      obtain ⟨f, rfl⟩ : ∃ f, fu = f + 1 := ⟨fu - 1, by omega⟩
      have R2 := R.code hr (f2.mono fun cc y w => by omega)
      have G := R2.rg r hr
      have A := R2.po r hr p hp
      have dl := dat_lt (lo := nv (σ 21 (90 * r + p))) (g := byg σ (90 * r + p)) (j := x) hby
      have av : mI M2 0 (pa B r p + 1) x = i3 (dat (nv (σ 21 (90 * r + p))) (byg σ (90 * r + p)) x) := by
        rw [A.by x (by omega)]
        unfold dat
        by_cases z : x < nv (σ 21 (90 * r + p))
        · rw [if_pos z, if_pos z]; exact (hby x z).1
        · rw [if_neg z, if_neg z]
      obtain ⟨M', a1, a2, a3⟩ := ih (x + 1) f (uI M2 0 (gr h r + 8) x (i3 (dat (nv (σ 21 (90 * r + p))) (byg σ (90 * r + p)) x))) (by omega) (by omega) ((f2.trans (IOS.uI _ _ _ _)).mono fun cc y w => by omega) (fun j hj => by
        by_cases z : j = x
        · rw [z, mI_uI_e]
        · rw [mI_uI_j _ _ _ _ z]; exact v2 j (by omega))
      refine ⟨M', ?_, a2, a3⟩
      rw [fCode_takePlain_l2_S, fCode_takePlain_b2_E, fgR_s G.k7, G.d0, aln_i G.k8 (by decide) (by decide), G.l8, if_neg (fun w => absurd ((i3_le (by omega) (by omega)).mp w) (by omega)), fgR_s A.b.k, A.b.p2, aln_i A.b.k1 (by decide) (by decide), A.b.l1, if_neg (fun w => absurd ((i3_le (by omega) (by omega)).mp w) (by omega)), fgR_s G.k7, G.d0, fgR_s A.b.k, A.b.p2, alI_i A.b.k1 (by rw [A.b.l1]; omega) (by omega), av, asB_i G.k8 (by rw [G.l8]; omega) (by omega), i3_small (by omega), i3_add]
      exact a1
  obtain ⟨M', a1, a2, a3⟩ := lp 6 0 FU M (by omega) (FU_S (by omega)) IOS.refl (fun j hj => by omega)
  exact ⟨M', by rw [fCode_takePlain_E]; exact a1, a2, a3⟩
/-- the check's road of shards to nodes -/
def cmS (r p : Nat) : Nat → Nat → Nat → Sg → Sg
  | 0, _, _, τ => τ
  | d + 1, pl, s, τ => if 5 ≤ s then τ else if τ 17 (6 * r + ordn p pl) = i3 0 then cmS r p d (pl + 1) (s + 1) (lay τ (90 * r + p) s (ordn p pl)) else cmS r p d (pl + 1) s τ
theorem cmS_S {p d pl s : Nat} {τ : Sg} : cmS r p (d + 1) pl s τ = if 5 ≤ s then τ else if τ 17 (6 * r + ordn p pl) = i3 0 then cmS r p d (pl + 1) (s + 1) (lay τ (90 * r + p) s (ordn p pl)) else cmS r p d (pl + 1) s τ := rfl
theorem m_comes_l (hr : r < 2) {p : Nat} (h90 : p < 90) : ∀ d pl s fu (σ : Sg), d + pl = 6 → d < fu → s ≤ 5 → NB 6 (σ 21 (90 * r + p)) → (∀ j, j < nv (σ 21 (90 * r + p)) → NB 15 (σ 22 (6 * (90 * r + p) + j))) → fMd_comes_l52 fu (i3 r) (i3 p) (i3 (90 * r + p)) (i3 s) (i3 pl) σ = some ((), cmS r p d pl s σ) := by
  intro d
  induction d with
  | zero =>
    intro pl s fu σ hd hfu hs hlo hby
    obtain ⟨f, rfl⟩ : ∃ f, fu = f + 1 := ⟨fu - 1, by omega⟩
    rw [fMd_comes_l52_S, fMd_comes_b52_E, if_pos ((i3_le (by omega) (by omega)).mpr (by omega))]
    rfl
  | succ d ih =>
    intro pl s fu σ hd hfu hs hlo hby
    obtain ⟨f, rfl⟩ : ∃ f, fu = f + 1 := ⟨fu - 1, by omega⟩
    obtain ⟨o1, o2⟩ := ord_i (pl := pl) h90 (by omega)
    rw [fMd_comes_l52_S, fMd_comes_b52_E, if_neg (fun w => absurd ((i3_le (by omega) (by omega)).mp w) (by omega)), cmS_S]
    by_cases z : 5 ≤ s
    · rw [if_pos ((i3_le (by omega) (by omega)).mpr z), if_pos z]
    · rw [if_neg (fun w => z ((i3_le (by omega) (by omega)).mp w)), if_neg z, o1, bdR_s, i3_mul, i3_add, mgA_17 (by omega)]
      by_cases y : σ 17 (6 * r + ordn p pl) = i3 0
      · rw [if_pos y, if_pos y, m_lays (by omega) (by omega) hlo hby, bdW_s, fMd_comes_j100_E, i3_add, i3_add]
        exact ih (pl + 1) (s + 1) f _ (by omega) (by omega) (by omega) (by rw [lay_n (by decide) (by decide) (by decide)]; exact hlo) (by rw [lay_n (by decide) (by decide) (by decide), lay_n (by decide) (by decide) (by decide)]; exact hby)
      · rw [if_neg y, if_neg y, fMd_comes_j100_E, i3_add]
        exact ih (pl + 1) s f σ (by omega) (by omega) hs hlo hby
theorem m_comes (hr : r < 2) {p : Nat} (h90 : p < 90) (hlo : NB 6 (σ 21 (90 * r + p))) (hby : ∀ j, j < nv (σ 21 (90 * r + p)) → NB 15 (σ 22 (6 * (90 * r + p) + j))) : fMd_comes (i3 r) (i3 p) σ = some ((), cmS r p 6 0 0 (los σ (90 * r + p))) := by
  have lp : ∀ d s fu, d + s = 5 → d < fu → fMd_comes_l10 fu (i3 r) (i3 p) (i3 (90 * r + p)) (i3 s) (losS σ (90 * r + p) s) = fMd_comes_l52 FU (i3 r) (i3 p) (i3 (90 * r + p)) (i3 0) (i3 0) (los σ (90 * r + p)) := by
    intro d
    induction d with
    | zero =>
      intro s fu hd hfu
      obtain ⟨f, rfl⟩ : ∃ f, fu = f + 1 := ⟨fu - 1, by omega⟩
      rw [fMd_comes_l10_S, fMd_comes_b10_E, if_pos ((i3_le (by omega) (by omega)).mpr (by omega)), show s = 5 by omega]
    | succ d ih =>
      intro s fu hd hfu
      obtain ⟨f, rfl⟩ : ∃ f, fu = f + 1 := ⟨fu - 1, by omega⟩
      have ih' := ih (s + 1) f (by omega) (by omega)
      rw [fMd_comes_l10_S, fMd_comes_b10_E, if_neg (fun w => absurd ((i3_le (by omega) (by omega)).mp w) (by omega)), i3_mul, i3_add, mpA_23 (by omega), mpZ_25 (by omega) (Or.inl rfl), losS_S, i3_add]
      exact ih'
  have e := lp 5 0 FU (by omega) (FU_S (by omega))
  rw [losS_0] at e
  rw [fMd_comes_E, i3_mul, i3_add, e]
  exact m_comes_l hr h90 6 0 0 FU _ (by omega) (FU_S (by omega)) (by omega) (by rw [los_n (by decide) (by decide)]; exact hlo) (by rw [los_n (by decide) (by decide), los_n (by decide) (by decide)]; exact hby)
/-- what the road leaves as it was -/
def CMF (r p : Nat) (τ : Sg) (τ' : Sg) : Prop := (∀ k, k ≠ 23 → k ≠ 24 → k ≠ 25 → τ' k = τ k) ∧
  (∀ a, a ≠ 90 * r + p → (∀ s, s < 5 → τ' 23 (5 * a + s) = τ 23 (5 * a + s) ∧ τ' 25 (5 * a + s) = τ 25 (5 * a + s)) ∧ ∀ j, j < 10 → τ' 24 (10 * a + j) = τ 24 (10 * a + j))
theorem CMF.nk {r p : Nat} {τ : Sg} {τ' : Sg} (Z : CMF r p τ τ') : ∀ k, k ≠ 23 → k ≠ 24 → k ≠ 25 → τ' k = τ k := Z.1
theorem CMF.o {r p : Nat} {τ : Sg} {τ' : Sg} (Z : CMF r p τ τ') : ∀ a, a ≠ 90 * r + p → (∀ s, s < 5 → τ' 23 (5 * a + s) = τ 23 (5 * a + s) ∧ τ' 25 (5 * a + s) = τ 25 (5 * a + s)) ∧ ∀ j, j < 10 → τ' 24 (10 * a + j) = τ 24 (10 * a + j) := Z.2
theorem CMF.refl {p : Nat} {τ : Sg} : CMF r p τ τ := ⟨fun _ _ _ _ => rfl, fun _ _ => ⟨fun _ _ => ⟨rfl, rfl⟩, fun _ _ => rfl⟩⟩
theorem CMF.trans {p : Nat} {τ τ' τ2 : Sg} (f : CMF r p τ τ') (g : CMF r p τ' τ2) : CMF r p τ τ2 := ⟨fun k a b d => (g.nk k a b d).trans (f.nk k a b d), fun a ha => by
  obtain ⟨f1, f2⟩ := f.o a ha
  obtain ⟨g1, g2⟩ := g.o a ha
  exact ⟨fun s hs => ⟨(g1 s hs).1.trans (f1 s hs).1, (g1 s hs).2.trans (f1 s hs).2⟩, fun j hj => (g2 j hj).trans (f2 j hj)⟩⟩
theorem CMF.lay {p s x : Nat} {τ : Sg} (hs : s < 5) : CMF r p τ (lay τ (90 * r + p) s x) := ⟨fun k a b d => lay_n a b d, fun a ha => ⟨fun s' hs' => ⟨by rw [lay_23, if_neg (by omega)], by rw [lay_25, if_neg (by omega)]⟩, fun j hj => by rw [lay_24, if_neg (by omega), if_neg (by omega)]⟩⟩
theorem CMF.los {p : Nat} {τ : Sg} : CMF r p τ (los τ (90 * r + p)) := ⟨fun k a b d => los_n a d, fun a ha => ⟨fun s' hs' => ⟨by rw [los_23, if_neg (by omega)], by rw [los_25, if_neg (by omega)]⟩, fun j hj => by rw [los_n (by decide) (by decide)]⟩⟩
theorem onf_iff {a x : Nat} : (onf σ a x 0 5).isSome = true ↔ ∃ k, k < 5 ∧ σ 23 (5 * a + k) = i3 x := by
  constructor
  · intro e
    obtain ⟨k, hk⟩ := Option.isSome_iff_exists.mp e
    have := fstF_lt (show fstF (fun s => decide (σ 23 (5 * a + s) = i3 x)) 0 5 = some k from hk)
    exact ⟨k, by omega, of_decide_eq_true this.2.2⟩
  · rintro ⟨k, hk, e⟩
    cases q : onf σ a x 0 5 with
    | some y => rfl
    | none =>
      exfalso
      have no : ∀ {p : Nat → Bool} {d i : Nat}, fstF p i d = none → ∀ j, i ≤ j → j < i + d → p j = false := by
        intro p d
        induction d with
        | zero => intro i _ j h1 h2; omega
        | succ d ih =>
          intro i e j h1 h2
          rw [fstF_S] at e
          by_cases z : p i = true
          · rw [if_pos z] at e; cases e
          · rw [if_neg z] at e
            by_cases w : j = i
            · rw [w]; exact Bool.eq_false_iff.mpr z
            · exact ih e j (by omega) (by omega)
      have := no (show fstF (fun s => decide (σ 23 (5 * a + s) = i3 x)) 0 5 = none from q) k (Nat.zero_le k) (by omega)
      exact (of_decide_eq_false this) e
/-- both sides: shards on, from a place in the order -/
theorem road_i (hr : r < 2) {p : Nat} (hp90 : p < 90) : ∀ d pl s fu (τ : Sg) (M : Mm), d + pl = 6 → s ≤ 5 → 5 - s < fu → RR h own B τ M n → p < nv (τ 18 r) → (∀ r, r < 2 → nv (τ 18 r) ≤ 90) → τ 19 (90 * r + p) = i3 0 → IVP τ r (90 * r + p) → (∀ j, j < 10 → mI M 0 (gr h r + 9) j = i3 (mde (nv (τ 21 (90 * r + p))) (byg τ (90 * r + p)) (j / 2) (j - j / 2 * 2))) → (∀ k, s ≤ k → k < 5 → τ 23 (5 * (90 * r + p) + k) = m1) → (∀ x, x < 6 → ((∃ k, k < 5 ∧ τ 23 (5 * (90 * r + p) + k) = i3 x) ↔ ∃ k, k < pl ∧ ordn p k = x ∧ τ 17 (6 * r + x) = i3 0)) → ∃ M', fStore_spread_l21 (gr h r + 1) fu (some (pa B r p)) (i3 s) M = some ((), M') ∧ RR h own B (cmS r p d pl s τ) M' n ∧ IVP (cmS r p d pl s τ) r (90 * r + p) ∧ CMF r p τ (cmS r p d pl s τ) ∧ FRM (fun t => t = 26 + r ∨ t = 10 + r ∨ t = 20 + r) own M own M' ∧ KPC h r M M' := by
  intro d
  -- what is free
  have avi : ∀ pl (τ : Sg), (∀ x, x < 6 → ((∃ k, k < 5 ∧ τ 23 (5 * (90 * r + p) + k) = i3 x) ↔ ∃ k, k < pl ∧ ordn p k = x ∧ τ 17 (6 * r + x) = i3 0)) → ∀ k, k < 6 → (avl τ r (90 * r + p) (ordn p k) = true ↔ (τ 17 (6 * r + ordn p k) = i3 0 ∧ pl ≤ k)) := fun pl τ inv k hk => by
    have ok := (ord_i hp90 hk).2
    unfold avl
    rw [Bool.and_eq_true, decide_eq_true_eq, Bool.not_eq_true', Bool.eq_false_iff, ne_eq, onf_iff, inv _ ok]
    constructor
    · rintro ⟨a, b⟩
      refine ⟨a, ?_⟩
      by_cases z : pl ≤ k
      · exact z
      · exact absurd ⟨k, by omega, rfl, a⟩ b
    · rintro ⟨a, b⟩
      refine ⟨a, ?_⟩
      rintro ⟨k', h1, h2, -⟩
      have := ord_inj hp90 (by omega) hk h2
      omega
  induction d with
  | zero =>
    intro pl s fu τ M hd hs hfu R hp h90 hw X hc hm inv
    refine ⟨M, ?_, R, X, CMF.refl, FRM.refl, KPC.refl⟩
    have fr : frM p (avl τ r (90 * r + p)) = none := by
      unfold frM
      rw [fstF_no fun j _ hj => by
        cases q : avl τ r (90 * r + p) (ordn p j) with
        | false => rfl
        | true => have := ((avi pl τ inv j (by omega)).mp q).2; omega]
      rfl
    have fn := c_freeNode R hr hp hp90 hw
    rw [fr] at fn
    have ks := (R.rg r hr).ks
    have lp : ∀ e s fu, e + s = 5 → e < fu → fStore_spread_l21 (gr h r + 1) fu (some (pa B r p)) (i3 s) M = some ((), M) := by
      intro e
      induction e with
      | zero =>
        intro s fu he hfu
        obtain ⟨f, rfl⟩ : ∃ f, fu = f + 1 := ⟨fu - 1, by omega⟩
        rw [fStore_spread_l21_S, fStore_spread_b21_E, if_pos ((i3_le (by omega) (by omega)).mpr (by omega))]
      | succ e ih =>
        intro s fu he hfu
        obtain ⟨f, rfl⟩ : ∃ f, fu = f + 1 := ⟨fu - 1, by omega⟩
        rw [fStore_spread_l21_S, fStore_spread_b21_E, if_neg (fun w => absurd ((i3_le (by omega) (by omega)).mp w) (by omega)), rk_s ks, fn, bdR_s, if_pos (show eO none = m1 from rfl), fStore_spread_j47_E, i3_add]
        exact ih (s + 1) f (by omega) (by omega)
    exact lp (5 - s) s fu (by omega) (by omega)
  | succ d ih =>
    intro pl s fu τ M hd hs hfu R hp h90 hw X hc hm inv
    obtain ⟨f, rfl⟩ : ∃ f, fu = f + 1 := ⟨fu - 1, by omega⟩
    have o6 := (ord_i hp90 (show pl < 6 by omega)).2
    rw [cmS_S]
    by_cases z : 5 ≤ s
    · rw [if_pos z]
      refine ⟨M, ?_, R, X, CMF.refl, FRM.refl, KPC.refl⟩
      rw [fStore_spread_l21_S, fStore_spread_b21_E, if_pos ((i3_le (by omega) (by omega)).mpr z)]
    · rw [if_neg z]
      by_cases y : τ 17 (6 * r + ordn p pl) = i3 0
      · rw [if_pos y]
        have fr : frM p (avl τ r (90 * r + p)) = some (ordn p pl) := by
          unfold frM
          rw [fstF_is (w := pl) (Nat.zero_le pl) (by omega) ((avi pl τ inv pl (by omega)).mpr ⟨y, Nat.le_refl pl⟩) fun j _ hj => by
            cases q : avl τ r (90 * r + p) (ordn p j) with
            | false => rfl
            | true => have := ((avi pl τ inv j (by omega)).mp q).2; omega]
          rfl
        have fn := c_freeNode R hr hp hp90 hw
        rw [fr] at fn
        have G := R.rg r hr
        have A := R.po r hr p hp
        obtain ⟨M1, p1, -, p3, p4, p5, p6⟩ := lay_i R hr hp h90 hw X (s := s) (x := ordn p pl) (by omega) o6 hc
        have ln : ∀ k, k ≠ 23 → k ≠ 24 → k ≠ 25 → lay τ (90 * r + p) s (ordn p pl) k = τ k := fun k a b d => lay_n a b d
        obtain ⟨M2, a1, a2, a3, a4, a5, a6⟩ := ih (pl + 1) (s + 1) f (lay τ (90 * r + p) s (ordn p pl)) M1 (by omega) (by omega) (by omega) p3 (by rw [ln 18 (by decide) (by decide) (by decide)]; exact hp) (by rw [ln 18 (by decide) (by decide) (by decide)]; exact h90) (by rw [ln 19 (by decide) (by decide) (by decide)]; exact hw) (lay_p X o6 (by omega)) (fun j hj => by
          unfold byg
          rw [p4, ln 21 (by decide) (by decide) (by decide), ln 22 (by decide) (by decide) (by decide)]; exact hc j hj) (fun k h1 h2 => by rw [lay_23, if_neg (by omega)]; exact hm k (by omega) h2) (fun x hx => by
          rw [ln 17 (by decide) (by decide) (by decide)]
          constructor
          · rintro ⟨k, h1, h2⟩
            rw [lay_23] at h2
            by_cases w : k = s
            · subst w
              rw [if_pos rfl] at h2
              have e := (i3_inj (by omega) (by omega)).mp h2
              exact ⟨pl, by omega, e, by rw [← e]; exact y⟩
            · rw [if_neg (by omega)] at h2
              obtain ⟨k', q1, q2, q3⟩ := (inv x hx).mp ⟨k, h1, h2⟩
              exact ⟨k', by omega, q2, q3⟩
          · rintro ⟨k', q1, q2, q3⟩
            by_cases w : k' = pl
            · subst w
              exact ⟨s, by omega, by rw [lay_23, if_pos rfl, q2]⟩
            · obtain ⟨k, h1, h2⟩ := (inv x hx).mpr ⟨k', by omega, q2, q3⟩
              refine ⟨k, h1, ?_⟩
              have ks : k ≠ s := fun e => by
                rw [e, hm s (Nat.le_refl s) (by omega)] at h2
                rw [m1_i3 (by omega)] at h2; exact h2
              rw [lay_23, if_neg (by omega)]; exact h2)
        refine ⟨M2, ?_, a2, a3, (CMF.lay (by omega)).trans a4, p5.then a5, p6.trans a6⟩
        rw [fStore_spread_l21_S, fStore_spread_b21_E, if_neg (fun w => z ((i3_le (by omega) (by omega)).mp w)), rk_s G.ks, fn, bdR_s, if_neg (show ¬ eO (some (ordn p pl)) = m1 from fun w => by have w2 : i3 (ordn p pl) = m1 := w; rw [i3_m1 (by omega)] at w2; exact w2), fgR_s G.ks, G.s3, rk_s A.b.k]
        show (bdW (fPart_place (pa B r p) (i3 s) (i3 (ordn p pl)) (some (gr h r + 7)) M) fun v7 M8 => _) = _
        rw [p1, bdW_s, fStore_spread_j47_E, i3_add]
        exact a1
      · rw [if_neg y]
        exact ih (pl + 1) s (f + 1) τ M (by omega) hs hfu R hp h90 hw X hc hm (fun x hx => by
          rw [inv x hx]
          constructor
          · rintro ⟨k, q1, q2, q3⟩
            exact ⟨k, by omega, q2, q3⟩
          · rintro ⟨k, q1, q2, q3⟩
            by_cases w : k = pl
            · subst w
              rw [q2] at y
              exact absurd q3 y
            · exact ⟨k, by omega, q2, q3⟩)
theorem spread_i (hr : r < 2) {p : Nat} {τ : Sg} (R : RR h own B τ M n) (hp : p < nv (τ 18 r)) (h90 : ∀ r, r < 2 → nv (τ 18 r) ≤ 90) (hw : τ 19 (90 * r + p) = i3 0) (X : IVP (los τ (90 * r + p)) r (90 * r + p)) : ∃ M', fStore_spread (gr h r + 1) (some (pa B r p)) M = some ((), M') ∧ RR h own B (cmS r p 6 0 0 (los τ (90 * r + p))) M' n ∧ IVP (cmS r p 6 0 0 (los τ (90 * r + p))) r (90 * r + p) ∧ CMF r p τ (cmS r p 6 0 0 (los τ (90 * r + p))) ∧ FRM (fun t => t = 26 + r ∨ t = 10 + r ∨ t = 20 + r) own M own M' ∧ KPC h r M M' := by
  have hp90 : p < 90 := Nat.lt_of_lt_of_le hp (h90 r hr)
  obtain ⟨M1, e1, R1, q1, v1⟩ := c_loseAll2 R hr hp h90
  have l18 : los τ (90 * r + p) 18 = τ 18 := los_n (by decide) (by decide)
  have l19 : los τ (90 * r + p) 19 = τ 19 := los_n (by decide) (by decide)
  have hp1 : p < nv (los τ (90 * r + p) 18 r) := by rw [l18]; exact hp
  obtain ⟨M2, f1, f2, f3⟩ := c_takePlain R1 hr hp1 X.by
  have R2 := R1.code hr (f2.mono fun cc y w => by omega)
  obtain ⟨M3, g1, g2, g3⟩ := c_encode R2 hr X.by f3
  have R3 := R2.code hr (g2.mono fun cc y w => by omega)
  obtain ⟨M4, a1, a2, a3, a4, a5, a6⟩ := road_i hr hp90 6 0 0 FU _ M3 (by omega) (by omega) (FU_S (by omega)) R3 hp1 (by rw [l18]; exact h90) (by rw [l19]; exact hw) X g3 (fun k _ hk => by rw [los_23, if_pos (by omega)]) (fun x hx => by
    constructor
    · rintro ⟨k, h1, h2⟩
      rw [los_23, if_pos (by omega), m1_i3 (by omega)] at h2
      exact h2.elim
    · rintro ⟨k, h1, -⟩
      omega)
  have A := R.po r hr p hp
  have G1 := R1.rg r hr
  have G2 := R2.rg r hr
  have q2 : FRM (fun t => t = 26 + r ∨ t = 10 + r ∨ t = 20 + r) own M1 own M2 := f2.frm fun cc a z _ => by rw [z.2]; exact Or.inr (Or.inl G1.o8)
  have q3 : FRM (fun t => t = 26 + r ∨ t = 10 + r ∨ t = 20 + r) own M2 own M3 := g2.frm fun cc a z _ => by rw [z.2]; exact Or.inr (Or.inl G2.o9)
  refine ⟨M4, ?_, a2, a3, CMF.los.trans a4, ((q1.then q2).then q3).then a5, ((v1.trans (KPC.ios G1 f2 fun cc a z => Or.inr (by omega))).trans (KPC.ios G2 g2 fun cc a z => Or.inr (by omega))).trans a6⟩
  rw [fStore_spread_E, rk_s A.b.k, e1, bdW_s, fgR_s G1.ks, G1.s3, rk_s G1.k7, f1, bdW_s, fgR_s G2.ks, G2.s3, rk_s G2.k7, g1, bdW_s]
  exact a1
end SP

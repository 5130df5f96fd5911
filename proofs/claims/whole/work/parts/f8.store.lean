set_option maxRecDepth 100000
/-! one part stored: both sides -/
section SO
variable {h c n r : Nat} {own : Nat → Nat} {B : BK} {σ σ' τ : Sg} {M M' : Mm}
/-- the rows of parts are the same -/
def PFE (σ τ : Sg) : Prop := ∀ k, 17 ≤ k → k ≤ 25 → σ k = τ k
theorem lay_e {a s x : Nat} (e : PFE σ τ) : PFE (lay σ a s x) (lay τ a s x) := fun k h1 h2 => by
  have mv : ∀ k, mdv σ a s k = mdv τ a s k := fun k => by unfold mdv byg; rw [e 21 (by decide) (by decide), e 22 (by decide) (by decide)]
  by_cases z : k = 23
  · subst z; funext j; rw [lay_23, lay_23, e 23 (by decide) (by decide)]
  · by_cases y : k = 24
    · subst y; funext j; rw [lay_24, lay_24, e 24 (by decide) (by decide), mv, mv]
    · by_cases x' : k = 25
      · subst x'; funext j; rw [lay_25, lay_25, e 25 (by decide) (by decide)]
      · rw [lay_n z y x', lay_n z y x', e k h1 h2]
theorem losS_e {a s : Nat} (e : PFE σ τ) : PFE (losS σ a s) (losS τ a s) := fun k h1 h2 => funext fun j => by
  show (if k = 23 ∧ 5 * a ≤ j ∧ j < 5 * a + s then m1 else if k = 25 ∧ 5 * a ≤ j ∧ j < 5 * a + s then i3 0 else σ k j) = (if k = 23 ∧ 5 * a ≤ j ∧ j < 5 * a + s then m1 else if k = 25 ∧ 5 * a ≤ j ∧ j < 5 * a + s then i3 0 else τ k j)
  rw [e k h1 h2]
theorem cmS_e {p : Nat} : ∀ d pl s (σ τ : Sg), PFE σ τ → PFE (cmS r p d pl s σ) (cmS r p d pl s τ) := by
  intro d
  induction d with
  | zero => intro pl s σ τ e; exact e
  | succ d ih =>
    intro pl s σ τ e
    rw [cmS_S, cmS_S, e 17 (by decide) (by decide)]
    by_cases z : 5 ≤ s
    · rw [if_pos z, if_pos z]; exact e
    · rw [if_neg z, if_neg z]
      by_cases y : τ 17 (6 * r + ordn p pl) = i3 0
      · rw [if_pos y, if_pos y]; exact ih _ _ _ _ (lay_e e)
      · rw [if_neg y, if_neg y]; exact ih _ _ _ _ e
theorem cmS_n {p k : Nat} (h1 : k ≠ 23) (h2 : k ≠ 24) (h3 : k ≠ 25) : ∀ d pl s (σ : Sg), cmS r p d pl s σ k = σ k := by
  intro d
  induction d with
  | zero => intro pl s σ; rfl
  | succ d ih =>
    intro pl s σ
    rw [cmS_S]
    by_cases z : 5 ≤ s
    · rw [if_pos z]
    · rw [if_neg z]
      by_cases y : σ 17 (6 * r + ordn p pl) = i3 0
      · rw [if_pos y, ih, lay_n h1 h2 h3]
      · rw [if_neg y, ih]
theorem nwP_e {P s l : Nat} {g : Nat → Int32} (e : PFE σ τ) : PFE (nwP σ r P s l g) (nwP τ r P s l g) := fun k h1 h2 => funext fun j => by
  show (if k = 18 ∧ j = r then i3 (P + 1) else if k = 19 ∧ j = 90 * r + P then i3 0 else if k = 20 ∧ j = 90 * r + P then i3 0 else if k = 21 ∧ j = 90 * r + P then i3 l else if k = 22 ∧ 6 * (90 * r + P) ≤ j ∧ j < 6 * (90 * r + P) + l then g (s + (j - 6 * (90 * r + P))) else σ k j) = (if k = 18 ∧ j = r then i3 (P + 1) else if k = 19 ∧ j = 90 * r + P then i3 0 else if k = 20 ∧ j = 90 * r + P then i3 0 else if k = 21 ∧ j = 90 * r + P then i3 l else if k = 22 ∧ 6 * (90 * r + P) ≤ j ∧ j < 6 * (90 * r + P) + l then g (s + (j - 6 * (90 * r + P))) else τ k j)
  rw [e k h1 h2]
theorem fnd_e {s l : Nat} {g : Nat → Int32} (e : PFE σ τ) : fnd σ r g s l = fnd τ r g s l := by
  unfold fnd fnB
  rw [e 18 (by decide) (by decide), e 19 (by decide) (by decide), e 21 (by decide) (by decide), e 22 (by decide) (by decide)]
/-- what storing a part makes of the rows -/
def rdy (σ : Sg) (r p : Nat) : Sg := if 3 ≤ gcn σ (90 * r + p) then σ else cmS r p 6 0 0 (los σ (90 * r + p))
def cUp (σ : Sg) (a : Nat) : Sg := uS σ 20 a (i3 (nv (σ 20 a) + 1))
def stP (σ : Sg) (r s l : Nat) (g : Nat → Int32) : Nat × Sg := match fnd σ r g s l with
  | some p => (p, cUp (rdy σ r p) (90 * r + p))
  | none => (nv (σ 18 r), cUp (cmS r (nv (σ 18 r)) 6 0 0 (los (nwP σ r (nv (σ 18 r)) s l g) (90 * r + nv (σ 18 r)))) (90 * r + nv (σ 18 r)))
theorem cUp_e {a : Nat} (e : PFE σ τ) : PFE (cUp σ a) (cUp τ a) := fun k h1 h2 => by
  unfold cUp
  by_cases z : k = 20
  · subst z
    funext j
    rw [e 20 h1 h2]
    by_cases y : j = a
    · subst y; rw [uS_e, uS_e]
    · rw [uS_d _ _ _ _ y, uS_d _ _ _ _ y, e 20 h1 h2]
  · rw [uS_n _ _ _ z, uS_n _ _ _ z, e k h1 h2]
theorem cUp_n {a k : Nat} (h1 : k ≠ 20) : cUp σ a k = σ k := uS_n _ _ _ h1
theorem rdy_e {p : Nat} (e : PFE σ τ) : PFE (rdy σ r p) (rdy τ r p) := by
  have g : gcn σ (90 * r + p) = gcn τ (90 * r + p) := gcn_e (e 23 (by decide) (by decide)) (e 25 (by decide) (by decide))
  unfold rdy
  rw [g]
  by_cases z : 3 ≤ gcn τ (90 * r + p)
  · rw [if_pos z, if_pos z]; exact e
  · rw [if_neg z, if_neg z]; exact cmS_e _ _ _ _ _ (losS_e e)
theorem stP_e {s l : Nat} {g : Nat → Int32} (e : PFE σ τ) : (stP σ r s l g).1 = (stP τ r s l g).1 ∧ PFE (stP σ r s l g).2 (stP τ r s l g).2 := by
  have f := fnd_e (r := r) (s := s) (l := l) (g := g) e
  unfold stP
  rw [f]
  cases fnd τ r g s l with
  | some p => exact ⟨rfl, cUp_e (rdy_e e)⟩
  | none =>
    have e18 := e 18 (by decide) (by decide)
    show nv (σ 18 r) = nv (τ 18 r) ∧ _
    rw [e18]
    exact ⟨rfl, cUp_e (cmS_e _ _ _ _ _ (losS_e (nwP_e e)))⟩
theorem stP_n {s l k : Nat} {g : Nat → Int32} (h1 : k < 18 ∨ 25 < k) : (stP σ r s l g).2 k = σ k := by
  unfold stP
  cases fnd σ r g s l with
  | some p =>
    show cUp (rdy σ r p) (90 * r + p) k = σ k
    rw [cUp_n (by omega)]
    unfold rdy
    by_cases z : 3 ≤ gcn σ (90 * r + p)
    · rw [if_pos z]
    · rw [if_neg z, cmS_n (by omega) (by omega) (by omega), los_n (by omega) (by omega)]
  | none =>
    show cUp _ _ k = σ k
    rw [cUp_n (by omega), cmS_n (by omega) (by omega) (by omega), los_n (by omega) (by omega), nwP_n (by omega)]
theorem m_stores {m q s l : Nat} {g : Nat → Int32} (Q : PQ σ) (hr : r < 2) (hq : q < 20) (h6 : σ 6 q = i3 s) (h7 : σ 7 q = i3 l) (h4 : ∀ j, j < m → σ 4 j = g j) (hl1 : 1 ≤ l) (hl : l ≤ 6) (hs : s + l ≤ m) (h40 : m ≤ 40) (hg : ∀ j, j < m → NB 15 (g j)) (hroom : fnd σ r g s l = none → nv (σ 18 r) < 90) (hct : ∀ p, p < nv (σ 18 r) → nv (σ 20 (90 * r + p)) < 800) : fMd_stores (i3 r) (i3 q) σ = some (i3 (stP σ r s l g).1, (stP σ r s l g).2) := by
  obtain ⟨P, h90, hP⟩ := (Q r hr).1.to
  have eP : nv (σ 18 r) = P := by rw [hP]; exact nv_i (by omega)
  have mf := m_found (g := g) Q hr hq h6 h7 (fun j hj => h4 _ (by omega)) hl (by omega)
  have j154 : ∀ (σ : Sg) p, p < 90 → NB 800 (σ 20 (90 * r + p)) → fMd_stores_j154 (i3 p) (i3 (90 * r + p)) σ = some (i3 p, cUp σ (90 * r + p)) := fun σ p hp hc => by
    obtain ⟨k, hk, ek⟩ := hc.to
    have en : nv (σ 20 (90 * r + p)) = k := by rw [ek]; exact nv_i (by omega)
    unfold cUp
    rw [fMd_stores_j154_E, mgA_20 (by omega), ek, mpA_20 (by omega), i3_add, nv_i (by omega)]
  rw [fMd_stores_E, mf, bdR_s]
  unfold stP
  cases hf : fnd σ r g s l with
  | some p =>
    have hp := (fstF_lt (show fstF (fnB σ r g s l) 0 (nv (σ 18 r)) = some p from hf)).2.1
    have X := (Q r hr).2 p (by omega)
    have gm := m_goodMany (σ := σ) (a := 90 * r + p) (by omega)
    have g5 : gcn σ (90 * r + p) ≤ 5 := cntF_le
    show _ = some (i3 p, cUp (rdy σ r p) (90 * r + p))
    rw [if_neg (show ¬ eO (some p) = m1 from fun w => by have w2 : i3 p = m1 := w; rw [i3_m1 (by omega)] at w2; exact w2), show eO (some p) = i3 p from rfl, fMd_stores_j17_E, if_pos rfl, fMd_stores_j125_E, if_pos rfl, i3_mul, i3_add, gm, bdR_s]
    unfold rdy
    by_cases z : 3 ≤ gcn σ (90 * r + p)
    · rw [if_pos ((i3_le (by omega) (by omega)).mpr z), if_pos z]
      exact j154 σ p (by omega) X.ct
    · rw [if_neg (fun w => z ((i3_le (by omega) (by omega)).mp w)), if_neg z, fMd_stores_j148_E, m_comes hr (by omega) X.lo X.by, bdW_s]
      exact j154 _ p (by omega) (by rw [cmS_n (by decide) (by decide) (by decide), los_n (by decide) (by decide)]; exact X.ct)
  | none =>
    have hP90 := hroom hf
    rw [eP] at hP90
    show _ = some (i3 (nv (σ 18 r)), cUp (cmS r (nv (σ 18 r)) 6 0 0 (los (nwP σ r (nv (σ 18 r)) s l g) (90 * r + nv (σ 18 r)))) (90 * r + nv (σ 18 r)))
    rw [eP, if_pos (show eO none = m1 from rfl), fMd_stores_j17_E, if_neg (by decide), mgA_18 (by omega), hP, mgA_18 (by omega), hP, mpA_18 (by omega), i3_mul, i3_add, mpZ_19 (by omega) (Or.inl rfl), i3_add, mpA_20 (by omega), mgA_7 (by omega), uS_n _ _ _ (by decide), uS_n _ _ _ (by decide), uS_n _ _ _ (by decide), h7, mpA_21 (by omega)]
    obtain ⟨σ1, h1⟩ : ∃ σ1, σ1 = uS (uS (uS (uS σ 18 r (i3 (P + 1))) 19 (90 * r + P) (i3 0)) 20 (90 * r + P) (i3 0)) 21 (90 * r + P) (i3 l) := ⟨_, rfl⟩
    have lp : ∀ d j fu (σ2 : Sg), d + j = l → d < fu → (∀ k, k ≠ 22 → σ2 k = σ1 k) → (∀ x, σ2 22 x = if 6 * (90 * r + P) ≤ x ∧ x < 6 * (90 * r + P) + j then g (s + (x - 6 * (90 * r + P))) else σ 22 x) → fMd_stores_l81 fu (i3 r) (i3 q) (i3 P) (i3 1) (i3 (90 * r + P)) (i3 j) σ2 = fMd_stores_j125 (i3 r) (i3 P) (i3 1) (nwP σ r P s l g) := by
      intro d
      induction d with
      | zero =>
        intro j fu σ2 hd hfu e2 v2
        obtain ⟨f, rfl⟩ : ∃ f, fu = f + 1 := ⟨fu - 1, by omega⟩
        have e7 : σ2 7 q = i3 l := by rw [e2 7 (by decide), h1, uS_n _ _ _ (by decide), uS_n _ _ _ (by decide), uS_n _ _ _ (by decide), uS_n _ _ _ (by decide)]; exact h7
        have es : σ2 = nwP σ r P s l g := funext fun k => funext fun x => by
          show σ2 k x = (if k = 18 ∧ x = r then i3 (P + 1) else if k = 19 ∧ x = 90 * r + P then i3 0 else if k = 20 ∧ x = 90 * r + P then i3 0 else if k = 21 ∧ x = 90 * r + P then i3 l else if k = 22 ∧ 6 * (90 * r + P) ≤ x ∧ x < 6 * (90 * r + P) + l then g (s + (x - 6 * (90 * r + P))) else σ k x)
          by_cases z : k = 22
          · subst z
            have hjl : j = l := by omega
            rw [v2, hjl]
            by_cases y : 6 * (90 * r + P) ≤ x ∧ x < 6 * (90 * r + P) + l
            · rw [if_pos y, if_neg (by omega), if_neg (by omega), if_neg (by omega), if_neg (by omega), if_pos ⟨rfl, y⟩]
            · rw [if_neg y, if_neg (by omega), if_neg (by omega), if_neg (by omega), if_neg (by omega), if_neg (fun w => y w.2)]
          · rw [e2 k z, h1]
            show (if k = 21 ∧ x = 90 * r + P then i3 l else if k = 20 ∧ x = 90 * r + P then i3 0 else if k = 19 ∧ x = 90 * r + P then i3 0 else if k = 18 ∧ x = r then i3 (P + 1) else σ k x) = _
            by_cases y1 : k = 18 ∧ x = r
            · rw [if_neg (by omega), if_neg (by omega), if_neg (by omega), if_pos y1, if_pos y1]
            · rw [if_neg y1, if_neg y1]
              by_cases y2 : k = 19 ∧ x = 90 * r + P
              · rw [if_neg (by omega), if_neg (by omega), if_pos y2, if_pos y2]
              · rw [if_neg y2, if_neg y2]
                by_cases y3 : k = 20 ∧ x = 90 * r + P
                · rw [if_neg (by omega), if_pos y3, if_pos y3]
                · rw [if_neg y3, if_neg y3]
                  by_cases y4 : k = 21 ∧ x = 90 * r + P
                  · rw [if_pos y4, if_pos y4]
                  · rw [if_neg y4, if_neg y4, if_neg (fun w => z w.1)]
        rw [fMd_stores_l81_S, fMd_stores_b81_E, mgA_7 (by omega), e7, if_pos ((i3_le (by omega) (by omega)).mpr (by omega)), es]
      | succ d ih =>
        intro j fu σ2 hd hfu e2 v2
        obtain ⟨f, rfl⟩ : ∃ f, fu = f + 1 := ⟨fu - 1, by omega⟩
        have e7 : σ2 7 q = i3 l := by rw [e2 7 (by decide), h1, uS_n _ _ _ (by decide), uS_n _ _ _ (by decide), uS_n _ _ _ (by decide), uS_n _ _ _ (by decide)]; exact h7
        have e6 : σ2 6 q = i3 s := by rw [e2 6 (by decide), h1, uS_n _ _ _ (by decide), uS_n _ _ _ (by decide), uS_n _ _ _ (by decide), uS_n _ _ _ (by decide)]; exact h6
        have e4 : σ2 4 (s + j) = g (s + j) := by rw [e2 4 (by decide), h1, uS_n _ _ _ (by decide), uS_n _ _ _ (by decide), uS_n _ _ _ (by decide), uS_n _ _ _ (by decide)]; exact h4 _ (by omega)
        rw [fMd_stores_l81_S, fMd_stores_b81_E, mgA_7 (by omega), e7, if_neg (fun w => absurd ((i3_le (by omega) (by omega)).mp w) (by omega)), mgA_6 (by omega), e6, i3_add, mgA_4 (by omega), e4, i3_mul, i3_add, mpA_22 (by omega), i3_add]
        refine ih (j + 1) f _ (by omega) (by omega) (fun k hk => by rw [uS_n _ _ _ hk]; exact e2 k hk) (fun x => ?_)
        by_cases z : x = 6 * (90 * r + P) + j
        · rw [z, uS_e, if_pos (by omega), Nat.add_sub_cancel_left]
        · rw [uS_d _ _ _ _ z, v2]
          by_cases y : 6 * (90 * r + P) ≤ x ∧ x < 6 * (90 * r + P) + j
          · rw [if_pos y, if_pos (by omega)]
          · rw [if_neg y, if_neg (by omega)]
    rw [← h1]
    have e := lp l 0 FU σ1 (by omega) (FU_S (by omega)) (fun _ _ => rfl) (fun x => by
      rw [if_neg (by omega), h1, uS_n _ _ _ (by decide), uS_n _ _ _ (by decide), uS_n _ _ _ (by decide), uS_n _ _ _ (by decide)])
    rw [e, fMd_stores_j125_E, if_neg (by decide), i3_mul, i3_add, fMd_stores_j148_E]
    rw [m_comes hr hP90 (by rw [nwP_21]; exact NB.of hl (by omega)) (fun j hj => by
      rw [nwP_21, nv_i (by omega)] at hj
      rw [nwP_22 hj]; exact hg _ (by omega)), bdW_s]
    exact j154 _ P hP90 (by rw [cmS_n (by decide) (by decide) (by decide), los_n (by decide) (by decide), nwP_20]; exact NB.of (by omega) (by omega))
/-- what is known behind it -/
def STF (r s l : Nat) (g : Nat → Int32) (σ : Sg) (σ' : Sg) (p : Nat) : Prop := (PQ σ') ∧
  (p < nv (σ' 18 r)) ∧
  (nv (σ' 18 r) = (if (fnd σ r g s l).isSome = true then nv (σ 18 r) else nv (σ 18 r) + 1)) ∧
  (∀ r0, r0 ≠ r → σ' 18 r0 = σ 18 r0) ∧
  (fnB σ' r g s l p = true) ∧
  (∀ r0, r0 < 2 → ∀ p0, p0 < nv (σ 18 r0) → σ' 19 (90 * r0 + p0) = σ 19 (90 * r0 + p0) ∧ σ' 21 (90 * r0 + p0) = σ 21 (90 * r0 + p0) ∧ ∀ j, j < 6 → σ' 22 (6 * (90 * r0 + p0) + j) = σ 22 (6 * (90 * r0 + p0) + j)) ∧
  (∀ r0, r0 < 2 → ∀ p0, p0 < nv (σ' 18 r0) → nv (σ' 20 (90 * r0 + p0)) = (if p0 < nv (σ 18 r0) then nv (σ 20 (90 * r0 + p0)) else 0) + (if r0 = r ∧ p0 = p then 1 else 0)) ∧
  (∀ k, k < 18 ∨ 25 < k → σ' k = σ k)
theorem STF.pq {r s l : Nat} {g : Nat → Int32} {σ : Sg} {σ' : Sg} {p : Nat} (Z : STF r s l g σ σ' p) : PQ σ' := Z.1
theorem STF.pl {r s l : Nat} {g : Nat → Int32} {σ : Sg} {σ' : Sg} {p : Nat} (Z : STF r s l g σ σ' p) : p < nv (σ' 18 r) := Z.2.1
theorem STF.n18 {r s l : Nat} {g : Nat → Int32} {σ : Sg} {σ' : Sg} {p : Nat} (Z : STF r s l g σ σ' p) : nv (σ' 18 r) = (if (fnd σ r g s l).isSome = true then nv (σ 18 r) else nv (σ 18 r) + 1) := Z.2.2.1
theorem STF.o18 {r s l : Nat} {g : Nat → Int32} {σ : Sg} {σ' : Sg} {p : Nat} (Z : STF r s l g σ σ' p) : ∀ r0, r0 ≠ r → σ' 18 r0 = σ 18 r0 := Z.2.2.2.1
theorem STF.fn {r s l : Nat} {g : Nat → Int32} {σ : Sg} {σ' : Sg} {p : Nat} (Z : STF r s l g σ σ' p) : fnB σ' r g s l p = true := Z.2.2.2.2.1
theorem STF.ol {r s l : Nat} {g : Nat → Int32} {σ : Sg} {σ' : Sg} {p : Nat} (Z : STF r s l g σ σ' p) : ∀ r0, r0 < 2 → ∀ p0, p0 < nv (σ 18 r0) → σ' 19 (90 * r0 + p0) = σ 19 (90 * r0 + p0) ∧ σ' 21 (90 * r0 + p0) = σ 21 (90 * r0 + p0) ∧ ∀ j, j < 6 → σ' 22 (6 * (90 * r0 + p0) + j) = σ 22 (6 * (90 * r0 + p0) + j) := Z.2.2.2.2.2.1
theorem STF.ct {r s l : Nat} {g : Nat → Int32} {σ : Sg} {σ' : Sg} {p : Nat} (Z : STF r s l g σ σ' p) : ∀ r0, r0 < 2 → ∀ p0, p0 < nv (σ' 18 r0) → nv (σ' 20 (90 * r0 + p0)) = (if p0 < nv (σ 18 r0) then nv (σ 20 (90 * r0 + p0)) else 0) + (if r0 = r ∧ p0 = p then 1 else 0) := Z.2.2.2.2.2.2.1
theorem STF.nk {r s l : Nat} {g : Nat → Int32} {σ : Sg} {σ' : Sg} {p : Nat} (Z : STF r s l g σ σ' p) : ∀ k, k < 18 ∨ 25 < k → σ' k = σ k := Z.2.2.2.2.2.2.2
theorem IVP.cup {r a : Nat} (X : IVP σ r a) (hc : nv (σ 20 a) < 800) : IVP (cUp σ a) r a := by
  refine ⟨?_, ?_, ?_, ?_, ?_, ?_, ?_, ?_⟩
  · unfold cUp; rw [uS_e]; exact NB.of (by omega) (by omega)
  · rw [cUp_n (by decide)]; exact X.l1
  · rw [cUp_n (by decide)]; exact X.lo
  · rw [cUp_n (by decide), cUp_n (by decide)]; exact X.by
  · rw [cUp_n (by decide)]; exact X.sw
  · rw [cUp_n (by decide)]; exact X.nd
  · rw [cUp_n (by decide), cUp_n (by decide)]; exact X.ro
  · rw [cUp_n (k := 23) (by decide), cUp_n (k := 24) (by decide), cUp_n (k := 25) (by decide), cUp_n (k := 21) (by decide), cUp_n (k := 22) (by decide)]; exact X.sb
theorem IVP.mvp {r r' a : Nat} (X : IVP σ r a) (e19 : σ' 19 a = σ 19 a) (e20 : σ' 20 a = σ 20 a) (e21 : σ' 21 a = σ 21 a) (e22 : ∀ j, j < 6 → σ' 22 (6 * a + j) = σ 22 (6 * a + j)) (e23 : ∀ s, s < 5 → σ' 23 (5 * a + s) = σ 23 (5 * a + s)) (e25 : ∀ s, s < 5 → σ' 25 (5 * a + s) = σ 25 (5 * a + s)) (e24 : ∀ j, j < 10 → σ' 24 (10 * a + j) = σ 24 (10 * a + j)) : IVP σ' r' a := by
  have lo6 := X.lo.2
  refine ⟨by rw [e20]; exact X.ct, by rw [e21]; exact X.l1, by rw [e21]; exact X.lo, fun j hj => ?_, by rw [e19]; exact X.sw, fun s hs => by rw [e23 s hs]; exact X.nd s hs, fun s hs => by rw [e25 s hs, e23 s hs]; exact X.ro s hs, fun s hs w1 w2 k hk => ?_⟩
  · rw [e21] at hj
    rw [e22 j (by omega)]; exact X.by j hj
  · rw [e23 s hs] at w1
    rw [e25 s hs] at w2
    rw [e24 _ (by omega), e21, X.sb s hs w1 w2 k hk]
    have dd : ∀ j, dat (nv (σ 21 a)) (fun j => σ' 22 (6 * a + j)) j = dat (nv (σ 21 a)) (fun j => σ 22 (6 * a + j)) j := fun j => by
      unfold dat
      by_cases z : j < nv (σ 21 a)
      · rw [if_pos z, if_pos z]; exact congrArg nv (e22 j (by omega))
      · rw [if_neg z, if_neg z]
    unfold mde
    rw [dd, dd, dd]
end SO

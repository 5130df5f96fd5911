set_option maxRecDepth 100000
/-! list: words and keys -/
section LI
variable {h c n r : Nat} {own : Nat → Nat} {B : BK} {σ : Sg} {M M' : Mm}
def kow (w : Nat) : Nat := if w % 25 = 0 then w / 25 else if w % 5 = 0 then w / 5 else w
def wok (k : Nat) : Nat := if k < 5 then 25 * k else if k < 25 then 5 * k else k
def iskb (k : Nat) : Bool := decide (fKeys_isKey (i3 k) = some (i3 1))
def bgb (k b : Nat) : Bool := decide (fKeys_begins (i3 k) (i3 b) = some (i3 1))
theorem ow_c : ((List.range 125).all fun w => decide (fKeys_ofWord (i3 w) = some (i3 (kow w)))) = true := by decide +kernel
theorem ow {w : Nat} (hw : w < 125) : fKeys_ofWord (i3 w) = some (i3 (kow w)) := of_decide_eq_true (List.all_eq_true.mp ow_c w (List.mem_range.mpr hw))
theorem kow_lt {w : Nat} (hw : w < 125) : kow w < 125 := by
  unfold kow
  split
  · omega
  · split <;> omega
theorem wk_c : ((List.range 125).all fun k => !iskb k || (decide (fMd_asWord (i3 k) = some (i3 (wok k))) && (decide (fKeys_asWord (i3 k) = some (i3 (wok k))) && (decide (25 ≤ wok k) && (decide (wok k < 125) && decide (kow (wok k) = k)))))) = true := by decide +kernel
theorem wk {k : Nat} (hk : k < 125) (e : ISK (i3 k)) : fMd_asWord (i3 k) = some (i3 (wok k)) ∧ fKeys_asWord (i3 k) = some (i3 (wok k)) ∧ 25 ≤ wok k ∧ wok k < 125 ∧ kow (wok k) = k := by
  have z := List.all_eq_true.mp wk_c k (List.mem_range.mpr hk)
  have e2 : iskb k = true := decide_eq_true e
  rw [e2, Bool.not_true, Bool.false_or, Bool.and_eq_true, Bool.and_eq_true, Bool.and_eq_true, Bool.and_eq_true] at z
  obtain ⟨z1, z2, z3, z4, z5⟩ := z
  exact ⟨of_decide_eq_true z1, of_decide_eq_true z2, of_decide_eq_true z3, of_decide_eq_true z4, of_decide_eq_true z5⟩
theorem kw_c : ((List.range 125).all fun w => decide (w < 25) || (!iskb (kow w) || decide (wok (kow w) = w))) = true := by decide +kernel
theorem kw {w : Nat} (h25 : 25 ≤ w) (hw : w < 125) (e : iskb (kow w) = true) : wok (kow w) = w := by
  have z := List.all_eq_true.mp kw_c w (List.mem_range.mpr hw)
  rw [e, Bool.not_true, Bool.false_or, Bool.or_eq_true] at z
  rcases z with z | z
  · exact absurd (of_decide_eq_true z) (by omega)
  · exact of_decide_eq_true z
theorem bg_c : ((List.range 125).all fun k => (List.range 125).all fun b => decide (fKeys_begins (i3 k) (i3 b) = some (i3 1)) || decide (fKeys_begins (i3 k) (i3 b) = some (i3 0))) = true := by decide +kernel
theorem bg {k b : Nat} (hk : k < 125) (hb : b < 125) : fKeys_begins (i3 k) (i3 b) = some (bI (bgb k b)) := by
  have z := List.all_eq_true.mp (List.all_eq_true.mp bg_c k (List.mem_range.mpr hk)) b (List.mem_range.mpr hb)
  rw [Bool.or_eq_true] at z
  unfold bgb
  rcases z with z | z
  · rw [z, of_decide_eq_true z]; rfl
  · have z2 := of_decide_eq_true z
    have n : ¬ fKeys_begins (i3 k) (i3 b) = some (i3 1) := fun w => by
      rw [z2] at w
      injection w with w
      exact absurd w (by decide)
    rw [decide_eq_false n, z2]; rfl
theorem ik_c : ((List.range 125).all fun k => decide (fKeys_isKey (i3 k) = some (i3 1)) || decide (fKeys_isKey (i3 k) = some (i3 0))) = true := by decide +kernel
theorem ik {k : Nat} (hk : k < 125) : fKeys_isKey (i3 k) = some (bI (iskb k)) := by
  have z := List.all_eq_true.mp ik_c k (List.mem_range.mpr hk)
  rw [Bool.or_eq_true] at z
  unfold iskb
  rcases z with z | z
  · rw [z, of_decide_eq_true z]; rfl
  · have z2 := of_decide_eq_true z
    have n : ¬ fKeys_isKey (i3 k) = some (i3 1) := fun w => by
      rw [z2] at w
      injection w with w
      exact absurd w (by decide)
    rw [decide_eq_false n, z2]; rfl
/-- the words that a list tells -/
def gd (σ : Sg) (r b : Nat) : Nat → Bool := fun w => iskb (kow w) && (bgb (kow w) b && (obj σ r (i3 (kow w))).isSome)
def kO : Option Nat → Int32
  | none => i3 0
  | some w => i3 (kow w)
theorem c_list_l (R : RR h own B σ M n) (I : IV c σ) (hr : r < 2) {b : Nat} (hb : b < 125) : ∀ d w fu k, d + w = 125 → d < fu → k < 2147483648 → fHb_list_l38 h fu (i3 b) (some (gr h r)) (i3 k) (i3 w) M n = some (.inl (kO (nthF (gd σ r b) w d k)), M, n) := by
  have g0 := (R.rg r hr).k
  have n10 : ¬ bI true = i3 0 := by decide
  have p00 : bI false = i3 0 := rfl
  intro d
  induction d with
  | zero =>
    intro w fu k hd hfu hk
    obtain ⟨f, rfl⟩ : ∃ f, fu = f + 1 := ⟨fu - 1, by omega⟩
    rw [fHb_list_l38_S, fHb_list_b38_E, if_pos ((i3_lt (by omega) (by omega)).mpr (by omega))]
    rfl
  | succ d ih =>
    intro w fu k hd hfu hk
    obtain ⟨f, rfl⟩ : ∃ f, fu = f + 1 := ⟨fu - 1, by omega⟩
    have c0 : ¬ i3 124 < i3 w := fun z => absurd ((i3_lt (by omega) (by omega)).mp z) (by omega)
    have hw : w < 125 := by omega
    have kl := kow_lt hw
    have ih' := ih (w + 1) f k (by omega) (by omega) hk
    rw [fHb_list_l38_S, fHb_list_b38_E, if_neg c0, ow hw, bdR_s, ik kl, bdR_s, nthF_S]
    have j1 : fHb_list_j93 h (fHb_list_l38 h f) (i3 b) (some (gr h r)) (i3 k) (i3 w) M n = some (.inl (kO (nthF (gd σ r b) (w + 1) d k)), M, n) := by
      rw [fHb_list_j93_E, i3_add]; exact ih'
    cases h1 : iskb (kow w) with
    | false =>
      have e : ¬ gd σ r b w = true := by unfold gd; rw [h1, Bool.false_and]; decide
      rw [if_pos p00, if_neg e]; exact j1
    | true =>
      rw [if_neg n10, bg kl hb, bdR_s]
      cases h2 : bgb (kow w) b with
      | false =>
        have e : ¬ gd σ r b w = true := by unfold gd; rw [h1, h2, Bool.false_and, Bool.and_false]; decide
        rw [if_pos p00, if_neg e]; exact j1
      | true =>
        have la : fRegion_latest (gr h r) (i3 (kow w)) M = some ((lat σ r (i3 (kow w))).map (ve B r)) := latest_c R I hr (i3 (kow w))
        rw [if_neg n10, rk_s g0, la, bdR_s, c_isObject R I hr, bdR_s]
        cases h3 : (obj σ r (i3 (kow w))).isSome with
        | false =>
          have e : ¬ gd σ r b w = true := by unfold gd; rw [h1, h2, h3]; decide
          rw [if_pos p00, if_neg e]; exact j1
        | true =>
          have e : gd σ r b w = true := by unfold gd; rw [h1, h2, h3]; rfl
          rw [if_neg n10, if_pos e]
          by_cases z : k = 0
          · subst z
            rw [if_pos rfl, if_pos rfl]; rfl
          · have z2 : ¬ i3 k = i3 0 := fun y => z ((i3_inj (by omega) (by omega)).mp y)
            have ih2 := ih (w + 1) f (k - 1) (by omega) (by omega) (by omega)
            rw [if_neg z2, if_neg z, fHb_list_j93_E, i3_add, i3_dec (by omega)]
            exact ih2
/-- a version that a pass of the check takes into account, and its word -/
def wrd (σ : Sg) (r i : Nat) : Nat := wok (nv (σ 28 (40 * r + i)))
def cnd (σ : Sg) (r b x6 i : Nat) : Bool := isob σ r i && (bgb (nv (σ 28 (40 * r + i))) b && decide (x6 < wrd σ r i))
/-- the best word of the first i versions -/
def bst (σ : Sg) (r b x6 : Nat) : Nat → Option Nat
  | 0 => none
  | i + 1 => if cnd σ r b x6 i = true then (match bst σ r b x6 i with
    | none => some (wrd σ r i)
    | some w => if w ≤ wrd σ r i then some w else some (wrd σ r i)) else bst σ r b x6 i
def wO : Option Nat → Int32
  | none => i3 0
  | some w => i3 w
theorem vkey (I : IV c σ) (hr : r < 2) {i : Nat} (hi : i < nv (σ 26 r)) : ∃ k, 1 ≤ k ∧ k < 125 ∧ σ 28 (40 * r + i) = i3 k ∧ nv (σ 28 (40 * r + i)) = k ∧ ISK (i3 k) := by
  have e := I.isk hr hi
  obtain ⟨k, k1, k2, ke⟩ := isk_k e
  exact ⟨k, k1, k2, ke, by rw [ke]; exact nv_i (by omega), by rw [← ke]; exact e⟩
theorem bst_lt (I : IV c σ) (hr : r < 2) {b x6 : Nat} : ∀ {i w : Nat}, i ≤ nv (σ 26 r) → bst σ r b x6 i = some w → 25 ≤ w ∧ w < 125 ∧ x6 < w ∧ iskb (kow w) = true ∧ bgb (kow w) b = true ∧ ∃ j, j < i ∧ cnd σ r b x6 j = true ∧ wrd σ r j = w ∧ σ 28 (40 * r + j) = i3 (kow w) := by
  have one : ∀ i, i < nv (σ 26 r) → cnd σ r b x6 i = true → 25 ≤ wrd σ r i ∧ wrd σ r i < 125 ∧ x6 < wrd σ r i ∧ iskb (kow (wrd σ r i)) = true ∧ bgb (kow (wrd σ r i)) b = true ∧ σ 28 (40 * r + i) = i3 (kow (wrd σ r i)) := fun i hi hc => by
    obtain ⟨k, k1, k2, ke, kn, ks⟩ := vkey I hr hi
    have z := wk k2 ks
    have ew : wrd σ r i = wok k := by unfold wrd; rw [kn]
    unfold cnd at hc
    rw [Bool.and_eq_true, Bool.and_eq_true, kn] at hc
    obtain ⟨-, c2, c3⟩ := hc
    have c4 := of_decide_eq_true c3
    rw [ew] at c4 ⊢
    rw [z.2.2.2.2]
    exact ⟨z.2.2.1, z.2.2.2.1, c4, decide_eq_true ks, c2, ke⟩
  intro i
  induction i with
  | zero => intro w _ h; cases h
  | succ i ih =>
    intro w hi h
    have h' : (if cnd σ r b x6 i = true then (match bst σ r b x6 i with | none => some (wrd σ r i) | some w => if w ≤ wrd σ r i then some w else some (wrd σ r i)) else bst σ r b x6 i) = some w := h
    have new : cnd σ r b x6 i = true → wrd σ r i = w → 25 ≤ w ∧ w < 125 ∧ x6 < w ∧ iskb (kow w) = true ∧ bgb (kow w) b = true ∧ ∃ j, j < i + 1 ∧ cnd σ r b x6 j = true ∧ wrd σ r j = w ∧ σ 28 (40 * r + j) = i3 (kow w) := fun hc e => by
      obtain ⟨a1, a2, a3, a4, a5, a6⟩ := one i (by omega) hc
      rw [e] at a1 a2 a3 a4 a5 a6
      exact ⟨a1, a2, a3, a4, a5, i, by omega, hc, e, a6⟩
    have old : bst σ r b x6 i = some w → 25 ≤ w ∧ w < 125 ∧ x6 < w ∧ iskb (kow w) = true ∧ bgb (kow w) b = true ∧ ∃ j, j < i + 1 ∧ cnd σ r b x6 j = true ∧ wrd σ r j = w ∧ σ 28 (40 * r + j) = i3 (kow w) := fun e => by
      obtain ⟨a1, a2, a3, a4, a5, j, a6, a7⟩ := ih (by omega) e
      exact ⟨a1, a2, a3, a4, a5, j, by omega, a7⟩
    by_cases hc : cnd σ r b x6 i = true
    · rw [if_pos hc] at h'
      cases hb : bst σ r b x6 i with
      | none =>
        rw [hb] at h'
        have h2 : some (wrd σ r i) = some w := h'
        injection h2 with h3
        exact new hc h3
      | some v =>
        rw [hb] at h'
        have h2 : (if v ≤ wrd σ r i then some v else some (wrd σ r i)) = some w := h'
        by_cases y : v ≤ wrd σ r i
        · rw [if_pos y] at h2
          exact old (hb.trans h2)
        · rw [if_neg y] at h2
          injection h2 with h3
          exact new hc h3
    · rw [if_neg hc] at h'
      exact old h'
theorem m_pass_l (I : IV c σ) (hr : r < 2) {b x6 : Nat} (hb : b = 0 ∨ iskb b = true) (hb2 : b < 125) (h6 : x6 < 125) (k84 : Int32 → Int32 → Int32 → Int32 → Int32 → Int32 → Sg → Option (Int32 × Sg)) (x4 : Int32) (x8 : Nat) : ∀ d i fu, d + i = nv (σ 26 r) → d < fu → fMd_list_l113 k84 fu (i3 r) (i3 b) x4 (i3 x6) (kO (bst σ r b x6 i)) (i3 x8) (wO (bst σ r b x6 i)) (i3 (40 * r + i)) σ = k84 (i3 r) (i3 b) x4 (wO (bst σ r b x6 (nv (σ 26 r)))) (kO (bst σ r b x6 (nv (σ 26 r)))) (i3 (x8 + 1)) σ := by
  obtain ⟨V, h40, hV⟩ := (I.vn r hr).to
  have eV : nv (σ 26 r) = V := by rw [hV]; exact nv_i (by omega)
  have me := m_endOf hr hV
  have n10 : ¬ bI true = i3 0 := by decide
  have p00 : bI false = i3 0 := rfl
  intro d
  induction d with
  | zero =>
    intro i fu hd hfu
    obtain ⟨f, rfl⟩ : ∃ f, fu = f + 1 := ⟨fu - 1, by omega⟩
    rw [Nat.zero_add] at hd
    rw [fMd_list_l113_S, fMd_list_b113_E, me, bdR_s, if_pos ((i3_le (by omega) (by omega)).mpr (by omega)), i3_add, hd]
  | succ d ih =>
    intro i fu hd hfu
    obtain ⟨f, rfl⟩ : ∃ f, fu = f + 1 := ⟨fu - 1, by omega⟩
    have c0 : ¬ i3 (40 * r + V) ≤ i3 (40 * r + i) := fun w => absurd ((i3_le (by omega) (by omega)).mp w) (by omega)
    obtain ⟨k, k1, k2, ke, kn, ks⟩ := vkey I hr (i := i) (by omega)
    obtain ⟨w1, -, w3, w4, w5⟩ := wk k2 ks
    have ew : wrd σ r i = wok k := by unfold wrd; rw [kn]
    have ih' := ih (i + 1) f (by omega) (by omega)
    have es : bst σ r b x6 (i + 1) = (if cnd σ r b x6 i = true then (match bst σ r b x6 i with | none => some (wrd σ r i) | some w => if w ≤ wrd σ r i then some w else some (wrd σ r i)) else bst σ r b x6 i) := rfl
    have mo := m_isObject I hr (i := i) (by omega)
    have mb : fMd_begins (i3 k) (i3 b) = some (bI (bgb k b)) := by
      have z := begins_key (k := k) (b := b) k2 hb2 ks (by rcases hb with z | z; exact Or.inl z; exact Or.inr (of_decide_eq_true z))
      exact z.symm.trans (bg k2 hb2)
    have keep : bst σ r b x6 (i + 1) = bst σ r b x6 i → fMd_list_j182 k84 (fMd_list_l113 k84 f) (i3 r) (i3 b) x4 (i3 x6) (kO (bst σ r b x6 i)) (i3 x8) (wO (bst σ r b x6 i)) (i3 (40 * r + i)) (i3 (wok k)) σ = k84 (i3 r) (i3 b) x4 (wO (bst σ r b x6 (nv (σ 26 r)))) (kO (bst σ r b x6 (nv (σ 26 r)))) (i3 (x8 + 1)) σ := fun e => by
      rw [e] at ih'
      rw [fMd_list_j182_E, fMd_list_j183_E, if_pos rfl, fMd_list_j202_E, if_pos rfl, fMd_list_j216_E, i3_add]
      exact ih'
    have take : bst σ r b x6 (i + 1) = some (wok k) → fMd_list_j178 k84 (fMd_list_l113 k84 f) (i3 r) (i3 b) x4 (i3 x6) (kO (bst σ r b x6 i)) (i3 x8) (wO (bst σ r b x6 i)) (i3 (40 * r + i)) (i3 (wok k)) σ = k84 (i3 r) (i3 b) x4 (wO (bst σ r b x6 (nv (σ 26 r)))) (kO (bst σ r b x6 (nv (σ 26 r)))) (i3 (x8 + 1)) σ := fun e => by
      have ek : kO (some (wok k)) = i3 k := by show i3 (kow (wok k)) = i3 k; rw [w5]
      rw [e, ek] at ih'
      rw [fMd_list_j178_E, fMd_list_j183_E, if_neg (by decide), mgA_28 (by omega), ke, fMd_list_j202_E, if_neg (by decide), fMd_list_j216_E, i3_add]
      exact ih'
    rw [fMd_list_l113_S, fMd_list_b113_E, me, bdR_s, if_neg c0, mgA_28 (by omega), ke, w1, bdR_s, mo, bdR_s]
    cases h1 : isob σ r i with
    | false =>
      have e : ¬ cnd σ r b x6 i = true := by unfold cnd; rw [h1, Bool.false_and]; decide
      rw [if_pos p00]
      exact keep (by rw [es, if_neg e])
    | true =>
      rw [if_neg n10, mgA_28 (by omega), ke, mb, bdR_s]
      cases h2 : bgb k b with
      | false =>
        have e : ¬ cnd σ r b x6 i = true := by unfold cnd; rw [h1, kn, h2, Bool.false_and, Bool.and_false]; decide
        rw [if_pos p00]
        exact keep (by rw [es, if_neg e])
      | true =>
        rw [if_neg n10]
        by_cases y : wok k ≤ x6
        · have e : ¬ cnd σ r b x6 i = true := fun z => by
            unfold cnd at z
            rw [Bool.and_eq_true, Bool.and_eq_true, ew] at z
            have := of_decide_eq_true z.2.2
            omega
          rw [if_pos ((i3_le (by omega) (by omega)).mpr y)]
          exact keep (by rw [es, if_neg e])
        · have e : cnd σ r b x6 i = true := by
            unfold cnd
            rw [h1, kn, h2, ew, decide_eq_true (by omega)]; rfl
          rw [if_pos e, ew] at es
          rw [if_neg (fun z => y ((i3_le (by omega) (by omega)).mp z))]
          cases hbst : bst σ r b x6 i with
          | none =>
            rw [hbst] at es take
            rw [if_pos (show kO none = i3 0 from rfl)]
            exact take es
          | some v =>
            obtain ⟨v1, v2, v3, v4, v5, -⟩ := bst_lt I hr (by omega) hbst
            rw [hbst] at es take keep
            have kne : ¬ kO (some v) = i3 0 := fun z => by
              have z2 : i3 (kow v) = i3 0 := z
              have kl := kow_lt v2
              have z3 := (i3_inj (by omega) (by omega)).mp z2
              have z4 := of_decide_eq_true v4
              rw [z3, fKeys_isKey_E, if_pos (show i3 0 < i3 1 by decide)] at z4
              have z5 : some (i3 0) = some (i3 1) := z4
              injection z5 with z6
              exact absurd z6 (by decide)
            rw [if_neg kne]
            have es2 : bst σ r b x6 (i + 1) = (if v ≤ wok k then some v else some (wok k)) := es
            by_cases q : v ≤ wok k
            · rw [if_pos q] at es2
              rw [if_pos (show wO (some v) ≤ i3 (wok k) from (i3_le (by omega) (by omega)).mpr q)]
              exact keep es2
            · rw [if_neg q] at es2
              rw [if_neg (show ¬ wO (some v) ≤ i3 (wok k) from fun z => q ((i3_le (by omega) (by omega)).mp z))]
              exact take es2
end LI

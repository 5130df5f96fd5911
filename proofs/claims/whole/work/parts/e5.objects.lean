set_option maxRecDepth 100000
/-! objects: the latest of a name, where it is no mark; the same bytes -/
section OB
variable {h c n r : Nat} {own : Nat → Nat} {B : BK} {σ : Sg} {M M' : Mm}
abbrev nE (σ : Sg) (r i : Nat) : Nat := nv (σ 27 (40 * r + i))
def lat (σ : Sg) (r : Nat) (x : Int32) : Option Nat := fdn (pL σ r x) (nv (σ 26 r))
/-- the object of a name: the place of its version -/
def obj (σ : Sg) (r : Nat) (x : Int32) : Option Nat := match lat σ r x with
  | none => none
  | some i => if σ 9 (nE σ r i) = i3 0 then none else some i
def bI (b : Bool) : Int32 := if b = true then i3 1 else i3 0
theorem bI_0 {b : Bool} : (bI b = i3 0) = (b = false) := by cases b <;> decide
def isob (σ : Sg) (r i : Nat) : Bool := decide (obj σ r (σ 28 (40 * r + i)) = some i)
theorem enc_i {i j : Nat} (hr : r < 2) (hi : i < 40) (hj : j < 40) : (enc r (some i) = i3 (40 * r + j)) = (i = j) := by
  apply propext
  constructor
  · intro z
    have := (i3_inj (by omega) (by omega)).mp (show i3 (40 * r + i) = i3 (40 * r + j) from z)
    omega
  · intro z; rw [z]; rfl
theorem m_mark {i : Nat} (I : IV c σ) (hr : r < 2) (hi : i < nv (σ 26 r)) : fMd_isMark (i3 (40 * r + i)) σ = some (if σ 9 (nE σ r i) = i3 0 then i3 1 else i3 0) := by
  have X := I.vo r hr i hi
  have e : σ 27 (40 * r + i) = i3 (nE σ r i) := X.nu.1
  have i40 := (I.vn r hr).2
  have n200 := X.nu.2
  have e200 := I.ev.2
  have hb : nE σ r i ≤ 200 := Nat.le_trans n200 e200
  rw [fMd_isMark_E, mgA_27 (by omega), e, mgA_9 (by omega)]
  by_cases z : σ 9 (nE σ r i) = i3 0
  · rw [if_pos z, if_pos z]; rfl
  · rw [if_neg z, if_neg z]; rfl
theorem m_isObject {i : Nat} (I : IV c σ) (hr : r < 2) (hi : i < nv (σ 26 r)) : fMd_isObject (i3 r) (i3 (40 * r + i)) σ = some (bI (isob σ r i)) := by
  have i40 := (I.vn r hr).2
  have lm := latest_m (σ' := σ) I hr (σ 28 (40 * r + i)) (fun _ _ => rfl)
  have mk := m_mark I hr hi
  rw [fMd_isObject_E, mgA_28 (by omega), lm, bdR_s]
  unfold isob obj
  show _ = some (bI (decide ((match lat σ r (σ 28 (40 * r + i)) with | none => none | some i => if σ 9 (nE σ r i) = i3 0 then none else some i) = some i)))
  have el : lat σ r (σ 28 (40 * r + i)) = fdn (pL σ r (σ 28 (40 * r + i))) (nv (σ 26 r)) := rfl
  rw [el]
  cases hf : fdn (pL σ r (σ 28 (40 * r + i))) (nv (σ 26 r)) with
  | none =>
    have e1 : ¬ enc r none = i3 (40 * r + i) := fun z => by
      have z' : m1 = i3 (40 * r + i) := z
      rw [m1_i3 (by omega)] at z'
      exact z'
    rw [if_neg e1]
    rfl
  | some k =>
    have hk := (fdn_lt hf).1
    by_cases z : k = i
    · subst z
      rw [if_pos (show enc r (some k) = i3 (40 * r + k) from rfl), mk, bdR_s]
      by_cases y : σ 9 (nE σ r k) = i3 0
      · rw [if_pos y, if_neg (by decide)]
        show _ = some (bI (decide ((if σ 9 (nE σ r k) = i3 0 then none else some k) = some k)))
        rw [if_pos y]; rfl
      · rw [if_neg y, if_pos rfl]
        show _ = some (bI (decide ((if σ 9 (nE σ r k) = i3 0 then none else some k) = some k)))
        rw [if_neg y, decide_eq_true rfl]; rfl
    · rw [if_neg (fun w => by rw [enc_i hr (by omega) (by omega)] at w; exact z w)]
      show _ = some (bI (decide ((if σ 9 (nE σ r k) = i3 0 then none else some k) = some i)))
      have e2 : ¬ (if σ 9 (nE σ r k) = i3 0 then none else some k) = some i := fun w => by
        by_cases y : σ 9 (nE σ r k) = i3 0
        · rw [if_pos y] at w; cases w
        · rw [if_neg y] at w; cases w; exact z rfl
      rw [decide_eq_false e2]; rfl
theorem c_isObject (R : RR h own B σ M n) (I : IV c σ) (hr : r < 2) (x : Int32) : fHb_isObject ((lat σ r x).map (ve B r)) M = some (bI (obj σ r x).isSome) := by
  unfold obj
  cases hf : lat σ r x with
  | none => rfl
  | some i =>
    have hi : i < nv (σ 26 r) := (fdn_lt hf).1
    have W := R.ver I hr hi
    show fHb_isObject (some (ve B r i)) M = some (bI (if σ 9 (nE σ r i) = i3 0 then none else some i).isSome)
    rw [fHb_isObject_E, ifN_s, fgR_s W.k, W.p0, rk_s W.ek, fEntry_isMark_E, fgR_s W.ek, W.e3, fgI_s W.bk, W.ma]
    by_cases y : σ 9 (nE σ r i) = i3 0
    · rw [if_pos y]
      have y2 : σ 9 (nv (σ 27 (40 * r + i))) = i3 0 := y
      rw [y2]; rfl
    · rw [if_neg y]
      have y2 : ¬ σ 9 (nv (σ 27 (40 * r + i))) = i3 0 := y
      rw [if_neg y2]; rfl
def allF (p : Nat → Bool) : Nat → Nat → Bool
  | _, 0 => true
  | i, d + 1 => p i && allF p (i + 1) d
def samB (σ : Sg) (N N' : Nat) : Bool := decide (σ 9 N = σ 9 N') && allF (fun j => decide (σ 10 (40 * N + j) = σ 10 (40 * N' + j))) 0 (nv (σ 9 N))
theorem m_same_l {N N' L : Nat} (h1 : N ≤ 200) (h2 : N' ≤ 200) (hL : σ 9 N = i3 L) (hL40 : L ≤ 40) : ∀ d j fu (b : Bool), d + j = L → d < fu → fMd_areSameBytes_l24 fu (i3 N) (i3 N') (bI b) (i3 j) σ = some (bI (b && allF (fun j => decide (σ 10 (40 * N + j) = σ 10 (40 * N' + j))) j d)) := by
  intro d
  induction d with
  | zero =>
    intro j fu b hd hfu
    obtain ⟨f, rfl⟩ : ∃ f, fu = f + 1 := ⟨fu - 1, by omega⟩
    rw [fMd_areSameBytes_l24_S, fMd_areSameBytes_b24_E, mgA_9 (by omega), hL, if_pos ((i3_le (by omega) (by omega)).mpr (by omega))]
    show rZ (bI b) (some (bI b)) = some (bI (b && true))
    cases b <;> rfl
  | succ d ih =>
    intro j fu b hd hfu
    obtain ⟨f, rfl⟩ : ∃ f, fu = f + 1 := ⟨fu - 1, by omega⟩
    have c0 : ¬ i3 L ≤ i3 j := fun w => absurd ((i3_le (by omega) (by omega)).mp w) (by omega)
    rw [fMd_areSameBytes_l24_S, fMd_areSameBytes_b24_E, mgA_9 (by omega), hL, if_neg c0]
    cases b with
    | false => rfl
    | true =>
      have ih1 := ih (j + 1) f true (by omega) (by omega)
      have ih0 := ih (j + 1) f false (by omega) (by omega)
      have n10 : ¬ bI true = i3 0 := by decide
      rw [if_neg n10, i3_mul, i3_add, mgA_10 (by omega), i3_mul, i3_add, mgA_10 (by omega)]
      show _ = some (bI (true && (decide (σ 10 (40 * N + j) = σ 10 (40 * N' + j)) && allF (fun j => decide (σ 10 (40 * N + j) = σ 10 (40 * N' + j))) (j + 1) d)))
      by_cases z : σ 10 (40 * N + j) = σ 10 (40 * N' + j)
      · rw [if_pos z, decide_eq_true z, fMd_areSameBytes_j71_E, i3_add]
        exact ih1
      · rw [if_neg z, decide_eq_false z, fMd_areSameBytes_j71_E, i3_add]
        exact ih0
theorem m_same {N N' : Nat} (I : IV c σ) (h1 : 1 ≤ N) (h2 : N ≤ nv (σ 8 0)) (h4 : N' ≤ nv (σ 8 0)) : fMd_areSameBytes (i3 N) (i3 N') σ = some (bI (samB σ N N')) := by
  obtain ⟨L, hL40, hL⟩ := (I.en N h1 h2).ma.to
  have e200 := I.ev.2
  have eL : nv (σ 9 N) = L := by rw [hL]; exact nv_i (by omega)
  unfold samB
  rw [fMd_areSameBytes_E, mgA_9 (by omega), mgA_9 (by omega), eL]
  by_cases z : σ 9 N = σ 9 N'
  · rw [if_pos z, decide_eq_true z, fMd_areSameBytes_j20_E]
    exact m_same_l (by omega) (by omega) hL hL40 L 0 FU true (by omega) (FU_S (by omega))
  · rw [if_neg z, decide_eq_false z, fMd_areSameBytes_j20_E]
    exact m_same_l (by omega) (by omega) hL hL40 L 0 FU false (by omega) (FU_S (by omega))
theorem c_byte (R : RR h own B σ M n) (I : IV c σ) {N j : Nat} (h1 : 1 ≤ N) (h2 : N ≤ nv (σ 8 0)) (hj : j < nv (σ 9 N)) : fBytes_at (en B N + 1) (i3 j) M = some (σ 10 (40 * N + j)) := by
  have E := R.et N h1 h2
  have hL := (I.en N h1 h2).ma.2
  have c4 : ¬ i3 j < i3 0 := fun w => absurd ((i3_lt (by omega) (by omega)).mp w) (by omega)
  have c5 : ¬ i3 40 ≤ i3 j := fun w => absurd ((i3_le (by omega) (by omega)).mp w) (by omega)
  rw [fBytes_at_E, if_neg c4, fgR_s E.b.b.k, E.b.b.p, aln_i E.b.b.rk (by decide) (by decide), E.b.b.rl, if_neg c5, fgR_s E.b.b.k, E.b.b.p, alI_i E.b.b.rk (by rw [E.b.b.rl]; omega) (by omega), E.by j hj]
theorem c_same (R : RR h own B σ M n) (I : IV c σ) {N N' : Nat} (h1 : 1 ≤ N) (h2 : N ≤ nv (σ 8 0)) (h3 : 1 ≤ N') (h4 : N' ≤ nv (σ 8 0)) : fBytes_isSame (en B N + 1) (some (en B N' + 1)) M = some (bI (samB σ N N')) := by
  have E := R.et N h1 h2
  have E' := R.et N' h3 h4
  obtain ⟨L, hL40, hL⟩ := (I.en N h1 h2).ma.to
  have eL : nv (σ 9 N) = L := by rw [hL]; exact nv_i (by omega)
  have lp : σ 9 N = σ 9 N' → ∀ d j fu, d + j = L → d < fu → fBytes_isSame_l15 (en B N + 1) fu (some (en B N' + 1)) (i3 j) M = some (bI (allF (fun j => decide (σ 10 (40 * N + j) = σ 10 (40 * N' + j))) j d)) := by
    intro hz d
    induction d with
    | zero =>
      intro j fu hd hfu
      obtain ⟨f, rfl⟩ : ∃ f, fu = f + 1 := ⟨fu - 1, by omega⟩
      rw [fBytes_isSame_l15_S, fBytes_isSame_b15_E, fgI_s E.b.b.k, E.ma, hL, if_pos ((i3_le (by omega) (by omega)).mpr (by omega))]
      rfl
    | succ d ih =>
      intro j fu hd hfu
      obtain ⟨f, rfl⟩ : ∃ f, fu = f + 1 := ⟨fu - 1, by omega⟩
      have c0 : ¬ i3 L ≤ i3 j := fun w => absurd ((i3_le (by omega) (by omega)).mp w) (by omega)
      have ih' := ih (j + 1) f (by omega) (by omega)
      have b1 := c_byte R I (j := j) h1 h2 (by omega)
      have b2 := c_byte R I (j := j) h3 h4 (by rw [← hz]; omega)
      rw [fBytes_isSame_l15_S, fBytes_isSame_b15_E, fgI_s E.b.b.k, E.ma, hL, if_neg c0, rk_s E.b.b.k, b1, bdR_s, rk_s E'.b.b.k, b2, bdR_s]
      show _ = some (bI (decide (σ 10 (40 * N + j) = σ 10 (40 * N' + j)) && allF (fun j => decide (σ 10 (40 * N + j) = σ 10 (40 * N' + j))) (j + 1) d))
      by_cases z : σ 10 (40 * N + j) = σ 10 (40 * N' + j)
      · rw [if_pos z, decide_eq_true z, i3_add]; exact ih'
      · rw [if_neg z, decide_eq_false z]; rfl
  unfold samB
  rw [fBytes_isSame_E, fgI_s E.b.b.k, fgI_s E'.b.b.k, E.ma, E'.ma, eL]
  by_cases z : σ 9 N = σ 9 N'
  · rw [if_pos z, decide_eq_true z]
    exact lp z L 0 FU (by omega) (FU_S (by omega))
  · rw [if_neg z, decide_eq_false z]; rfl
end OB

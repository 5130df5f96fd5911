set_option maxRecDepth 100000
/-! both regions alike -/
section AL
variable {h c n r : Nat} {own : Nat → Nat} {B : BK} {σ : Sg} {M M' : Mm}
theorem isk_k {x : Int32} (k : ISK x) : ∃ j, 1 ≤ j ∧ j < 125 ∧ x = i3 j := by
  rcases key_bits x with e | ⟨e, j, hj, rfl⟩
  · have z : (some (i3 1) : Option Int32) = some (i3 0) := k.symm.trans e
    injection z with z2
    exact absurd z2 (by decide)
  · refine ⟨j, ?_, hj, rfl⟩
    by_cases w : j = 0
    · subst w
      have z : fKeys_isKey (i3 0) = some (i3 1) := k
      rw [fKeys_isKey_E, if_pos (show i3 0 < i3 1 by decide)] at z
      have z2 : some (i3 0) = some (i3 1) := z
      injection z2 with z3
      exact absurd z3 (by decide)
    · omega
theorem allF_iff {p : Nat → Bool} : ∀ {d i : Nat}, allF p i d = true ↔ ∀ j, i ≤ j → j < i + d → p j = true := by
  intro d
  induction d with
  | zero => intro i; exact ⟨fun _ j h1 h2 => by omega, fun _ => rfl⟩
  | succ d ih =>
    intro i
    show (p i && allF p (i + 1) d) = true ↔ _
    rw [Bool.and_eq_true, ih]
    constructor
    · rintro ⟨h1, h2⟩ j h3 h4
      by_cases w : j = i
      · rw [w]; exact h1
      · exact h2 j (by omega) (by omega)
    · intro h
      exact ⟨h i (Nat.le_refl i) (by omega), fun j h1 h2 => h j (by omega) (by omega)⟩
def alk (σ : Sg) (x : Int32) : Bool := match obj σ 0 x, obj σ 1 x with
  | none, none => true
  | some i, some j => samB σ (nE σ 0 i) (nE σ 1 j)
  | _, _ => false
def wit (σ : Sg) (r i : Nat) : Bool := !isob σ r i || (match obj σ (1 - r) (σ 28 (40 * r + i)) with
  | some j => samB σ (nE σ r i) (nE σ (1 - r) j)
  | none => false)
theorem obj_lt {x : Int32} {i : Nat} (e : obj σ r x = some i) : lat σ r x = some i ∧ i < nv (σ 26 r) ∧ σ 28 (40 * r + i) = x ∧ σ 9 (nE σ r i) ≠ i3 0 := by
  unfold obj at e
  cases hf : lat σ r x with
  | none => rw [hf] at e; cases e
  | some k =>
    rw [hf] at e
    have e2 : (if σ 9 (nE σ r k) = i3 0 then none else some k) = some i := e
    by_cases y : σ 9 (nE σ r k) = i3 0
    · rw [if_pos y] at e2; cases e2
    · rw [if_neg y] at e2
      cases e2
      have := fdn_lt (show fdn (pL σ r x) (nv (σ 26 r)) = some _ from hf)
      exact ⟨rfl, this.1, of_decide_eq_true this.2.1, y⟩
theorem samB_iff {N N' : Nat} : samB σ N N' = true ↔ σ 9 N = σ 9 N' ∧ ∀ j, j < nv (σ 9 N) → σ 10 (40 * N + j) = σ 10 (40 * N' + j) := by
  unfold samB
  rw [Bool.and_eq_true, allF_iff]
  constructor
  · rintro ⟨h1, h2⟩
    exact ⟨of_decide_eq_true h1, fun j hj => of_decide_eq_true (h2 j (Nat.zero_le j) (by omega))⟩
  · rintro ⟨h1, h2⟩
    exact ⟨decide_eq_true h1, fun j _ hj => decide_eq_true (h2 j (by omega))⟩
theorem samB_sym {N N' : Nat} (e : samB σ N N' = true) : samB σ N' N = true := by
  rw [samB_iff] at e ⊢
  obtain ⟨h1, h2⟩ := e
  exact ⟨h1.symm, fun j hj => (h2 j (by rw [h1]; exact hj)).symm⟩
theorem obj_e {σ' : Sg} {x : Int32} (e : ∀ k, ¬ SCF k → σ' k = σ k) : obj σ' r x = obj σ r x := by
  have e9 := e 9 (by unfold SCF; omega)
  have e26 := e 26 (by unfold SCF; omega)
  have e27 := e 27 (by unfold SCF; omega)
  have e28 := e 28 (by unfold SCF; omega)
  unfold obj lat nE pL
  rw [e9, e26, e27, e28]
theorem alk_e {σ' : Sg} {x : Int32} (e : ∀ k, ¬ SCF k → σ' k = σ k) : alk σ' x = alk σ x := by
  have e9 := e 9 (by unfold SCF; omega)
  have e10 := e 10 (by unfold SCF; omega)
  have e27 := e 27 (by unfold SCF; omega)
  unfold alk
  rw [obj_e e, obj_e e]
  unfold samB nE
  rw [e9, e10, e27]
theorem alike_eq (I : IV c σ) : allF (fun k => alk σ (i3 k)) 1 124 = (allF (wit σ 0) 0 (nv (σ 26 0)) && allF (wit σ 1) 0 (nv (σ 26 1))) := by
  have key : ∀ r i, r < 2 → i < nv (σ 26 r) → ∃ k, 1 ≤ k ∧ k < 125 ∧ σ 28 (40 * r + i) = i3 k := fun r i hr hi => isk_k (I.isk hr hi)
  have one : allF (fun k => alk σ (i3 k)) 1 124 = true ↔ (allF (wit σ 0) 0 (nv (σ 26 0)) && allF (wit σ 1) 0 (nv (σ 26 1))) = true := by
    rw [Bool.and_eq_true, allF_iff, allF_iff, allF_iff]
    constructor
    · intro H
      constructor
      · intro i _ hi
        obtain ⟨k, k1, k2, ke⟩ := key 0 i (by omega) (by omega)
        have z : alk σ (i3 k) = true := H k k1 (by omega)
        unfold wit
        cases ho : isob σ 0 i with
        | false => rfl
        | true =>
          have ob : obj σ 0 (σ 28 (40 * 0 + i)) = some i := of_decide_eq_true ho
          rw [ke] at ob ⊢
          unfold alk at z
          rw [ob] at z
          cases h1 : obj σ 1 (i3 k) with
          | none => rw [h1] at z; cases z
          | some j =>
            rw [h1] at z
            exact z
      · intro i _ hi
        obtain ⟨k, k1, k2, ke⟩ := key 1 i (by omega) (by omega)
        have z : alk σ (i3 k) = true := H k k1 (by omega)
        unfold wit
        cases ho : isob σ 1 i with
        | false => rfl
        | true =>
          have ob : obj σ 1 (σ 28 (40 * 1 + i)) = some i := of_decide_eq_true ho
          rw [ke] at ob ⊢
          unfold alk at z
          rw [ob] at z
          cases h1 : obj σ 0 (i3 k) with
          | none => rw [h1] at z; cases z
          | some j =>
            rw [h1] at z
            exact samB_sym z
    · rintro ⟨H0, H1⟩ k k1 k2
      unfold alk
      cases h0 : obj σ 0 (i3 k) with
      | none =>
        cases h1 : obj σ 1 (i3 k) with
        | none => rfl
        | some j =>
          obtain ⟨-, a2, a3, -⟩ := obj_lt h1
          have z := H1 j (Nat.zero_le j) (by omega)
          unfold wit isob at z
          rw [a3, decide_eq_true h1] at z
          have z2 : (match obj σ 0 (i3 k) with | some j' => samB σ (nE σ 1 j) (nE σ 0 j') | none => false) = true := z
          rw [h0] at z2
          cases z2
      | some i =>
        obtain ⟨-, a2, a3, -⟩ := obj_lt h0
        have z := H0 i (Nat.zero_le i) (by omega)
        unfold wit isob at z
        rw [a3, decide_eq_true h0] at z
        have z2 : (match obj σ 1 (i3 k) with | some j' => samB σ (nE σ 0 i) (nE σ 1 j') | none => false) = true := z
        cases h1 : obj σ 1 (i3 k) with
        | none => rw [h1] at z2; cases z2
        | some j => rw [h1] at z2; exact z2
  cases ha : allF (fun k => alk σ (i3 k)) 1 124 with
  | true => exact (one.mp ha).symm
  | false =>
    cases hb : (allF (wit σ 0) 0 (nv (σ 26 0)) && allF (wit σ 1) 0 (nv (σ 26 1))) with
    | false => rfl
    | true => rw [one.mpr hb] at ha; cases ha
theorem m_within_l (I : IV c σ) (hr : r < 2) : ∀ d i fu (b : Bool), d + i = nv (σ 26 r) → d < fu → fMd_isWithin_l7 fu (i3 r) (bI b) (i3 (40 * r + i)) σ = some (bI (b && allF (wit σ r) i d)) := by
  obtain ⟨V, h40, hV⟩ := (I.vn r hr).to
  have eV : nv (σ 26 r) = V := by rw [hV]; exact nv_i (by omega)
  have me := m_endOf hr hV
  intro d
  induction d with
  | zero =>
    intro i fu b hd hfu
    obtain ⟨f, rfl⟩ : ∃ f, fu = f + 1 := ⟨fu - 1, by omega⟩
    rw [fMd_isWithin_l7_S, fMd_isWithin_b7_E, me, bdR_s, if_pos ((i3_le (by omega) (by omega)).mpr (by omega))]
    show rZ (bI b) (some (bI b)) = some (bI (b && true))
    cases b <;> rfl
  | succ d ih =>
    intro i fu b hd hfu
    obtain ⟨f, rfl⟩ : ∃ f, fu = f + 1 := ⟨fu - 1, by omega⟩
    have c0 : ¬ i3 (40 * r + V) ≤ i3 (40 * r + i) := fun w => absurd ((i3_le (by omega) (by omega)).mp w) (by omega)
    rw [fMd_isWithin_l7_S, fMd_isWithin_b7_E, me, bdR_s, if_neg c0]
    cases b with
    | false => rfl
    | true =>
      have ih1 := ih (i + 1) f true (by omega) (by omega)
      have ih0 := ih (i + 1) f false (by omega) (by omega)
      have n10 : ¬ bI true = i3 0 := by decide
      have n11 : ¬ bI true = i3 0 := n10
      have mo := m_isObject I hr (i := i) (by omega)
      rw [if_neg n10, mo, bdR_s]
      show _ = some (bI (true && (wit σ r i && allF (wit σ r) (i + 1) d)))
      have j1 : fMd_isWithin_j92 (fMd_isWithin_l7 f) (i3 r) (i3 (40 * r + i)) σ = some (bI (true && allF (wit σ r) (i + 1) d)) := by
        rw [fMd_isWithin_j92_E, fMd_isWithin_j97_E, i3_add]; exact ih1
      have j0 : fMd_isWithin_j96 (fMd_isWithin_l7 f) (i3 r) (i3 (40 * r + i)) σ = some (bI (false && allF (wit σ r) (i + 1) d)) := by
        rw [fMd_isWithin_j96_E, fMd_isWithin_j97_E, i3_add]; exact ih0
      cases ho : isob σ r i with
      | false =>
        have ew : wit σ r i = true := by unfold wit; rw [ho]; rfl
        rw [if_pos (show bI false = i3 0 from rfl), fMd_isWithin_j46_E, mo, bdR_s, ho, if_pos (show bI false = i3 0 from rfl), ew]
        exact j1
      | true =>
        have hr1 : 1 - r < 2 := by omega
        have lm := latest_m (σ' := σ) (r := 1 - r) I hr1 (σ 28 (40 * r + i)) (fun _ _ => rfl)
        rw [if_neg n10, mgA_28 (by omega), i3_sub (by omega), lm, bdR_s, fMd_isWithin_j46_E, mo, bdR_s, ho, if_neg n10]
        have ew : wit σ r i = (match obj σ (1 - r) (σ 28 (40 * r + i)) with | some j => samB σ (nE σ r i) (nE σ (1 - r) j) | none => false) := by unfold wit; rw [ho]; rfl
        cases hf : fdn (pL σ (1 - r) (σ 28 (40 * r + i))) (nv (σ 26 (1 - r))) with
        | none =>
          have eo : obj σ (1 - r) (σ 28 (40 * r + i)) = none := by unfold obj lat; rw [hf]
          rw [eo] at ew
          rw [if_pos (show enc (1 - r) none = m1 from rfl), ew]
          exact j0
        | some j =>
          have hj := (fdn_lt hf).1
          have j40 := (I.vn (1 - r) hr1).2
          have mk := m_mark I hr1 (i := j) hj
          have e1 : ¬ enc (1 - r) (some j) = m1 := fun z => by
            have z' : i3 (40 * (1 - r) + j) = m1 := z
            rw [i3_m1 (by omega)] at z'
            exact z'
          rw [if_neg e1, show enc (1 - r) (some j) = i3 (40 * (1 - r) + j) from rfl, mk, bdR_s]
          by_cases y : σ 9 (nE σ (1 - r) j) = i3 0
          · have eo : obj σ (1 - r) (σ 28 (40 * r + i)) = none := by
              unfold obj lat; rw [hf]
              show (if σ 9 (nE σ (1 - r) j) = i3 0 then none else some j) = none
              rw [if_pos y]
            rw [eo] at ew
            rw [if_pos y, if_neg (by decide), ew]
            exact j0
          · have eo : obj σ (1 - r) (σ 28 (40 * r + i)) = some j := by
              unfold obj lat; rw [hf]
              show (if σ 9 (nE σ (1 - r) j) = i3 0 then none else some j) = some j
              rw [if_neg y]
            rw [eo] at ew
            have X := I.vo r hr i (by omega)
            have X' := I.vo (1 - r) hr1 j hj
            have ms := m_same I (N := nE σ r i) (N' := nE σ (1 - r) j) X.n1 X.nu.2 X'.nu.2
            have e27 : σ 27 (40 * r + i) = i3 (nE σ r i) := X.nu.1
            have e27' : σ 27 (40 * (1 - r) + j) = i3 (nE σ (1 - r) j) := X'.nu.1
            rw [if_neg y, if_pos rfl, mgA_27 (by omega), e27, mgA_27 (by omega), e27', ms, bdR_s, ew]
            show _ = some (bI (true && (samB σ (nE σ r i) (nE σ (1 - r) j) && allF (wit σ r) (i + 1) d)))
            cases hs : samB σ (nE σ r i) (nE σ (1 - r) j) with
            | false => rw [if_pos (show bI false = i3 0 from rfl)]; exact j0
            | true => rw [if_neg n10]; exact j1
theorem c_alike_l (R : RR h own B σ M n) (I : IV c σ) : ∀ d x fu, d + x = 125 → d < fu → fHb_areAlike_l2 h fu (i3 x) M = some (bI (allF (fun k => alk σ (i3 k)) x d)) := by
  have k := R.hb.k
  have p0 : mP M 1100 h 0 = some (gr h 0) := R.hb.p0
  have p1 : mP M 1101 h 0 = some (gr h 1) := R.hb.p1
  have g0 := (R.rg 0 (by omega)).k
  have g1 := (R.rg 1 (by omega)).k
  intro d
  induction d with
  | zero =>
    intro x fu hd hfu
    obtain ⟨f, rfl⟩ : ∃ f, fu = f + 1 := ⟨fu - 1, by omega⟩
    rw [fHb_areAlike_l2_S, fHb_areAlike_b2_E, if_pos ((i3_lt (by omega) (by omega)).mpr (by omega))]
    rfl
  | succ d ih =>
    intro x fu hd hfu
    obtain ⟨f, rfl⟩ : ∃ f, fu = f + 1 := ⟨fu - 1, by omega⟩
    have c0 : ¬ i3 124 < i3 x := fun w => absurd ((i3_lt (by omega) (by omega)).mp w) (by omega)
    have ih' := ih (x + 1) f (by omega) (by omega)
    have l0 : fRegion_latest (gr h 0) (i3 x) M = some ((lat σ 0 (i3 x)).map (ve B 0)) := latest_c R I (r := 0) (by omega) (i3 x)
    have l1 : fRegion_latest (gr h 1) (i3 x) M = some ((lat σ 1 (i3 x)).map (ve B 1)) := latest_c R I (r := 1) (by omega) (i3 x)
    have o0 := c_isObject R I (r := 0) (by omega) (i3 x)
    have o1 := c_isObject R I (r := 1) (by omega) (i3 x)
    have n10 : ¬ bI true = i3 0 := by decide
    have n01 : ¬ bI true = bI false := by decide
    have n02 : ¬ bI false = bI true := by decide
    rw [fHb_areAlike_l2_S, fHb_areAlike_b2_E, if_neg c0, fgR_s k, p0, rk_s g0, l0, bdR_s, fgR_s k, p1, rk_s g1, l1, bdR_s, o0, bdR_s, o1, bdR_s]
    show _ = some (bI (alk σ (i3 x) && allF (fun k => alk σ (i3 k)) (x + 1) d))
    have j1 : fHb_areAlike_j75 h (fHb_areAlike_l2 h f) (i3 x) M = some (bI (true && allF (fun k => alk σ (i3 k)) (x + 1) d)) := by
      rw [fHb_areAlike_j75_E, i3_add]; exact ih'
    cases h0 : obj σ 0 (i3 x) with
    | none =>
      cases h1 : obj σ 1 (i3 x) with
      | none =>
        have ea : alk σ (i3 x) = true := by unfold alk; rw [h0, h1]
        rw [if_pos (show bI (none : Option Nat).isSome = bI (none : Option Nat).isSome from rfl), bdR_s, if_pos (show bI (none : Option Nat).isSome = i3 0 from rfl), ea]
        exact j1
      | some j =>
        have ea : alk σ (i3 x) = false := by unfold alk; rw [h0, h1]
        rw [if_neg (show ¬ bI (none : Option Nat).isSome = bI (some j).isSome from n02), ea]
        rfl
    | some i =>
      cases h1 : obj σ 1 (i3 x) with
      | none =>
        have ea : alk σ (i3 x) = false := by unfold alk; rw [h0, h1]
        rw [if_neg (show ¬ bI (some i).isSome = bI (none : Option Nat).isSome from n01), ea]
        rfl
      | some j =>
        have ea : alk σ (i3 x) = samB σ (nE σ 0 i) (nE σ 1 j) := by unfold alk; rw [h0, h1]
        obtain ⟨a1, a2, -, -⟩ := obj_lt h0
        obtain ⟨b1, b2, -, -⟩ := obj_lt h1
        have W := R.ver I (r := 0) (by omega) a2
        have W' := R.ver I (r := 1) (by omega) b2
        have X := I.vo 0 (by omega) i a2
        have X' := I.vo 1 (by omega) j b2
        have cs : fBytes_isSame (en B (nE σ 0 i) + 1) (some (en B (nE σ 1 j) + 1)) M = some (bI (samB σ (nE σ 0 i) (nE σ 1 j))) := c_same R I X.n1 X.nu.2 X'.n1 X'.nu.2
        rw [if_pos (show bI (some i).isSome = bI (some j).isSome from rfl), bdR_s, if_neg (show ¬ bI (some i).isSome = i3 0 from n10), a1, b1, Option.map_some, Option.map_some]
        rw [bdR_s, if_neg (show ¬ bI (some j).isSome = i3 0 from n10), fgR_s W.k, W.p0, fgR_s W.ek, W.e3, fgR_s W'.k, W'.p0, fgR_s W'.ek, W'.e3, rk_s W.bk, cs, bdR_s, ea]
        cases hs : samB σ (nE σ 0 i) (nE σ 1 j) with
        | false => rw [if_pos (show bI false = i3 0 from rfl)]; rfl
        | true => rw [if_neg n10]; exact j1
/-- whether both regions hold the same -/
theorem both_alike (R : RR h own B σ M n) (I : IV c σ) : fHb_areAlike h M = some (bI (allF (fun k => alk σ (i3 k)) 1 124)) ∧ fMd_areAlike σ = some (bI (allF (fun k => alk σ (i3 k)) 1 124), uS σ 0 0 (i3 0)) := by
  constructor
  · rw [fHb_areAlike_E]
    exact c_alike_l R I 124 1 FU (by omega) (FU_S (by omega))
  · have e0 : ∀ k, ¬ SCF k → uS σ 0 0 (i3 0) k = σ k := scf0 _
    have I0 : IV c (uS σ 0 0 (i3 0)) := I.scf e0
    have w0 := m_within_l I0 (r := 0) (by omega) (nv (uS σ 0 0 (i3 0) 26 0)) 0 FU true (by omega) (FU_S (by have := (I0.vn 0 (by omega)).2; omega))
    have w1 := m_within_l I0 (r := 1) (by omega) (nv (uS σ 0 0 (i3 0) 26 1)) 0 FU true (by omega) (FU_S (by have := (I0.vn 1 (by omega)).2; omega))
    have q0 : fMd_isWithin (i3 0) (uS σ 0 0 (i3 0)) = some (bI (allF (wit (uS σ 0 0 (i3 0)) 0) 0 (nv (uS σ 0 0 (i3 0) 26 0)))) := by
      rw [fMd_isWithin_E, i3_mul]; exact w0
    have q1 : fMd_isWithin (i3 1) (uS σ 0 0 (i3 0)) = some (bI (allF (wit (uS σ 0 0 (i3 0)) 1) 0 (nv (uS σ 0 0 (i3 0) 26 1)))) := by
      rw [fMd_isWithin_E, i3_mul]; exact w1
    have ea := alike_eq I0
    have es : allF (fun k => alk (uS σ 0 0 (i3 0)) (i3 k)) 1 124 = allF (fun k => alk σ (i3 k)) 1 124 := congrArg (fun g => allF g 1 124) (funext fun k => alk_e e0)
    rw [es] at ea
    rw [ea]
    have n10 : ¬ bI true = i3 0 := by decide
    rw [fMd_areAlike_E, mpF_s, q0, bdR_s]
    cases h0 : allF (wit (uS σ 0 0 (i3 0)) 0) 0 (nv (uS σ 0 0 (i3 0) 26 0)) with
    | false => rw [if_pos (show bI false = i3 0 from rfl)]; rfl
    | true =>
      rw [if_neg n10, q1, bdR_s]
      cases h1 : allF (wit (uS σ 0 0 (i3 0)) 1) 0 (nv (uS σ 0 0 (i3 0) 26 1)) with
      | false => rw [if_pos (show bI false = i3 0 from rfl)]; rfl
      | true => rw [if_neg n10]; rfl
end AL

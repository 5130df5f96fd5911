set_option maxRecDepth 100000
/-! the order of nodes; a node that is free -/
section FN
variable {h c n r : Nat} {own : Nat → Nat} {B : BK} {σ σ' : Sg} {M M' : Mm}
def rnk (p x : Nat) : Nat := 7 * p + 13 * x + 5 * p * x - (7 * p + 13 * x + 5 * p * x) / 31 * 31
def ordB : Nat := 3212198875278268167428234680125268633969873808234078630145034208780451889820269526399658324830397627269213542858069309871380429641917078254992576664280323136172917590305339535788798329208226101955169041860084983280734362811689067449921502066488847523110594817683926373194256679451608248094525499172066023658007249928230736603433410044548503129958714764852899867060741312137049574249021283008583157375823205931344172944251050729589991086145623129464060179741797022076924338893296887420514
def ordn (p pl : Nat) : Nat := (ordB >>> (3 * (6 * p + pl))) % 8
def eO : Option Nat → Int32
  | none => m1
  | some x => i3 x
def frS (p : Nat) (av : Nat → Bool) (b : Option Nat) (x : Nat) : Option Nat := if av x = true then (match b with | none => some x | some y => if rnk p x ≤ rnk p y then some y else some x) else b
def frL (p : Nat) (av : Nat → Bool) : Nat → Option Nat
  | 0 => none
  | x + 1 => frS p av (frL p av x) x
def frM (p : Nat) (av : Nat → Bool) : Option Nat := (fstF (fun pl => av (ordn p pl)) 0 6).map (ordn p)
theorem rnk_c : ((List.range 90).all fun p => (List.range 6).all fun x => decide (((((i3 7) * i3 p) + ((i3 13) * i3 x)) + (((i3 5) * i3 p) * i3 x)) - ((((i3 7) * i3 p) + ((i3 13) * i3 x)) + (((i3 5) * i3 p) * i3 x)) / (i3 31) * (i3 31) = i3 (rnk p x))) = true := by decide +kernel
theorem rnk_i {p x : Nat} (hp : p < 90) (hx : x < 6) : ((((i3 7) * i3 p) + ((i3 13) * i3 x)) + (((i3 5) * i3 p) * i3 x)) - ((((i3 7) * i3 p) + ((i3 13) * i3 x)) + (((i3 5) * i3 p) * i3 x)) / (i3 31) * (i3 31) = i3 (rnk p x) := of_decide_eq_true (List.all_eq_true.mp (List.all_eq_true.mp rnk_c p (List.mem_range.mpr hp)) x (List.mem_range.mpr hx))
theorem rnk_lt {p x : Nat} : rnk p x < 31 := by
  unfold rnk
  generalize 7 * p + 13 * x + 5 * p * x = t
  omega
theorem ord_c : ((List.range 90).all fun p => (List.range 6).all fun pl => decide (fMd_ordered (i3 p) (i3 pl) = some (i3 (ordn p pl))) && decide (ordn p pl < 6)) = true := by decide +kernel
theorem ord_i {p pl : Nat} (hp : p < 90) (hl : pl < 6) : fMd_ordered (i3 p) (i3 pl) = some (i3 (ordn p pl)) ∧ ordn p pl < 6 := by
  have z := List.all_eq_true.mp (List.all_eq_true.mp ord_c p (List.mem_range.mpr hp)) pl (List.mem_range.mpr hl)
  rw [Bool.and_eq_true] at z
  exact ⟨of_decide_eq_true z.1, of_decide_eq_true z.2⟩
theorem ordj_c : ((List.range 90).all fun p => (List.range 6).all fun a => (List.range 6).all fun b => decide (a = b) || decide (ordn p a ≠ ordn p b)) = true := by decide +kernel
theorem ord_inj {p a b : Nat} (hp : p < 90) (ha : a < 6) (hb : b < 6) (e : ordn p a = ordn p b) : a = b := by
  have z := List.all_eq_true.mp (List.all_eq_true.mp (List.all_eq_true.mp ordj_c p (List.mem_range.mpr hp)) a (List.mem_range.mpr ha)) b (List.mem_range.mpr hb)
  rw [Bool.or_eq_true] at z
  rcases z with z | z
  · exact of_decide_eq_true z
  · exact absurd e (of_decide_eq_true z)
def msk (av : Nat → Bool) : Nat := (if av 0 = true then 1 else 0) + (if av 1 = true then 2 else 0) + (if av 2 = true then 4 else 0) + (if av 3 = true then 8 else 0) + (if av 4 = true then 16 else 0) + (if av 5 = true then 32 else 0)
def mav (m x : Nat) : Bool := decide (m / 2 ^ x % 2 = 1)
theorem msk_lt (av : Nat → Bool) : msk av < 64 := by
  unfold msk
  repeat' split
  all_goals omega
theorem msk_e (av : Nat → Bool) {x : Nat} (hx : x < 6) : mav (msk av) x = av x := by
  rcases (by omega : x = 0 ∨ x = 1 ∨ x = 2 ∨ x = 3 ∨ x = 4 ∨ x = 5) with rfl | rfl | rfl | rfl | rfl | rfl <;> unfold msk <;> cases av 0 <;> cases av 1 <;> cases av 2 <;> cases av 3 <;> cases av 4 <;> cases av 5 <;> decide
theorem frL_e {p : Nat} {av av' : Nat → Bool} : ∀ d, (∀ x, x < d → av x = av' x) → frL p av d = frL p av' d := by
  intro d
  induction d with
  | zero => intro _; rfl
  | succ d ih =>
    intro e
    show frS p av (frL p av d) d = frS p av' (frL p av' d) d
    rw [ih fun x hx => e x (by omega)]
    unfold frS
    rw [e d (by omega)]
theorem fstF_e {p q : Nat → Bool} : ∀ {d i : Nat}, (∀ x, i ≤ x → x < i + d → p x = q x) → fstF p i d = fstF q i d := by
  intro d
  induction d with
  | zero => intro i _; rfl
  | succ d ih =>
    intro i e
    rw [fstF_S, fstF_S, e i (Nat.le_refl i) (by omega), ih fun x h1 h2 => e x (by omega) (by omega)]
theorem fr_c : ((List.range 90).all fun p => (List.range 64).all fun m => decide (frL p (mav m) 6 = frM p (mav m))) = true := by decide +kernel
theorem fr_e {p : Nat} (hp : p < 90) (av : Nat → Bool) : frL p av 6 = frM p av := by
  have z := of_decide_eq_true (List.all_eq_true.mp (List.all_eq_true.mp fr_c p (List.mem_range.mpr hp)) (msk av) (List.mem_range.mpr (msk_lt av)))
  rw [frL_e 6 (fun x hx => msk_e av hx)] at z
  rw [z]
  unfold frM
  rw [fstF_e fun x _ hx => msk_e av (ord_i hp (by omega)).2]
/-- a node that has a shard of a part; one that is free for it -/
def onf (σ : Sg) (a x s d : Nat) : Option Nat := fstF (fun s => decide (σ 23 (5 * a + s) = i3 x)) s d
def avl (σ : Sg) (r a : Nat) : Nat → Bool := fun x => decide (σ 17 (6 * r + x) = i3 0) && !(onf σ a x 0 5).isSome
theorem c_isOn (R : RR h own B σ M n) (hr : r < 2) {p x : Nat} (hp : p < nv (σ 18 r)) (hw : σ 19 (90 * r + p) = i3 0) (_ : x < 6) : fPart_isOn (pa B r p) (i3 x) M = some (bI (onf σ (90 * r + p) x 0 5).isSome) := by
  have A := R.po r hr p hp
  have a1 := A.b.k
  have a2 := A.b.p4
  have a3 := A.b.k3
  have a4 := A.b.l3
  have lp : ∀ d s fu, d + s = 5 → d < fu → fPart_isOn_l2 (pa B r p) fu (i3 x) (i3 s) M = some (bI (onf σ (90 * r + p) x s d).isSome) := by
    intro d
    induction d with
    | zero =>
      intro s fu hd hfu
      obtain ⟨f, rfl⟩ : ∃ f, fu = f + 1 := ⟨fu - 1, by omega⟩
      rw [fPart_isOn_l2_S, fPart_isOn_b2_E, fgR_s a1, a2, aln_i a3 (by decide) (by decide), a4, if_pos ((i3_le (by omega) (by omega)).mpr (by omega))]
      rfl
    | succ d ih =>
      intro s fu hd hfu
      obtain ⟨f, rfl⟩ : ∃ f, fu = f + 1 := ⟨fu - 1, by omega⟩
      have ih' := ih (s + 1) f (by omega) (by omega)
      have nd := A.nd s (by omega)
      rw [if_pos hw] at nd
      rw [fPart_isOn_l2_S, fPart_isOn_b2_E, fgR_s a1, a2, aln_i a3 (by decide) (by decide), a4, if_neg (fun w => absurd ((i3_le (by omega) (by omega)).mp w) (by omega)), fgR_s a1, a2, alI_i a3 (by rw [a4]; omega) (by omega), nd]
      unfold onf
      rw [fstF_S]
      by_cases z : σ 23 (5 * (90 * r + p) + s) = i3 x
      · rw [if_pos z, if_pos (decide_eq_true z)]; rfl
      · rw [if_neg z, if_neg (by rw [decide_eq_true_eq]; exact z), i3_add]; exact ih'
  rw [fPart_isOn_E]
  exact lp 5 0 FU (by omega) (FU_S (by omega))
def rO (p : Nat) : Option Nat → Int32
  | none => m1
  | some y => i3 (rnk p y)
theorem c_freeNode (R : RR h own B σ M n) (hr : r < 2) {p : Nat} (hp : p < nv (σ 18 r)) (h90 : p < 90) (hw : σ 19 (90 * r + p) = i3 0) : fStore_freeNode (gr h r + 1) (some (pa B r p)) M = some (eO (frM p (avl σ r (90 * r + p)))) := by
  have ks := (R.rg r hr).ks
  have A := R.po r hr p hp
  have a1 := A.b.k
  have a2 := A.nu
  have lp : ∀ d x fu, d + x = 6 → d < fu → fStore_freeNode_l7 (gr h r + 1) fu (some (pa B r p)) (eO (frL p (avl σ r (90 * r + p)) x)) (rO p (frL p (avl σ r (90 * r + p)) x)) (i3 x) M = some (eO (frL p (avl σ r (90 * r + p)) 6)) := by
    intro d
    induction d with
    | zero =>
      intro x fu hd hfu
      obtain ⟨f, rfl⟩ : ∃ f, fu = f + 1 := ⟨fu - 1, by omega⟩
      rw [fStore_freeNode_l7_S, fStore_freeNode_b7_E, if_pos ((i3_le (by omega) (by omega)).mpr (by omega)), show x = 6 by omega]
    | succ d ih =>
      intro x fu hd hfu
      obtain ⟨f, rfl⟩ : ∃ f, fu = f + 1 := ⟨fu - 1, by omega⟩
      have ih' := ih (x + 1) f (by omega) (by omega)
      have u := c_isUp R hr (j := x) (by omega)
      have o := c_isOn R hr hp hw (x := x) (by omega)
      have es : frL p (avl σ r (90 * r + p)) (x + 1) = frS p (avl σ r (90 * r + p)) (frL p (avl σ r (90 * r + p)) x) x := rfl
      rw [es] at ih'
      have keep : avl σ r (90 * r + p) x = false → fStore_freeNode_j72 (gr h r + 1) (fStore_freeNode_l7 (gr h r + 1) f) (some (pa B r p)) (eO (frL p (avl σ r (90 * r + p)) x)) (rO p (frL p (avl σ r (90 * r + p)) x)) (i3 x) M = some (eO (frL p (avl σ r (90 * r + p)) 6)) := fun e => by
        unfold frS at ih'
        rw [e, if_neg (by decide)] at ih'
        rw [fStore_freeNode_j72_E, i3_add]; exact ih'
      rw [fStore_freeNode_l7_S, fStore_freeNode_b7_E, if_neg (fun w => absurd ((i3_le (by omega) (by omega)).mp w) (by omega)), fgI_s a1, fgI_s a1, a2, rk_s ks, u, bdR_s, rnk_i h90 (by omega)]
      by_cases z : σ 17 (6 * r + x) = i3 0
      · rw [if_pos z, if_neg (by decide), rk_s a1, o, bdR_s]
        cases q : (onf σ (90 * r + p) x 0 5).isSome with
        | true =>
          rw [if_neg (by decide)]
          exact keep (by unfold avl; rw [q]; exact Bool.and_false _)
        | false =>
          have e : avl σ r (90 * r + p) x = true := by unfold avl; rw [q, decide_eq_true z]; rfl
          unfold frS at ih'
          rw [e, if_pos rfl] at ih'
          rw [if_pos (show bI false = i3 0 from rfl)]
          have rl := rnk_lt (p := p) (x := x)
          cases b : frL p (avl σ r (90 * r + p)) x with
          | none =>
            rw [b] at ih'
            rw [if_neg (show ¬ i3 (rnk p x) ≤ rO p none from fun w => by have w2 : i3 (rnk p x) ≤ m1 := w; rw [i3_le_m1 (by omega)] at w2; exact w2), fStore_freeNode_j72_E, i3_add]
            exact ih'
          | some y =>
            rw [b] at ih'
            have rl2 := rnk_lt (p := p) (x := y)
            have ih2 : fStore_freeNode_l7 (gr h r + 1) f (some (pa B r p)) (eO (if rnk p x ≤ rnk p y then some y else some x)) (rO p (if rnk p x ≤ rnk p y then some y else some x)) (i3 (x + 1)) M = some (eO (frL p (avl σ r (90 * r + p)) 6)) := ih'
            by_cases w : rnk p x ≤ rnk p y
            · rw [if_pos w] at ih2
              rw [if_pos (show i3 (rnk p x) ≤ rO p (some y) from (i3_le (by omega) (by omega)).mpr w), fStore_freeNode_j72_E, i3_add]
              exact ih2
            · rw [if_neg w] at ih2
              rw [if_neg (show ¬ i3 (rnk p x) ≤ rO p (some y) from fun v => w ((i3_le (by omega) (by omega)).mp v)), fStore_freeNode_j72_E, i3_add]
              exact ih2
      · rw [if_neg z, if_pos rfl]
        exact keep (by unfold avl; rw [decide_eq_false z]; rfl)
  rw [fStore_freeNode_E, ← fr_e h90]
  exact lp 6 0 FU (by omega) (FU_S (by omega))
theorem m_freeNode (hr : r < 2) {p : Nat} (h90 : p < 90) : fMd_freeNode (i3 r) (i3 p) σ = some (eO (frM p (avl σ r (90 * r + p)))) := by
  have inn : ∀ (k10 : Int32 → Int32 → Int32 → Int32 → Sg → Option Int32) (x4 : Int32) x, ∀ d s fu (b : Bool), d + s = 5 → d < fu → fMd_freeNode_l50 k10 fu (i3 r) (i3 p) (i3 (90 * r + p)) x4 (i3 x) (bI b) (i3 s) σ = if (b && !(onf σ (90 * r + p) x s d).isSome) = true then some (i3 x) else k10 (i3 r) (i3 p) (i3 (90 * r + p)) (x4 + i3 1) σ := by
    intro k10 x4 x d
    induction d with
    | zero =>
      intro s fu b hd hfu
      obtain ⟨f, rfl⟩ : ∃ f, fu = f + 1 := ⟨fu - 1, by omega⟩
      rw [fMd_freeNode_l50_S, fMd_freeNode_b50_E, if_pos ((i3_le (by omega) (by omega)).mpr (by omega))]
      cases b with
      | false => rfl
      | true => rfl
    | succ d ih =>
      intro s fu b hd hfu
      obtain ⟨f, rfl⟩ : ∃ f, fu = f + 1 := ⟨fu - 1, by omega⟩
      have ih0 := ih (s + 1) f false (by omega) (by omega)
      have ih1 := ih (s + 1) f true (by omega) (by omega)
      rw [fMd_freeNode_l50_S, fMd_freeNode_b50_E, if_neg (fun w => absurd ((i3_le (by omega) (by omega)).mp w) (by omega))]
      rw [Bool.false_and, if_neg (by decide)] at ih0
      cases b with
      | false =>
        rw [if_pos (show bI false = i3 0 from rfl), fMd_freeNode_j81_E, fMd_freeNode_j82_E, i3_add, Bool.false_and, if_neg (by decide)]
        exact ih0
      | true =>
        rw [if_neg (by decide), i3_mul, i3_add, mgA_23 (by omega)]
        have eo : onf σ (90 * r + p) x s (d + 1) = if decide (σ 23 (5 * (90 * r + p) + s) = i3 x) = true then some s else onf σ (90 * r + p) x (s + 1) d := rfl
        by_cases z : σ 23 (5 * (90 * r + p) + s) = i3 x
        · rw [if_pos (decide_eq_true z)] at eo
          rw [if_pos z, fMd_freeNode_j81_E, fMd_freeNode_j82_E, i3_add, eo]
          exact ih0
        · rw [decide_eq_false z, if_neg (by decide)] at eo
          rw [if_neg z, fMd_freeNode_j82_E, i3_add, eo]
          exact ih1
  have lp : ∀ d pl fu, d + pl = 6 → d < fu → fMd_freeNode_l10 fu (i3 r) (i3 p) (i3 (90 * r + p)) (i3 pl) σ = some (eO ((fstF (fun pl => avl σ r (90 * r + p) (ordn p pl)) pl d).map (ordn p))) := by
    intro d
    induction d with
    | zero =>
      intro pl fu hd hfu
      obtain ⟨f, rfl⟩ : ∃ f, fu = f + 1 := ⟨fu - 1, by omega⟩
      rw [fMd_freeNode_l10_S, fMd_freeNode_b10_E, if_pos ((i3_le (by omega) (by omega)).mpr (by omega))]
      rfl
    | succ d ih =>
      intro pl fu hd hfu
      obtain ⟨f, rfl⟩ : ∃ f, fu = f + 1 := ⟨fu - 1, by omega⟩
      have ih' := ih (pl + 1) f (by omega) (by omega)
      obtain ⟨o1, o2⟩ := ord_i (pl := pl) h90 (by omega)
      have st : ∀ b : Bool, fMd_freeNode_j45 (fMd_freeNode_l10 f) (i3 r) (i3 p) (i3 (90 * r + p)) (i3 pl) (i3 (ordn p pl)) (bI b) σ = if (b && !(onf σ (90 * r + p) (ordn p pl) 0 5).isSome) = true then some (i3 (ordn p pl)) else fMd_freeNode_l10 f (i3 r) (i3 p) (i3 (90 * r + p)) (i3 (pl + 1)) σ := fun b => by
        rw [fMd_freeNode_j45_E, inn _ _ _ 5 0 FU b (by omega) (FU_S (by omega)), i3_add]
      rw [fMd_freeNode_l10_S, fMd_freeNode_b10_E, if_neg (fun w => absurd ((i3_le (by omega) (by omega)).mp w) (by omega)), o1, bdR_s, i3_mul, i3_add, mgA_17 (by omega), fstF_S]
      by_cases z : σ 17 (6 * r + ordn p pl) = i3 0
      · rw [if_pos z]
        have s1 := st true
        have ea : avl σ r (90 * r + p) (ordn p pl) = (true && !(onf σ (90 * r + p) (ordn p pl) 0 5).isSome) := by unfold avl; rw [decide_eq_true z]
        rw [← ea] at s1
        have s2 : fMd_freeNode_j45 (fMd_freeNode_l10 f) (i3 r) (i3 p) (i3 (90 * r + p)) (i3 pl) (i3 (ordn p pl)) (i3 1) σ = _ := s1
        rw [s2]
        by_cases q : avl σ r (90 * r + p) (ordn p pl) = true
        · rw [if_pos q, if_pos q]; rfl
        · rw [if_neg q, if_neg q]; exact ih'
      · rw [if_neg z]
        have s1 := st false
        have ea : ¬ avl σ r (90 * r + p) (ordn p pl) = true := by unfold avl; rw [decide_eq_false z]; exact Bool.false_ne_true
        rw [Bool.false_and, if_neg (by decide)] at s1
        have s2 : fMd_freeNode_j45 (fMd_freeNode_l10 f) (i3 r) (i3 p) (i3 (90 * r + p)) (i3 pl) (i3 (ordn p pl)) (i3 0) σ = _ := s1
        rw [s2, if_neg ea]
        exact ih'
  have e0 := lp 6 0 FU (by omega) (FU_S (by omega))
  rw [fMd_freeNode_E, i3_mul, i3_add]
  exact e0
theorem frM_lt {p : Nat} (h90 : p < 90) {av : Nat → Bool} {x : Nat} (e : frM p av = some x) : x < 6 ∧ av x = true := by
  unfold frM at e
  cases q : fstF (fun pl => av (ordn p pl)) 0 6 with
  | none => rw [q] at e; cases e
  | some pl =>
    rw [q] at e
    have e2 : some (ordn p pl) = some x := e
    injection e2 with e2
    have := fstF_lt q
    rw [← e2]
    exact ⟨(ord_i h90 (by omega)).2, this.2.2⟩
end FN

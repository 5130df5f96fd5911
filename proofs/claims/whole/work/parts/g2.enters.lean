set_option maxRecDepth 100000
/-! a list with one more between; versions move up: the check enters one -/
section IN
variable {h c n r : Nat} {own : Nat → Nat} {B : BK} {σ σ' τ : Sg} {M M' : Mm} {l t len : Nat} {f : Nat → Nat}
theorem add0_i (h : LST own M l t len f) (e : EMP own M) (fr : FRS own n) (el : ELS own M len f) (elt : ∀ i, i < len → own (f i) ≠ t) (ht : 12 < t) (hl : len < 200) {x k : Nat} (hk : k ≤ len) (hx1 : 1 ≤ mK M x) (hx2 : mK M x ≤ 12) (hx3 : own x ≠ 0) (hxt : own x ≠ t) : ∃ own' M' n', fAl_add0 l (i3 k) (some x) M n = some (.inl (), M', n') ∧ n ≤ n' ∧ n' ≤ n + 1 ∧ FRS own' n' ∧ FRM (fun y => y = t) own M own' M' ∧ LST own' M' l t (len + 1) (fun j => if j < k then f j else if j = k then x else f (j - 1)) := by
  have hlt : own l = t := h.2.1
  have st0 : FRM (fun y => y = t) own M own (uI M 1200 l 0 (mI M 1200 l 0 + i3 1)) := (IOS.uI 1200 l 0 _).frm fun c a z _ => by rw [z.2]; exact hlt
  generalize hM2 : uI M 1200 l 0 (mI M 1200 l 0 + i3 1) = M2 at st0
  have h2 : LST own M2 l t len f := by
    obtain ⟨h1, h2, h3, h4⟩ := h
    subst hM2
    exact ⟨h1, h2, by rw [mI_uI, if_neg (by omega)]; exact h3, h4⟩
  have e2 : EMP own M2 := e.keep (st0.st 1 (by decide) (by decide))
  have el2 : ELS own M2 len f := el.frm fun i _ _ => ⟨rfl, by subst hM2; rfl⟩
  have hx2' : 1 ≤ mK M2 x ∧ mK M2 x ≤ 12 := by subst hM2; exact ⟨hx1, hx2⟩
  have hk1 : mK M l = 12 := h.1
  have hk2 : mK M2 l = 12 := h2.1
  have hs : mI M 1202 l 0 = i3 len := h.2.2.1
  have fin : ∀ own3 M3 rw0, LSR own3 M3 l t len f rw0 → len < mL M3 rw0 → FRM (fun y => y = t) own M own3 M3 → 1 ≤ mK M3 x ∧ mK M3 x ≤ 12 → ELS own3 M3 len f → (∀ n, fAl_add0_j38 l (i3 k) (some x) (i3 len) (some rw0) M3 n = some (.inl (), uI (uP (mC M3 rw0 rw0 k (k + 1) (len - k)) 0 rw0 k (some x)) 1202 l 0 (i3 (len + 1)), n)) ∧ FRM (fun y => y = t) own M own3 (uI (uP (mC M3 rw0 rw0 k (k + 1) (len - k)) 0 rw0 k (some x)) 1202 l 0 (i3 (len + 1))) ∧ LST own3 (uI (uP (mC M3 rw0 rw0 k (k + 1) (len - k)) 0 rw0 k (some x)) 1202 l 0 (i3 (len + 1))) l t (len + 1) (fun j => if j < k then f j else if j = k then x else f (j - 1)) := by
    intro own3 M3 rw0 g hlen fm hx el3
    obtain ⟨g1, g2, g3, g4, g5, g6, g7, g8, g9, g10⟩ := g
    have hp := pok_s hx.1 hx.2
    refine ⟨fun n => ?_, ?_, ?_⟩
    · have pk : ∀ i, i < len - k → pok 23 (mP M3 0 rw0 (k + i)) M3 = true := fun i hi => by
        obtain ⟨y1, y2, y3⟩ := el3 (k + i) (by omega)
        rw [g10 (k + i) (by omega)]
        exact pok_s y2 y3
      have q1 : mK (mC M3 rw0 rw0 k (k + 1) (len - k)) rw0 = 23 := g5
      have q2 : pok 23 (some x) (mC M3 rw0 rw0 k (k + 1) (len - k)) = true := hp
      have q3 : mK (uP (mC M3 rw0 rw0 k (k + 1) (len - k)) 0 rw0 k (some x)) l = 12 := g1
      rw [fAl_add0_j38_E, i3_add, i3_sub (by omega), acp_i g5 g5 g7 (by omega) (by omega) g9 g9 pk, asP_i q1 q2 (by show k < mL M3 rw0; omega) (by omega), fpI_s q3, i3_add]
    · refine fm.then fun a ha => ⟨rfl, fun hT => ?_, fun h12 => ?_⟩
      · have d1 : a ≠ l := fun z => hT (by rw [z]; exact g2)
        have d2 : a ≠ rw0 := fun z => hT (by rw [z]; exact g6)
        exact ⟨rfl, rfl, fun c j => by rw [mP_uI, mP_uP, if_neg (fun z => d2 z.2.1), mP_mC, if_neg (fun z => d2 z.2.1)], fun c j => by rw [mI_uI, if_neg (fun z => d1 z.2.1), mI_uP, mI_mC]⟩
      · have d2 : a ≠ rw0 := fun z => by rw [z] at h12; omega
        exact ⟨rfl, rfl, fun c j => by rw [mP_uI, mP_uP, if_neg (fun z => d2 z.2.1), mP_mC, if_neg (fun z => d2 z.2.1)]⟩
    · refine ⟨g1, g2, by rw [mI_uI, if_pos ⟨rfl, rfl, rfl⟩], rw0, ?_, Or.inr ⟨g5, g6, g7, hlen, g9⟩, fun i hi => ?_⟩
      · rw [mP_uI, mP_uP, if_neg (fun z => absurd z.1 (by decide)), mP_mC, if_neg (fun z => absurd z.1 (by decide))]; exact g4
      · rw [mP_uI, mP_uP]
        by_cases z : i = k
        · rw [if_pos ⟨rfl, rfl, z⟩]
          show some x = some (if i < k then f i else if i = k then x else f (i - 1))
          rw [if_neg (by omega), if_pos z]
        · rw [if_neg (fun w => z w.2.2), mP_mC]
          show _ = some (if i < k then f i else if i = k then x else f (i - 1))
          by_cases w : i < k
          · rw [if_neg (by omega), if_pos w]; exact g10 i (by omega)
          · rw [if_pos ⟨rfl, rfl, by omega, by omega⟩, if_neg w, if_neg z, show k + (i - (k + 1)) = i - 1 by omega]
            exact g10 (i - 1) (by omega)
  have le300 := h.le
  have rc : fAl_rangeCheckForAdd l (i3 k) M = some () := by
    rw [fAl_rangeCheckForAdd_E, fgI_s hk1, hs, if_neg (fun w => absurd ((i3_lt (by omega) (by omega)).mp w) (by omega)), if_pos ((i3_le (by omega) (by omega)).mpr (Nat.zero_le k))]
  have h3 : mI M2 1202 l 0 = i3 len := h2.2.2.1
  have st : ∀ rw0 L, mP M2 1201 l 0 = some rw0 → (∀ {ω : Type} (F : Int32 → Option ω), aln (some rw0) M2 F = F (i3 L)) → fAl_add0 l (i3 k) (some x) M n = if i3 len = i3 L then (bdC (fAl_grow0 l M2 n) n fun v9 M10 n11 => fAl_add0_j38 l (i3 k) (some x) (i3 len) v9 M10 n11) else fAl_add0_j38 l (i3 k) (some x) (i3 len) (some rw0) M2 n := fun rw0 L hp ha => by
    rw [fAl_add0_E, rk_s hk1, rc, bdR_s, fgI_s hk1, fpI_s hk1, hM2, fgI_s hk2, h3, fgR_s hk2, hp, ha, rk_s hk2]
  rcases room_i h2 e2 fr el2 ht hl with ⟨rw0, g, gl⟩ | ⟨M3, g1, ⟨rw0, g2, g3⟩, g4, g5, g6⟩
  · obtain ⟨f1, f2, f3⟩ := fin own M2 rw0 g gl st0 hx2' el2
    have gk := g.2.2.2.2.1
    have g9 := g.2.2.2.2.2.2.2.2.1
    refine ⟨own, _, n, ?_, Nat.le_refl n, Nat.le_succ n, fr, f2, f3⟩
    rw [st rw0 (mL M2 rw0) g.2.2.2.1 (fun F => aln_i gk (by decide) (by decide)), if_neg (fun w => by have := (i3_inj (by omega) (by omega)).mp w; omega)]
    exact f1 n
  · have el3 : ELS (oN own n t) M3 len f := el2.frm fun i hi h0 => ⟨(g6 (f i) h0).1, ((g6 (f i) h0).2.1 (elt i hi)).1⟩
    obtain ⟨f1, f2, f3⟩ := fin _ M3 n g4 g5 (st0.then g6) (by
      have hs := g6 x hx3
      have := (hs.2.1 hxt).1
      rw [this]; exact hx2') el3
    refine ⟨_, _, n + 1, ?_, Nat.le_succ n, Nat.le_refl _, fr.oN t, f2, f3⟩
    have q : ∀ F : Option Nat → Mm → Nat → Option ((Unit ⊕ Nat) × Mm × Nat), bdC (fAl_grow0 l M2 n) n F = F (some n) M3 (n + 1) := fun F => by rw [g1, bdC_li (Nat.le_succ n)]
    rcases g3 with ⟨z1, z2, z3⟩ | ⟨z1, z2⟩
    · rw [st rw0 0 g2 (fun F => aln_e z2 z1), if_pos (by rw [z3]), q]
      exact f1 (n + 1)
    · rw [st rw0 len g2 (fun F => by rw [aln_i z1 (by decide) (by decide), z2]), if_pos rfl, q]
      exact f1 (n + 1)
/-- where a new version goes -/
def posD (σ : Sg) (r N : Nat) : Nat → Nat
  | 0 => 0
  | k + 1 => if N < nE σ r k then posD σ r N k else k + 1
theorem posD_le {N : Nat} : ∀ {k : Nat}, posD σ r N k ≤ k ∧ ∀ i, posD σ r N k ≤ i → i < k → N < nE σ r i := by
  intro k
  induction k with
  | zero => exact ⟨Nat.le_refl 0, fun i _ h => by omega⟩
  | succ k ih =>
    show (if N < nE σ r k then posD σ r N k else k + 1) ≤ k + 1 ∧ ∀ i, (if N < nE σ r k then posD σ r N k else k + 1) ≤ i → i < k + 1 → N < nE σ r i
    by_cases z : N < nE σ r k
    · rw [if_pos z]
      refine ⟨by omega, fun i h1 h2 => ?_⟩
      by_cases w : i = k
      · rw [w]; exact z
      · exact ih.2 i h1 (by omega)
    · rw [if_neg z]
      exact ⟨Nat.le_refl _, fun i h1 h2 => by omega⟩
theorem posD_lt {N : Nat} : ∀ {k : Nat}, 0 < posD σ r N k → ¬ N < nE σ r (posD σ r N k - 1) := by
  intro k
  induction k with
  | zero => intro h; exact absurd h (Nat.lt_irrefl 0)
  | succ k ih =>
    intro h
    have e : posD σ r N (k + 1) = if N < nE σ r k then posD σ r N k else k + 1 := rfl
    rw [e] at h ⊢
    by_cases z : N < nE σ r k
    · rw [if_pos z] at h ⊢; exact ih h
    · rw [if_neg z]; exact z
def SHU (σ : Sg) (σ' : Sg) (a e : Nat) : Prop := (∀ f, f < 27 ∨ 34 < f → σ' f = σ f) ∧
  (∀ f, 27 ≤ f → f ≤ 33 → ∀ j, σ' f j = if a < j ∧ j ≤ e then σ f (j - 1) else σ f j) ∧
  (∀ j, j < 80 → ∀ q, q < nv (σ' 33 j) → q < 20 → σ' 34 (20 * j + q) = if a < j ∧ j ≤ e then σ 34 (20 * (j - 1) + q) else σ 34 (20 * j + q))
theorem SHU.ot {σ : Sg} {σ' : Sg} {a e : Nat} (Z : SHU σ σ' a e) : ∀ f, f < 27 ∨ 34 < f → σ' f = σ f := Z.1
theorem SHU.vv {σ : Sg} {σ' : Sg} {a e : Nat} (Z : SHU σ σ' a e) : ∀ f, 27 ≤ f → f ≤ 33 → ∀ j, σ' f j = if a < j ∧ j ≤ e then σ f (j - 1) else σ f j := Z.2.1
theorem SHU.pp {σ : Sg} {σ' : Sg} {a e : Nat} (Z : SHU σ σ' a e) : ∀ j, j < 80 → ∀ q, q < nv (σ' 33 j) → q < 20 → σ' 34 (20 * j + q) = if a < j ∧ j ≤ e then σ 34 (20 * (j - 1) + q) else σ 34 (20 * j + q) := Z.2.2
theorem SHU.refl {a : Nat} : SHU σ σ a a := ⟨fun _ _ => rfl, fun _ _ _ j => by rw [if_neg (by omega)], fun j _ q _ _ => by rw [if_neg (by omega)]⟩
theorem shu_loop {V N : Nat} {mk : Int32} (hr : r < 2) (h40 : V < 40) (hN : N ≤ 200) (hpc : ∀ i, i < V → ∃ pc, pc ≤ 20 ∧ σ 33 (40 * r + i) = i3 pc) (hnu : ∀ i, i < V → ∃ x, x ≤ 200 ∧ σ 27 (40 * r + i) = i3 x) : ∀ k fu (σk : Sg), k ≤ V → k < fu → SHU σ σk (40 * r + k) (40 * r + V) → ∃ σ', fMd_enters_l13 fu (i3 r) (i3 N) mk (i3 (40 * r + k)) σk = fMd_enters_j51 (i3 r) (i3 N) mk (i3 (40 * r + posD σ r N k)) σ' ∧ SHU σ σ' (40 * r + posD σ r N k) (40 * r + V) := by
  intro k
  induction k with
  | zero =>
    intro fu σk hk hfu S
    obtain ⟨f, rfl⟩ : ∃ f, fu = f + 1 := ⟨fu - 1, by omega⟩
    refine ⟨σk, ?_, S⟩
    rw [fMd_enters_l13_S, fMd_enters_b13_E, i3_mul, if_pos ((i3_le (by omega) (by omega)).mpr (by omega))]
    rfl
  | succ k ih =>
    intro fu σk hk hfu S
    obtain ⟨f, rfl⟩ : ∃ f, fu = f + 1 := ⟨fu - 1, by omega⟩
    obtain ⟨x, hx, ex⟩ := hnu k (by omega)
    have enx : nE σ r k = x := by show nv (σ 27 (40 * r + k)) = x; rw [ex]; exact nv_i (by omega)
    have e27 : σk 27 (40 * r + k) = i3 x := by rw [S.vv 27 (by decide) (by decide), if_neg (by omega)]; exact ex
    have e1 : 40 * r + (k + 1) - 1 = 40 * r + k := by omega
    have st : fMd_enters_l13 (f + 1) (i3 r) (i3 N) mk (i3 (40 * r + (k + 1))) σk = if x ≤ N then fMd_enters_j51 (i3 r) (i3 N) mk (i3 (40 * r + (k + 1))) σk else bdW (fMd_moves (i3 (40 * r + k)) (i3 (40 * r + (k + 1))) σk) fun v2 σ3 => fMd_enters_l13 f (i3 r) (i3 N) mk (i3 (40 * r + k)) σ3 := by
      rw [fMd_enters_l13_S, fMd_enters_b13_E, i3_mul, if_neg (fun w => absurd ((i3_le (by omega) (by omega)).mp w) (by omega)), i3_sub (by omega), e1, mgA_27 (by omega), e27, i3_dec (by omega), e1]
      by_cases z : x ≤ N
      · rw [if_pos z, if_pos ((i3_le (by omega) (by omega)).mpr z)]
      · rw [if_neg z, if_neg (fun w => z ((i3_le (by omega) (by omega)).mp w))]
    have ep : posD σ r N (k + 1) = if N < x then posD σ r N k else k + 1 := by rw [← enx]; rfl
    by_cases z : x ≤ N
    · rw [if_neg (by omega)] at ep
      refine ⟨σk, ?_, by rw [ep]; exact S⟩
      rw [st, if_pos z, ep]
    · rw [if_pos (by omega)] at ep
      obtain ⟨pc, hp20, hpe⟩ := hpc k (by omega)
      have e33 : σk 33 (40 * r + k) = i3 pc := by rw [S.vv 33 (by decide) (by decide), if_neg (by omega)]; exact hpe
      have mv := m_moves (σ := σk) (x := 40 * r + k) (y := 40 * r + (k + 1)) (pc := pc) (by omega) (by omega) (by omega) hp20 e33
      have S2 : SHU σ (mvv σk (40 * r + k) (40 * r + (k + 1)) pc) (40 * r + k) (40 * r + V) := by
        refine ⟨fun f hf => funext fun j => ?_, fun f h1 h2 j => ?_, fun j hj q hq hq20 => ?_⟩
        · show (if 27 ≤ f ∧ f ≤ 33 ∧ j = 40 * r + (k + 1) then σk f (40 * r + k) else if f = 34 ∧ 20 * (40 * r + (k + 1)) ≤ j ∧ j < 20 * (40 * r + (k + 1)) + pc then _ else σk f j) = σ f j
          rw [if_neg (by omega), if_neg (by omega), S.ot f hf]
        · show (if 27 ≤ f ∧ f ≤ 33 ∧ j = 40 * r + (k + 1) then σk f (40 * r + k) else if f = 34 ∧ 20 * (40 * r + (k + 1)) ≤ j ∧ j < 20 * (40 * r + (k + 1)) + pc then _ else σk f j) = _
          by_cases e : j = 40 * r + (k + 1)
          · subst e
            rw [if_pos ⟨h1, h2, rfl⟩, if_pos (by omega), S.vv f h1 h2, if_neg (by omega), e1]
          · rw [if_neg (by omega), if_neg (by omega), S.vv f h1 h2]
            by_cases w : 40 * r + (k + 1) < j ∧ j ≤ 40 * r + V
            · rw [if_pos w, if_pos (by omega)]
            · rw [if_neg w, if_neg (by omega)]
        · have hq : q < nv (if 27 ≤ 33 ∧ 33 ≤ 33 ∧ j = 40 * r + (k + 1) then σk 33 (40 * r + k) else if 33 = 34 ∧ 20 * (40 * r + (k + 1)) ≤ j ∧ j < 20 * (40 * r + (k + 1)) + pc then σk 34 (20 * (40 * r + k) + (j - 20 * (40 * r + (k + 1)))) else σk 33 j) := hq
          show (if 27 ≤ 34 ∧ 34 ≤ 33 ∧ 20 * j + q = 40 * r + (k + 1) then σk 34 (40 * r + k) else if 34 = 34 ∧ 20 * (40 * r + (k + 1)) ≤ 20 * j + q ∧ 20 * j + q < 20 * (40 * r + (k + 1)) + pc then σk 34 (20 * (40 * r + k) + (20 * j + q - 20 * (40 * r + (k + 1)))) else σk 34 (20 * j + q)) = _
          rw [if_neg (by omega)]
          by_cases e : j = 40 * r + (k + 1)
          · subst e
            rw [if_pos ⟨by decide, by decide, rfl⟩, e33, nv_i (by omega)] at hq
            have e2 : 20 * (40 * r + k) + (20 * (40 * r + (k + 1)) + q - 20 * (40 * r + (k + 1))) = 20 * (40 * r + k) + q := by omega
            rw [if_pos ⟨rfl, by omega, by omega⟩, if_pos (by omega), e2, S.pp (40 * r + k) (by omega) q (by rw [e33, nv_i (by omega)]; exact hq) hq20, if_neg (by omega), e1]
          · rw [if_neg (by omega), if_neg (by omega)] at hq
            rw [if_neg (by omega), S.pp j hj q hq hq20]
            by_cases w : 40 * r + (k + 1) < j ∧ j ≤ 40 * r + V
            · rw [if_pos w, if_pos (by omega)]
            · rw [if_neg w, if_neg (by omega)]
      obtain ⟨σ', a1, a2⟩ := ih f _ (by omega) (by omega) S2
      refine ⟨σ', ?_, by rw [ep]; exact a2⟩
      rw [st, if_neg z, mv, bdW_s, ep]
      exact a1
/-- the check has entered one -/
def ENS (r N V pos : Nat) (C : CS) (g : Nat → Int32) (τ : Sg) (σ : Sg) (σ' : Sg) : Prop := (PFE σ' (tkS τ r g C C.1)) ∧
  (σ' 26 r = i3 (V + 1) ∧ ∀ r0, r0 ≠ r → σ' 26 r0 = σ 26 r0) ∧
  (σ' 27 (40 * r + pos) = i3 N ∧ σ' 28 (40 * r + pos) = σ 38 N ∧ σ' 29 (40 * r + pos) = σ 39 N ∧ σ' 30 (40 * r + pos) = i3 0 ∧ σ' 31 (40 * r + pos) = m1 ∧ σ' 32 (40 * r + pos) = m1 ∧ σ' 33 (40 * r + pos) = i3 C.1) ∧
  (∀ o, o < C.1 → σ' 34 (20 * (40 * r + pos) + o) = i3 (pnS τ r g C o)) ∧
  (∀ f, 27 ≤ f → f ≤ 33 → ∀ j, j ≠ 40 * r + pos → σ' f j = if 40 * r + pos < j ∧ j ≤ 40 * r + V then σ f (j - 1) else σ f j) ∧
  (∀ j, j < 80 → j ≠ 40 * r + pos → ∀ q, q < nv (σ' 33 j) → q < 20 → σ' 34 (20 * j + q) = if 40 * r + pos < j ∧ j ≤ 40 * r + V then σ 34 (20 * (j - 1) + q) else σ 34 (20 * j + q)) ∧
  (∀ j, σ' 35 j = if j = 201 * r + N then i3 1 else σ 35 j) ∧
  (∀ k, k < 18 ∨ 35 < k → σ' k = σ k)
theorem ENS.pf {r N V pos : Nat} {C : CS} {g : Nat → Int32} {τ : Sg} {σ : Sg} {σ' : Sg} (Z : ENS r N V pos C g τ σ σ') : PFE σ' (tkS τ r g C C.1) := Z.1
theorem ENS.v6 {r N V pos : Nat} {C : CS} {g : Nat → Int32} {τ : Sg} {σ : Sg} {σ' : Sg} (Z : ENS r N V pos C g τ σ σ') : σ' 26 r = i3 (V + 1) ∧ ∀ r0, r0 ≠ r → σ' 26 r0 = σ 26 r0 := Z.2.1
theorem ENS.nw {r N V pos : Nat} {C : CS} {g : Nat → Int32} {τ : Sg} {σ : Sg} {σ' : Sg} (Z : ENS r N V pos C g τ σ σ') : σ' 27 (40 * r + pos) = i3 N ∧ σ' 28 (40 * r + pos) = σ 38 N ∧ σ' 29 (40 * r + pos) = σ 39 N ∧ σ' 30 (40 * r + pos) = i3 0 ∧ σ' 31 (40 * r + pos) = m1 ∧ σ' 32 (40 * r + pos) = m1 ∧ σ' 33 (40 * r + pos) = i3 C.1 := Z.2.2.1
theorem ENS.np {r N V pos : Nat} {C : CS} {g : Nat → Int32} {τ : Sg} {σ : Sg} {σ' : Sg} (Z : ENS r N V pos C g τ σ σ') : ∀ o, o < C.1 → σ' 34 (20 * (40 * r + pos) + o) = i3 (pnS τ r g C o) := Z.2.2.2.1
theorem ENS.vv {r N V pos : Nat} {C : CS} {g : Nat → Int32} {τ : Sg} {σ : Sg} {σ' : Sg} (Z : ENS r N V pos C g τ σ σ') : ∀ f, 27 ≤ f → f ≤ 33 → ∀ j, j ≠ 40 * r + pos → σ' f j = if 40 * r + pos < j ∧ j ≤ 40 * r + V then σ f (j - 1) else σ f j := Z.2.2.2.2.1
theorem ENS.pp {r N V pos : Nat} {C : CS} {g : Nat → Int32} {τ : Sg} {σ : Sg} {σ' : Sg} (Z : ENS r N V pos C g τ σ σ') : ∀ j, j < 80 → j ≠ 40 * r + pos → ∀ q, q < nv (σ' 33 j) → q < 20 → σ' 34 (20 * j + q) = if 40 * r + pos < j ∧ j ≤ 40 * r + V then σ 34 (20 * (j - 1) + q) else σ 34 (20 * j + q) := Z.2.2.2.2.2.1
theorem ENS.hd {r N V pos : Nat} {C : CS} {g : Nat → Int32} {τ : Sg} {σ : Sg} {σ' : Sg} (Z : ENS r N V pos C g τ σ σ') : ∀ j, σ' 35 j = if j = 201 * r + N then i3 1 else σ 35 j := Z.2.2.2.2.2.2.1
theorem ENS.ot {r N V pos : Nat} {C : CS} {g : Nat → Int32} {τ : Sg} {σ : Sg} {σ' : Sg} (Z : ENS r N V pos C g τ σ σ') : ∀ k, k < 18 ∨ 35 < k → σ' k = σ k := Z.2.2.2.2.2.2.2
theorem m_enters {m N V : Nat} {mk : Int32} {g : Nat → Int32} {C : CS} (Q : PQ τ) (hr : r < 2) (h40 : m ≤ 40) (K : CIN C m) (hg : ∀ j, j < m → NB 15 (g j)) (room : nv (τ 18 r) + cntF (nwp τ r g C) 0 C.1 ≤ 90) (h780 : ∀ p, p < nv (τ 18 r) → nv (τ 20 (90 * r + p)) ≤ 780) (eP : PFE σ τ) (hN : N ≤ 200) (hV : σ 26 r = i3 V) (hV40 : V < 40) (hpc : ∀ i, i < V → ∃ pc, pc ≤ 20 ∧ σ 33 (40 * r + i) = i3 pc) (hnu : ∀ i, i < V → ∃ x, x ≤ 200 ∧ σ 27 (40 * r + i) = i3 x) (A : ∀ j, j < m → σ 4 j = g j) (u : ∀ q, q < C.1 → σ 6 q = i3 (C.2.2.1 q) ∧ σ 7 q = i3 (C.2.2.2 q)) (hmk : (mk = i3 0 ∧ σ 5 0 = i3 C.1) ∨ (mk = i3 1 ∧ C.1 = 0)) : ∃ σ', fMd_enters (i3 r) (i3 N) mk σ = some ((), σ') ∧ ENS r N V (posD σ r N V) C g τ σ σ' := by
  have c20 := K.1
  obtain ⟨σ1, a1, S⟩ := shu_loop (mk := mk) hr hV40 hN hpc hnu V FU σ (Nat.le_refl V) (FU_S (by omega)) SHU.refl
  have pl := (posD_le (σ := σ) (r := r) (N := N) (k := V)).1
  obtain ⟨pos, hpos⟩ : ∃ pos, pos = posD σ r N V := ⟨_, rfl⟩
  rw [← hpos] at a1 S pl ⊢
  obtain ⟨to, hto⟩ : ∃ to, to = 40 * r + pos := ⟨_, rfl⟩
  have to80 : to < 80 := by omega
  have e26 : σ1 26 r = i3 V := by rw [S.ot 26 (Or.inl (by decide))]; exact hV
  have e38 : σ1 38 = σ 38 := S.ot 38 (Or.inr (by decide))
  have e39 : σ1 39 = σ 39 := S.ot 39 (Or.inr (by decide))
  obtain ⟨σ2, h2⟩ : ∃ σ2, σ2 = uS (uS (uS (uS (uS (uS (uS σ1 26 r (i3 (V + 1))) 27 to (i3 N)) 28 to (σ 38 N)) 29 to (σ 39 N)) 30 to (i3 0)) 31 to m1) 32 to m1 := ⟨_, rfl⟩
  obtain ⟨σ3, h3⟩ : ∃ σ3, σ3 = uS (uS σ2 33 to (i3 C.1)) 35 (201 * r + N) (i3 1) := ⟨_, rfl⟩
  have v3 : ∀ k j, σ3 k j = if k = 35 ∧ j = 201 * r + N then i3 1 else if k = 33 ∧ j = to then i3 C.1 else if k = 32 ∧ j = to then m1 else if k = 31 ∧ j = to then m1 else if k = 30 ∧ j = to then i3 0 else if k = 29 ∧ j = to then σ 39 N else if k = 28 ∧ j = to then σ 38 N else if k = 27 ∧ j = to then i3 N else if k = 26 ∧ j = r then i3 (V + 1) else σ1 k j := fun k j => by rw [h3, h2]; rfl
  have o3 : ∀ k, k < 26 ∨ 35 < k → σ3 k = σ1 k := fun k hk => funext fun j => by
    rw [v3, if_neg (by omega), if_neg (by omega), if_neg (by omega), if_neg (by omega), if_neg (by omega), if_neg (by omega), if_neg (by omega), if_neg (by omega), if_neg (by omega)]
  have run : fMd_enters (i3 r) (i3 N) mk σ = fMd_enters_l154 FU (i3 r) (i3 to) (i3 0) σ3 := by
    have q38 : ∀ v w, uS (uS σ1 26 r v) 27 to w 38 N = σ 38 N := fun v w => by rw [uS_n _ _ _ (by decide), uS_n _ _ _ (by decide), e38]
    have q39 : ∀ v w x, uS (uS (uS σ1 26 r v) 27 to w) 28 to x 39 N = σ 39 N := fun v w x => by rw [uS_n _ _ _ (by decide), uS_n _ _ _ (by decide), uS_n _ _ _ (by decide), e39]
    have q5 : σ2 5 = σ 5 := by rw [h2, uS_n _ _ _ (by decide), uS_n _ _ _ (by decide), uS_n _ _ _ (by decide), uS_n _ _ _ (by decide), uS_n _ _ _ (by decide), uS_n _ _ _ (by decide), uS_n _ _ _ (by decide)]; exact S.ot 5 (Or.inl (by decide))
    have j137 : fMd_enters_j137 (i3 r) (i3 N) (i3 to) (i3 C.1) (i3 to) σ2 = fMd_enters_l154 FU (i3 r) (i3 to) (i3 0) σ3 := by
      rw [fMd_enters_j137_E, mpA_33 (by omega), i3_mul, i3_add, mpZ_35 (by omega) (Or.inr rfl), ← h3]
    rw [fMd_enters_E, mgA_26 (by omega), hV, i3_mul, i3_add, a1, ← hto, fMd_enters_j51_E, mgA_26 (by omega), e26, mpA_26 (by omega), i3_add, mpA_27 (by omega), mgA_38 (by omega), q38, mpA_28 (by omega), mgA_39 (by omega), q39, mpA_29 (by omega), mpA_30 (by omega), mpA_31 (by omega), mpA_32 (by omega), ← h2]
    rcases hmk with ⟨rfl, h5⟩ | ⟨rfl, h5⟩
    · rw [if_pos rfl, mgF_s, q5, h5]; exact j137
    · rw [if_neg (by decide), ← j137, h5]
  obtain ⟨σ', b1, b2, b3, b4⟩ := m_take_l (σA := σ3) Q hr h40 K hg room h780 to80 (fun j hj => by rw [o3 4 (Or.inl (by decide)), S.ot 4 (Or.inl (by decide))]; exact A j hj) (fun q hq => by rw [o3 6 (Or.inl (by decide)), S.ot 6 (Or.inl (by decide)), o3 7 (Or.inl (by decide)), S.ot 7 (Or.inl (by decide))]; exact u q hq) (by rw [v3, if_neg (by omega), if_pos ⟨rfl, rfl⟩]) C.1 0 FU σ3 (by omega) (FU_S (by omega)) (fun k k1 k2 => by rw [o3 k (Or.inl (by omega)), S.ot k (Or.inl (by omega))]; exact eP k k1 k2) (fun _ _ _ => rfl) (fun j => by rw [if_neg (by omega)])
  have ov : ∀ f j, 27 ≤ f → f ≤ 33 → j ≠ to → σ' f j = if to < j ∧ j ≤ 40 * r + V then σ f (j - 1) else σ f j := fun f j h1 h2' hj => by
    rw [b3 f (Or.inr (by omega)) (by omega), v3, if_neg (by omega), if_neg (by omega), if_neg (by omega), if_neg (by omega), if_neg (by omega), if_neg (by omega), if_neg (by omega), if_neg (by omega), if_neg (by omega), S.vv f h1 h2', hto]
  refine ⟨σ', run.trans b1, b2, ⟨?_, fun r0 h0 => ?_⟩, ?_, fun o ho => ?_, fun f h1 h2' j hj => ?_, fun j hj hj2 q hq hq20 => ?_, fun j => ?_, fun k hk => ?_⟩
  · rw [b3 26 (Or.inr (by decide)) (by decide), v3, if_neg (by omega), if_neg (by omega), if_neg (by omega), if_neg (by omega), if_neg (by omega), if_neg (by omega), if_neg (by omega), if_neg (by omega), if_pos ⟨rfl, rfl⟩]
  · rw [b3 26 (Or.inr (by decide)) (by decide), v3, if_neg (by omega), if_neg (by omega), if_neg (by omega), if_neg (by omega), if_neg (by omega), if_neg (by omega), if_neg (by omega), if_neg (by omega), if_neg (fun w => h0 w.2), S.ot 26 (Or.inl (by decide))]
  · rw [← hto]
    refine ⟨?_, ?_, ?_, ?_, ?_, ?_, ?_⟩
    · rw [b3 27 (Or.inr (by decide)) (by decide), v3, if_neg (by omega), if_neg (by omega), if_neg (by omega), if_neg (by omega), if_neg (by omega), if_neg (by omega), if_neg (by omega), if_pos ⟨rfl, rfl⟩]
    · rw [b3 28 (Or.inr (by decide)) (by decide), v3, if_neg (by omega), if_neg (by omega), if_neg (by omega), if_neg (by omega), if_neg (by omega), if_neg (by omega), if_pos ⟨rfl, rfl⟩]
    · rw [b3 29 (Or.inr (by decide)) (by decide), v3, if_neg (by omega), if_neg (by omega), if_neg (by omega), if_neg (by omega), if_neg (by omega), if_pos ⟨rfl, rfl⟩]
    · rw [b3 30 (Or.inr (by decide)) (by decide), v3, if_neg (by omega), if_neg (by omega), if_neg (by omega), if_neg (by omega), if_pos ⟨rfl, rfl⟩]
    · rw [b3 31 (Or.inr (by decide)) (by decide), v3, if_neg (by omega), if_neg (by omega), if_neg (by omega), if_pos ⟨rfl, rfl⟩]
    · rw [b3 32 (Or.inr (by decide)) (by decide), v3, if_neg (by omega), if_neg (by omega), if_pos ⟨rfl, rfl⟩]
    · rw [b3 33 (Or.inr (by decide)) (by decide), v3, if_neg (by omega), if_pos ⟨rfl, rfl⟩]
  · rw [← hto, b4, if_pos (by omega), Nat.add_sub_cancel_left]
  · rw [← hto] at hj ⊢
    exact ov f j h1 h2' hj
  · rw [← hto] at hj2 ⊢
    have n34 : σ3 34 (20 * j + q) = σ1 34 (20 * j + q) := by rw [v3, if_neg (by omega), if_neg (by omega), if_neg (by omega), if_neg (by omega), if_neg (by omega), if_neg (by omega), if_neg (by omega), if_neg (by omega), if_neg (by omega)]
    have n33 : σ' 33 j = σ1 33 j := by rw [b3 33 (Or.inr (by decide)) (by decide), v3, if_neg (by omega), if_neg (by omega), if_neg (by omega), if_neg (by omega), if_neg (by omega), if_neg (by omega), if_neg (by omega), if_neg (by omega), if_neg (by omega)]
    rw [b4, if_neg (by omega), n34, S.pp j hj q (by rw [← n33]; exact hq) hq20, hto]
  · rw [b3 35 (Or.inr (by decide)) (by decide), v3]
    by_cases z : j = 201 * r + N
    · rw [if_pos ⟨rfl, z⟩, if_pos z]
    · rw [if_neg (fun w => z w.2), if_neg z, if_neg (by omega), if_neg (by omega), if_neg (by omega), if_neg (by omega), if_neg (by omega), if_neg (by omega), if_neg (by omega), if_neg (by omega), S.ot 35 (Or.inr (by decide))]
  · rw [b3 k (by omega) (by omega), o3 k (by omega), S.ot k (by omega)]
end IN

set_option maxRecDepth 100000
/-! list: both sides -/
section LJ
variable {h c n r : Nat} {own : Nat → Nat} {B : BK} {σ : Sg} {M M' : Mm}
theorem nthF_fno {p : Nat → Bool} : ∀ {d i k : Nat}, fstF p i d = none → nthF p i d k = none := by
  intro d
  induction d with
  | zero => intro i k _; rfl
  | succ d ih =>
    intro i k e
    rw [fstF_S] at e
    by_cases z : p i = true
    · rw [if_pos z] at e; cases e
    · rw [if_neg z] at e
      rw [nthF_S, if_neg z]
      exact ih e
theorem nthF_fs {p : Nat → Bool} : ∀ {d i w : Nat}, fstF p i d = some w → ∀ k, nthF p i d k = if k = 0 then some w else nthF p (w + 1) (i + d - (w + 1)) (k - 1) := by
  intro d
  induction d with
  | zero => intro i w e; cases e
  | succ d ih =>
    intro i w e k
    rw [fstF_S] at e
    by_cases z : p i = true
    · rw [if_pos z] at e
      cases e
      rw [nthF_S, if_pos z, show i + (d + 1) - (i + 1) = d by omega]
    · rw [if_neg z] at e
      rw [nthF_S, if_neg z, ih e k, show i + 1 + d - (w + 1) = i + (d + 1) - (w + 1) by omega]
theorem fstF_is {p : Nat → Bool} : ∀ {d i w : Nat}, i ≤ w → w < i + d → p w = true → (∀ j, i ≤ j → j < w → p j = false) → fstF p i d = some w := by
  intro d
  induction d with
  | zero => intro i w h1 h2; omega
  | succ d ih =>
    intro i w h1 h2 h3 h4
    rw [fstF_S]
    by_cases z : i = w
    · subst z; rw [if_pos h3]
    · rw [if_neg (by rw [h4 i (Nat.le_refl i) (by omega)]; decide)]
      exact ih (by omega) (by omega) h3 fun j a b => h4 j (by omega) b
theorem fstF_no {p : Nat → Bool} : ∀ {d i : Nat}, (∀ j, i ≤ j → j < i + d → p j = false) → fstF p i d = none := by
  intro d
  induction d with
  | zero => intro i _; rfl
  | succ d ih =>
    intro i h1
    rw [fstF_S, if_neg (by rw [h1 i (Nat.le_refl i) (by omega)]; decide)]
    exact ih fun j a b => h1 j (by omega) (by omega)
theorem bst_S {b x6 i : Nat} : bst σ r b x6 (i + 1) = if cnd σ r b x6 i = true then (match bst σ r b x6 i with | none => some (wrd σ r i) | some w => if w ≤ wrd σ r i then some w else some (wrd σ r i)) else bst σ r b x6 i := rfl
theorem bst_min {b x6 : Nat} : ∀ i, (bst σ r b x6 i = none → ∀ j, j < i → cnd σ r b x6 j = false) ∧ (∀ w, bst σ r b x6 i = some w → ∀ j, j < i → cnd σ r b x6 j = true → w ≤ wrd σ r j) := by
  intro i
  induction i with
  | zero => exact ⟨fun _ j hj => by omega, fun w e => by cases e⟩
  | succ i ih =>
    obtain ⟨ih1, ih2⟩ := ih
    have hS := bst_S (σ := σ) (r := r) (b := b) (x6 := x6) (i := i)
    cases hc : cnd σ r b x6 i with
    | false =>
      rw [hc, if_neg (by decide)] at hS
      refine ⟨fun e j hj => ?_, fun w e j hj cj => ?_⟩
      · by_cases z : j = i
        · rw [z]; exact hc
        · exact ih1 (hS.symm.trans e) j (by omega)
      · by_cases z : j = i
        · rw [z, hc] at cj; cases cj
        · exact ih2 w (hS.symm.trans e) j (by omega) cj
    | true =>
      rw [hc, if_pos rfl] at hS
      cases hb : bst σ r b x6 i with
      | none =>
        rw [hb] at hS
        have hS2 : bst σ r b x6 (i + 1) = some (wrd σ r i) := hS
        refine ⟨fun e => (by rw [hS2] at e; cases e), fun w e j hj cj => ?_⟩
        rw [hS2] at e
        injection e with e
        by_cases z : j = i
        · rw [z, e]; exact Nat.le_refl w
        · have := ih1 hb j (by omega)
          rw [this] at cj; cases cj
      | some v =>
        rw [hb] at hS
        have hS2 : bst σ r b x6 (i + 1) = (if v ≤ wrd σ r i then some v else some (wrd σ r i)) := hS
        by_cases q : v ≤ wrd σ r i
        · rw [if_pos q] at hS2
          refine ⟨fun e => (by rw [hS2] at e; cases e), fun w e j hj cj => ?_⟩
          rw [hS2] at e
          injection e with e
          by_cases z : j = i
          · rw [z]; omega
          · have := ih2 v hb j (by omega) cj
            omega
        · rw [if_neg q] at hS2
          refine ⟨fun e => (by rw [hS2] at e; cases e), fun w e j hj cj => ?_⟩
          rw [hS2] at e
          injection e with e
          by_cases z : j = i
          · rw [z]; omega
          · have := ih2 v hb j (by omega) cj
            omega
theorem gd_ver (I : IV c σ) (hr : r < 2) {b x6 w : Nat} (h25 : 25 ≤ w) (hw : w < 125) (h6 : x6 < w) (hg : gd σ r b w = true) : ∃ i, i < nv (σ 26 r) ∧ cnd σ r b x6 i = true ∧ wrd σ r i = w := by
  unfold gd at hg
  rw [Bool.and_eq_true, Bool.and_eq_true] at hg
  obtain ⟨g1, g2, g3⟩ := hg
  obtain ⟨i, hi⟩ := Option.isSome_iff_exists.mp g3
  obtain ⟨-, a2, a3, -⟩ := obj_lt hi
  have kl := kow_lt hw
  have en : nv (σ 28 (40 * r + i)) = kow w := by rw [a3]; exact nv_i (by omega)
  have ew : wrd σ r i = w := by unfold wrd; rw [en]; exact kw h25 hw g1
  refine ⟨i, a2, ?_, ew⟩
  unfold cnd isob
  rw [a3, decide_eq_true hi, ew, nv_i (by omega), g2, decide_eq_true h6]; rfl
theorem bst_fst (I : IV c σ) (hr : r < 2) {b x6 s : Nat} (hs : s = max 25 (x6 + 1)) (h6 : x6 < 125) : bst σ r b x6 (nv (σ 26 r)) = fstF (gd σ r b) s (125 - s) := by
  obtain ⟨m1', m2'⟩ := bst_min (σ := σ) (r := r) (b := b) (x6 := x6) (nv (σ 26 r))
  cases hb : bst σ r b x6 (nv (σ 26 r)) with
  | none =>
    symm
    refine fstF_no fun j a1 a2 => ?_
    cases hg : gd σ r b j with
    | false => rfl
    | true =>
      obtain ⟨i, i1, i2, i3'⟩ := gd_ver I hr (x6 := x6) (by omega) (by omega) (by omega) hg
      have := m1' hb i i1
      rw [this] at i2; cases i2
  | some w =>
    symm
    obtain ⟨v1, v2, v3, v4, v5, j, v6, v7, v8, v9⟩ := bst_lt I hr (Nat.le_refl _) hb
    refine fstF_is (by omega) (by omega) ?_ fun k a1 a2 => ?_
    · have v7' := v7
      unfold cnd isob at v7
      rw [Bool.and_eq_true] at v7
      have ob := of_decide_eq_true v7.1
      rw [v9] at ob
      unfold gd
      rw [v4, v5, ob]; rfl
    · cases hg : gd σ r b k with
      | false => rfl
      | true =>
        obtain ⟨i, i1, i2, i3'⟩ := gd_ver I hr (x6 := x6) (by omega) (by omega) (by omega) hg
        have := m2' w hb i i1 i2
        omega
theorem kO_gt {w : Nat} (hw : w < 125) (e : iskb (kow w) = true) : ¬ i3 (kow w) ≤ i3 0 := fun z => by
  have kl := kow_lt hw
  have z2 := (i3_le (by omega) (by omega)).mp z
  have z3 : kow w = 0 := by omega
  have z4 := of_decide_eq_true e
  rw [z3, fKeys_isKey_E, if_pos (show i3 0 < i3 1 by decide)] at z4
  have z5 : some (i3 0) = some (i3 1) := z4
  injection z5 with z6
  exact absurd z6 (by decide)
theorem m_list_l (I : IV c σ) (hr : r < 2) {b : Nat} (hb : b = 0 ∨ iskb b = true) (hb2 : b < 125) {p : Nat} (hp : p < 2147483648) : ∀ d x6 m fu (x7 : Int32), d + x6 = 125 → 0 < d → d < fu → m ≤ x6 → m ≤ p → (m = 0 ∨ ¬ x7 ≤ i3 0) → fMd_list_l84 fu (i3 r) (i3 b) (i3 p) (i3 x6) x7 (i3 m) σ = some (kO (nthF (gd σ r b) (max 25 (x6 + 1)) (125 - max 25 (x6 + 1)) (p - m)), σ) := by
  intro d
  induction d using Nat.strongRecOn with
  | ind d ih =>
    intro x6 m fu x7 hd h0 hfu hm hmp h7
    obtain ⟨f, rfl⟩ : ∃ f, fu = f + 1 := ⟨fu - 1, by omega⟩
    have c0 : ¬ i3 p < i3 m := fun z => absurd ((i3_lt hp (by omega)).mp z) (by omega)
    have ps := m_pass_l I hr hb hb2 (x6 := x6) (by omega) (fMd_list_l84 f) (i3 p) m (nv (σ 26 r)) 0 FU (by omega) (FU_S (by have := (I.vn r hr).2; omega))
    have ps2 : fMd_list_j101 (fMd_list_l84 f) (i3 r) (i3 b) (i3 p) (i3 x6) (i3 m) σ = fMd_list_l84 f (i3 r) (i3 b) (i3 p) (wO (bst σ r b x6 (nv (σ 26 r)))) (kO (bst σ r b x6 (nv (σ 26 r)))) (i3 (m + 1)) σ := by
      rw [fMd_list_j101_E, i3_mul]
      exact ps
    have st : fMd_list_l84 (f + 1) (i3 r) (i3 b) (i3 p) (i3 x6) x7 (i3 m) σ = fMd_list_l84 f (i3 r) (i3 b) (i3 p) (wO (bst σ r b x6 (nv (σ 26 r)))) (kO (bst σ r b x6 (nv (σ 26 r)))) (i3 (m + 1)) σ := by
      rw [fMd_list_l84_S, fMd_list_b84_E, if_neg c0]
      rcases h7 with h7 | h7
      · rw [h7, if_pos rfl, ← h7]; exact ps2
      · by_cases z : i3 m = i3 0
        · rw [if_pos z]; exact ps2
        · rw [if_neg z, if_neg h7]; exact ps2
    rw [st]
    have bf := bst_fst I hr (b := b) (x6 := x6) rfl (by omega)
    obtain ⟨f', rfl⟩ : ∃ f', f = f' + 1 := ⟨f - 1, by omega⟩
    cases hB : bst σ r b x6 (nv (σ 26 r)) with
    | none =>
      rw [hB] at bf
      rw [nthF_fno bf.symm, fMd_list_l84_S, fMd_list_b84_E]
      show (if i3 p < i3 (m + 1) then some (i3 0, σ) else if i3 (m + 1) = i3 0 then _ else if i3 0 ≤ i3 0 then some (i3 0, σ) else _) = some (i3 0, σ)
      by_cases z : i3 p < i3 (m + 1)
      · rw [if_pos z]
      · rw [if_neg z, if_neg (fun y => by have := (i3_inj (by omega) (by omega)).mp y; omega), if_pos (by decide)]
    | some w =>
      rw [hB] at bf
      obtain ⟨v1, v2, v3, v4, v5, -⟩ := bst_lt I hr (Nat.le_refl _) hB
      rw [nthF_fs bf.symm]
      show fMd_list_l84 (f' + 1) (i3 r) (i3 b) (i3 p) (i3 w) (i3 (kow w)) (i3 (m + 1)) σ = _
      by_cases z : p - m = 0
      · rw [if_pos z, fMd_list_l84_S, fMd_list_b84_E, if_pos ((i3_lt hp (by omega)).mpr (by omega))]
        rfl
      · rw [if_neg z]
        have e1 : max 25 (w + 1) = w + 1 := by omega
        have e2 : max 25 (x6 + 1) + (125 - max 25 (x6 + 1)) - (w + 1) = 125 - (w + 1) := by omega
        have e3 : p - m - 1 = p - (m + 1) := by omega
        by_cases q : w = 124
        · rw [e2, q, show 125 - (124 + 1) = 0 from rfl]
          show _ = some (i3 0, σ)
          have kz := kO_gt (w := w) v2 v4
          have ps3 := m_pass_l I hr hb hb2 (x6 := 124) (by omega) (fMd_list_l84 f') (i3 p) (m + 1) (nv (σ 26 r)) 0 FU (by omega) (FU_S (by have := (I.vn r hr).2; omega))
          have bf2 := bst_fst I hr (b := b) (x6 := 124) rfl (by omega)
          have bf3 : bst σ r b 124 (nv (σ 26 r)) = none := bf2
          have ps4 : fMd_list_j101 (fMd_list_l84 f') (i3 r) (i3 b) (i3 p) (i3 124) (i3 (m + 1)) σ = fMd_list_l84 f' (i3 r) (i3 b) (i3 p) (wO (bst σ r b 124 (nv (σ 26 r)))) (kO (bst σ r b 124 (nv (σ 26 r)))) (i3 (m + 1 + 1)) σ := by
            rw [fMd_list_j101_E, i3_mul]
            exact ps3
          rw [q] at kz
          rw [fMd_list_l84_S, fMd_list_b84_E, if_neg (fun y => absurd ((i3_lt hp (by omega)).mp y) (by omega)), if_neg (fun y => by have := (i3_inj (by omega) (by omega)).mp y; omega), if_neg kz, ps4, bf3]
          obtain ⟨f2, rfl⟩ : ∃ f2, f' = f2 + 1 := ⟨f' - 1, by omega⟩
          rw [fMd_list_l84_S, fMd_list_b84_E]
          show (if i3 p < i3 (m + 1 + 1) then some (i3 0, σ) else if i3 (m + 1 + 1) = i3 0 then _ else if i3 0 ≤ i3 0 then some (i3 0, σ) else _) = some (i3 0, σ)
          by_cases z5 : i3 p < i3 (m + 1 + 1)
          · rw [if_pos z5]
          · rw [if_neg z5, if_neg (fun y => by have := (i3_inj (by omega) (by omega)).mp y; omega), if_pos (by decide)]
        · have := ih (125 - w) (by omega) w (m + 1) (f' + 1) (i3 (kow w)) (by omega) (by omega) (by omega) (by omega) (by omega) (Or.inr (kO_gt v2 v4))
          rw [this, e1, e2, e3]
theorem fst_r (x : Int32) (h : x = i3 0 ∨ x ≠ i3 0 ∧ fMd_isKey x = some (i3 1) ∧ ISK x) : ∃ b, b < 125 ∧ x = i3 b ∧ (b = 0 ∨ (b ≠ 0 ∧ iskb b = true)) := by
  rcases h with h | ⟨h0, -, h2⟩
  · exact ⟨0, by omega, h, Or.inl rfl⟩
  · obtain ⟨k, k1, k2, ke⟩ := isk_k h2
    refine ⟨k, k2, ke, Or.inr ⟨by omega, ?_⟩⟩
    rw [ke] at h2
    exact decide_eq_true h2
theorem op_list (R : RR h own B σ M n) (I : IV c σ) (x1 x2 x3 x4 : Int32) : OPR h c σ n (fHb_list h x1 x2 x3 x4 M n) (fMd_list x1 x2 x3 x4 σ) (cdf 1 2 0) := by
  have k := R.hb.k
  have hn : n ≤ n + 1 := Nat.le_succ n
  have hn0 : n ≤ n := Nat.le_refl n
  have m27 : ∃ s0, fMd_list x1 x2 x3 x4 σ = fMd_list_j27 x1 x2 x3 x4 s0 σ ∧ ((s0 = i3 1 ∧ (∀ (M : Mm) (n : Nat), fHb_checkBeginning x2 M n = some (.inl (), M, n)) ∧ (∀ (M : Mm) (n : Nat), fHb_checkBeginning x3 M n = some (.inl (), M, n)) ∧ (x2 = i3 0 ∨ x2 ≠ i3 0 ∧ fMd_isKey x2 = some (i3 1) ∧ ISK x2) ∧ (x3 = i3 0 ∨ x3 ≠ i3 0 ∧ fMd_isKey x3 = some (i3 1) ∧ ISK x3)) ∨ (s0 = i3 0 ∧ ((∀ (M : Mm) (n : Nat), fHb_checkBeginning x2 M n = some (.inr 1, M, n + 1)) ∨ ((∀ (M : Mm) (n : Nat), fHb_checkBeginning x2 M n = some (.inl (), M, n)) ∧ (∀ (M : Mm) (n : Nat), fHb_checkBeginning x3 M n = some (.inr 1, M, n + 1)))))) := by
    rcases beg_cases x2 with ⟨q1, p1⟩ | ⟨q1, p0, p1⟩
    · have e1 : fMd_list x1 x2 x3 x4 σ = fMd_list_j11 x1 x2 x3 x4 σ := by
        rcases p1 with p1 | ⟨p0, p1, -⟩
        · rw [fMd_list_E, if_pos p1]
        · rw [fMd_list_E, if_neg p0, p1, bdR_s, if_neg (by decide)]
      rcases beg_cases x3 with ⟨q2, r1⟩ | ⟨q2, r0, r1⟩
      · refine ⟨i3 1, ?_, Or.inl ⟨rfl, q1, q2, p1, r1⟩⟩
        rw [e1]
        rcases r1 with r1 | ⟨r0, r1, -⟩
        · rw [fMd_list_j11_E, if_pos r1, fMd_list_j22_E]
        · rw [fMd_list_j11_E, if_neg r0, r1, bdR_s, if_neg (by decide), fMd_list_j22_E]
      · refine ⟨i3 0, ?_, Or.inr ⟨rfl, Or.inr ⟨q1, q2⟩⟩⟩
        rw [e1, fMd_list_j11_E, if_neg r0, r1, bdR_s, if_pos rfl, fMd_list_j26_E]
    · refine ⟨i3 0, ?_, Or.inr ⟨rfl, Or.inl q1⟩⟩
      rw [fMd_list_E, if_neg p0, p1, bdR_s, if_pos rfl, fMd_list_j26_E]
  obtain ⟨s0, em, cs⟩ := m27
  rw [em]
  rcases regs x1 with ⟨r, hr, rfl⟩ | ⟨h0, h1⟩
  · have q1 := c_reg (n := n) R hr
    have q2 := m_reg hr
    rcases i3_cases x4 with a | ⟨p, hp, rfl⟩
    · have a2 := neg_le a
      refine OPR.err R I 0 1 (v := i3 0) ?_ ?_ rfl (by omega) (by omega)
      · clear cs em R I
        simp (disch := (first | assumption | omega | decide | (simp only [mK_uI, mK_uP, mL_uI, mL_uP, mK_wI, mL_wI, mK_nA_e, mL_nA_e] <;> (first | assumption | omega)))) only [i3_le_t, i3_le_f, i3_lt_t, i3_lt_f, i3_eq_t, i3_eq_f, i3_add, i3_mul, i3_sub, i3_div, i3_dec, i3_m1, m1_i3, m1_eq, i3_ge0, m1_lt, i3_le_m1, ↓reduceIte, rZ_0, rZ_1, bdR_s, bdW_s, ifN_n, ifN_s, ↓fgI_s, ↓fgR_s, ↓rk_s, ↓fpI_s, ↓fpR_s, ↓fpZ_0, ↓fpZ_1, ↓alI_i, ↓alP_i, ↓asI_i, ↓asB_i, ↓asZ_0, ↓asZ_1, ↓aln_i, ↓fca_s, ↓fca_n, bdC_li, bdC_ri, mK_uI, mK_uP, mL_uI, mL_uP, mP_uI, mI_uP, mK_wI, mL_wI, mP_wI, mI_uI_e, mI_uI_c, nwO_s, mK_nA_e, mL_nA_e, fHb_list_E, q1, a, fHb_list_j17_E, c_idx0]
      · clear cs em R I
        simp (disch := (first | assumption | omega | decide | (simp only [mK_uI, mK_uP, mL_uI, mL_uP, mK_wI, mL_wI, mK_nA_e, mL_nA_e] <;> (first | assumption | omega)))) only [i3_le_t, i3_le_f, i3_lt_t, i3_lt_f, i3_eq_t, i3_eq_f, i3_add, i3_mul, i3_sub, i3_div, i3_dec, i3_m1, m1_i3, m1_eq, i3_ge0, m1_lt, i3_le_m1, ↓reduceIte, rZ_0, rZ_1, bdR_s, bdW_s, ifN_n, ifN_s, uS_n, uS_e, uS_d, ↓mgF_s, ↓mpF_s, ↓mgA_2, ↓mgA_4, ↓mgA_6, ↓mgA_7, ↓mgA_9, ↓mgA_10, ↓mgA_12, ↓mgA_14, ↓mgA_15, ↓mgA_16, ↓mgA_17, ↓mgA_18, ↓mgA_19, ↓mgA_20, ↓mgA_21, ↓mgA_22, ↓mgA_23, ↓mgA_24, ↓mgA_25, ↓mgA_26, ↓mgA_27, ↓mgA_28, ↓mgA_29, ↓mgA_30, ↓mgA_31, ↓mgA_32, ↓mgA_33, ↓mgA_34, ↓mgA_35, ↓mgA_36, ↓mgA_37, ↓mgA_38, ↓mgA_39, ↓mgA_41, ↓mgA_42, ↓mgA_43, ↓mgA_44, ↓mgA_45, ↓mgA_46, ↓mpA_2, ↓mpA_4, ↓mpA_6, ↓mpA_7, ↓mpA_9, ↓mpA_10, ↓mpA_12, ↓mpA_14, ↓mpA_15, ↓mpA_16, ↓mpZ_17, ↓mpA_18, ↓mpZ_19, ↓mpA_20, ↓mpA_21, ↓mpA_22, ↓mpA_23, ↓mpA_24, ↓mpZ_25, ↓mpA_26, ↓mpA_27, ↓mpA_28, ↓mpA_29, ↓mpA_30, ↓mpA_31, ↓mpA_32, ↓mpA_33, ↓mpA_34, ↓mpZ_35, ↓mpA_36, ↓mpA_37, ↓mpA_38, ↓mpA_39, ↓mpA_41, ↓mpA_42, ↓mpZ_43, ↓mpA_44, ↓mpA_45, ↓mpA_46, fMd_list_j27_E, q2, a2, fMd_list_j42_E, fMd_list_j56_E, m_holdsk]
    · have a2 := i3_00 hp
      have ec : fHb_list h (i3 r) x2 x3 (i3 p) M n = fHb_list_j17 h x2 x3 (i3 p) (some (gr h r)) (i3 1) M n := by
        rw [fHb_list_E, rk_s k, q1, bdC_li hn0, if_neg (fun z => absurd ((i3_lt hp (by omega)).mp z) (by omega))]
      rw [ec, fHb_list_j17_E, c_idx1, bdC_li hn0]
      rcases cs with ⟨rfl, cb1, cb2, b1, b2⟩ | ⟨rfl, cs⟩
      · obtain ⟨b, hb125, rfl, hb⟩ := fst_r x2 b1
        obtain ⟨a, ha125, rfl, ha⟩ := fst_r x3 b2
        have hb' : b = 0 ∨ iskb b = true := hb.imp id (fun z => z.2)
        rw [cb1, bdC_li hn0, cb2, bdC_li hn0]
        have I' := I.scf (scf0 (i3 0))
        have em2 : fMd_list_j27 (i3 r) (i3 b) (i3 a) (i3 p) (i3 1) σ = fMd_list_j56 (i3 r) (i3 b) (i3 a) (i3 p) (i3 0) σ := by
          rw [fMd_list_j27_E, q2, bdR_s, if_neg (by decide), if_pos (by rw [a2]; trivial), if_neg (by decide)]
        have gde : ∀ w, gd (uS σ 0 0 (i3 0)) r b w = gd σ r b w := fun w => by unfold gd; rw [obj_e (scf0 (i3 0))]
        have gdf : gd (uS σ 0 0 (i3 0)) r b = gd σ r b := funext gde
        rcases ha with rfl | ⟨ha0, ha⟩
        · have cl := c_list_l R I hr hb125 100 25 FU p (by omega) (FU_S (by omega)) hp
          have ml := m_list_l I' hr hb' hb125 hp 125 0 0 FU (i3 0) (by omega) (by omega) (FU_S (by omega)) (by omega) (by omega) (Or.inl rfl)
          have ml2 : fMd_list_l84 FU (i3 r) (i3 b) (i3 p) (i3 0) (i3 0) (i3 0) (uS σ 0 0 (i3 0)) = some (kO (nthF (gd (uS σ 0 0 (i3 0)) r b) 25 100 p), uS σ 0 0 (i3 0)) := ml
          rw [gdf] at ml2
          refine OPR.ok0 R I (w := kO (nthF (gd σ r b) 25 100 p)) ?_ ?_
          · rw [fKeys_wordBehind_E, if_pos rfl, bdR_s]; exact cl
          · rw [em2, fMd_list_j56_E, m_holds0, bdW_s, if_neg (by decide), if_pos rfl, fMd_list_j76_E]
            exact ml2
        · obtain ⟨w1, w2, w3, w4, w5⟩ := wk ha125 (of_decide_eq_true (p := fKeys_isKey (i3 a) = some (i3 1)) ha)
          have cl := c_list_l R I hr hb125 (125 - (wok a + 1)) (wok a + 1) FU p (by omega) (FU_S (by omega)) hp
          have ml := m_list_l I' hr hb' hb125 hp (125 - wok a) (wok a) 0 FU (i3 0) (by omega) (by omega) (FU_S (by omega)) (by omega) (by omega) (Or.inl rfl)
          rw [show max 25 (wok a + 1) = wok a + 1 by omega, Nat.sub_zero, gdf] at ml
          have na : ¬ i3 a = i3 0 := fun z => ha0 ((i3_inj (by omega) (by omega)).mp z)
          refine OPR.ok0 R I (w := kO (nthF (gd σ r b) (wok a + 1) (125 - (wok a + 1)) p)) ?_ ?_
          · rw [fKeys_wordBehind_E, if_neg na, w2, bdR_s, bdR_s, i3_add]; exact cl
          · rw [em2, fMd_list_j56_E, m_holds0, bdW_s, if_neg (by decide), if_neg na, w1, bdR_s, fMd_list_j76_E]
            exact ml
      · have em2 : fMd_list_j27 (i3 r) x2 x3 (i3 p) (i3 0) σ = some (i3 0, uS σ 0 0 (i3 2)) := by
          clear cs em R I
          simp (disch := (first | assumption | omega | decide | (simp only [mK_uI, mK_uP, mL_uI, mL_uP, mK_wI, mL_wI, mK_nA_e, mL_nA_e] <;> (first | assumption | omega)))) only [i3_le_t, i3_le_f, i3_lt_t, i3_lt_f, i3_eq_t, i3_eq_f, i3_add, i3_mul, i3_sub, i3_div, i3_dec, i3_m1, m1_i3, m1_eq, i3_ge0, m1_lt, i3_le_m1, ↓reduceIte, rZ_0, rZ_1, bdR_s, bdW_s, ifN_n, ifN_s, uS_n, uS_e, uS_d, ↓mgF_s, ↓mpF_s, ↓mgA_2, ↓mgA_4, ↓mgA_6, ↓mgA_7, ↓mgA_9, ↓mgA_10, ↓mgA_12, ↓mgA_14, ↓mgA_15, ↓mgA_16, ↓mgA_17, ↓mgA_18, ↓mgA_19, ↓mgA_20, ↓mgA_21, ↓mgA_22, ↓mgA_23, ↓mgA_24, ↓mgA_25, ↓mgA_26, ↓mgA_27, ↓mgA_28, ↓mgA_29, ↓mgA_30, ↓mgA_31, ↓mgA_32, ↓mgA_33, ↓mgA_34, ↓mgA_35, ↓mgA_36, ↓mgA_37, ↓mgA_38, ↓mgA_39, ↓mgA_41, ↓mgA_42, ↓mgA_43, ↓mgA_44, ↓mgA_45, ↓mgA_46, ↓mpA_2, ↓mpA_4, ↓mpA_6, ↓mpA_7, ↓mpA_9, ↓mpA_10, ↓mpA_12, ↓mpA_14, ↓mpA_15, ↓mpA_16, ↓mpZ_17, ↓mpA_18, ↓mpZ_19, ↓mpA_20, ↓mpA_21, ↓mpA_22, ↓mpA_23, ↓mpA_24, ↓mpZ_25, ↓mpA_26, ↓mpA_27, ↓mpA_28, ↓mpA_29, ↓mpA_30, ↓mpA_31, ↓mpA_32, ↓mpA_33, ↓mpA_34, ↓mpZ_35, ↓mpA_36, ↓mpA_37, ↓mpA_38, ↓mpA_39, ↓mpA_41, ↓mpA_42, ↓mpZ_43, ↓mpA_44, ↓mpA_45, ↓mpA_46, fMd_list_j27_E, q2, a2, fMd_list_j56_E, m_holdsk]
        rw [em2]
        rcases cs with cs | ⟨cs1, cs2⟩
        · refine OPR.err R I 1 2 (v := i3 0) ?_ rfl rfl (by omega) (by omega)
          rw [cs, bdC_ri hn]
        · refine OPR.err R I 1 2 (v := i3 0) ?_ rfl rfl (by omega) (by omega)
          rw [cs1, bdC_li hn0, cs2, bdC_ri hn]
  · have q1 := c_noreg (h := h) (M := M) (n := n) h0 h1
    have q2 := m_noreg h0 h1
    refine OPR.err R I 0 1 (v := i3 0) ?_ ?_ rfl (by omega) (by omega)
    · clear cs em R I
      simp (disch := (first | assumption | omega | decide | (simp only [mK_uI, mK_uP, mL_uI, mL_uP, mK_wI, mL_wI, mK_nA_e, mL_nA_e] <;> (first | assumption | omega)))) only [i3_le_t, i3_le_f, i3_lt_t, i3_lt_f, i3_eq_t, i3_eq_f, i3_add, i3_mul, i3_sub, i3_div, i3_dec, i3_m1, m1_i3, m1_eq, i3_ge0, m1_lt, i3_le_m1, ↓reduceIte, rZ_0, rZ_1, bdR_s, bdW_s, ifN_n, ifN_s, ↓fgI_s, ↓fgR_s, ↓rk_s, ↓fpI_s, ↓fpR_s, ↓fpZ_0, ↓fpZ_1, ↓alI_i, ↓alP_i, ↓asI_i, ↓asB_i, ↓asZ_0, ↓asZ_1, ↓aln_i, ↓fca_s, ↓fca_n, bdC_li, bdC_ri, mK_uI, mK_uP, mL_uI, mL_uP, mP_uI, mI_uP, mK_wI, mL_wI, mP_wI, mI_uI_e, mI_uI_c, nwO_s, mK_nA_e, mL_nA_e, fHb_list_E, q1]
    · clear cs em R I
      simp (disch := (first | assumption | omega | decide | (simp only [mK_uI, mK_uP, mL_uI, mL_uP, mK_wI, mL_wI, mK_nA_e, mL_nA_e] <;> (first | assumption | omega)))) only [i3_le_t, i3_le_f, i3_lt_t, i3_lt_f, i3_eq_t, i3_eq_f, i3_add, i3_mul, i3_sub, i3_div, i3_dec, i3_m1, m1_i3, m1_eq, i3_ge0, m1_lt, i3_le_m1, ↓reduceIte, rZ_0, rZ_1, bdR_s, bdW_s, ifN_n, ifN_s, uS_n, uS_e, uS_d, ↓mgF_s, ↓mpF_s, ↓mgA_2, ↓mgA_4, ↓mgA_6, ↓mgA_7, ↓mgA_9, ↓mgA_10, ↓mgA_12, ↓mgA_14, ↓mgA_15, ↓mgA_16, ↓mgA_17, ↓mgA_18, ↓mgA_19, ↓mgA_20, ↓mgA_21, ↓mgA_22, ↓mgA_23, ↓mgA_24, ↓mgA_25, ↓mgA_26, ↓mgA_27, ↓mgA_28, ↓mgA_29, ↓mgA_30, ↓mgA_31, ↓mgA_32, ↓mgA_33, ↓mgA_34, ↓mgA_35, ↓mgA_36, ↓mgA_37, ↓mgA_38, ↓mgA_39, ↓mgA_41, ↓mgA_42, ↓mgA_43, ↓mgA_44, ↓mgA_45, ↓mgA_46, ↓mpA_2, ↓mpA_4, ↓mpA_6, ↓mpA_7, ↓mpA_9, ↓mpA_10, ↓mpA_12, ↓mpA_14, ↓mpA_15, ↓mpA_16, ↓mpZ_17, ↓mpA_18, ↓mpZ_19, ↓mpA_20, ↓mpA_21, ↓mpA_22, ↓mpA_23, ↓mpA_24, ↓mpZ_25, ↓mpA_26, ↓mpA_27, ↓mpA_28, ↓mpA_29, ↓mpA_30, ↓mpA_31, ↓mpA_32, ↓mpA_33, ↓mpA_34, ↓mpZ_35, ↓mpA_36, ↓mpA_37, ↓mpA_38, ↓mpA_39, ↓mpA_41, ↓mpA_42, ↓mpZ_43, ↓mpA_44, ↓mpA_45, ↓mpA_46, fMd_list_j27_E, q2, fMd_list_j42_E, fMd_list_j56_E, m_holdsk]
end LJ

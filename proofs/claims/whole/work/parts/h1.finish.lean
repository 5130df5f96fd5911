set_option maxRecDepth 100000
/-! finish -/
section FI
variable {h c n r : Nat} {own : Nat → Nat} {B : BK} {σ σ' σh τ : Sg} {M M' : Mm}
/-- the pieces of an upload behind one another -/
def jgF (σ : Sg) (u : Nat) : Nat → Nat → Int32
  | 0 => fun _ => i3 0
  | k + 1 => fun j => if pcsum (σ 44) u k ≤ j ∧ j < pcsum (σ 44) u (k + 1) then σ 45 (40 * (9 * u + k) + (j - pcsum (σ 44) u k)) else jgF σ u k j
theorem jgF_S {u k j : Nat} : jgF σ u (k + 1) j = if pcsum (σ 44) u k ≤ j ∧ j < pcsum (σ 44) u (k + 1) then σ 45 (40 * (9 * u + k) + (j - pcsum (σ 44) u k)) else jgF σ u k j := rfl
theorem pcsum_S {s : Nat → Int32} {u k : Nat} : pcsum s u (k + 1) = pcsum s u k + nv (s (9 * u + k)) := rfl
theorem pcsum_mono {s : Nat → Int32} {u : Nat} : ∀ {d k : Nat}, pcsum s u k ≤ pcsum s u (k + d) := by
  intro d
  induction d with
  | zero => intro k; exact Nat.le_refl _
  | succ d ih =>
    intro k
    show _ ≤ pcsum s u (k + d) + nv (s (9 * u + (k + d)))
    have := ih (k := k)
    omega
theorem jgF_15 {u : Nat} (hu : ∀ k, k < 9 → ∀ j, j < nv (σ 44 (9 * u + k)) → NB 15 (σ 45 (40 * (9 * u + k) + j))) : ∀ k, k ≤ 9 → ∀ j, j < pcsum (σ 44) u k → NB 15 (jgF σ u k j) := by
  intro k
  induction k with
  | zero => intro _ j hj; exact absurd hj (Nat.not_lt_zero j)
  | succ k ih =>
    intro hk j hj
    rw [pcsum_S] at hj
    rw [jgF_S, pcsum_S]
    by_cases z : pcsum (σ 44) u k ≤ j ∧ j < pcsum (σ 44) u k + nv (σ 44 (9 * u + k))
    · rw [if_pos z]; exact hu k (by omega) _ (by omega)
    · rw [if_neg z]; exact ih (by omega) j (by omega)
theorem c_joinInto {u : Nat} (R : RR h own B σ M n) (I : IV c σ) (hu : u < nv (σ 40 0)) (h12 : u < 12) : ∃ M', fUpload_joinInto (ul B u) (some (h + 35)) M = some ((), M') ∧ IOS (fun cc x => (cc = 101 ∧ x = h + 35) ∨ (cc = 0 ∧ x = h + 35 + 1)) M M' ∧ mI M' 101 (h + 35) 0 = i3 (pcsum (σ 44) u 9) ∧ ∀ j, j < pcsum (σ 44) u 9 → mI M' 0 (h + 35 + 1) j = jgF σ u 9 j := by
  have hh := R.hb
  obtain ⟨p40, pn⟩ := I.up u h12
  have lp : ∀ d k fu (M2 : Mm), d + k = 9 → d < fu → IOS (fun cc x => (cc = 101 ∧ x = h + 35) ∨ (cc = 0 ∧ x = h + 35 + 1)) M M2 → mI M2 101 (h + 35) 0 = i3 (pcsum (σ 44) u k) → (∀ j, j < pcsum (σ 44) u k → mI M2 0 (h + 35 + 1) j = jgF σ u k j) → ∃ M', fUpload_joinInto_l6 (ul B u) fu (some (h + 35)) (i3 k) M2 = some ((), M') ∧ IOS (fun cc x => (cc = 101 ∧ x = h + 35) ∨ (cc = 0 ∧ x = h + 35 + 1)) M M' ∧ mI M' 101 (h + 35) 0 = i3 (pcsum (σ 44) u 9) ∧ ∀ j, j < pcsum (σ 44) u 9 → mI M' 0 (h + 35 + 1) j = jgF σ u 9 j := by
    intro d
    induction d with
    | zero =>
      intro k fu M2 hd hfu f2 m2 v2
      obtain ⟨f, rfl⟩ : ∃ f, fu = f + 1 := ⟨fu - 1, by omega⟩
      have fm : FRM (fun x => x = 3) own M own M2 := f2.frm fun cc a z _ => by
        rcases z with z | z
        · rw [z.2]; exact hh.jo.o
        · rw [z.2]; exact hh.jo.ro
      have R2 : RR h own B σ M2 n := R.scr fm fun x hx => by omega
      have U := R2.uo u hu
      have hk : k = 9 := by omega
      subst hk
      refine ⟨M2, ?_, f2, m2, v2⟩
      rw [fUpload_joinInto_l6_S, fUpload_joinInto_b6_E, fgR_s U.b.k, U.b.p2, aln_i U.b.rk (by decide) (by decide), U.b.rl, if_pos ((i3_le (by omega) (by omega)).mpr (Nat.le_refl 9))]
    | succ d ih =>
      intro k fu M2 hd hfu f2 m2 v2
      obtain ⟨f, rfl⟩ : ∃ f, fu = f + 1 := ⟨fu - 1, by omega⟩
      have fm : FRM (fun x => x = 3) own M own M2 := f2.frm fun cc a z _ => by
        rcases z with z | z
        · rw [z.2]; exact hh.jo.o
        · rw [z.2]; exact hh.jo.ro
      have R2 : RR h own B σ M2 n := R.scr fm fun x hx => by omega
      have U := R2.uo u hu
      obtain ⟨u1, u2, u3, u4⟩ := U.pc k (by omega)
      obtain ⟨n44, n45⟩ := pn k (by omega)
      have ps : pcsum (σ 44) u (k + 1) = pcsum (σ 44) u k + nv (σ 44 (9 * u + k)) := rfl
      have pm := pcsum_mono (s := σ 44) (u := u) (k := k + 1) (d := 9 - (k + 1))
      rw [show k + 1 + (9 - (k + 1)) = 9 by omega] at pm
      have ne : h + 35 ≠ ul B u + 2 + 2 * k := fun e => by
        have o1 := u2.o
        rw [← e, R2.hb.jo.o] at o1; omega
      have u3' : mI M2 101 (ul B u + 2 + 2 * k) 0 = i3 (nv (σ 44 (9 * u + k))) := u3.trans n44.1
      obtain ⟨M3, a1, a2, a3, a4⟩ := c_appendAll (A := pcsum (σ 44) u k) (D := nv (σ 44 (9 * u + k))) (g := fun j => nv (σ 45 (40 * (9 * u + k) + j))) R2.hb.jo u2 ne m2 u3' (by omega) (fun j hj => by
        have x := n45 j hj
        exact ⟨(u4 j hj).trans x.1, by have := x.2; show nv (σ 45 (40 * (9 * u + k) + j)) < 128; omega⟩)
      obtain ⟨M', b1, b2, b3, b4⟩ := ih (k + 1) f M3 (by omega) (by omega) (f2.then a2) a3 (fun j hj => by
        rw [a4, jgF_S, ps]
        by_cases z : pcsum (σ 44) u k ≤ j ∧ j < pcsum (σ 44) u k + nv (σ 44 (9 * u + k))
        · rw [if_pos z, if_pos z]
          exact (n45 _ (by omega)).1.symm
        · rw [if_neg z, if_neg z]; exact v2 j (by rw [ps] at hj; omega))
      refine ⟨M', ?_, b2, b3, b4⟩
      rw [fUpload_joinInto_l6_S, fUpload_joinInto_b6_E, fgR_s U.b.k, U.b.p2, aln_i U.b.rk (by decide) (by decide), U.b.rl, if_neg (fun w => absurd ((i3_le (by omega) (by omega)).mp w) (by omega)), fgR_s U.b.k, U.b.p2, alP_i U.b.rk (by rw [U.b.rl]; omega) (by omega), u1, rk_s R2.hb.jo.k, a1, bdW_s, i3_add]
      exact b1
  obtain ⟨M', b1, b2, b3, b4⟩ := lp 9 0 FU (uI M 101 (h + 35) 0 (i3 0)) (by omega) (FU_S (by omega)) ((IOS.uI _ _ _ _).mono fun cc x z => Or.inl z) (mI_uI_e _ _ _ _ _) (fun j hj => absurd hj (Nat.not_lt_zero j))
  refine ⟨M', ?_, b2, b3, b4⟩
  rw [fUpload_joinInto_E, rk_s hh.jo.k, fBytes_makeEmpty_E, fpI_s hh.jo.k, bdW_s]
  exact b1
theorem m_joins {u : Nat} (I : IV c σ) (h12 : u < 12) : ∃ σ', fMd_joins (i3 u) σ = some ((), σ') ∧ (∀ k, k ≠ 3 → k ≠ 4 → k ≠ 5 → k ≠ 6 → k ≠ 7 → σ' k = σ k) ∧ AHD σ' (pcsum (σ 44) u 9) (jgF σ u 9) ∧ MCR σ' (cS (jgF σ u 9) (pcsum (σ 44) u 9) (pcsum (σ 44) u 9)) := by
  obtain ⟨p40, pn⟩ := I.up u h12
  have inn : ∀ (k7 : Int32 → Int32 → Sg → Option (Unit × Sg)) k, k < 9 → ∀ d x fu (σ2 : Sg), d + x = nv (σ 44 (9 * u + k)) → d < fu → (∀ f, f ≠ 3 → f ≠ 4 → σ2 f = σ f) → σ2 3 0 = i3 (pcsum (σ 44) u k + x) → (∀ j, j < pcsum (σ 44) u k + x → σ2 4 j = jgF σ u (k + 1) j) → ∃ σ3, fMd_joins_l15 k7 fu (i3 u) (i3 k) (i3 x) σ2 = k7 (i3 u) (i3 (k + 1)) σ3 ∧ (∀ f, f ≠ 3 → f ≠ 4 → σ3 f = σ f) ∧ σ3 3 0 = i3 (pcsum (σ 44) u (k + 1)) ∧ ∀ j, j < pcsum (σ 44) u (k + 1) → σ3 4 j = jgF σ u (k + 1) j := by
    intro k7 k hk d
    obtain ⟨n44, n45⟩ := pn k hk
    have ps : pcsum (σ 44) u (k + 1) = pcsum (σ 44) u k + nv (σ 44 (9 * u + k)) := rfl
    have pm := pcsum_mono (s := σ 44) (u := u) (k := k + 1) (d := 9 - (k + 1))
    rw [show k + 1 + (9 - (k + 1)) = 9 by omega] at pm
    have e44 : σ 44 (9 * u + k) = i3 (nv (σ 44 (9 * u + k))) := n44.1
    induction d with
    | zero =>
      intro x fu σ2 hd hfu e2 e3 v2
      obtain ⟨f, rfl⟩ : ∃ f, fu = f + 1 := ⟨fu - 1, by omega⟩
      rw [Nat.zero_add] at hd
      refine ⟨σ2, ?_, e2, by rw [ps, ← hd]; exact e3, fun j hj => v2 j (by rw [ps, ← hd] at hj; exact hj)⟩
      rw [fMd_joins_l15_S, fMd_joins_b15_E, i3_mul, i3_add, mgA_44 (by omega), e2 44 (by decide) (by decide), e44, ← hd, if_pos ((i3_le (by omega) (by omega)).mpr (Nat.le_refl x)), i3_add]
    | succ d ih =>
      intro x fu σ2 hd hfu e2 e3 v2
      obtain ⟨f, rfl⟩ : ∃ f, fu = f + 1 := ⟨fu - 1, by omega⟩
      have x40 : nv (σ 44 (9 * u + k)) ≤ 40 := n44.2
      have s3 : uS σ2 4 (pcsum (σ 44) u k + x) (σ 45 (40 * (9 * u + k) + x)) 3 0 = i3 (pcsum (σ 44) u k + x) := by rw [uS_n _ _ _ (by decide)]; exact e3
      obtain ⟨σ3, a1, a2, a3, a4⟩ := ih (x + 1) f (uS (uS σ2 4 (pcsum (σ 44) u k + x) (σ 45 (40 * (9 * u + k) + x))) 3 0 (i3 (pcsum (σ 44) u k + x + 1))) (by omega) (by omega) (fun g h3 h4 => by rw [uS_n _ _ _ h3, uS_n _ _ _ h4]; exact e2 g h3 h4) (by rw [uS_e, Nat.add_assoc]) (fun j hj => by
        rw [uS_n _ _ _ (by decide)]
        by_cases z : j = pcsum (σ 44) u k + x
        · rw [z, uS_e, jgF_S, ps, if_pos (by omega), Nat.add_sub_cancel_left]
        · rw [uS_d _ _ _ _ z]; exact v2 j (by omega))
      refine ⟨σ3, ?_, a2, a3, a4⟩
      rw [fMd_joins_l15_S, fMd_joins_b15_E, i3_mul, i3_add, mgA_44 (by omega), e2 44 (by decide) (by decide), if_neg (by rw [e44]; exact fun w => absurd ((i3_le (by omega) (by omega)).mp w) (by omega)), mgF_s, e3, i3_mul, i3_add, mgA_45 (by omega), e2 45 (by decide) (by decide), mpA_4 (by omega), mgF_s, s3, mpF_s, i3_add, i3_add]
      exact a1
  have lp : ∀ d k fu (σ2 : Sg), d + k = 9 → d < fu → (∀ f, f ≠ 3 → f ≠ 4 → σ2 f = σ f) → σ2 3 0 = i3 (pcsum (σ 44) u k) → (∀ j, j < pcsum (σ 44) u k → σ2 4 j = jgF σ u k j) → ∃ σ', fMd_joins_l7 fu (i3 u) (i3 k) σ2 = some ((), σ') ∧ (∀ k, k ≠ 3 → k ≠ 4 → k ≠ 5 → k ≠ 6 → k ≠ 7 → σ' k = σ k) ∧ AHD σ' (pcsum (σ 44) u 9) (jgF σ u 9) ∧ MCR σ' (cS (jgF σ u 9) (pcsum (σ 44) u 9) (pcsum (σ 44) u 9)) := by
    intro d
    induction d with
    | zero =>
      intro k fu σ2 hd hfu e2 e3 v2
      obtain ⟨f, rfl⟩ : ∃ f, fu = f + 1 := ⟨fu - 1, by omega⟩
      have hk : k = 9 := by omega
      subst hk
      obtain ⟨σ3, a1, a2, a3⟩ := m_cuts (σ := σ2) (m := pcsum (σ 44) u 9) (g := jgF σ u 9) ⟨e3, v2⟩ p40
      refine ⟨σ3, ?_, fun k k3 k4 k5 k6 k7 => (a2 k k5 k6 k7).trans (e2 k k3 k4), ⟨by rw [a2 3 (by decide) (by decide) (by decide)]; exact e3, fun x hx => by rw [a2 4 (by decide) (by decide) (by decide)]; exact v2 x hx⟩, a3⟩
      rw [fMd_joins_l7_S, fMd_joins_b7_E, if_pos ((i3_le (by omega) (by omega)).mpr (Nat.le_refl 9)), a1, bdW_s]
    | succ d ih =>
      intro k fu σ2 hd hfu e2 e3 v2
      obtain ⟨f, rfl⟩ : ∃ f, fu = f + 1 := ⟨fu - 1, by omega⟩
      have x40 : nv (σ 44 (9 * u + k)) ≤ 40 := (pn k (by omega)).1.2
      obtain ⟨σ3, a1, a2, a3, a4⟩ := inn (fMd_joins_l7 f) k (by omega) (nv (σ 44 (9 * u + k))) 0 FU σ2 (by omega) (FU_S (by omega)) e2 e3 (fun j hj => by rw [jgF_S, if_neg (by omega)]; exact v2 j (by omega))
      obtain ⟨σ', b1, b2, b3, b4⟩ := ih (k + 1) f σ3 (by omega) (by omega) a2 a3 a4
      refine ⟨σ', ?_, b2, b3, b4⟩
      rw [fMd_joins_l7_S, fMd_joins_b7_E, if_neg (fun w => absurd ((i3_le (by omega) (by omega)).mp w) (by omega)), a1]
      exact b1
  rw [fMd_joins_E, mpF_s]
  exact lp 9 0 FU _ (by omega) (FU_S (by omega)) (fun f h3 _ => uS_n _ _ _ h3) (uS_e _ _ _ _) (fun j hj => absurd hj (Nat.not_lt_zero j))
theorem RR.setov {u : Nat} (R : RR h own B σ M n) (hu : u < nv (σ 40 0)) : RR h own B (uS σ 43 u (i3 1)) (uI M 903 (ul B u) 0 (i3 1)) n := by
  have U := R.uo u hu
  have io : IOS (fun cc a => cc = 903 ∧ a = ul B u) M (uI M 903 (ul B u) 0 (i3 1)) := IOS.uI _ _ _ _
  have f : FRM (fun t => t = 30 + u) own M own (uI M 903 (ul B u) 0 (i3 1)) := io.frm fun cc a z _ => by rw [z.2]; exact U.b.o
  have huo : ∀ u', u' < nv (σ 40 0) → UPC own (uI M 903 (ul B u) 0 (i3 1)) (ul B u') (30 + u') (gr h (nv (σ 41 u'))) (σ 42 u') (uS σ 43 u (i3 1) 43 u') (fun k => σ 44 (9 * u' + k)) (fun k j => σ 45 (40 * (9 * u' + k) + j)) := fun u' hu' => by
    by_cases z : u' = u
    · subst z
      rw [uS_e]
      refine ⟨U.b.keep fun a o => ⟨rfl, io.K a, io.L a, fun cc j => io.P cc a j⟩, (mI_uI_c _ _ _ _ (by decide) _ _).trans U.ke, mI_uI_e _ _ _ _ _, fun k hk => ?_⟩
      obtain ⟨a1, a2, a3, a4⟩ := U.pc k hk
      exact ⟨a1, a2.keep fun a o => ⟨rfl, io.K a, io.L a, fun cc j => io.P cc a j⟩, (mI_uI_c _ _ _ _ (by decide) _ _).trans a3, fun j hj => (mI_uI_c _ _ _ _ (by decide) _ _).trans (a4 j hj)⟩
    · rw [uS_d _ _ _ _ z]
      exact R.k_uo f hu' (by omega)
  exact ⟨R.fr, R.k_em f, R.k_hb f, R.k_rg f, R.k_nm f (by first | omega | (intro z; dsimp only at z; omega)), R.k_dy f (by first | omega | (intro z; dsimp only at z; omega)), R.k_dm f (by first | omega | (intro z; dsimp only at z; omega)), R.k_db f (by first | omega | (intro z; dsimp only at z; omega)), R.k_nb f (by first | omega | (intro z; dsimp only at z; omega)), R.k_co f (by first | omega | (intro z; dsimp only at z; omega)), fun r0 hr0 => R.k_up f hr0 (by first | omega | (intro z; dsimp only at z; omega)), fun r0 hr0 => R.k_hd f hr0 (by first | omega | (intro z; dsimp only at z; omega)), R.k_en f (by first | omega | (intro z; dsimp only at z; omega)), fun r0 hr0 => R.k_vl f hr0 (by first | omega | (intro z; dsimp only at z; omega)), fun r0 hr0 => R.k_vo f hr0 (by first | omega | (intro z; dsimp only at z; omega)), fun r0 hr0 => R.k_kl f hr0 (by first | omega | (intro z; dsimp only at z; omega)), fun r0 hr0 => R.k_pl f hr0 (by first | omega | (intro z; dsimp only at z; omega)), fun r0 hr0 => R.k_po f hr0 (by first | omega | (intro z; dsimp only at z; omega)), R.k_us f (by first | omega | (intro z; dsimp only at z; omega)), huo, R.k_rs f (by first | omega | (intro z; dsimp only at z; omega)), R.k_ro f (by first | omega | (intro z; dsimp only at z; omega))⟩
theorem IV_setov {u : Nat} (I : IV c σ) (hu : u < nv (σ 40 0)) : IV c (uS σ 43 u (i3 1)) := by
  have huo : ∀ u', u' < nv (σ 40 0) → IVU (uS σ 43 u (i3 1)) u' := fun u' hu' => by
    obtain ⟨a, b, d⟩ := I.uo u' hu'
    refine ⟨a, b, ?_⟩
    by_cases z : u' = u
    · rw [z, uS_e]; exact NB.of (by omega) (by omega)
    · rw [uS_d _ _ _ _ z]; exact d
  have huz : ∀ u', nv (σ 40 0) ≤ u' → u' < 12 → uS σ 43 u (i3 1) 43 u' = i3 0 ∧ ∀ k, k < 9 → σ 44 (9 * u' + k) = i3 0 := fun u' h1 h2 => by
    obtain ⟨a, b⟩ := I.uz u' h1 h2
    exact ⟨by rw [uS_d _ _ _ _ (by omega)]; exact a, b⟩
  exact ⟨I.dr, I.db, I.ev, I.dy, I.dc, I.en, I.vn, I.vo, I.vi, I.hd, I.kn, I.ks, I.ko, I.pn, I.po, I.dn, I.un, huo, huz, I.up, I.rn, I.rk⟩
theorem op_finish (R : RR h own B σ M n) (I : IV c σ) (x1 : Int32) {v : Nat} (hv : v ≤ 1) : OPR h c σ n (fHb_finish h x1 (i3 v) M n) (fMd_finish x1 (i3 v) σ) (cdf 1 0 2) := by
  have hh := R.hb
  have hn : n ≤ n + 1 := Nat.le_succ n
  have hn0 : n ≤ n := Nat.le_refl n
  rcases up_cases R I x1 with ⟨q1, q2⟩ | ⟨u, hu, h12, rfl, q1, q2, ov⟩
  · refine OPR.err R I 0 1 (v := i3 0) ?_ ?_ rfl (by omega) (by omega)
    · rw [fHb_finish_E, rk_s hh.k, q1, bdC_ri hn]
    · rw [fMd_finish_E, q2, bdR_s, if_pos rfl, fMd_finish_j15_E, if_pos rfl, fMd_finish_j53_E, m_holdsk (by decide) (by decide), bdW_s, if_pos rfl]
  · have U := R.uo u hu
    obtain ⟨IU1, IU2, IU3⟩ := I.uo u hu
    obtain ⟨σa, j1, ao, aA, aC⟩ := m_joins I h12
    obtain ⟨m, hm⟩ : ∃ m, m = pcsum (σ 44) u 9 := ⟨_, rfl⟩
    have m40 : m ≤ 40 := by rw [hm]; exact (I.up u h12).1
    obtain ⟨g, hgd⟩ : ∃ g, g = jgF σ u 9 := ⟨_, rfl⟩
    have g15 : ∀ j, j < m → NB 15 (g j) := fun j hj => by rw [hgd]; exact jgF_15 (fun k hk j hj => ((I.up u h12).2 k hk).2 j hj) 9 (by omega) j (by omega)
    rw [← hm, ← hgd] at aA aC
    have aS : ∀ k, ¬ SCF k → σa k = σ k := fun k hk => ao k (fun w => hk (by unfold SCF; omega)) (fun w => hk (by unfold SCF; omega)) (fun w => hk (by unfold SCF; omega)) (fun w => hk (by unfold SCF; omega)) (fun w => hk (by unfold SCF; omega))
    have tS : ∀ (t : Int32) k, ¬ SCF k → uS σa 0 0 t k = σ k := fun t k hk => by rw [uS_n _ _ _ (fun w => hk (Or.inl w))]; exact aS k hk
    rcases (by omega : v = 1 ∨ v = 0) with rfl | rfl
    · -- given up
      have RO := R.setov hu
      have Jov := IV_setov I hu
      refine ⟨.inl (i3 0), uI M 903 (ul B u) 0 (i3 1), n, i3 0, uS (uS σa 0 0 (i3 0)) 43 u (i3 1), ?_, ?_, ⟨rfl, rfl⟩, hn0, ?_, own, B, RO.scf ?_, (Jov.scf ?_).up0⟩
      · rw [fHb_finish_E, rk_s hh.k, q1, bdC_li hn0, if_neg (by decide), fpZ_1 U.b.k]
      · rw [fMd_finish_E, q2, bdR_s, if_neg (by decide), j1, bdW_s, fMd_finish_j15_E, if_neg (by decide), if_neg (by decide), fMd_finish_j52_E, fMd_finish_j53_E, m_holds0, bdW_s, if_neg (by decide), mpZ_43 (by omega) (Or.inr rfl), if_neg (by decide)]
      · refine POT.same (by omega) (by omega) ?_ ?_ ?_
        · rw [uS_n _ _ _ (by decide)]; exact tS _ 36 (by unfold SCF; omega)
        · rw [uS_n _ _ _ (by decide)]; exact tS _ 18 (by unfold SCF; omega)
        · rw [uS_n _ _ _ (by decide)]; exact tS _ 8 (by unfold SCF; omega)
      all_goals
        intro k hk
        funext j
        show (if k = 43 ∧ j = u then i3 1 else uS σa 0 0 (i3 0) k j) = (if k = 43 ∧ j = u then i3 1 else σ k j)
        rw [tS _ k hk]
    · -- put
      obtain ⟨r, hr1, hr⟩ := IU1.to
      have hr2 : r < 2 := by omega
      have er : nv (σ 41 u) = r := by rw [hr]; exact nv_i (by omega)
      obtain ⟨M1, c1, c2, c3, c4⟩ := c_joinInto R I hu h12
      rw [← hm] at c3 c4
      rw [← hgd] at c4
      have fm : FRM (fun x => x = 3) own M own M1 := c2.frm fun cc a z _ => by
        rcases z with z | z
        · rw [z.2]; exact hh.jo.o
        · rw [z.2]; exact hh.jo.ro
      have R1 : RR h own B σ M1 n := R.scr fm fun x hx => by omega
      have h1b := R1.hb
      have U1 := R1.uo u hu
      rw [er] at U1
      have G1 := R1.rg r hr2
      have Y1 : BY own M1 (h + 35) 3 m g := ⟨h1b.jo, c3, c4⟩
      have hc : fHb_finish h (i3 u) (i3 0) M n = fHb_finish_j40 h (some (ul B u)) (if m = 0 then i3 0 else i3 1) M1 n := by
        rw [fHb_finish_E, rk_s hh.k, q1, bdC_li hn0, if_pos rfl, fgR_s hh.k, hh.p3, rk_s U.b.k, c1, bdW_s, fgR_s h1b.k, h1b.p3, fgI_s h1b.jo.k, c3]
        by_cases y : m = 0
        · rw [if_pos y, if_pos ((i3_le (by omega) (by omega)).mpr (by omega))]
        · rw [if_neg y, if_neg (fun w => absurd ((i3_le (by omega) (by omega)).mp w) (by omega))]
      have hmm : fMd_finish (i3 u) (i3 0) σ = if m = 0 then fMd_finish_j48 (i3 u) (i3 0) σa else bdR (fMd_isFull (i3 r) σa) fun v3 => if v3 = i3 0 then fMd_finish_j52 (i3 u) (i3 0) σa else fMd_finish_j48 (i3 u) (i3 0) σa := by
        rw [fMd_finish_E, q2, bdR_s, if_neg (by decide), j1, bdW_s, fMd_finish_j15_E, if_neg (by decide), if_pos rfl, mgF_s, aA.1]
        by_cases y : m = 0
        · rw [if_pos (by rw [y]), if_pos y]
        · rw [if_neg (fun w => y ((i3_inj (by omega) (by omega)).mp w)), if_neg y, mgA_41 (by omega), ao 41 (by decide) (by decide) (by decide) (by decide) (by decide), hr]
      by_cases y : m = 0
      · rw [if_pos y] at hc hmm
        refine OPR.same R I (o := .inr 2) (v := i3 0) (n' := n + 1) (σ' := uS σa 0 0 (i3 2)) (M' := M1) ?_ ?_ fm (fun x hx => by omega) (tS _) ⟨rfl, by rw [uS_e]; decide⟩ (by omega) (by omega)
        · rw [hc, fHb_finish_j40_E, c_st0, bdC_ri hn]
        · rw [hmm, fMd_finish_j48_E, fMd_finish_j53_E, m_holdsk (by decide) (by decide), bdW_s, if_pos rfl]
      · rw [if_neg y] at hc hmm
        have hc2 : fHb_finish h (i3 u) (i3 0) M n = bdC (fHb_store h (some (gr h r)) (σ 42 u) (some (h + 35)) M1 n) n fun v8 M9 n10 => fpZ 9 903 (some (ul B u)) (i3 1) M9 fun M11 => some (.inl v8, M11, n10) := by
          rw [hc, fHb_finish_j40_E, c_st1, bdC_li hn0, fgR_s U1.b.k, U1.b.p0, fgI_s U1.b.k, U1.ke, fgR_s h1b.k, h1b.p3, rk_s h1b.k]
        have pfe : PFE σa σ := fun k a b => ao k (by omega) (by omega) (by omega) (by omega) (by omega)
        have a8 : σa 8 = σ 8 := ao 8 (by decide) (by decide) (by decide) (by decide) (by decide)
        have a26 : σa 26 = σ 26 := ao 26 (by decide) (by decide) (by decide) (by decide) (by decide)
        have fu := m_isFull (σ := σa) (r := r) (I.pq.e pfe) (by rw [a8]; exact I.ev) (by rw [a26]; exact I.vn r hr2) aA aC m40 y hr2
        rw [rmB_e pfe a8 a26] at fu
        cases hz : rmB σ r m g with
        | false =>
          rw [hz] at fu
          obtain ⟨M2, s1, s2⟩ := store_no (key := σ 42 u) R1 I hr2 Y1 m40 (by omega) hz
          have fm2 : FRM (fun x => x = 3 ∨ x = 10 + r) own M own M2 := fm.trans (s2.frm fun cc a z _ => scu_own G1 z)
          refine OPR.same R I (o := .inr 2) (v := i3 0) (n' := n + 1) (σ' := uS σa 0 0 (i3 2)) (M' := M2) ?_ ?_ fm2 (fun x hx => by omega) (tS _) ⟨rfl, by rw [uS_e]; decide⟩ (by omega) (by omega)
          · rw [hc2, s1, bdC_ri hn]
          · rw [hmm, fu, bdR_s, if_neg (show ¬ bI (!false) = i3 0 by decide), fMd_finish_j48_E, fMd_finish_j53_E, m_holdsk (by decide) (by decide), bdW_s, if_pos rfl]
        | true =>
          rw [hz] at fu
          obtain ⟨E, hE2, hE⟩ := I.ev.to
          obtain ⟨σh, hσh⟩ : ∃ σh, σh = uS (uS σa 0 0 (i3 0)) 43 u (i3 1) := ⟨_, rfl⟩
          have hn' : ∀ k, k ≠ 0 → k ≠ 43 → σh k = σa k := fun k a b => by rw [hσh, uS_n _ _ _ b, uS_n _ _ _ a]
          obtain ⟨own', B', M', n', γ, σ1, σ2, s1, s2, s3, s4, s5, s6, s7, s8, s9, sB⟩ := store_i (σh := σh) (mk := i3 0) (C := cS g m m) R1 I hr2 Y1 (by omega) (by omega) m40 (by omega) g15 IU2 hE hE2 hz (fun k a b d => by
            rw [hn' k (by omega) d]; exact ao k (by omega) (by omega) (by omega) (by omega) (by omega)) rfl (fun j hj => by rw [hn' 4 (by decide) (by decide)]; exact aA.2 j hj) (fun q hq => by rw [hn' 6 (by decide) (by decide), hn' 7 (by decide) (by decide)]; exact aC.2 q hq) (Or.inl ⟨rfl, by rw [hn' 5 (by decide) (by decide)]; exact aC.1⟩)
          have u40 : u < nv (γ 40 0) := by rw [(s8 40 (Or.inr (by decide))).1]; exact hu
          have uq : ul B' u = ul B u := by unfold ul; rw [sB]
          have RO := s5.setov u40
          have Jov := IV_setov s6 u40
          have kb := (s5.uo u u40).b.k
          rw [uq] at RO kb
          have fin : ∀ k, ¬ SCF k → σ2 k = uS γ 43 u (i3 1) k := fun k hk => by
            by_cases z : k < 8 ∨ 40 ≤ k
            · rw [(s8 k z).2]
              by_cases w : k = 43
              · subst w
                rw [hσh]
                funext j
                by_cases y' : j = u
                · rw [y', uS_e, uS_e]
                · rw [uS_d _ _ _ _ y', uS_d _ _ _ _ y', (s8 43 z).1, tS _ 43 hk]
              · rw [uS_n _ _ _ w, (s8 k z).1, hσh, uS_n _ _ _ w]
                exact tS _ k hk
            · rw [uS_n _ _ _ (by omega)]
              exact (s7 k (by omega) (by unfold SCF at hk; omega) (by omega)).symm
          refine ⟨.inl (i3 (E + 1)), uI M' 903 (ul B u) 0 (i3 1), n', i3 (E + 1), σ2, ?_, ?_, ⟨by rw [(s8 0 (Or.inl (by decide))).2, hσh, uS_n _ _ _ (by decide), uS_e], rfl⟩, s4, ?_, own', B', RO.scf fin, (Jov.scf fin).up0⟩
          · rw [hc2, s1, bdC_li s4, fpZ_1 kb]
          · have t41 : σh 41 u = i3 r := by rw [hn' 41 (by decide) (by decide), ao 41 (by decide) (by decide) (by decide) (by decide) (by decide)]; exact hr
            have t42 : σh 42 u = σ 42 u := by rw [hn' 42 (by decide) (by decide), ao 42 (by decide) (by decide) (by decide) (by decide) (by decide)]
            rw [hmm, fu, bdR_s, if_pos (show bI (!true) = i3 0 from rfl), fMd_finish_j52_E, fMd_finish_j53_E, m_holds0, bdW_s, if_neg (by decide), mpZ_43 (by omega) (Or.inr rfl), if_pos rfl, ← hσh, mgA_41 (by omega), t41, mgA_42 (by omega), t42, fMd_puts_E, mgF_s, hn' 3 (by decide) (by decide), aA.1, s2, bdW_s, s3, bdW_s, bdW_s]
          · unfold POT
            unfold kpt ppt at s9 ⊢
            rw [fin 36 (by unfold SCF; omega), fin 18 (by unfold SCF; omega), fin 8 (by unfold SCF; omega), uS_n _ _ _ (by decide), uS_n _ _ _ (by decide), uS_n _ _ _ (by decide)]
            exact s9
end FI

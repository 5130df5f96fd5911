set_option maxRecDepth 100000
/-! follow -/
section FO
variable {h c n r : Nat} {own : Nat → Nat} {B : BK} {σ σ' σh τ : Sg} {M M' : Mm}
theorem m_takes {N m : Nat} (hN : N ≤ 200) (hm : σ 9 N = i3 m) (h40 : m ≤ 40) : ∃ σ', fMd_takes (i3 N) σ = some ((), σ') ∧ (∀ k, k ≠ 3 → k ≠ 4 → k ≠ 5 → k ≠ 6 → k ≠ 7 → σ' k = σ k) ∧ AHD σ' m (fun j => σ 10 (40 * N + j)) ∧ MCR σ' (cS (fun j => σ 10 (40 * N + j)) m m) := by
  have lp : ∀ d j fu (σ2 : Sg), d + j = m → d < fu → (∀ k, k ≠ 3 → k ≠ 4 → σ2 k = σ k) → σ2 3 0 = i3 m → (∀ x, x < j → σ2 4 x = σ 10 (40 * N + x)) → ∃ σ', fMd_takes_l12 fu (i3 N) (i3 j) σ2 = some ((), σ') ∧ (∀ k, k ≠ 3 → k ≠ 4 → k ≠ 5 → k ≠ 6 → k ≠ 7 → σ' k = σ k) ∧ AHD σ' m (fun j => σ 10 (40 * N + j)) ∧ MCR σ' (cS (fun j => σ 10 (40 * N + j)) m m) := by
    intro d
    induction d with
    | zero =>
      intro j fu σ2 hd hfu e2 e3 v2
      obtain ⟨f, rfl⟩ : ∃ f, fu = f + 1 := ⟨fu - 1, by omega⟩
      obtain ⟨σ3, a1, a2, a3⟩ := m_cuts (σ := σ2) (m := m) (g := fun j => σ 10 (40 * N + j)) ⟨e3, fun x hx => v2 x (by omega)⟩ h40
      refine ⟨σ3, ?_, fun k k3 k4 k5 k6 k7 => (a2 k k5 k6 k7).trans (e2 k k3 k4), ⟨by rw [a2 3 (by decide) (by decide) (by decide)]; exact e3, fun x hx => by rw [a2 4 (by decide) (by decide) (by decide)]; exact v2 x (by omega)⟩, a3⟩
      rw [fMd_takes_l12_S, fMd_takes_b12_E, mgF_s, e3, if_pos ((i3_le (by omega) (by omega)).mpr (by omega)), a1, bdW_s]
    | succ d ih =>
      intro j fu σ2 hd hfu e2 e3 v2
      obtain ⟨f, rfl⟩ : ∃ f, fu = f + 1 := ⟨fu - 1, by omega⟩
      rw [fMd_takes_l12_S, fMd_takes_b12_E, mgF_s, e3, if_neg (fun w => absurd ((i3_le (by omega) (by omega)).mp w) (by omega)), i3_mul, i3_add, mgA_10 (by omega), mpA_4 (by omega), i3_add]
      refine ih (j + 1) f _ (by omega) (by omega) (fun k k3 k4 => by rw [uS_n _ _ _ k4]; exact e2 k k3 k4) (by rw [uS_n _ _ _ (by decide)]; exact e3) (fun x hx => ?_)
      by_cases z : x = j
      · rw [z, uS_e, e2 10 (by decide) (by decide)]
      · rw [uS_d _ _ _ _ z]; exact v2 x (by omega)
  rw [fMd_takes_E, mgA_9 (by omega), hm, mpF_s]
  exact lp m 0 FU _ (by omega) (FU_S (by omega)) (fun k k3 _ => uS_n _ _ _ k3) (uS_e _ _ _ _) (fun x hx => by omega)
/-- the first of what is kept goes -/
def kdS (σ : Sg) (r K : Nat) : Sg := fun k j => if k = 36 ∧ j = r then i3 (K - 1) else if k = 37 ∧ 200 * r ≤ j ∧ j < 200 * r + (K - 1) then σ 37 (j + 1) else σ k j
theorem kdS_n {K k : Nat} (h1 : k ≠ 36) (h2 : k ≠ 37) : kdS σ r K k = σ k := funext fun j => by
  show (if k = 36 ∧ j = r then i3 (K - 1) else if k = 37 ∧ 200 * r ≤ j ∧ j < 200 * r + (K - 1) then σ 37 (j + 1) else σ k j) = σ k j
  rw [if_neg (fun w => h1 w.1), if_neg (fun w => h2 w.1)]
theorem kdS_36 {K j : Nat} : kdS σ r K 36 j = if j = r then i3 (K - 1) else σ 36 j := by
  show (if 36 = 36 ∧ j = r then i3 (K - 1) else if 36 = 37 ∧ 200 * r ≤ j ∧ j < 200 * r + (K - 1) then σ 37 (j + 1) else σ 36 j) = _
  by_cases z : j = r
  · rw [if_pos ⟨rfl, z⟩, if_pos z]
  · rw [if_neg (fun w => z w.2), if_neg (by omega), if_neg z]
theorem kdS_37 {K j : Nat} : kdS σ r K 37 j = if 200 * r ≤ j ∧ j < 200 * r + (K - 1) then σ 37 (j + 1) else σ 37 j := by
  show (if 37 = 36 ∧ j = r then i3 (K - 1) else if 37 = 37 ∧ 200 * r ≤ j ∧ j < 200 * r + (K - 1) then σ 37 (j + 1) else σ 37 j) = _
  by_cases z : 200 * r ≤ j ∧ j < 200 * r + (K - 1)
  · rw [if_neg (by omega), if_pos ⟨rfl, z⟩, if_pos z]
  · rw [if_neg (by omega), if_neg (fun w => z w.2), if_neg z]
theorem m_keptdrop {K : Nat} (hr : r < 2) (hK : σ 36 r = i3 K) (h0 : 0 < K) (h200 : K ≤ 200) : fMd_follows_j105 (i3 r) σ = some (i3 1, kdS σ r K) := by
  have lp : ∀ d x fu (σ2 : Sg), d + x = K - 1 → d < fu → (∀ k, k ≠ 37 → σ2 k = kdS σ r K k) → (∀ j, σ2 37 j = if 200 * r ≤ j ∧ j < 200 * r + x then σ 37 (j + 1) else σ 37 j) → fMd_follows_l118 fu (i3 r) (i3 x) σ2 = some (i3 1, kdS σ r K) := by
    intro d
    induction d with
    | zero =>
      intro x fu σ2 hd hfu e2 v2
      obtain ⟨f, rfl⟩ : ∃ f, fu = f + 1 := ⟨fu - 1, by omega⟩
      have es : σ2 = kdS σ r K := funext fun k => by
        by_cases z : k = 37
        · subst z
          funext j
          rw [v2, kdS_37, show x = K - 1 by omega]
        · exact e2 k z
      rw [fMd_follows_l118_S, fMd_follows_b118_E, mgA_36 (by omega), e2 36 (by decide), kdS_36, if_pos rfl, if_pos ((i3_le (by omega) (by omega)).mpr (by omega)), rZ_1, es]
    | succ d ih =>
      intro x fu σ2 hd hfu e2 v2
      obtain ⟨f, rfl⟩ : ∃ f, fu = f + 1 := ⟨fu - 1, by omega⟩
      have v37 : σ2 37 (200 * r + x + 1) = σ 37 (200 * r + x + 1) := by rw [v2, if_neg (by omega)]
      rw [fMd_follows_l118_S, fMd_follows_b118_E, mgA_36 (by omega), e2 36 (by decide), kdS_36, if_pos rfl, if_neg (fun w => absurd ((i3_le (by omega) (by omega)).mp w) (by omega)), i3_mul, i3_add, i3_add, mgA_37 (by omega), v37, mpA_37 (by omega), i3_add]
      refine ih (x + 1) f _ (by omega) (by omega) (fun k hk => by rw [uS_n _ _ _ hk]; exact e2 k hk) (fun j => ?_)
      by_cases z : j = 200 * r + x
      · rw [z, uS_e, if_pos (by omega)]
      · rw [uS_d _ _ _ _ z, v2]
        by_cases y : 200 * r ≤ j ∧ j < 200 * r + x
        · rw [if_pos y, if_pos (by omega)]
        · rw [if_neg y, if_neg (by omega)]
  rw [fMd_follows_j105_E, mgA_36 (by omega), hK, i3_sub (by omega), mpA_36 (by omega)]
  refine lp (K - 1) 0 FU _ (by omega) (FU_S (by omega)) (fun k hk => funext fun j => ?_) (fun j => by rw [uS_n _ _ _ (by decide), if_neg (by omega)])
  by_cases z : k = 36
  · subst z
    rw [kdS_36]
    by_cases y : j = r
    · rw [y, uS_e, if_pos rfl]
    · rw [uS_d _ _ _ _ y, if_neg y]
  · rw [uS_n _ _ _ z, kdS_n z hk]
theorem keptdrop_i {K : Nat} (R : RR h own B σ M n) (I : IV c σ) (hr : r < 2) (hK : σ 36 r = i3 K) (h0 : 0 < K) (hK2 : K ≤ 200) : ∃ M' x, fAl_remove (gr h r + 14) (i3 0) M = some (x, M') ∧ RR h own B (kdS σ r K) M' n ∧ IV c (kdS σ r K) := by
  have k200 : ∀ r0, r0 < 2 → nv (σ 36 r0) ≤ 200 := fun r0 hr0 => (I.kn r0 hr0).2
  have eK : nv (σ 36 r) = K := by rw [hK]; exact nv_i (by omega)
  have L := R.kl r hr
  rw [eK] at L
  have el : ELS own M K (fun i => en B (nv (σ 37 (200 * r + i)))) := fun i hi => by
    obtain ⟨a, b⟩ := I.ko r hr i (by omega)
    have Z := R.et _ b a.2
    have o := Z.b.o
    have kk := Z.b.k
    exact ⟨by show own (en B (nv (σ 37 (200 * r + i)))) ≠ 0; rw [o]; omega, by show 1 ≤ mK M (en B (nv (σ 37 (200 * r + i)))); rw [kk]; omega, by show mK M (en B (nv (σ 37 (200 * r + i)))) ≤ 12; rw [kk]; omega⟩
  obtain ⟨M', q1, q2, q3⟩ := remove_i L el (by omega) h0
  have n36 : ∀ r0, nv (kdS σ r K 36 r0) = if r0 = r then K - 1 else nv (σ 36 r0) := fun r0 => by
    rw [kdS_36]
    by_cases z : r0 = r
    · rw [if_pos z, if_pos z, nv_i (by omega)]
    · rw [if_neg z, if_neg z]
  have hkl : ∀ r0, r0 < 2 → LST own M' (gr h r0 + 14) (16 + r0) (nv (kdS σ r K 36 r0)) (fun i => en B (nv (kdS σ r K 37 (200 * r0 + i)))) := fun r0 hr0 => by
    rw [n36]
    by_cases z : r0 = r
    · subst z
      rw [if_pos rfl]
      refine q3.congr fun i hi => ?_
      show (if i < 0 then en B (nv (σ 37 (200 * r0 + i))) else en B (nv (σ 37 (200 * r0 + (i + 1))))) = en B (nv (kdS σ r0 K 37 (200 * r0 + i)))
      rw [kdS_37, if_neg (by omega), if_pos (by omega), Nat.add_assoc]
    · rw [if_neg z]
      refine (R.k_kl q2 hr0 (by omega)).congr fun i hi => ?_
      have := k200 r0 hr0
      show en B (nv (σ 37 (200 * r0 + i))) = en B (nv (kdS σ r K 37 (200 * r0 + i)))
      rw [kdS_37, if_neg (by omega)]
  have ikn : ∀ r0, r0 < 2 → NB 200 (kdS σ r K 36 r0) := fun r0 hr0 => by
    rw [kdS_36]
    by_cases z : r0 = r
    · rw [if_pos z]; exact NB.of (by omega) (by omega)
    · rw [if_neg z]; exact I.kn r0 hr0
  have iks : nv (kdS σ r K 36 0) + nv (kdS σ r K 36 1) ≤ nv (σ 8 0) := by
    have := I.ks
    rw [n36, n36]
    rcases (by omega : r = 0 ∨ r = 1) with rfl | rfl
    · rw [if_pos rfl, if_neg (by decide)]; omega
    · rw [if_neg (by decide), if_pos rfl]; omega
  have iko : ∀ r0, r0 < 2 → ∀ i, i < nv (kdS σ r K 36 r0) → NB (nv (σ 8 0)) (kdS σ r K 37 (200 * r0 + i)) ∧ 1 ≤ nv (kdS σ r K 37 (200 * r0 + i)) := fun r0 hr0 i hi => by
    rw [n36] at hi
    rw [kdS_37]
    by_cases z : r0 = r
    · subst z
      rw [if_pos rfl] at hi
      rw [if_pos (by omega), Nat.add_assoc]
      exact I.ko r0 hr0 (i + 1) (by omega)
    · rw [if_neg z] at hi
      have := k200 r0 hr0
      rw [if_neg (by omega)]
      exact I.ko r0 hr0 i hi
  have ez : (fun k => if k = 36 ∨ k = 37 then kdS σ r K k else σ k) = kdS σ r K := funext fun k => by
    by_cases z : k = 36 ∨ k = 37
    · rw [if_pos z]
    · rw [if_neg z, kdS_n (fun w => z (Or.inl w)) (fun w => z (Or.inr w))]
  have RZ : RR h own B (fun k => if k = 36 ∨ k = 37 then kdS σ r K k else σ k) M' n := ⟨R.fr, R.k_em q2, R.k_hb q2, R.k_rg q2, R.k_nm q2 (by first | omega | (intro z; dsimp only at z; omega)), R.k_dy q2 (by first | omega | (intro z; dsimp only at z; omega)), R.k_dm q2 (by first | omega | (intro z; dsimp only at z; omega)), R.k_db q2 (by first | omega | (intro z; dsimp only at z; omega)), R.k_nb q2 (by first | omega | (intro z; dsimp only at z; omega)), R.k_co q2 (by first | omega | (intro z; dsimp only at z; omega)), fun r0 hr0 => R.k_up q2 hr0 (by first | omega | (intro z; dsimp only at z; omega)), fun r0 hr0 => R.k_hd q2 hr0 (by first | omega | (intro z; dsimp only at z; omega)), R.k_en q2 (by first | omega | (intro z; dsimp only at z; omega)), fun r0 hr0 => R.k_vl q2 hr0 (by first | omega | (intro z; dsimp only at z; omega)), fun r0 hr0 => R.k_vo q2 hr0 (by first | omega | (intro z; dsimp only at z; omega)), hkl, fun r0 hr0 => R.k_pl q2 hr0 (by first | omega | (intro z; dsimp only at z; omega)), fun r0 hr0 => R.k_po q2 hr0 (by first | omega | (intro z; dsimp only at z; omega)), R.k_us q2 (by first | omega | (intro z; dsimp only at z; omega)), fun u0 hu0 => R.k_uo q2 hu0 (by first | omega | (intro z; dsimp only at z; omega)), R.k_rs q2 (by first | omega | (intro z; dsimp only at z; omega)), R.k_ro q2 (by first | omega | (intro z; dsimp only at z; omega))⟩
  have IZ : IV c (fun k => if k = 36 ∨ k = 37 then kdS σ r K k else σ k) := ⟨I.dr, I.db, I.ev, I.dy, I.dc, I.en, I.vn, I.vo, I.vi, I.hd, ikn, iks, iko, I.pn, I.po, I.dn, I.un, I.uo, I.uz, I.up, I.rn, I.rk⟩
  rw [ez] at RZ IZ
  exact ⟨M', _, q1, RZ, IZ⟩
/-- both sides take the first of what is kept, or can't -/
theorem first_i {K : Nat} (R : RR h own B σ M n) (I : IV c σ) (hr : r < 2) (hK : σ 36 r = i3 K) (h0 : 0 < K) (h200 : K ≤ 200) : (∃ M' σ', fHb_takeFirst h (some (gr h r)) (some (gr h (1 - r))) M n = some (.inl (i3 0), M', n) ∧ fMd_follows (i3 r) σ = some (i3 0, σ') ∧ RR h own B σ' M' n ∧ IV c σ' ∧ ∀ k, k ≠ 3 → k ≠ 4 → k ≠ 5 → k ≠ 6 → k ≠ 7 → σ' k = σ k) ∨ ∃ own' B' M' n' σ', fHb_takeFirst h (some (gr h r)) (some (gr h (1 - r))) M n = some (.inl (i3 1), M', n') ∧ fMd_follows (i3 r) σ = some (i3 1, σ') ∧ n ≤ n' ∧ RR h own' B' σ' M' n' ∧ IV c σ' ∧ σ' 0 = σ 0 ∧ n' + 4 * kpt σ' + ppt σ ≤ n + 4 * kpt σ + ppt σ' := by
  have hr1 : 1 - r < 2 := by omega
  have rne : 1 - r ≠ r := by omega
  have eK : nv (σ 36 r) = K := by rw [hK]; exact nv_i (by omega)
  have e8 := I.ev.2
  obtain ⟨a, b⟩ := I.ko r hr 0 (by omega)
  obtain ⟨N, hN2, hN⟩ := a.to
  rw [Nat.add_zero] at hN b
  have eN : nv (σ 37 (200 * r)) = N := by rw [hN]; exact nv_i (by omega)
  rw [eN] at b
  have E := R.et N b hN2
  have IE := I.en N b hN2
  obtain ⟨m, m40, hm⟩ := IE.ma.to
  obtain ⟨g, hg⟩ : ∃ g : Nat → Int32, g = fun j => σ 10 (40 * N + j) := ⟨_, rfl⟩
  obtain ⟨σa, t1, ao, aA, aC⟩ := m_takes (σ := σ) (N := N) (by omega) hm m40
  rw [← hg] at aA aC
  have aS : ∀ k, ¬ SCF k → σa k = σ k := fun k hk => ao k (fun w => hk (by unfold SCF; omega)) (fun w => hk (by unfold SCF; omega)) (fun w => hk (by unfold SCF; omega)) (fun w => hk (by unfold SCF; omega)) (fun w => hk (by unfold SCF; omega))
  have G := R.rg r hr
  have G' := R.rg (1 - r) hr1
  have L := R.kl r hr
  rw [eK] at L
  have em : fAl_isEmpty (gr h r + 14) M = some (i3 0) := by rw [L.emp, if_neg (by omega)]
  have ge : fAl_get (gr h r + 14) (i3 0) M = some (some (en B N)) := by
    have := L.get h0
    rw [this]
    show some (some (en B (nv (σ 37 (200 * r + 0))))) = _
    rw [Nat.add_zero, eN]
  obtain ⟨dh, hd1, hd⟩ := (I.hd (1 - r) hr1 N (by omega)).to
  have hhd := R.hd (1 - r) hr1 N (by omega)
  rw [hd] at hhd
  have had : fRegion_hadNumber (gr h (1 - r)) (i3 N) M = some (i3 dh) := by
    rw [fRegion_hadNumber_E, if_neg (fun w => absurd ((i3_lt (by omega) (by omega)).mp w) (by omega)), fgR_s G'.k, G'.p3, aln_i G'.k15 (by decide) (by decide), G'.l15, if_neg (fun w => absurd ((i3_le (by omega) (by omega)).mp w) (by omega)), fgR_s G'.k, G'.p3, alI_i G'.k15 (by rw [G'.l15]; omega) (by omega), hhd]
    rcases (by omega : dh = 0 ∨ dh = 1) with rfl | rfl
    · rw [if_pos rfl, rZ_0]
    · rw [if_neg (by decide), rZ_1]
  have hc : fHb_takeFirst h (some (gr h r)) (some (gr h (1 - r))) M n = if i3 dh = i3 0 then (bdW (fRegion_hasRoom (gr h (1 - r)) (some (en B N + 1)) M) fun v20 M21 => if v20 = i3 0 then rZ (i3 0) (some (.inl (i3 0), M21, n)) else fHb_takeFirst_j52 h (some (gr h r)) (some (gr h (1 - r))) (some (en B N)) (i3 dh) M21 n) else fHb_takeFirst_j52 h (some (gr h r)) (some (gr h (1 - r))) (some (en B N)) (i3 dh) M n := by
    rw [fHb_takeFirst_E, fgR_s G.k, G.p2, rk_s L.k, em, bdR_s, if_pos rfl, fgR_s G.k, G.p2, rk_s L.k, ge, bdR_s, fca_s E.b.k, fgI_s E.b.k, E.nu, rk_s G'.k, had, bdR_s, fgR_s E.b.k, E.b.p, rk_s G'.k]
  have a35 : σa 35 (201 * (1 - r) + N) = i3 dh := by rw [aS 35 (by unfold SCF; omega)]; exact hd
  have hmm : fMd_follows (i3 r) σ = if i3 dh = i3 0 then (if i3 m = i3 0 then (if i3 40 ≤ σa 26 (1 - r) then fMd_follows_j72 (i3 r) (i3 (1 - r)) (i3 N) (i3 dh) σa else fMd_follows_j68 (i3 r) (i3 (1 - r)) (i3 N) (i3 dh) σa) else bdR (fMd_hasRoom (i3 (1 - r)) σa) fun v7 => if v7 = i3 0 then fMd_follows_j72 (i3 r) (i3 (1 - r)) (i3 N) (i3 dh) σa else fMd_follows_j68 (i3 r) (i3 (1 - r)) (i3 N) (i3 dh) σa) else fMd_follows_j68 (i3 r) (i3 (1 - r)) (i3 N) (i3 dh) σa := by
    rw [fMd_follows_E, i3_mul, mgA_37 (by omega), hN, t1, bdW_s, i3_sub (by omega), i3_mul, i3_add, mgA_35 (by omega), a35, mgF_s, aA.1, mgA_26 (by omega)]
  -- the rest where it can
  have j62 : ∀ own1 B1 (σ1 : Sg) (M1 : Mm) n1, RR h own1 B1 σ1 M1 n1 → IV c σ1 → σ1 36 r = i3 K → ∃ M' , fHb_takeFirst_j62 h (some (gr h r)) M1 n1 = some (.inl (i3 1), M', n1) ∧ RR h own1 B1 (kdS σ1 r K) M' n1 ∧ IV c (kdS σ1 r K) := fun own1 B1 σ1 M1 n1 R1 I1 hK1 => by
    obtain ⟨M', x, k1, k2, k3⟩ := keptdrop_i R1 I1 hr hK1 h0 h200
    have G1 := R1.rg r hr
    refine ⟨M', ?_, k2, k3⟩
    rw [fHb_takeFirst_j62_E, fgR_s G1.k, G1.p2, rk_s (R1.kl r hr).k, k1, bdW_s, rZ_1]
  have n36 : ∀ (σ1 : Sg) r0, nv (kdS σ1 r K 36 r0) = if r0 = r then K - 1 else nv (σ1 36 r0) := fun σ1 r0 => by
    rw [kdS_36]
    by_cases z : r0 = r
    · rw [if_pos z, if_pos z, nv_i (by omega)]
    · rw [if_neg z, if_neg z]
  by_cases z : dh = 0
  · subst z
    rw [if_pos rfl] at hc hmm
    have e1E := E.b.b
    have Y : BY own M (en B N + 1) 24 m g := ⟨E.b.b, by rw [E.ma, hm], fun j hj => by rw [hg]; exact E.by j (by rw [hm, nv_i (by omega)]; exact hj)⟩
    obtain ⟨M1, c1, c2⟩ := c_hasRoom R I.pq (I.vn (1 - r) hr1).2 Y m40 (by omega) hr1
    obtain ⟨V, hV40, hV⟩ := (I.vn (1 - r) hr1).to
    have eV : nv (σ 26 (1 - r)) = V := by rw [hV]; exact nv_i (by omega)
    obtain ⟨bb, hbb⟩ : ∃ bb, bb = (if m = 0 then decide (nv (σ 26 (1 - r)) < 40) else rom σ (1 - r) m g) := ⟨_, rfl⟩
    rw [← hbb] at c1
    rw [c1, bdW_s] at hc
    have fm : FRM (fun x => x = 10 + (1 - r)) own M own M1 := c2.frm fun cc a z _ => scu_own G' z
    have R1 : RR h own B σ M1 n := R.scr fm fun x hx => by omega
    have pfe : PFE σa σ := fun k a b => ao k (by omega) (by omega) (by omega) (by omega) (by omega)
    have a26 : σa 26 = σ 26 := ao 26 (by decide) (by decide) (by decide) (by decide) (by decide)
    have hm2 : fMd_follows (i3 r) σ = if bI bb = i3 0 then fMd_follows_j72 (i3 r) (i3 (1 - r)) (i3 N) (i3 0) σa else fMd_follows_j68 (i3 r) (i3 (1 - r)) (i3 N) (i3 0) σa := by
      rw [hmm, hbb]
      by_cases y : m = 0
      · rw [if_pos (by rw [y]), if_pos y, a26, hV, nv_i (by omega)]
        by_cases w : V < 40
        · rw [if_neg (fun v => absurd ((i3_le (by omega) (by omega)).mp v) (by omega)), decide_eq_true w, if_neg (show ¬ bI true = i3 0 by decide)]
        · rw [if_pos ((i3_le (by omega) (by omega)).mpr (by omega)), decide_eq_false w, if_pos (show bI false = i3 0 from rfl)]
      · have hrm := m_hasRoom (σ := σa) (r := 1 - r) (I.pq.e pfe) (by rw [a26]; exact I.vn (1 - r) hr1) aA aC m40 hr1
        have er : rom σa (1 - r) m g = rom σ (1 - r) m g := by
          unfold rom upN
          rw [a26, pfe 17 (by decide) (by decide), pfe 18 (by decide) (by decide), nwp_e pfe]
        rw [if_neg (fun w => y ((i3_inj (by omega) (by omega)).mp w)), if_neg y, hrm, bdR_s, er]
    cases hb : bb with
    | false =>
      left
      rw [hb] at hc hm2
      refine ⟨M1, σa, ?_, ?_, R1.scf aS, I.scf aS, ao⟩
      · rw [hc, if_pos (show bI false = i3 0 from rfl), rZ_0]
      · rw [hm2, if_pos (show bI false = i3 0 from rfl), fMd_follows_j72_E, fMd_follows_j73_E, if_pos rfl, rZ_0]
    | true =>
      right
      rw [hb] at hc hm2
      rw [if_neg (show ¬ bI true = i3 0 by decide)] at hc hm2
      rw [hb] at hbb
      obtain ⟨C, hC⟩ : ∃ C, C = cS g m m := ⟨_, rfl⟩
      have p90 := I.p90 (1 - r) hr1
      have v4 : V < 40 := by
        by_cases y : m = 0
        · rw [if_pos y, eV] at hbb; exact of_decide_eq_true hbb.symm
        · rw [if_neg y] at hbb
          have q := hbb.symm
          unfold rom at q
          rw [Bool.and_eq_true, Bool.and_eq_true, eV] at q
          exact of_decide_eq_true q.2.1
      have rm : nv (σ 18 (1 - r)) + cntF (nwp σ (1 - r) g C) 0 C.1 ≤ 90 := by
        by_cases y : m = 0
        · subst y
          have : C.1 = 0 := by rw [hC]; rfl
          rw [this]
          show nv (σ 18 (1 - r)) + 0 ≤ 90
          omega
        · rw [if_neg y] at hbb
          have q := hbb.symm
          unfold rom at q
          rw [Bool.and_eq_true, Bool.and_eq_true] at q
          rw [hC]
          exact of_decide_eq_true q.2.2
      have FT : FIT σ (1 - r) N V m C g := by
        refine ⟨b, hN2, hV, v4, fun i hi w => ?_, hm, m40, fun j hj => by rw [hg], hC, rm⟩
        have X := (I.vo (1 - r) hr1 i (by omega)).hd
        have w2 : nv (σ 27 (40 * (1 - r) + i)) = N := w
        rw [w2, hd] at X
        exact absurd X (by decide)
      obtain ⟨mk, hmk1, hmk2⟩ : ∃ mk, mk = (if m = 0 then i3 1 else i3 0) ∧ ((mk = i3 0 ∧ σa 5 0 = i3 C.1) ∨ (mk = i3 1 ∧ C.1 = 0)) := by
        refine ⟨_, rfl, ?_⟩
        by_cases y : m = 0
        · rw [if_pos y]
          right
          subst y
          exact ⟨rfl, by rw [hC]; rfl⟩
        · rw [if_neg y]
          left
          exact ⟨rfl, by rw [hC]; exact aC.1⟩
      obtain ⟨own3, B3, M3, n3, σ2, q1, q2, q3, q4, R3, I3, q5, q6, q7, q8⟩ := take_i (σh := σa) (mk := mk) R1 I hr1 FT (fun k k1 k2 k3 k4 => ao k (by omega) (by omega) (by omega) (by omega) (by omega)) (fun j hj => aA.2 j hj) (fun q hq => by rw [hC] at hq ⊢; exact aC.2 q hq) hmk2
      have g36 : gam σ σ2 36 = σ 36 := rfl
      obtain ⟨M4, k1, k2, k3⟩ := j62 own3 B3 _ M3 n3 R3 I3 (by rw [g36]; exact hK)
      have s36 : σ2 36 = σ 36 := by rw [q5 36 (Or.inr (by decide))]; exact aS 36 (by unfold SCF; omega)
      have s37 : σ2 37 = σ 37 := by rw [q5 37 (Or.inr (by decide))]; exact aS 37 (by unfold SCF; omega)
      have md := m_keptdrop (σ := σ2) hr (by rw [s36]; exact hK) h0 h200
      have fin : ∀ k, ¬ SCF k → kdS σ2 r K k = kdS (gam σ σ2) r K k := fun k hk => by
        have gk : ∀ k, ¬ SCF k → gam σ σ2 k = σ2 k := fun k hk => by
          show (if 18 ≤ k ∧ k ≤ 35 then σ2 k else σ k) = σ2 k
          by_cases w : 18 ≤ k ∧ k ≤ 35
          · rw [if_pos w]
          · rw [if_neg w, q5 k (by omega)]; exact (aS k hk).symm
        funext j
        show (if k = 36 ∧ j = r then i3 (K - 1) else if k = 37 ∧ 200 * r ≤ j ∧ j < 200 * r + (K - 1) then σ2 37 (j + 1) else σ2 k j) = (if k = 36 ∧ j = r then i3 (K - 1) else if k = 37 ∧ 200 * r ≤ j ∧ j < 200 * r + (K - 1) then gam σ σ2 37 (j + 1) else gam σ σ2 k j)
        rw [gk k hk, gk 37 (by unfold SCF; omega)]
      refine ⟨own3, B3, M4, n3, kdS σ2 r K, ?_, ?_, q3, k2.scf fin, k3.scf fin, ?_, ?_⟩
      · rw [hc, fHb_takeFirst_j52_E, if_pos rfl, rk_s (R1.rg (1 - r) hr1).k, q1, bdC_li q3]
        exact k1
      · rw [hm2, fMd_follows_j68_E, fMd_follows_j73_E, if_neg (by decide), if_pos rfl, mgF_s, aA.1]
        have j102 : ∀ w, w = mk → fMd_follows_j102 (i3 r) w (i3 N) (i3 (1 - r)) σa = some (i3 1, kdS σ2 r K) := fun w hw => by
          rw [fMd_follows_j102_E, hw, q2, bdW_s]; exact md
        by_cases y : m = 0
        · rw [if_pos (by rw [y])]
          exact j102 _ (by rw [hmk1, if_pos y])
        · rw [if_neg (fun w => y ((i3_inj (by omega) (by omega)).mp w))]
          exact j102 _ (by rw [hmk1, if_neg y])
      · rw [kdS_n (by decide) (by decide), q5 0 (Or.inl (by decide))]
        exact ao 0 (by decide) (by decide) (by decide) (by decide) (by decide)
      · have x18 : kdS σ2 r K 18 = σ2 18 := kdS_n (by decide) (by decide)
        have x8 : kdS σ2 r K 8 = σ 8 := by rw [kdS_n (by decide) (by decide), q5 8 (Or.inl (by decide))]; exact aS 8 (by unfold SCF; omega)
        unfold kpt ppt
        rw [n36, n36, x18, x8, s36]
        rcases (by omega : r = 0 ∨ r = 1) with rfl | rfl
        · have o := q6 0 (by omega) (by omega)
          rw [if_pos rfl, if_neg (by decide), o]
          show n3 + 4 * (K - 1 + nv (σ 36 1)) + (6 * (nv (σ 18 0) + nv (σ 18 1)) + 12 * nv (σ 8 0)) ≤ n + 4 * (nv (σ 36 0) + nv (σ 36 1)) + (6 * (nv (σ 18 0) + nv (σ2 18 1)) + 12 * nv (σ 8 0))
          have q4' : n3 + 6 * nv (σ 18 1) ≤ n + 3 + 6 * nv (σ2 18 1) := q4
          omega
        · have o := q6 1 (by omega) (by omega)
          rw [if_neg (by decide), if_pos rfl, o]
          have q4' : n3 + 6 * nv (σ 18 0) ≤ n + 3 + 6 * nv (σ2 18 0) := q4
          omega
  · right
    have hd1' : dh = 1 := by omega
    subst hd1'
    rw [if_neg (by decide)] at hc hmm
    obtain ⟨M4, k1, k2, k3⟩ := j62 own B σ M n R I hK
    have md := m_keptdrop (σ := σa) hr (by rw [aS 36 (by unfold SCF; omega)]; exact hK) h0 h200
    have fin : ∀ k, ¬ SCF k → kdS σa r K k = kdS σ r K k := fun k hk => by
      funext j
      show (if k = 36 ∧ j = r then i3 (K - 1) else if k = 37 ∧ 200 * r ≤ j ∧ j < 200 * r + (K - 1) then σa 37 (j + 1) else σa k j) = (if k = 36 ∧ j = r then i3 (K - 1) else if k = 37 ∧ 200 * r ≤ j ∧ j < 200 * r + (K - 1) then σ 37 (j + 1) else σ k j)
      rw [aS k hk, aS 37 (by unfold SCF; omega)]
    refine ⟨own, B, M4, n, kdS σa r K, ?_, ?_, Nat.le_refl n, k2.scf fin, k3.scf fin, ?_, ?_⟩
    · rw [hc, fHb_takeFirst_j52_E, if_neg (by decide)]
      exact k1
    · rw [hmm, fMd_follows_j68_E, fMd_follows_j73_E, if_neg (by decide), if_neg (by decide)]
      exact md
    · rw [kdS_n (by decide) (by decide)]
      exact ao 0 (by decide) (by decide) (by decide) (by decide) (by decide)
    · have x18 : kdS σa r K 18 = σ 18 := by rw [kdS_n (by decide) (by decide)]; exact aS 18 (by unfold SCF; omega)
      have x8 : kdS σa r K 8 = σ 8 := by rw [kdS_n (by decide) (by decide)]; exact aS 8 (by unfold SCF; omega)
      unfold kpt ppt
      rw [n36, n36, x18, x8, aS 36 (by unfold SCF; omega)]
      rcases (by omega : r = 0 ∨ r = 1) with rfl | rfl
      · rw [if_pos rfl, if_neg (by decide)]; omega
      · rw [if_neg (by decide), if_pos rfl]; omega
theorem follow_l (hr : r < 2) {m : Nat} (hm : m ≤ 99) : ∀ d k fu fu' (own : Nat → Nat) (B : BK) (σ : Sg) (M : Mm) n, d + k = m → d < fu → d < fu' → RR h own B σ M n → IV c σ → ∃ v own' B' M' n' σ', fHb_follow_l25 h fu (i3 m) (some (gr h r)) (some (gr h (1 - r))) (i3 k) M n = some (.inl v, M', n') ∧ fMd_follow_l37 fu' (i3 r) (i3 m) (i3 k) σ = some (v, σ') ∧ n ≤ n' ∧ RR h own' B' σ' M' n' ∧ IV c σ' ∧ σ' 0 = σ 0 ∧ n' + 4 * kpt σ' + ppt σ ≤ n + 4 * kpt σ + ppt σ' := by
  intro d
  induction d with
  | zero =>
    intro k fu fu' own B σ M n hd hfu hfu' R I
    obtain ⟨f, rfl⟩ : ∃ f, fu = f + 1 := ⟨fu - 1, by omega⟩
    obtain ⟨f', rfl⟩ : ∃ f, fu' = f + 1 := ⟨fu' - 1, by omega⟩
    rw [Nat.zero_add] at hd
    subst hd
    refine ⟨i3 k, own, B, M, n, σ, ?_, ?_, Nat.le_refl n, R, I, rfl, Nat.le_refl _⟩
    · rw [fHb_follow_l25_S, fHb_follow_b25_E, if_pos ((i3_le (by omega) (by omega)).mpr (Nat.le_refl k))]
    · rw [fMd_follow_l37_S, fMd_follow_b37_E, if_pos ((i3_le (by omega) (by omega)).mpr (Nat.le_refl k))]
  | succ d ih =>
    intro k fu fu' own B σ M n hd hfu hfu' R I
    obtain ⟨f, rfl⟩ : ∃ f, fu = f + 1 := ⟨fu - 1, by omega⟩
    obtain ⟨f', rfl⟩ : ∃ f, fu' = f + 1 := ⟨fu' - 1, by omega⟩
    obtain ⟨K, hK2, hK⟩ := (I.kn r hr).to
    have eK : nv (σ 36 r) = K := by rw [hK]; exact nv_i (by omega)
    have L := R.kl r hr
    have G := R.rg r hr
    rw [fHb_follow_l25_S, fHb_follow_b25_E, fMd_follow_l37_S, fMd_follow_b37_E, if_neg (fun w => absurd ((i3_le (by omega) (by omega)).mp w) (by omega)), if_neg (fun w => absurd ((i3_le (by omega) (by omega)).mp w) (by omega)), rk_s R.hb.k, mgA_36 (by omega), hK]
    by_cases z : K = 0
    · have emp : fAl_isEmpty (gr h r + 14) M = some (i3 1) := by rw [L.emp, if_pos (by rw [eK]; exact z)]
      refine ⟨i3 k, own, B, M, n, σ, ?_, ?_, Nat.le_refl n, R, I, rfl, Nat.le_refl _⟩
      · rw [fHb_takeFirst_E, fgR_s G.k, G.p2, rk_s L.k, emp, bdR_s, if_neg (by decide), rZ_0, bdC_li (Nat.le_refl n), if_pos rfl]
      · rw [if_pos ((i3_le (by omega) (by omega)).mpr (by omega))]
    · rw [if_neg (fun w => absurd ((i3_le (by omega) (by omega)).mp w) (by omega))]
      rcases first_i R I hr hK (by omega) hK2 with ⟨M1, σ1, a1, a2, a3, a4, a5⟩ | ⟨own1, B1, M1, n1, σ1, a1, a2, a3, a4, a5, a6, a7⟩
      · refine ⟨i3 k, own, B, M1, n, σ1, ?_, ?_, Nat.le_refl n, a3, a4, a5 0 (by decide) (by decide) (by decide) (by decide) (by decide), ?_⟩
        · rw [a1, bdC_li (Nat.le_refl n), if_pos rfl]
        · rw [a2, bdW_s, if_pos rfl]
        · unfold kpt ppt
          rw [a5 36 (by decide) (by decide) (by decide) (by decide) (by decide), a5 18 (by decide) (by decide) (by decide) (by decide) (by decide), a5 8 (by decide) (by decide) (by decide) (by decide) (by decide)]
          exact Nat.le_refl _
      · obtain ⟨v, own2, B2, M2, n2, σ2, b1, b2, b3, b4, b5, b6, b7⟩ := ih (k + 1) f f' own1 B1 σ1 M1 n1 (by omega) (by omega) (by omega) a4 a5
        refine ⟨v, own2, B2, M2, n2, σ2, ?_, ?_, by omega, b4, b5, b6.trans a6, by omega⟩
        · rw [a1, bdC_li a3, if_neg (by decide), i3_add]; exact b1
        · rw [a2, bdW_s, if_neg (by decide), i3_add]; exact b2
theorem op_follow (R : RR h own B σ M n) (I : IV c σ) (x1 x2 : Int32) : OPR h c σ n (fHb_follow h x1 x2 M n) (fMd_follow x1 x2 σ) (cdf 1 2 0) := by
  have k := R.hb.k
  have hn : n ≤ n + 1 := Nat.le_succ n
  have hn0 : n ≤ n := Nat.le_refl n
  rcases regs x1 with ⟨r, hr, rfl⟩ | ⟨h0, h1⟩
  · have q1 := c_reg (n := n) R hr
    have q1' := c_reg (n := n) R (r := 1 - r) (by omega)
    have q2 := m_reg hr
    have e1 : i3 1 - i3 r = i3 (1 - r) := i3_sub (by omega)
    by_cases hx : inR x2 1 99
    · have q6 := inR_c (M := M) (n := n) hx (by omega)
      have q7 := inR_m hx (by omega)
      obtain ⟨m, hm1, hm, rfl⟩ := hx
      obtain ⟨v, own', B', M', n', σ', b1, b2, b3, b4, b5, b6, b7⟩ := follow_l (h := h) (c := c) hr hm m 0 FU FU own B (uS σ 0 0 (i3 0)) M n (by omega) (FU_S (by omega)) (FU_S (by omega)) (R.scf (scf0 _)) (I.scf (scf0 _))
      refine ⟨.inl v, M', n', v, σ', ?_, ?_, ⟨by rw [b6]; exact uS_e _ _ _ _, rfl⟩, b3, ?_, own', B', b4, b5.up0⟩
      · rw [fHb_follow_E, rk_s k, q1, bdC_li hn0, rk_s k, e1, q1', bdC_li hn0, q6, bdC_li hn0]; exact b1
      · rw [fMd_follow_E, q2, bdR_s, if_neg (by decide), q7, bdR_s, if_neg (by decide), fMd_follow_j27_E, m_holds0, bdW_s, if_neg (by decide)]; exact b2
      · have t1 : kpt (uS σ 0 0 (i3 0)) = kpt σ := rfl
        have t2 : ppt (uS σ 0 0 (i3 0)) = ppt σ := rfl
        rw [t1, t2] at b7
        unfold POT
        omega
    · have q6 := noR_c (M := M) (n := n) hx (by omega) (by omega)
      have q7 := noR_m hx (by omega) (by omega)
      refine OPR.err R I 1 2 (v := i3 0) ?_ ?_ rfl (by omega) (by omega)
      · rw [fHb_follow_E, rk_s k, q1, bdC_li hn0, rk_s k, e1, q1', bdC_li hn0, q6, bdC_ri hn]
      · rw [fMd_follow_E, q2, bdR_s, if_neg (by decide), q7, bdR_s, if_pos rfl, fMd_follow_j27_E, m_holdsk (by decide) (by decide), bdW_s, if_pos rfl]
  · have q1 := c_noreg (h := h) (M := M) (n := n) h0 h1
    have q2 := m_noreg h0 h1
    refine OPR.err R I 0 1 (v := i3 0) ?_ ?_ rfl (by omega) (by omega)
    · rw [fHb_follow_E, rk_s k, q1, bdC_ri hn]
    · rw [fMd_follow_E, q2, bdR_s, if_pos rfl, fMd_follow_j27_E, m_holdsk (by decide) (by decide), bdW_s, if_pos rfl]
end FO

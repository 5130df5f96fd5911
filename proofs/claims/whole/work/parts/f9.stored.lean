set_option maxRecDepth 100000
/-! one part stored: what is known behind it; the class's step -/
section SV
variable {h c n r : Nat} {own : Nat → Nat} {B : BK} {σ σ' τ : Sg} {M M' : Mm}
theorem cmS_p {p : Nat} (hp90 : p < 90) : ∀ d pl s (τ : Sg), d + pl = 6 → IVP τ r (90 * r + p) → IVP (cmS r p d pl s τ) r (90 * r + p) ∧ CMF r p τ (cmS r p d pl s τ) := by
  intro d
  induction d with
  | zero => intro pl s τ _ X; exact ⟨X, CMF.refl⟩
  | succ d ih =>
    intro pl s τ hd X
    rw [cmS_S]
    by_cases z : 5 ≤ s
    · rw [if_pos z]; exact ⟨X, CMF.refl⟩
    · rw [if_neg z]
      by_cases y : τ 17 (6 * r + ordn p pl) = i3 0
      · rw [if_pos y]
        obtain ⟨a, b⟩ := ih (pl + 1) (s + 1) (lay τ (90 * r + p) s (ordn p pl)) (by omega) (lay_p X (ord_i hp90 (by omega)).2 (by omega))
        exact ⟨a, (CMF.lay (by omega)).trans b⟩
      · rw [if_neg y]
        exact ih (pl + 1) s τ (by omega) X
theorem rdy_p {p : Nat} (hp90 : p < 90) (X : IVP σ r (90 * r + p)) : IVP (rdy σ r p) r (90 * r + p) ∧ CMF r p σ (rdy σ r p) := by
  unfold rdy
  by_cases z : 3 ≤ gcn σ (90 * r + p)
  · rw [if_pos z]; exact ⟨X, CMF.refl⟩
  · rw [if_neg z]
    obtain ⟨a, b⟩ := cmS_p hp90 6 0 0 (los σ (90 * r + p)) rfl (los_p X.ct X.l1 X.lo X.by X.sw)
    exact ⟨a, CMF.los.trans b⟩
theorem stP_stf {s l : Nat} {g : Nat → Int32} (Q : PQ σ) (hr : r < 2) (hl1 : 1 ≤ l) (hl : l ≤ 6) (hg : ∀ j, j < l → NB 15 (g (s + j))) (hroom : fnd σ r g s l = none → nv (σ 18 r) < 90) (hct : ∀ p, p < nv (σ 18 r) → nv (σ 20 (90 * r + p)) < 800) : STF r s l g σ (stP σ r s l g).2 (stP σ r s l g).1 := by
  have key : ∀ (ρ b : Sg) p, p < 90 → IVP ρ r (90 * r + p) → CMF r p b ρ → nv (ρ 20 (90 * r + p)) < 800 → (∀ k, k ≠ 20 → k ≠ 23 → k ≠ 24 → k ≠ 25 → cUp ρ (90 * r + p) k = b k) ∧ IVP (cUp ρ (90 * r + p)) r (90 * r + p) ∧ (∀ r0 a, a ≠ 90 * r + p → IVP b r0 a → IVP (cUp ρ (90 * r + p)) r0 a) ∧ (∀ a, a ≠ 90 * r + p → cUp ρ (90 * r + p) 20 a = b 20 a) ∧ nv (cUp ρ (90 * r + p) 20 (90 * r + p)) = nv (b 20 (90 * r + p)) + 1 := fun ρ b p hp X F hc => by
    have b20 := F.nk 20 (by decide) (by decide) (by decide)
    refine ⟨fun k k1 k2 k3 k4 => by rw [cUp_n k1]; exact F.nk k k2 k3 k4, X.cup hc, fun r0 a ha Y => ?_, fun a ha => by unfold cUp; rw [uS_d _ _ _ _ ha, b20], ?_⟩
    · obtain ⟨f1, f2⟩ := F.o a ha
      refine Y.mvp ?_ ?_ ?_ (fun j hj => ?_) (fun s hs => ?_) (fun s hs => ?_) (fun j hj => ?_)
      · rw [cUp_n (by decide), F.nk 19 (by decide) (by decide) (by decide)]
      · unfold cUp; rw [uS_d _ _ _ _ ha, b20]
      · rw [cUp_n (by decide), F.nk 21 (by decide) (by decide) (by decide)]
      · rw [cUp_n (by decide), F.nk 22 (by decide) (by decide) (by decide)]
      · rw [cUp_n (by decide)]; exact (f1 s hs).1
      · rw [cUp_n (by decide)]; exact (f1 s hs).2
      · rw [cUp_n (by decide)]; exact f2 j hj
    · unfold cUp
      rw [uS_e, nv_i (by omega), b20]
  have p90 := Q.p90
  unfold stP
  cases hf : fnd σ r g s l with
  | some p =>
    have hp := fstF_lt (show fstF (fnB σ r g s l) 0 (nv (σ 18 r)) = some p from hf)
    have hpP : p < nv (σ 18 r) := by omega
    have hp90 : p < 90 := Nat.lt_of_lt_of_le hpP (p90 r hr)
    have X := (Q r hr).2 p hpP
    obtain ⟨Y, F⟩ := rdy_p hp90 X
    have hc : nv (rdy σ r p 20 (90 * r + p)) < 800 := by rw [F.nk 20 (by decide) (by decide) (by decide)]; exact hct p hpP
    obtain ⟨k1, k2, k3, k4, k5⟩ := key (rdy σ r p) σ p hp90 Y F hc
    show STF r s l g σ (cUp (rdy σ r p) (90 * r + p)) p
    have e18 := k1 18 (by decide) (by decide) (by decide) (by decide)
    have e19 := k1 19 (by decide) (by decide) (by decide) (by decide)
    have e21 := k1 21 (by decide) (by decide) (by decide) (by decide)
    have e22 := k1 22 (by decide) (by decide) (by decide) (by decide)
    refine ⟨fun r0 hr0 => ?_, by rw [e18]; exact hpP, by rw [e18, hf]; rfl, fun r0 _ => by rw [e18], ?_, fun r0 hr0 p0 hp0 => by rw [e19, e21, e22]; exact ⟨rfl, rfl, fun _ _ => rfl⟩, fun r0 hr0 p0 hp0 => ?_, fun k hk => k1 k (by omega) (by omega) (by omega) (by omega)⟩
    · rw [e18]
      refine ⟨(Q r0 hr0).1, fun p0 hp0 => ?_⟩
      by_cases z : 90 * r0 + p0 = 90 * r + p
      · have := p90 r0 hr0
        obtain ⟨rfl, rfl⟩ : r0 = r ∧ p0 = p := by omega
        exact k2
      · exact k3 r0 _ z ((Q r0 hr0).2 p0 hp0)
    · have b := fnB_iff.mp hp.2.2
      rw [fnB_iff, e19, e21, e22]; exact b
    · rw [e18] at hp0
      have := p90 r0 hr0
      rw [if_pos hp0]
      by_cases z : r0 = r ∧ p0 = p
      · obtain ⟨rfl, rfl⟩ := z
        rw [if_pos ⟨rfl, rfl⟩, k5]
      · rw [if_neg z, k4 _ (by omega), Nat.add_zero]
  | none =>
    have hP90 := hroom hf
    obtain ⟨P, hP⟩ : ∃ P, P = nv (σ 18 r) := ⟨_, rfl⟩
    rw [← hP] at hP90
    show STF r s l g σ (cUp (cmS r (nv (σ 18 r)) 6 0 0 (los (nwP σ r (nv (σ 18 r)) s l g) (90 * r + nv (σ 18 r)))) (90 * r + nv (σ 18 r))) (nv (σ 18 r))
    rw [← hP]
    have X : IVP (los (nwP σ r P s l g) (90 * r + P)) r (90 * r + P) := los_p (by rw [nwP_20]; exact NB.of (by omega) (by omega)) (by rw [nwP_21, nv_i (by omega)]; exact hl1) (by rw [nwP_21]; exact NB.of hl (by omega)) (fun j hj => by
      rw [nwP_21, nv_i (by omega)] at hj
      rw [nwP_22 hj]; exact hg j hj) (by rw [nwP_19]; exact NB.of (by omega) (by omega))
    obtain ⟨Y, F0⟩ := cmS_p hP90 6 0 0 _ rfl X
    have F : CMF r P (nwP σ r P s l g) (cmS r P 6 0 0 (los (nwP σ r P s l g) (90 * r + P))) := CMF.los.trans F0
    have hc : nv (cmS r P 6 0 0 (los (nwP σ r P s l g) (90 * r + P)) 20 (90 * r + P)) < 800 := by rw [F.nk 20 (by decide) (by decide) (by decide), nwP_20, nv_i (by omega)]; omega
    obtain ⟨k1, k2, k3, k4, k5⟩ := key _ _ P hP90 Y F hc
    have e18 := k1 18 (by decide) (by decide) (by decide) (by decide)
    have e19 := k1 19 (by decide) (by decide) (by decide) (by decide)
    have e21 := k1 21 (by decide) (by decide) (by decide) (by decide)
    have e22 := k1 22 (by decide) (by decide) (by decide) (by decide)
    have o18 : ∀ r0, r0 ≠ r → nwP σ r P s l g 18 r0 = σ 18 r0 := fun r0 h0 => nwP_o (fun _ => h0) (fun _ => Or.inr rfl) (fun w => absurd w (by decide))
    have ne : ∀ r0 p0, r0 < 2 → p0 < nv (σ 18 r0) → 90 * r0 + p0 ≠ 90 * r + P := fun r0 p0 hr0 hp0 w => by
      have := p90 r0 hr0
      obtain ⟨rfl, rfl⟩ : r0 = r ∧ p0 = P := by omega
      omega
    have old : ∀ k r0 p0, r0 < 2 → p0 < nv (σ 18 r0) → k ≠ 18 → k ≠ 22 → nwP σ r P s l g k (90 * r0 + p0) = σ k (90 * r0 + p0) := fun k r0 p0 hr0 hp0 h1 h2 => nwP_o (fun w => absurd w h1) (fun _ => Or.inl (ne r0 p0 hr0 hp0)) (fun w => absurd w h2)
    have old22 : ∀ r0 p0 j, r0 < 2 → p0 < nv (σ 18 r0) → j < 6 → nwP σ r P s l g 22 (6 * (90 * r0 + p0) + j) = σ 22 (6 * (90 * r0 + p0) + j) := fun r0 p0 j hr0 hp0 hj => by
      have := ne r0 p0 hr0 hp0
      exact nwP_o (fun w => absurd w (by decide)) (fun w => absurd rfl w) (fun _ => by omega)
    have nn : ∀ r0 p0, r0 < 2 → p0 < nv (nwP σ r P s l g 18 r0) → p0 < nv (σ 18 r0) ∨ (r0 = r ∧ p0 = P) := fun r0 p0 hr0 hp0 => by
      by_cases z : r0 = r
      · subst z
        rw [nwP_18, nv_i (by omega)] at hp0
        by_cases w : p0 = P
        · exact Or.inr ⟨rfl, w⟩
        · exact Or.inl (by omega)
      · rw [o18 r0 z] at hp0; exact Or.inl hp0
    refine ⟨fun r0 hr0 => ?_, by rw [e18, nwP_18, nv_i (by omega)]; omega, by rw [e18, nwP_18, hf, nv_i (by omega), hP]; rfl, fun r0 h0 => by rw [e18, o18 r0 h0], ?_, fun r0 hr0 p0 hp0 => ?_, fun r0 hr0 p0 hp0 => ?_, fun k hk => by rw [k1 k (by omega) (by omega) (by omega) (by omega), nwP_n (by omega)]⟩
    · rw [e18]
      refine ⟨?_, fun p0 hp0 => ?_⟩
      · by_cases z : r0 = r
        · subst z; rw [nwP_18]; exact NB.of (by omega) (by omega)
        · rw [o18 r0 z]; exact (Q r0 hr0).1
      · rcases nn r0 p0 hr0 hp0 with w | ⟨rfl, rfl⟩
        · refine k3 r0 _ (ne r0 p0 hr0 w) (((Q r0 hr0).2 p0 w).mvp (old 19 r0 p0 hr0 w (by decide) (by decide)) (old 20 r0 p0 hr0 w (by decide) (by decide)) (old 21 r0 p0 hr0 w (by decide) (by decide)) (fun j hj => old22 r0 p0 j hr0 w hj) (fun s _ => by rw [nwP_n (Or.inr (by decide))]) (fun s _ => by rw [nwP_n (Or.inr (by decide))]) (fun j _ => by rw [nwP_n (Or.inr (by decide))]))
        · exact k2
    · rw [fnB_iff, e19, e21, e22, nwP_19, nwP_21, nv_i (by omega)]
      exact ⟨rfl, rfl, fun j hj => nwP_22 hj⟩
    · rw [e19, e21, e22]
      exact ⟨old 19 r0 p0 hr0 hp0 (by decide) (by decide), old 21 r0 p0 hr0 hp0 (by decide) (by decide), fun j hj => old22 r0 p0 j hr0 hp0 hj⟩
    · rw [e18] at hp0
      rcases nn r0 p0 hr0 hp0 with w | ⟨rfl, rfl⟩
      · have nz : ¬ (r0 = r ∧ p0 = P) := fun v => ne r0 p0 hr0 w (by rw [v.1, v.2])
        rw [if_pos w, if_neg nz, k4 _ (ne r0 p0 hr0 w), old 20 r0 p0 hr0 w (by decide) (by decide), Nat.add_zero]
      · rw [if_neg (by omega), if_pos ⟨rfl, rfl⟩, k5, nwP_20, nv_i (by omega)]
/-- the class stores one part -/
theorem sto_i {b t m q y L : Nat} {g : Nat → Int32} {C : CS} (R : RR h own B τ M n) (Q : PQ τ) (hr : r < 2) (Y : BY own M b t m g) (t0 : t ≠ 0) (h40 : m ≤ 40) (hg : ∀ j, j < m → NB 15 (g j)) (u : CUR M (gr h r) C) (K : CIN C m) (hq : q < C.1) (hroom : fnd τ r g (C.2.2.1 q) (C.2.2.2 q) = none → nv (τ 18 r) < 90) (hct : ∀ p, p < nv (τ 18 r) → nv (τ 20 (90 * r + p)) < 800) (ky : mK M y = 21) (ly : mL M y = L) (hL : L ≤ 20) (qL : q < L) (oy : own y ≠ 0) (oy1 : own y ≠ 26 + r) (oy2 : own y ≠ 10 + r) (oy3 : own y ≠ 20 + r) : ∃ own' B' M' n', (∀ f, fStore_takeIn_l24 (gr h r + 1) (f + 1) (some b) (some y) (i3 q) M n = fStore_takeIn_l24 (gr h r + 1) f (some b) (some y) (i3 (q + 1)) (uI M' 0 y q (i3 (stP τ r (C.2.2.1 q) (C.2.2.2 q) g).1)) n') ∧ n ≤ n' ∧ n' ≤ n + (if (fnd τ r g (C.2.2.1 q) (C.2.2.2 q)).isSome = true then 0 else 6) ∧ RR h own' B' (stP τ r (C.2.2.1 q) (C.2.2.2 q) g).2 M' n' ∧ FRM (fun t => t = 26 + r ∨ t = 10 + r ∨ t = 20 + r) own M own' M' ∧ KPC h r M M' ∧ B'.1 = B.1 ∧ B'.2.1 = B.2.1 ∧ B'.2.2.2 = B.2.2.2 := by
  have c20 := K.1
  obtain ⟨kq1, kq2, kq3⟩ := K.2 q hq
  have G := R.rg r hr
  obtain ⟨s1, s2⟩ := c_ends G u hq c20
  have fP := c_findP R Q Y h40 hr (s := C.2.2.1 q) (l := C.2.2.2 q) kq3 kq1
  have p90 := Q.p90
  have hd : ∀ (f : Nat) x M1 n1 own1, fStore_findOrAdd (gr h r + 1) (some b) (i3 (C.2.2.1 q)) (i3 (C.2.2.1 q + C.2.2.2 q)) M n = some (.inl (some x), M1, n1) → n ≤ n1 → FRM (fun t => t = 26 + r ∨ t = 10 + r ∨ t = 20 + r) own M own1 M1 → mK M1 x = 5 → ∀ w, fPart_canBeRead x M1 = some w → fStore_takeIn_l24 (gr h r + 1) (f + 1) (some b) (some y) (i3 q) M n = if w = i3 0 then (bdW (fStore_spread (gr h r + 1) (some x) M1) fun v21 M22 => fStore_takeIn_j67 (gr h r + 1) (fStore_takeIn_l24 (gr h r + 1) f) (some b) (some y) (i3 q) (some x) M22 n1) else fStore_takeIn_j67 (gr h r + 1) (fStore_takeIn_l24 (gr h r + 1) f) (some b) (some y) (i3 q) (some x) M1 n1 := fun f x M1 n1 own1 e1 hn fm kx w ew => by
    have ks1 : mK M1 (gr h r + 1) = 8 := (fm.stK G.os (by omega) (by omega)).trans G.ks
    rw [fStore_takeIn_l24_S, fStore_takeIn_b24_E, aln_i ky (by decide) (by decide), ly, if_neg (fun w => absurd ((i3_le (by omega) (by omega)).mp w) (by omega)), fgR_s G.ks, G.s2, rk_s G.k4, s1, bdR_s, fgR_s G.ks, G.s2, rk_s G.k4, s2, bdR_s, rk_s G.ks, e1, bdC_li hn, rk_s kx, ew, bdR_s, rk_s ks1]
  -- the count, the number
  have tl : ∀ (f : Nat) own1 (B1 : BK) (ρ : Sg) (M1 : Mm) n1 p, RR h own1 B1 ρ M1 n1 → p < nv (ρ 18 r) → (∀ r, r < 2 → nv (ρ 18 r) ≤ 90) → NB 800 (ρ 20 (90 * r + p)) → FRM (fun t => t = 26 + r ∨ t = 10 + r ∨ t = 20 + r) own M own1 M1 → fStore_takeIn_j67 (gr h r + 1) (fStore_takeIn_l24 (gr h r + 1) f) (some b) (some y) (i3 q) (some (pa B1 r p)) M1 n1 = fStore_takeIn_l24 (gr h r + 1) f (some b) (some y) (i3 (q + 1)) (uI (uI M1 506 (pa B1 r p) 0 (i3 (nv (ρ 20 (90 * r + p)) + 1))) 0 y q (i3 p)) n1 ∧ RR h own1 B1 (cUp ρ (90 * r + p)) (uI M1 506 (pa B1 r p) 0 (i3 (nv (ρ 20 (90 * r + p)) + 1))) n1 ∧ FRM (fun t => t = 26 + r ∨ t = 10 + r ∨ t = 20 + r) own1 M1 own1 (uI M1 506 (pa B1 r p) 0 (i3 (nv (ρ 20 (90 * r + p)) + 1))) ∧ KPC h r M1 (uI M1 506 (pa B1 r p) 0 (i3 (nv (ρ 20 (90 * r + p)) + 1))) := fun f own1 B1 ρ M1 n1 p R1 hp h90 hc fm => by
    have A := R1.po r hr p hp
    have ky1 : mK M1 y = 21 := (fm.dyK rfl oy (by omega)).trans ky
    have ly1 : mL M1 y = L := (fm.dyL rfl oy (by omega)).trans ly
    have nu : mI (uI M1 506 (pa B1 r p) 0 (i3 (nv (ρ 20 (90 * r + p)) + 1))) 500 (pa B1 r p) 0 = i3 p := by rw [mI_uI_c _ _ _ _ (by decide)]; exact A.nu
    have ka : mK (uI M1 506 (pa B1 r p) 0 (i3 (nv (ρ 20 (90 * r + p)) + 1))) (pa B1 r p) = 5 := A.b.k
    have ky2 : mK (uI M1 506 (pa B1 r p) 0 (i3 (nv (ρ 20 (90 * r + p)) + 1))) y = 21 := ky1
    have io : IOS (fun cc a => cc = 506 ∧ a = pa B1 r p) M1 (uI M1 506 (pa B1 r p) 0 (i3 (nv (ρ 20 (90 * r + p)) + 1))) := IOS.uI _ _ _ _
    refine ⟨?_, R1.setc hr hp h90 _, io.frm fun cc a z _ => by rw [z.2]; exact Or.inl A.b.o, KPC.ios (R1.rg r hr) io fun cc a z => Or.inl (by rw [z.2, A.b.o]; omega)⟩
    have e20 : ρ 20 (90 * r + p) = i3 (nv (ρ 20 (90 * r + p))) := hc.1
    rw [fStore_takeIn_j67_E, fgI_s A.b.k, A.ct]
    generalize hcn : nv (ρ 20 (90 * r + p)) = cn at *
    rw [e20, i3_add, fpI_s A.b.k, fgI_s ka, nu, asI_i ky2 (by show q < mL M1 y; rw [ly1]; exact qL) (by omega), i3_add]
  unfold stP
  cases hf : fnd τ r g (C.2.2.1 q) (C.2.2.2 q) with
  | some p =>
    have hp := fstF_lt (show fstF (fnB τ r g (C.2.2.1 q) (C.2.2.2 q)) 0 (nv (τ 18 r)) = some p from hf)
    have hpP : p < nv (τ 18 r) := by omega
    have hp90 : p < 90 := Nat.lt_of_lt_of_le hpP (p90 r hr)
    have X := (Q r hr).2 p hpP
    have hw := (fnB_iff.mp hp.2.2).1
    have A := R.po r hr p hpP
    rw [hf] at fP
    have e1 : fStore_findOrAdd (gr h r + 1) (some b) (i3 (C.2.2.1 q)) (i3 (C.2.2.1 q + C.2.2.2 q)) M n = some (.inl (some (pa B r p)), M, n) := by
      rw [fStore_findOrAdd_E, rk_s G.ks, fP, bdR_s]
      rfl
    have g5 : gcn τ (90 * r + p) ≤ 5 := cntF_le
    have cr : fPart_canBeRead (pa B r p) M = some (bI (decide (3 ≤ gcn τ (90 * r + p)))) := by
      rw [fPart_canBeRead_E, rk_s A.b.k, c_manyGood R hr hpP hw, bdR_s]
      by_cases z : 3 ≤ gcn τ (90 * r + p)
      · rw [if_neg (fun w => absurd ((i3_lt (by omega) (by omega)).mp w) (by omega)), rZ_1, decide_eq_true z]; rfl
      · rw [if_pos ((i3_lt (by omega) (by omega)).mpr (by omega)), rZ_0, decide_eq_false z]; rfl
    by_cases z : 3 ≤ gcn τ (90 * r + p)
    · have er : rdy τ r p = τ := by unfold rdy; rw [if_pos z]
      show ∃ own' B' M' n', (∀ f, fStore_takeIn_l24 (gr h r + 1) (f + 1) (some b) (some y) (i3 q) M n = fStore_takeIn_l24 (gr h r + 1) f (some b) (some y) (i3 (q + 1)) (uI M' 0 y q (i3 p)) n') ∧ n ≤ n' ∧ n' ≤ n + 0 ∧ RR h own' B' (cUp (rdy τ r p) (90 * r + p)) M' n' ∧ _
      rw [er]
      have t1 := fun f => tl f own B τ M n p R hpP p90 X.ct FRM.refl
      refine ⟨own, B, _, n, fun f => ?_, Nat.le_refl n, Nat.le_refl n, (t1 0).2.1, (t1 0).2.2.1, (t1 0).2.2.2, rfl, rfl, rfl⟩
      rw [hd f _ M n own e1 (Nat.le_refl n) FRM.refl A.b.k _ cr, decide_eq_true z, if_neg (show ¬ bI true = i3 0 by decide)]
      exact (t1 f).1
    · have er : rdy τ r p = cmS r p 6 0 0 (los τ (90 * r + p)) := by unfold rdy; rw [if_neg z]
      show ∃ own' B' M' n', (∀ f, fStore_takeIn_l24 (gr h r + 1) (f + 1) (some b) (some y) (i3 q) M n = fStore_takeIn_l24 (gr h r + 1) f (some b) (some y) (i3 (q + 1)) (uI M' 0 y q (i3 p)) n') ∧ n ≤ n' ∧ n' ≤ n + 0 ∧ RR h own' B' (cUp (rdy τ r p) (90 * r + p)) M' n' ∧ _
      rw [er]
      obtain ⟨M1, a1, a2, a3, a4, a5, a6⟩ := spread_i hr R hpP p90 hw (los_p X.ct X.l1 X.lo X.by X.sw)
      have n18 := a4.nk 18 (by decide) (by decide) (by decide)
      have t1 := fun f => tl f own B _ M1 n p a2 (by rw [n18]; exact hpP) (by rw [n18]; exact p90) a3.ct a5
      refine ⟨own, B, _, n, fun f => ?_, Nat.le_refl n, Nat.le_refl n, (t1 0).2.1, a5.then (t1 0).2.2.1, a6.trans (t1 0).2.2.2, rfl, rfl, rfl⟩
      rw [hd f _ M n own e1 (Nat.le_refl n) FRM.refl A.b.k _ cr, decide_eq_false z, if_pos (show bI false = i3 0 from rfl), a1, bdW_s]
      exact (t1 f).1
  | none =>
    have hP90 := hroom hf
    obtain ⟨P, h90', hP⟩ := (Q r hr).1.to
    have eP : nv (τ 18 r) = P := by rw [hP]; exact nv_i (by omega)
    rw [eP] at hP90
    show ∃ own' B' M' n', (∀ f, fStore_takeIn_l24 (gr h r + 1) (f + 1) (some b) (some y) (i3 q) M n = fStore_takeIn_l24 (gr h r + 1) f (some b) (some y) (i3 (q + 1)) (uI M' 0 y q (i3 (nv (τ 18 r)))) n') ∧ n ≤ n' ∧ n' ≤ n + 6 ∧ RR h own' B' (cUp (cmS r (nv (τ 18 r)) 6 0 0 (los (nwP τ r (nv (τ 18 r)) (C.2.2.1 q) (C.2.2.2 q) g) (90 * r + nv (τ 18 r)))) (90 * r + nv (τ 18 r))) M' n' ∧ _
    rw [eP]
    rw [hf] at fP
    obtain ⟨own1, M1, n1, e1, b1, b2, R1, f1, v1⟩ := addp_i R hr hP hP90 p90 Y t0 h40 kq2 kq3 kq1 hg fP
    obtain ⟨ρ, hρ⟩ : ∃ ρ, ρ = los (nwP τ r P (C.2.2.1 q) (C.2.2.2 q) g) (90 * r + P) := ⟨_, rfl⟩
    have X : IVP ρ r (90 * r + P) := by
      rw [hρ]
      exact los_p (by rw [nwP_20]; exact NB.of (by omega) (by omega)) (by rw [nwP_21, nv_i (by omega)]; exact kq2) (by rw [nwP_21]; exact NB.of kq3 (by omega)) (fun j hj => by
        rw [nwP_21, nv_i (by omega)] at hj
        rw [nwP_22 hj]; exact hg _ (by omega)) (by rw [nwP_19]; exact NB.of (by omega) (by omega))
    have ll : los ρ (90 * r + P) = ρ := by rw [hρ]; exact los_los
    rw [← hρ] at R1 ⊢
    have p18 : ∀ r0, r0 < 2 → nv (ρ 18 r0) ≤ 90 := fun r0 hr0 => by
      rw [hρ, los_n (by decide) (by decide)]
      by_cases z : r0 = r
      · subst z; rw [nwP_18, nv_i (by omega)]; omega
      · rw [nwP_o (fun _ => z) (fun _ => Or.inr rfl) (fun w => absurd w (by decide))]; exact p90 r0 hr0
    have hPl : P < nv (ρ 18 r) := by rw [hρ, los_n (by decide) (by decide), nwP_18, nv_i (by omega)]; omega
    have hw : ρ 19 (90 * r + P) = i3 0 := by rw [hρ, los_n (by decide) (by decide), nwP_19]
    have epa : pa (bkP B r P n) r P = n := if_pos ⟨rfl, rfl⟩
    have A1 := R1.po r hr P hPl
    rw [epa] at A1
    have gz : gcn ρ (90 * r + P) = 0 := by
      unfold gcn
      have no : ∀ d i, i + d ≤ 5 → cntF (gdb ρ (90 * r + P)) i d = 0 := by
        intro d
        induction d with
        | zero => intro i _; rfl
        | succ d ih =>
          intro i hi
          have e : gdb ρ (90 * r + P) i = false := decide_eq_false fun w => w.1 (by rw [hρ, los_23, if_pos (by omega)])
          rw [cntF_S, e, ih (i + 1) (by omega), if_neg (by decide)]
      exact no 5 0 (by omega)
    have mg : fPart_manyGood n M1 = some (i3 0) := by
      have := c_manyGood R1 hr hPl hw
      rw [epa, gz] at this; exact this
    have cr : fPart_canBeRead n M1 = some (i3 0) := by
      rw [fPart_canBeRead_E, rk_s A1.b.k, mg, bdR_s, if_pos (by decide), rZ_0]
    obtain ⟨M2, a1, a2, a3, a4, a5, a6⟩ := spread_i hr R1 hPl p18 hw (by rw [ll]; exact X)
    rw [ll] at a2 a3 a4
    rw [epa] at a1
    have n18 := a4.nk 18 (by decide) (by decide) (by decide)
    have t1 := fun f => tl f own1 _ _ M2 n1 P a2 (by rw [n18]; exact hPl) (by rw [n18]; exact p18) a3.ct (f1.then a5)
    rw [epa] at t1
    refine ⟨own1, _, _, n1, fun f => ?_, by omega, b2, (t1 0).2.1, (f1.then a5).then (t1 0).2.2.1, (v1.trans a6).trans (t1 0).2.2.2, rfl, rfl, rfl⟩
    rw [hd f n M1 n1 own1 e1 (by omega) f1 A1.b.k _ cr, if_pos rfl, a1, bdW_s]
    exact (t1 f).1
end SV

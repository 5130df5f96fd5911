set_option maxRecDepth 100000
/-! a store: both sides -/
section SI
variable {h c n r : Nat} {own : Nat → Nat} {B : BK} {σ σ' σh τ : Sg} {M M' : Mm}
theorem nwp_e {g : Nat → Int32} {C : CS} (e : PFE σ τ) : nwp σ r g C = nwp τ r g C := by
  unfold nwp
  funext q
  rw [fnd_e e]
theorem store_i {b t m E : Nat} {key mk : Int32} {g : Nat → Int32} {C : CS} (R : RR h own B σ M n) (I : IV c σ) (hr : r < 2) (Y : BY own M b t m g) (t0 : t ≠ 0) (t1 : t ≠ 1) (h40 : m ≤ 40) (ht : t ≠ 10 + r) (hg : ∀ j, j < m → NB 15 (g j)) (hk : ISK key) (hE : σ 8 0 = i3 E) (hE2 : E ≤ 200) (hz : rmB σ r m g = true) (AG : ∀ k, 8 ≤ k → k ≠ 46 → k ≠ 43 → σh k = σ k) (hC : C = cS g m m) (A : ∀ j, j < m → σh 4 j = g j) (u : ∀ q, q < C.1 → σh 6 q = i3 (C.2.2.1 q) ∧ σh 7 q = i3 (C.2.2.2 q)) (hmk : (mk = i3 0 ∧ σh 5 0 = i3 C.1) ∨ (mk = i3 1 ∧ C.1 = 0)) : ∃ own' B' M' n' γ σ1 σ2, fHb_store h (some (gr h r)) key (some b) M n = some (.inl (i3 (E + 1)), M', n') ∧ fMd_numbers (i3 r) key (i3 m) σh = some (i3 (E + 1), σ1) ∧ fMd_enters (i3 r) (i3 (E + 1)) mk σ1 = some ((), σ2) ∧ n ≤ n' ∧ RR h own' B' γ M' n' ∧ IV c γ ∧ (∀ k, 8 ≤ k → k ≠ 46 → k ≠ 43 → γ k = σ2 k) ∧ (∀ k, k < 8 ∨ 40 ≤ k → γ k = σ k ∧ σ2 k = σh k) ∧ n' + 4 * kpt γ + ppt σ ≤ n + 4 * kpt σ + ppt γ + 25 ∧ B'.2.2.2 = B.2.2.2 := by
  have G := R.rg r hr
  have nm := R.nm
  have eE : nv (σ 8 0) = E := by rw [hE]; exact nv_i (by omega)
  rw [hE] at nm
  have hz' := hz
  unfold rmB at hz
  rw [eE, Bool.and_eq_true, decide_eq_true_eq] at hz
  obtain ⟨hE200, hz2⟩ := hz
  obtain ⟨V, hV40, hV⟩ := (I.vn r hr).to
  have eV : nv (σ 26 r) = V := by rw [hV]; exact nv_i (by omega)
  obtain ⟨Kr, hK200, hK⟩ := (I.kn r hr).to
  have eK : nv (σ 36 r) = Kr := by rw [hK]; exact nv_i (by omega)
  have ks := I.ks
  have hKr : Kr ≤ E := by
    rcases (by omega : r = 0 ∨ r = 1) with rfl | rfl <;> omega
  have p90 := I.p90 r hr
  have v4 : V < 40 := by
    rw [eV] at hz2
    by_cases z : m = 0
    · rw [if_pos z] at hz2; exact of_decide_eq_true hz2
    · rw [if_neg z] at hz2
      unfold rom at hz2
      rw [Bool.and_eq_true, Bool.and_eq_true, eV] at hz2
      exact of_decide_eq_true hz2.2.1
  have rm : nv (σ 18 r) + cntF (nwp σ r g C) 0 C.1 ≤ 90 := by
    by_cases z : m = 0
    · subst z
      have : C.1 = 0 := by rw [hC]; rfl
      rw [this]
      show nv (σ 18 r) + 0 ≤ 90
      omega
    · rw [if_neg z] at hz2
      unfold rom at hz2
      rw [Bool.and_eq_true, Bool.and_eq_true] at hz2
      rw [hC]
      exact of_decide_eq_true hz2.2.2
  -- room, the entry
  obtain ⟨M1, e1, e2⟩ := c_hasRoom R I.pq (I.vn r hr).2 Y h40 ht hr
  rw [hz2] at e1
  have fc : FRM (fun x => x = 10 + r) own M own M1 := e2.frm fun cc a z _ => scu_own G z
  have R1 : RR h own B σ M1 n := R.scr fc fun x hx => by omega
  have Y1 := Y.ios e2 (fun cc a z => by rw [scu_own G z]; omega)
  obtain ⟨own2, M2, k1, R2, F2⟩ := ent_i (key := key) R1 I Y1 t0 t1 h40 hg hE hE200
  have I2 := IV_enS I hE hE200 h40 hg hk
  obtain ⟨γ0, hγ⟩ : ∃ γ0, γ0 = enS σ E m key g := ⟨_, rfl⟩
  rw [← hγ] at R2 I2
  have g8 : γ0 8 0 = i3 (E + 1) := by rw [hγ]; exact enS_8
  have e8 : nv (γ0 8 0) = E + 1 := by rw [g8]; exact nv_i (by omega)
  have gn : ∀ k, k ≠ 10 ∧ k ≠ 39 ∧ k ≠ 38 ∧ k ≠ 9 ∧ k ≠ 8 → γ0 k = σ k := fun k hk' => by rw [hγ]; exact enS_n hk'
  have pfe : PFE γ0 σ := fun k a b => gn k (by omega)
  have FT : FIT γ0 r (E + 1) V m C g := by
    refine ⟨by omega, by omega, by rw [gn 26 (by decide)]; exact hV, v4, fun i hi w => ?_, by rw [hγ]; exact enS_9, h40, fun j hj => by rw [hγ]; exact (enS_10 hj).symm, hC, ?_⟩
    · have X := (I.vo r hr i (by omega)).nu.2
      have w2 : nv (σ 27 (40 * r + i)) = E + 1 := by
        have e27 := gn 27 (by decide)
        unfold nE at w
        rw [e27] at w
        exact w
      omega
    · rw [gn 18 (by decide), nwp_e pfe]; exact rm
  -- the check's numbers
  have h8 : σh 8 0 = i3 E := by rw [AG 8 (by omega) (by omega) (by omega)]; exact hE
  have h36 : σh 36 r = i3 Kr := by rw [AG 36 (by omega) (by omega) (by omega)]; exact hK
  have mn := m_numbers (σ := σh) (key := key) (m := m) hr h8 hE200 h36 (by omega) h40
  obtain ⟨σ1, hσ1⟩ : ∃ σ1, σ1 = nuS σh r E Kr m key := ⟨_, rfl⟩
  rw [← hσ1] at mn
  have s1n : ∀ k, k ≠ 36 ∧ k ≠ 37 ∧ k ≠ 10 ∧ k ≠ 39 ∧ k ≠ 38 ∧ k ≠ 9 ∧ k ≠ 8 → σ1 k = σh k := fun k hk' => by rw [hσ1]; exact nuS_n hk'
  -- the numbers of check and ghost
  have same : ∀ k, k = 8 ∨ k = 9 ∨ k = 10 ∨ k = 38 ∨ k = 39 → σ1 k = γ0 k := fun k hk' => funext fun j => by
    rw [hσ1, hγ]
    show (if k = 36 ∧ j = r then i3 (Kr + 1) else if k = 37 ∧ j = 200 * r + Kr then i3 (E + 1) else if k = 10 ∧ 40 * (E + 1) ≤ j ∧ j < 40 * (E + 1) + m then σh 4 (j - 40 * (E + 1)) else if k = 39 ∧ j = E + 1 then σh 11 0 else if k = 38 ∧ j = E + 1 then key else if k = 9 ∧ j = E + 1 then i3 m else if k = 8 ∧ j = 0 then i3 (E + 1) else σh k j) = (if k = 10 ∧ 40 * (E + 1) ≤ j ∧ j < 40 * (E + 1) + m then g (j - 40 * (E + 1)) else if k = 39 ∧ j = E + 1 then σ 11 0 else if k = 38 ∧ j = E + 1 then key else if k = 9 ∧ j = E + 1 then i3 m else if k = 8 ∧ j = 0 then i3 (E + 1) else σ k j)
    rw [if_neg (by omega), if_neg (by omega), AG k (by omega) (by omega) (by omega), AG 11 (by omega) (by omega) (by omega)]
    by_cases z : k = 10 ∧ 40 * (E + 1) ≤ j ∧ j < 40 * (E + 1) + m
    · rw [if_pos z, if_pos z]; exact A _ (by omega)
    · rw [if_neg z, if_neg z]
  have AG1 : ∀ k, 17 ≤ k → k ≤ 39 → k ≠ 36 → k ≠ 37 → σ1 k = γ0 k := fun k a b d e => by
    by_cases z : k = 38 ∨ k = 39
    · exact same k (by omega)
    · rw [s1n k (by omega), gn k (by omega)]; exact AG k (by omega) (by omega) (by omega)
  have bnE : en (bkE B E n) (E + 1) = n := bkE_e
  obtain ⟨own3, B3, M3, n3, σ2, q1, q2, q3, q4, R3, I3, q5, q6, q7, q8⟩ := take_i (σh := σ1) (mk := mk) R2 I2 hr FT AG1 (fun j hj => by rw [s1n 4 (by decide)]; exact A j hj) (fun q hq => by rw [s1n 6 (by decide), s1n 7 (by decide)]; exact u q hq) (by rw [s1n 5 (by decide)]; exact hmk)
  rw [bnE] at q1
  have gam8 : gam γ0 σ2 8 = γ0 8 := rfl
  have gam36 : gam γ0 σ2 36 = σ 36 := gn 36 (by decide)
  obtain ⟨own4, M4, n4, w1, w2, w3, R4, I4⟩ := kept_i (N := E + 1) (Kr := Kr) R3 I3 hr (by rw [gam36]; exact hK) (by omega) (by omega) (by rw [gam8]; omega) (by rw [gam36, gam8, e8]; omega)
  have enB3 : en B3 (E + 1) = n := by
    have : en B3 = en (bkE B E n) := by unfold en; rw [q7]
    rw [this]; exact bkE_e
  rw [enB3] at w1
  refine ⟨own4, B3, M4, n4, kpS (gam γ0 σ2) r Kr (E + 1), σ1, σ2, ?_, mn, q2, by omega, R4, I4, fun k k1' k2' k3' => ?_, fun k hk' => ⟨?_, ?_⟩, ?_, q8⟩
  · have G2 := R2.rg r hr
    have G3 := R3.rg r hr
    have K3 := R3.kl r hr
    have hb4 := R4.hb.k
    have nm4 : mI M4 1108 h 0 = i3 (E + 1) := by
      rw [R4.nm]
      show γ0 8 0 = i3 (E + 1)
      exact g8
    have nm1 : mI M1 1108 h 0 = i3 E := by rw [R1.nm]; exact hE
    have kk := k1 (fun y6 M22 n16 => rk 6 (some (gr h r)) M22 fun a23 => bdC (fRegion_take a23 y6 M22 n16) n16 fun v26 M27 n28 => fgR 6 602 (some (gr h r)) M27 fun v29 => rk 12 v29 M27 fun a30 => bdC (fAl_add1 a30 y6 M27 n28) n28 fun v33 M34 n35 => fgI 11 1108 (some h) M34 fun v36 => some (.inl v36, M34, n35))
    have kr : (rk 6 (some (gr h r)) M2 fun a23 => bdC (fRegion_take a23 (some n) M2 (n + 3)) (n + 3) fun v26 M27 n28 => fgR 6 602 (some (gr h r)) M27 fun v29 => rk 12 v29 M27 fun a30 => bdC (fAl_add1 a30 (some n) M27 n28) n28 fun v33 M34 n35 => fgI 11 1108 (some h) M34 fun v36 => (some (.inl v36, M34, n35) : Option ((Int32 ⊕ Nat) × Mm × Nat))) = some (.inl (i3 (E + 1)), M4, n4) := by
      rw [rk_s G2.k, q1, bdC_li q3, fgR_s G3.k, G3.p2, rk_s K3.k, w1, bdC_li w2, fgI_s hb4, nm4]
    rw [fHb_store_E, fgI_s R.hb.k, nm, if_neg (fun w => absurd ((i3_le (by omega) (by omega)).mp w) (by omega)), rk_s G.k, e1, bdW_s, if_neg (show ¬ bI true = i3 0 by decide), fHb_store_j23_E, c_st1, bdC_li (Nat.le_refl n), fgI_s R1.hb.k, nm1, i3_add]
    exact kk.trans kr
  · show kpS (gam γ0 σ2) r Kr (E + 1) k = σ2 k
    have vk : ∀ k, k ≠ 36 → k ≠ 37 → kpS (gam γ0 σ2) r Kr (E + 1) k = gam γ0 σ2 k := fun k a b => by unfold kpS; rw [uS_n _ _ _ a, uS_n _ _ _ b]
    by_cases z36 : k = 36
    · subst z36
      rw [q5 36 (Or.inr (by decide)), hσ1]
      funext j
      show (if 36 = 36 ∧ j = r then i3 (Kr + 1) else (if 36 = 37 ∧ j = 200 * r + Kr then i3 (E + 1) else γ0 36 j)) = (if 36 = 36 ∧ j = r then i3 (Kr + 1) else if 36 = 37 ∧ j = 200 * r + Kr then i3 (E + 1) else if 36 = 10 ∧ 40 * (E + 1) ≤ j ∧ j < 40 * (E + 1) + m then σh 4 (j - 40 * (E + 1)) else if 36 = 39 ∧ j = E + 1 then σh 11 0 else if 36 = 38 ∧ j = E + 1 then key else if 36 = 9 ∧ j = E + 1 then i3 m else if 36 = 8 ∧ j = 0 then i3 (E + 1) else σh 36 j)
      rw [gn 36 (by decide), AG 36 (by omega) (by omega) (by omega)]
      by_cases w : j = r
      · rw [if_pos ⟨rfl, w⟩, if_pos ⟨rfl, w⟩]
      · rw [if_neg (fun y => w y.2), if_neg (by omega), if_neg (fun y => w y.2), if_neg (by omega), if_neg (by omega), if_neg (by omega), if_neg (by omega), if_neg (by omega), if_neg (by omega)]
    · by_cases z37 : k = 37
      · subst z37
        rw [q5 37 (Or.inr (by decide)), hσ1]
        funext j
        show (if 37 = 36 ∧ j = r then i3 (Kr + 1) else (if 37 = 37 ∧ j = 200 * r + Kr then i3 (E + 1) else γ0 37 j)) = (if 37 = 36 ∧ j = r then i3 (Kr + 1) else if 37 = 37 ∧ j = 200 * r + Kr then i3 (E + 1) else if 37 = 10 ∧ 40 * (E + 1) ≤ j ∧ j < 40 * (E + 1) + m then σh 4 (j - 40 * (E + 1)) else if 37 = 39 ∧ j = E + 1 then σh 11 0 else if 37 = 38 ∧ j = E + 1 then key else if 37 = 9 ∧ j = E + 1 then i3 m else if 37 = 8 ∧ j = 0 then i3 (E + 1) else σh 37 j)
        rw [gn 37 (by decide), AG 37 (by omega) (by omega) (by omega)]
        by_cases w : j = 200 * r + Kr
        · rw [if_neg (by omega), if_pos ⟨rfl, w⟩, if_neg (by omega), if_pos ⟨rfl, w⟩]
        · rw [if_neg (by omega), if_neg (fun y => w y.2), if_neg (by omega), if_neg (fun y => w y.2), if_neg (by omega), if_neg (by omega), if_neg (by omega), if_neg (by omega), if_neg (by omega)]
      · rw [vk k z36 z37]
        show (if 18 ≤ k ∧ k ≤ 35 then σ2 k else γ0 k) = σ2 k
        by_cases y : 18 ≤ k ∧ k ≤ 35
        · rw [if_pos y]
        · rw [if_neg y, q5 k (by omega)]
          by_cases w : k = 8 ∨ k = 9 ∨ k = 10 ∨ k = 38 ∨ k = 39
          · exact (same k w).symm
          · rw [s1n k (by omega), gn k (by omega)]; exact (AG k k1' k2' k3').symm
  · unfold kpS
    rw [uS_n _ _ _ (by omega), uS_n _ _ _ (by omega)]
    show (if 18 ≤ k ∧ k ≤ 35 then σ2 k else γ0 k) = σ k
    rw [if_neg (by omega)]; exact gn k (by omega)
  · rw [q5 k (by omega)]; exact s1n k (by omega)
  · have x36 : ∀ r0, nv (kpS (gam γ0 σ2) r Kr (E + 1) 36 r0) = if r0 = r then Kr + 1 else nv (σ 36 r0) := fun r0 => by
      unfold kpS
      by_cases z : r0 = r
      · rw [z, uS_e, if_pos rfl, nv_i (by omega)]
      · rw [uS_d _ _ _ _ z, if_neg z, uS_n _ _ _ (by decide), gam36]
    have x18 : ∀ r0, nv (kpS (gam γ0 σ2) r Kr (E + 1) 18 r0) = nv (σ2 18 r0) := fun r0 => rfl
    have x8 : nv (kpS (gam γ0 σ2) r Kr (E + 1) 8 0) = E + 1 := e8
    have y18 := gn 18 (by decide)
    rw [y18] at q4 q6
    unfold kpt ppt
    rw [x36, x36, x18, x18, x8, eE]
    rcases (by omega : r = 0 ∨ r = 1) with rfl | rfl
    · have o := q6 1 (by omega) (by omega)
      rw [if_pos rfl, if_neg (by decide), o]
      omega
    · have o := q6 0 (by omega) (by omega)
      rw [if_neg (by decide), if_pos rfl, o]
      omega
end SI

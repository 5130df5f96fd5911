set_option maxRecDepth 100000
/-! shards made: encode, place; made, lays -/
section LY
variable {h c n r : Nat} {own : Nat → Nat} {B : BK} {σ σ' : Sg} {M M' : Mm}
theorem c_encode {lo : Nat} {g : Nat → Int32} (R : RR h own B σ M n) (hr : r < 2) (hg : ∀ j, j < lo → NB 15 (g j)) (hv : ∀ j, j < 6 → mI M 0 (gr h r + 8) j = i3 (dat lo g j)) : ∃ M', fCode_encodePlain (gr h r + 7) M = some ((), M') ∧ IOS (fun cc x => cc = 0 ∧ x = gr h r + 9) M M' ∧ ∀ j, j < 10 → mI M' 0 (gr h r + 9) j = i3 (mde lo g (j / 2) (j - j / 2 * 2)) := by
  have lp : ∀ d x fu (M2 : Mm), d + x = 10 → d < fu → IOS (fun cc x => cc = 0 ∧ x = gr h r + 9) M M2 → (∀ j, j < x → mI M2 0 (gr h r + 9) j = i3 (mde lo g (j / 2) (j - j / 2 * 2))) → ∃ M', fCode_encodePlain_l2 (gr h r + 7) fu (i3 x) M2 = some ((), M') ∧ IOS (fun cc x => cc = 0 ∧ x = gr h r + 9) M M' ∧ ∀ j, j < 10 → mI M' 0 (gr h r + 9) j = i3 (mde lo g (j / 2) (j - j / 2 * 2)) := by
    intro d
    induction d with
    | zero =>
      intro x fu M2 hd hfu f2 h2
      obtain ⟨f, rfl⟩ : ∃ f, fu = f + 1 := ⟨fu - 1, by omega⟩
      have G := (R.code hr (f2.mono fun cc y w => by omega)).rg r hr
      refine ⟨M2, ?_, f2, fun j hj => h2 j (by omega)⟩
      rw [fCode_encodePlain_l2_S, fCode_encodePlain_b2_E, fgR_s G.k7, G.d1, aln_i G.k9 (by decide) (by decide), G.l9, if_pos ((i3_le (by omega) (by omega)).mpr (by omega))]
    | succ d ih =>
      intro x fu M2 hd hfu f2 h2
      obtain ⟨f, rfl⟩ : ∃ f, fu = f + 1 := ⟨fu - 1, by omega⟩
      have G := (R.code hr (f2.mono fun cc y w => by omega)).rg r hr
      obtain ⟨s, hs⟩ : ∃ s, s = x / 2 := ⟨_, rfl⟩
      obtain ⟨k, hk⟩ : ∃ k, k = x - x / 2 * 2 := ⟨_, rfl⟩
      have hk2 : k < 2 := by omega
      have hs5 : s < 5 := by omega
      have pv : ∀ j, j < 6 → mI M2 0 (gr h r + 8) j = i3 (dat lo g j) := fun j hj => by rw [f2.2 _ _ _ (by omega)]; exact hv j hj
      have pb : ∀ j, j < 6 → fCode_plainByte (gr h r + 7) (i3 j) M2 = some (i3 (dat lo g j)) := fun j hj => by
        rw [fCode_plainByte_E, if_neg (fun w => absurd ((i3_lt (by omega) (by omega)).mp w) (by omega)), fgR_s G.k7, G.d0, aln_i G.k8 (by decide) (by decide), G.l8, if_neg (fun w => absurd ((i3_le (by omega) (by omega)).mp w) (by omega)), fgR_s G.k7, G.d0, alI_i G.k8 (by rw [G.l8]; omega) (by omega), pv j hj]
      have stp : ∀ f' d acc, d < 3 → acc < 16 → fCode_encodePlain_l15 (gr h r + 7) (fCode_encodePlain_l2 (gr h r + 7) f) (f' + 1) (i3 x) (i3 acc) (i3 d) M2 = fCode_encodePlain_l15 (gr h r + 7) (fCode_encodePlain_l2 (gr h r + 7) f) f' (i3 x) (i3 (acc ^^^ tm (wgt s d) (dat lo g (2 * d + k)))) (i3 (d + 1)) M2 := fun f' d acc hd3 ha => by
        have ed : d * 2 + (x - x / 2 * 2) = 2 * d + k := by omega
        have dl := dat_lt hg (j := 2 * d + k)
        have wl := wgt_lt (s := s) hd3
        rw [fCode_encodePlain_l15_S, fCode_encodePlain_b15_E, if_neg (fun w => absurd ((i3_le (by omega) (by omega)).mp w) (by omega)), rk_s G.k7, i3_div (by omega) (by omega), i3_mul, i3_mul, i3_sub (by omega), i3_add, ed, pb _ (by omega), bdR_s, ← hs, fac_e hs5 hd3, bdR_s, c_times wl dl, bdR_s, i3_xor ha (tm_lt wl dl), i3_add]
      have fin : ∀ f' acc, acc < 16 → fCode_encodePlain_l15 (gr h r + 7) (fCode_encodePlain_l2 (gr h r + 7) f) (f' + 1) (i3 x) (i3 acc) (i3 3) M2 = fCode_encodePlain_l2 (gr h r + 7) f (i3 (x + 1)) (uI M2 0 (gr h r + 9) x (i3 acc)) := fun f' acc ha => by
        rw [fCode_encodePlain_l15_S, fCode_encodePlain_b15_E, if_pos ((i3_le (by omega) (by omega)).mpr (Nat.le_refl 3)), fgR_s G.k7, G.d1, asB_i G.k9 (by rw [G.l9]; omega) (by omega), i3_small (by omega), i3_small (by omega), i3_add]
      have d0 := dat_lt hg (j := 2 * 0 + k)
      have d1 := dat_lt hg (j := 2 * 1 + k)
      have d2 := dat_lt hg (j := 2 * 2 + k)
      have t0 := tm_lt (wgt_lt (s := s) (d := 0) (by omega)) d0
      have t1 := tm_lt (wgt_lt (s := s) (d := 1) (by omega)) d1
      have t2 := tm_lt (wgt_lt (s := s) (d := 2) (by omega)) d2
      have em : 0 ^^^ tm (wgt s 0) (dat lo g (2 * 0 + k)) ^^^ tm (wgt s 1) (dat lo g (2 * 1 + k)) ^^^ tm (wgt s 2) (dat lo g (2 * 2 + k)) = mde lo g s k := by
        unfold mde
        rw [Nat.zero_xor, show 2 * 0 + k = k by omega, show 2 * 1 + k = 2 + k by omega, show 2 * 2 + k = 4 + k by omega]
      have run : fCode_encodePlain_l15 (gr h r + 7) (fCode_encodePlain_l2 (gr h r + 7) f) FU (i3 x) (i3 0) (i3 0) M2 = fCode_encodePlain_l2 (gr h r + 7) f (i3 (x + 1)) (uI M2 0 (gr h r + 9) x (i3 (mde lo g s k))) := by
        rw [← em]
        show fCode_encodePlain_l15 (gr h r + 7) (fCode_encodePlain_l2 (gr h r + 7) f) (99996 + 1 + 1 + 1 + 1) (i3 x) (i3 0) (i3 0) M2 = _
        rw [stp _ 0 0 (by omega) (by omega), stp _ (0 + 1) _ (by omega) (x_lt (by omega) t0), stp _ (0 + 1 + 1) _ (by omega) (x_lt (x_lt (by omega) t0) t1)]
        exact fin _ _ (x_lt (x_lt (x_lt (by omega) t0) t1) t2)
      obtain ⟨M', e1, e2, e3⟩ := ih (x + 1) f (uI M2 0 (gr h r + 9) x (i3 (mde lo g s k))) (by omega) (by omega) ((f2.trans (IOS.uI _ _ _ _)).mono fun cc y w => by omega) (fun j hj => by
        by_cases w : j = x
        · subst w; rw [mI_uI_e, hs, hk]
        · rw [mI_uI_j _ _ _ _ w]; exact h2 j (by omega))
      refine ⟨M', ?_, e2, e3⟩
      rw [fCode_encodePlain_l2_S, fCode_encodePlain_b2_E, fgR_s G.k7, G.d1, aln_i G.k9 (by decide) (by decide), G.l9, if_neg (fun w => absurd ((i3_le (by omega) (by omega)).mp w) (by omega)), run]
      exact e1
  obtain ⟨M', e1, e2, e3⟩ := lp 10 0 FU M (by omega) (FU_S (by omega)) IOS.refl (fun j hj => by omega)
  exact ⟨M', by rw [fCode_encodePlain_E]; exact e1, e2, e3⟩
theorem c_place {a s x : Nat} {w0 w1 : Nat} (A : PRT own M a r) (G : RG own M (gr h r) r) (hr : r < 2) (hs : s < 5) (h0 : mI M 0 (gr h r + 9) (2 * s + 0) = i3 w0) (h1 : mI M 0 (gr h r + 9) (2 * s + 1) = i3 w1) (l0 : w0 < 16) (l1 : w1 < 16) : fPart_place a (i3 s) (i3 x) (some (gr h r + 7)) M = some ((), uI (uI (uI (uI M 0 (a + 3) s (i3 x)) 0 (a + 4) s (i3 0)) 0 (a + 2) (2 * s + 0) (i3 w0)) 0 (a + 2) (2 * s + 1) (i3 w1)) := by
  have one : ∀ (M2 : Mm) (k w : Nat) (K : Int32 → Option Nat → Int32 → Mm → Option (Unit × Mm)), PRT own M2 a r → RG own M2 (gr h r) r → k < 2 → mI M2 0 (gr h r + 9) (2 * s + k) = i3 w → w < 16 → fPart_place_b26 a K (i3 s) (some (gr h r + 7)) (i3 k) M2 = K (i3 s) (some (gr h r + 7)) (i3 (k + 1)) (uI M2 0 (a + 2) (2 * s + k) (i3 w)) := fun M2 k w K A G hk hb hw => by
    have e : s * 2 + k = 2 * s + k := by omega
    rw [fPart_place_b26_E, if_neg (fun w => absurd ((i3_le (by omega) (by omega)).mp w) (by omega)), rk_s G.k7, fCode_codedByte_E, i3_mul, i3_add, e, if_neg (fun w => absurd ((i3_lt (by omega) (by omega)).mp w) (by omega)), fgR_s G.k7, G.d1, aln_i G.k9 (by decide) (by decide), G.l9, if_neg (fun w => absurd ((i3_le (by omega) (by omega)).mp w) (by omega)), fgR_s G.k7, G.d1, alI_i G.k9 (by rw [G.l9]; omega) (by omega), hb, bdR_s, rk_s A.k, fPart_setShardByte_E, i3_mul, i3_add, e, if_neg (fun w => absurd ((i3_lt (by omega) (by omega)).mp w) (by omega)), fgR_s A.k, A.p3, aln_i A.k2 (by decide) (by decide), A.l2, if_neg (fun w => absurd ((i3_le (by omega) (by omega)).mp w) (by omega)), fgR_s A.k, A.p3, asB_i A.k2 (by rw [A.l2]; omega) (by omega), i3_small (by omega), i3_small (by omega), bdW_s, i3_add]
  have kp : ∀ (M2 : Mm) (b j : Nat) (v : Int32), PRT own M2 a r → PRT own (uI M2 0 b j v) a r := fun M2 b j v A => A.keep fun a' o => ⟨rfl, rfl, rfl, fun _ _ => rfl⟩
  have kg : ∀ (M2 : Mm) (b j : Nat) (v : Int32), RG own M2 (gr h r) r → RG own (uI M2 0 b j v) (gr h r) r := fun M2 b j v G => G.keep (fun a' o => ⟨rfl, rfl, rfl, fun _ _ => rfl⟩) (fun a' o => ⟨rfl, rfl, rfl, fun _ _ => rfl⟩) (fun a' o => ⟨rfl, rfl, rfl, fun _ _ => rfl⟩) (fun a' o => ⟨rfl, rfl, rfl, fun _ _ => rfl⟩)
  have og := G.o9
  have d2 : gr h r + 9 ≠ a + 2 := fun z => by have := A.o2; rw [← z] at this; omega
  have d3 : gr h r + 9 ≠ a + 3 := fun z => by have := A.o3; rw [← z] at this; omega
  have d4 : gr h r + 9 ≠ a + 4 := fun z => by have := A.o4; rw [← z] at this; omega
  obtain ⟨M2, hM2⟩ : ∃ M2, M2 = uI (uI M 0 (a + 3) s (i3 x)) 0 (a + 4) s (i3 0) := ⟨_, rfl⟩
  have A2 : PRT own M2 a r := by rw [hM2]; exact kp _ _ _ _ (kp _ _ _ _ A)
  have G2 : RG own M2 (gr h r) r := by rw [hM2]; exact kg _ _ _ _ (kg _ _ _ _ G)
  have b0 : mI M2 0 (gr h r + 9) (2 * s + 0) = i3 w0 := by rw [hM2, mI_uI_a _ _ _ _ d4, mI_uI_a _ _ _ _ d3]; exact h0
  have b1 : mI (uI M2 0 (a + 2) (2 * s + 0) (i3 w0)) 0 (gr h r + 9) (2 * s + 1) = i3 w1 := by rw [mI_uI_a _ _ _ _ d2, hM2, mI_uI_a _ _ _ _ d4, mI_uI_a _ _ _ _ d3]; exact h1
  have run : fPart_place_l26 a FU (i3 s) (some (gr h r + 7)) (i3 0) M2 = some ((), uI (uI M2 0 (a + 2) (2 * s + 0) (i3 w0)) 0 (a + 2) (2 * s + 1) (i3 w1)) := by
    show fPart_place_l26 a (99997 + 1 + 1 + 1) (i3 s) (some (gr h r + 7)) (i3 0) M2 = _
    rw [fPart_place_l26_S, one M2 0 w0 _ A2 G2 (by omega) b0 l0, fPart_place_l26_S, one _ (0 + 1) w1 _ (kp _ _ _ _ A2) (kg _ _ _ _ G2) (by omega) b1 l1, fPart_place_l26_S, fPart_place_b26_E, if_pos ((i3_le (by omega) (by omega)).mpr (Nat.le_refl 2))]
  rw [fPart_place_E, if_neg (fun w => absurd ((i3_lt (by omega) (by omega)).mp w) (by omega)), if_neg (fun w => absurd ((i3_le (by omega) (by omega)).mp w) (by omega)), fgR_s A.k, A.p4, asI_i A.k3 (by rw [A.l3]; omega) (by omega)]
  have A3 := kp M (a + 3) s (i3 x) A
  rw [fgR_s A3.k, A3.p5, asZ_0 A3.k4 (by rw [A3.l4]; omega) (by omega), ← hM2]
  exact run
abbrev byg (σ : Sg) (a : Nat) : Nat → Int32 := fun j => σ 22 (6 * a + j)
abbrev mdv (σ : Sg) (a s k : Nat) : Nat := mde (nv (σ 21 a)) (byg σ a) s k
theorem m_made {a s k : Nat} (ha : a < 180) (hs : s < 5) (hk : k < 2) (hlo : NB 6 (σ 21 a)) (hby : ∀ j, j < nv (σ 21 a) → NB 15 (σ 22 (6 * a + j))) : fMd_made (i3 a) (i3 s) (i3 k) σ = some (i3 (mdv σ a s k)) := by
  obtain ⟨lo, hlo6, el⟩ := hlo.to
  have elo : nv (σ 21 a) = lo := by rw [el]; exact nv_i (by omega)
  rw [elo] at hby
  have hg : ∀ j, j < lo → NB 15 (byg σ a j) := hby
  have da : ∀ d, d < 3 → fMd_dataAt (i3 a) (i3 d) (i3 k) σ = some (i3 (dat lo (byg σ a) (2 * d + k))) := fun d hd => by
    rw [fMd_dataAt_E, mgA_21 (by omega), el, i3_mul, i3_add]
    unfold dat
    by_cases z : 2 * d + k < lo
    · rw [if_neg (fun w => absurd ((i3_le (by omega) (by omega)).mp w) (by omega)), i3_mul, i3_add, mgA_22 (by omega), if_pos z, ← (hg _ z).1]
    · rw [if_pos ((i3_le (by omega) (by omega)).mpr (by omega)), if_neg z]
  have stp : ∀ f d acc, d < 3 → acc < 16 → fMd_made_l6 (f + 1) (i3 a) (i3 s) (i3 k) (i3 acc) (i3 d) σ = fMd_made_l6 f (i3 a) (i3 s) (i3 k) (i3 (acc ^^^ tm (wgt s d) (dat lo (byg σ a) (2 * d + k)))) (i3 (d + 1)) σ := fun f d acc hd ha' => by
    have dl := dat_lt hg (j := 2 * d + k)
    have wl := wgt_lt (s := s) hd
    rw [fMd_made_l6_S, fMd_made_b6_E, if_neg (fun w => absurd ((i3_le (by omega) (by omega)).mp w) (by omega)), mwg hs hd, bdR_s, da d hd, bdR_s, m_times wl dl, bdR_s, i3_xor ha' (tm_lt wl dl), i3_add]
  have d0 := dat_lt hg (j := 2 * 0 + k)
  have d1 := dat_lt hg (j := 2 * 1 + k)
  have d2 := dat_lt hg (j := 2 * 2 + k)
  have t0 := tm_lt (wgt_lt (s := s) (d := 0) (by omega)) d0
  have t1 := tm_lt (wgt_lt (s := s) (d := 1) (by omega)) d1
  have t2 := tm_lt (wgt_lt (s := s) (d := 2) (by omega)) d2
  have em : 0 ^^^ tm (wgt s 0) (dat lo (byg σ a) (2 * 0 + k)) ^^^ tm (wgt s 1) (dat lo (byg σ a) (2 * 1 + k)) ^^^ tm (wgt s 2) (dat lo (byg σ a) (2 * 2 + k)) = mde lo (byg σ a) s k := by
    unfold mde
    rw [Nat.zero_xor, show 2 * 0 + k = k by omega, show 2 * 1 + k = 2 + k by omega, show 2 * 2 + k = 4 + k by omega]
  show _ = some (i3 (mde (nv (σ 21 a)) (byg σ a) s k))
  rw [elo, ← em, fMd_made_E]
  show fMd_made_l6 (99996 + 1 + 1 + 1 + 1) (i3 a) (i3 s) (i3 k) (i3 0) (i3 0) σ = _
  rw [stp _ 0 0 (by omega) (by omega), stp _ (0 + 1) _ (by omega) (x_lt (by omega) t0), stp _ (0 + 1 + 1) _ (by omega) (x_lt (x_lt (by omega) t0) t1), fMd_made_l6_S, fMd_made_b6_E, if_pos ((i3_le (by omega) (by omega)).mpr (Nat.le_refl 3))]
/-- a shard laid anew -/
def lay (σ : Sg) (a s x : Nat) : Sg := uS (uS (uS (uS σ 23 (5 * a + s) (i3 x)) 25 (5 * a + s) (i3 0)) 24 (10 * a + (2 * s + 0)) (i3 (mdv σ a s 0))) 24 (10 * a + (2 * s + 1)) (i3 (mdv σ a s 1))
theorem lay_n {a s x k : Nat} (hk : k ≠ 23) (hk2 : k ≠ 24) (hk3 : k ≠ 25) : lay σ a s x k = σ k := by
  unfold lay
  rw [uS_n _ _ _ hk2, uS_n _ _ _ hk2, uS_n _ _ _ hk3, uS_n _ _ _ hk]
theorem lay_23 {a s x : Nat} (j : Nat) : lay σ a s x 23 j = if j = 5 * a + s then i3 x else σ 23 j := by
  unfold lay
  rw [uS_n _ _ _ (by decide), uS_n _ _ _ (by decide), uS_n _ _ _ (by decide)]
  by_cases z : j = 5 * a + s
  · rw [z, uS_e, if_pos rfl]
  · rw [uS_d _ _ _ _ z, if_neg z]
theorem lay_25 {a s x : Nat} (j : Nat) : lay σ a s x 25 j = if j = 5 * a + s then i3 0 else σ 25 j := by
  unfold lay
  rw [uS_n _ _ _ (by decide), uS_n _ _ _ (by decide)]
  by_cases z : j = 5 * a + s
  · rw [z, uS_e, if_pos rfl]
  · rw [uS_d _ _ _ _ z, if_neg z, uS_n _ _ _ (by decide)]
theorem lay_24 {a s x : Nat} (j : Nat) : lay σ a s x 24 j = if j = 10 * a + (2 * s + 1) then i3 (mdv σ a s 1) else if j = 10 * a + (2 * s + 0) then i3 (mdv σ a s 0) else σ 24 j := by
  unfold lay
  by_cases z : j = 10 * a + (2 * s + 1)
  · rw [z, uS_e, if_pos rfl]
  · rw [uS_d _ _ _ _ z, if_neg z]
    by_cases y : j = 10 * a + (2 * s + 0)
    · rw [y, uS_e, if_pos rfl]
    · rw [uS_d _ _ _ _ y, if_neg y, uS_n _ _ _ (by decide), uS_n _ _ _ (by decide)]
theorem m_lays {a s x : Nat} (ha : a < 180) (hs : s < 5) (hlo : NB 6 (σ 21 a)) (hby : ∀ j, j < nv (σ 21 a) → NB 15 (σ 22 (6 * a + j))) : fMd_lays (i3 a) (i3 s) (i3 x) σ = some ((), lay σ a s x) := by
  have e0 : 2 * (5 * a + s) + 0 = 10 * a + (2 * s + 0) := by omega
  have e1 : 2 * (5 * a + s) + (0 + 1) = 10 * a + (2 * s + 1) := by omega
  obtain ⟨σ2, h2⟩ : ∃ σ2, σ2 = uS (uS σ 23 (5 * a + s) (i3 x)) 25 (5 * a + s) (i3 0) := ⟨_, rfl⟩
  have a21 : σ2 21 = σ 21 := by rw [h2, uS_n _ _ _ (by decide), uS_n _ _ _ (by decide)]
  have a22 : σ2 22 = σ 22 := by rw [h2, uS_n _ _ _ (by decide), uS_n _ _ _ (by decide)]
  have m0 := m_made (σ := σ2) (k := 0) ha hs (by omega) (by rw [a21]; exact hlo) (by rw [a21, a22]; exact hby)
  have v0 : mdv σ2 a s 0 = mdv σ a s 0 := by unfold mdv byg; rw [a21, a22]
  rw [v0] at m0
  obtain ⟨σ3, h3⟩ : ∃ σ3, σ3 = uS σ2 24 (10 * a + (2 * s + 0)) (i3 (mdv σ a s 0)) := ⟨_, rfl⟩
  have b21 : σ3 21 = σ 21 := by rw [h3, uS_n _ _ _ (by decide)]; exact a21
  have b22 : σ3 22 = σ 22 := by rw [h3, uS_n _ _ _ (by decide)]; exact a22
  have m1' := m_made (σ := σ3) (k := 0 + 1) ha hs (by omega) (by rw [b21]; exact hlo) (by rw [b21, b22]; exact hby)
  have v1 : mdv σ3 a s (0 + 1) = mdv σ a s 1 := by unfold mdv byg; rw [b21, b22]
  rw [v1] at m1'
  rw [fMd_lays_E, i3_mul, i3_add, mpA_23 (by omega), mpZ_25 (by omega) (Or.inl rfl), ← h2]
  show fMd_lays_l25 (99997 + 1 + 1 + 1) (i3 a) (i3 s) (i3 0) σ2 = _
  rw [fMd_lays_l25_S, fMd_lays_b25_E, if_neg (by decide), m0, bdR_s, i3_mul, i3_add, i3_mul, i3_add, e0, mpA_24 (by omega), ← h3, i3_add]
  rw [fMd_lays_l25_S, fMd_lays_b25_E, if_neg (by decide), m1', bdR_s, i3_mul, i3_add, i3_mul, i3_add, e1, mpA_24 (by omega), i3_add]
  rw [fMd_lays_l25_S, fMd_lays_b25_E, if_pos (by decide), h3, h2]
  rfl
theorem lay_p {a s x : Nat} (X : IVP σ r a) (hx : x < 6) (hs : s < 5) : IVP (lay σ a s x) r a := by
  refine ⟨?_, ?_, ?_, ?_, ?_, fun s' hs' => ?_, fun s' hs' => ?_, fun s' hs' y1 y2 k hk => ?_⟩
  · rw [lay_n (by decide) (by decide) (by decide)]; exact X.ct
  · rw [lay_n (by decide) (by decide) (by decide)]; exact X.l1
  · rw [lay_n (by decide) (by decide) (by decide)]; exact X.lo
  · rw [lay_n (by decide) (by decide) (by decide), lay_n (by decide) (by decide) (by decide)]; exact X.by
  · rw [lay_n (by decide) (by decide) (by decide)]; exact X.sw
  · rw [lay_23]
    by_cases z : 5 * a + s' = 5 * a + s
    · rw [if_pos z]; exact Or.inr (NB.of (by omega) (by omega))
    · rw [if_neg z]; exact X.nd s' hs'
  · rw [lay_23, lay_25]
    by_cases z : 5 * a + s' = 5 * a + s
    · rw [if_pos z, if_pos z]
      exact ⟨NB.of (by omega) (by omega), fun w => absurd w (by decide)⟩
    · rw [if_neg z, if_neg z]; exact X.ro s' hs'
  · rw [lay_24, lay_n (by decide) (by decide) (by decide), lay_n (by decide) (by decide) (by decide)]
    rw [lay_23] at y1
    rw [lay_25] at y2
    by_cases z : s' = s
    · subst z
      rcases (by omega : k = 0 ∨ k = 1) with rfl | rfl
      · rw [if_neg (by omega), if_pos rfl]
      · rw [if_pos rfl]
    · rw [if_neg (by omega)] at y1 y2
      rw [if_neg (by omega), if_neg (by omega)]
      exact X.sb s' hs' y1 y2 k hk
theorem PRT.own5 {a x : Nat} (A : PRT own M a r) (h1 : a ≤ x) (h2 : x ≤ a + 4) : own x = 26 + r := by
  rcases (by omega : x = a ∨ x = a + 1 ∨ x = a + 2 ∨ x = a + 3 ∨ x = a + 4) with rfl | rfl | rfl | rfl | rfl
  · exact A.o
  · exact A.o1
  · exact A.o2
  · exact A.o3
  · exact A.o4
/-- a cut stays -/
def KPC (h r : Nat) (M M' : Mm) : Prop := ∀ x, gr h r + 4 ≤ x → x ≤ gr h r + 6 → SAM M M' x
theorem KPC.refl : KPC h r M M := fun _ _ _ => SAM.rfl'
theorem KPC.trans {M2 : Mm} (f : KPC h r M M') (g : KPC h r M' M2) : KPC h r M M2 := fun x a b => (f x a b).trans (g x a b)
theorem KPC.oo {x : Nat} (G : RG own M (gr h r) r) (a : gr h r + 4 ≤ x) (b : x ≤ gr h r + 6) : own x = 10 + r := by
  rcases (by omega : x = gr h r + 4 ∨ x = gr h r + 5 ∨ x = gr h r + 6) with rfl | rfl | rfl
  · exact G.o4
  · exact G.o5
  · exact G.o6
theorem KPC.ios {S : Nat → Nat → Prop} (G : RG own M (gr h r) r) (f : IOS S M M') (k : ∀ cc a, S cc a → own a ≠ 10 + r ∨ gr h r + 8 ≤ a) : KPC h r M M' := fun x a b => ⟨f.K x, f.L x, fun cc j => f.P cc x j, fun cc j => f.2 cc x j fun z => by
  rcases k cc x z with w | w
  · exact w (KPC.oo G a b)
  · omega⟩
/-- both sides lay a shard -/
theorem lay_i (R : RR h own B σ M n) (hr : r < 2) {p s x : Nat} (hp : p < nv (σ 18 r)) (h90 : ∀ r, r < 2 → nv (σ 18 r) ≤ 90) (hw : σ 19 (90 * r + p) = i3 0) (X : IVP σ r (90 * r + p)) (hs : s < 5) (hx : x < 6) (hc : ∀ j, j < 10 → mI M 0 (gr h r + 9) j = i3 (mde (nv (σ 21 (90 * r + p))) (byg σ (90 * r + p)) (j / 2) (j - j / 2 * 2))) : ∃ M', fPart_place (pa B r p) (i3 s) (i3 x) (some (gr h r + 7)) M = some ((), M') ∧ fMd_lays (i3 (90 * r + p)) (i3 s) (i3 x) σ = some ((), lay σ (90 * r + p) s x) ∧ RR h own B (lay σ (90 * r + p) s x) M' n ∧ (∀ j, mI M' 0 (gr h r + 9) j = mI M 0 (gr h r + 9) j) ∧ FRM (fun t => t = 26 + r ∨ t = 10 + r ∨ t = 20 + r) own M own M' ∧ KPC h r M M' := by
  have hp90 : p < 90 := Nat.lt_of_lt_of_le hp (h90 r hr)
  have A := R.po r hr p hp
  have G := R.rg r hr
  have c0 := hc (2 * s + 0) (by omega)
  have c1 := hc (2 * s + 1) (by omega)
  rw [show (2 * s + 0) / 2 = s by omega, show 2 * s + 0 - s * 2 = 0 by omega] at c0
  rw [show (2 * s + 1) / 2 = s by omega, show 2 * s + 1 - s * 2 = 1 by omega] at c1
  have l0 : mdv σ (90 * r + p) s 0 < 16 := mde_lt X.by
  have l1 : mdv σ (90 * r + p) s 1 < 16 := mde_lt X.by
  have pl := c_place (x := x) A.b G hr hs c0 c1 l0 l1
  have og := G.o9
  have d2 : gr h r + 9 ≠ pa B r p + 2 := fun z => by have := A.b.o2; rw [← z] at this; omega
  have d3 : gr h r + 9 ≠ pa B r p + 3 := fun z => by have := A.b.o3; rw [← z] at this; omega
  have d4 : gr h r + 9 ≠ pa B r p + 4 := fun z => by have := A.b.o4; rw [← z] at this; omega
  have f : IOS (fun _ y => pa B r p ≤ y ∧ y ≤ pa B r p + 4) M (uI (uI (uI (uI M 0 (pa B r p + 3) s (i3 x)) 0 (pa B r p + 4) s (i3 0)) 0 (pa B r p + 2) (2 * s + 0) (i3 (mdv σ (90 * r + p) s 0))) 0 (pa B r p + 2) (2 * s + 1) (i3 (mdv σ (90 * r + p) s 1))) := ((((IOS.uI _ _ _ _).trans (IOS.uI _ _ _ _)).trans (IOS.uI _ _ _ _)).trans (IOS.uI _ _ _ _)).mono fun cc a z => by omega
  refine ⟨_, pl, m_lays (by omega) hs X.lo X.by, ?_, fun j => by rw [mI_uI_a _ _ _ _ d2, mI_uI_a _ _ _ _ d2, mI_uI_a _ _ _ _ d4, mI_uI_a _ _ _ _ d3], f.frm fun cc a z _ => Or.inl (A.b.own5 z.1 z.2), KPC.ios G f fun cc a z => Or.inl (by rw [A.b.own5 z.1 z.2]; omega)⟩
  refine R.setp hr hp h90 f (fun k hk => lay_n (fun w => hk (by unfold PTF; omega)) (fun w => hk (by unfold PTF; omega)) (fun w => hk (by unfold PTF; omega))) (fun a ha => ⟨by rw [lay_n (by decide) (by decide) (by decide)], by rw [lay_n (by decide) (by decide) (by decide)], fun s' hs' => ⟨by rw [lay_23, if_neg (by omega)], by rw [lay_25, if_neg (by omega)]⟩, fun j hj => by rw [lay_24, if_neg (by omega), if_neg (by omega)]⟩) ?_
  rw [lay_n (k := 19) (by decide) (by decide) (by decide), lay_n (k := 20) (by decide) (by decide) (by decide), lay_n (k := 21) (by decide) (by decide) (by decide), lay_n (k := 22) (by decide) (by decide) (by decide)]
  refine ⟨A.b.keep fun a' o => ⟨rfl, rfl, rfl, fun _ _ => rfl⟩, ?_, ?_, ?_, ?_, fun j hj => ?_, fun s' hs' => ?_, fun s' hs' y1 y2 => ?_, fun s' hs' y1 y2 y3 k hk => ?_⟩
  · rw [mI_uI_a _ _ _ _ (by omega), mI_uI_a _ _ _ _ (by omega), mI_uI_a _ _ _ _ (by omega), mI_uI_a _ _ _ _ (by omega)]; exact A.nu
  · rw [mI_uI_a _ _ _ _ (by omega), mI_uI_a _ _ _ _ (by omega), mI_uI_a _ _ _ _ (by omega), mI_uI_a _ _ _ _ (by omega)]; exact A.lo
  · rw [mI_uI_a _ _ _ _ (by omega), mI_uI_a _ _ _ _ (by omega), mI_uI_a _ _ _ _ (by omega), mI_uI_a _ _ _ _ (by omega)]; exact A.ct
  · rw [mI_uI_a _ _ _ _ (by omega), mI_uI_a _ _ _ _ (by omega), mI_uI_a _ _ _ _ (by omega), mI_uI_a _ _ _ _ (by omega)]; exact A.sw
  · rw [mI_uI_a _ _ _ _ (by omega), mI_uI_a _ _ _ _ (by omega), mI_uI_a _ _ _ _ (by omega), mI_uI_a _ _ _ _ (by omega)]; exact A.by j hj
  · rw [mI_uI_a _ _ _ _ (by omega), mI_uI_a _ _ _ _ (by omega), mI_uI_a _ _ _ _ (by omega)]
    show _ = if σ 19 (90 * r + p) = i3 0 then lay σ (90 * r + p) s x 23 (5 * (90 * r + p) + s') else m1
    rw [lay_23, if_pos hw]
    by_cases z : s' = s
    · subst z
      rw [mI_uI_e, if_pos rfl]
    · have w := A.nd s' hs'
      rw [if_pos hw] at w
      rw [mI_uI_j _ _ _ _ z, if_neg (by omega)]; exact w
  · have y2 : lay σ (90 * r + p) s x 23 (5 * (90 * r + p) + s') ≠ m1 := y2
    rw [lay_23] at y2
    show _ = lay σ (90 * r + p) s x 25 (5 * (90 * r + p) + s')
    rw [lay_25, mI_uI_a _ _ _ _ (by omega), mI_uI_a _ _ _ _ (by omega)]
    by_cases z : s' = s
    · subst z
      rw [mI_uI_e, if_pos rfl]
    · rw [if_neg (by omega)] at y2
      rw [mI_uI_j _ _ _ _ z, if_neg (by omega), mI_uI_a _ _ _ _ (by omega)]
      exact A.ro s' hs' y1 y2
  · have y2 : lay σ (90 * r + p) s x 23 (5 * (90 * r + p) + s') ≠ m1 := y2
    have y3 : lay σ (90 * r + p) s x 25 (5 * (90 * r + p) + s') = i3 0 := y3
    rw [lay_23] at y2
    rw [lay_25] at y3
    show _ = lay σ (90 * r + p) s x 24 (10 * (90 * r + p) + (2 * s' + k))
    rw [lay_24]
    by_cases z : s' = s
    · subst z
      rcases (by omega : k = 0 ∨ k = 1) with rfl | rfl
      · rw [mI_uI_j _ _ _ _ (by omega), mI_uI_e, if_neg (by omega), if_pos rfl]
      · rw [mI_uI_e, if_pos rfl]
    · rw [if_neg (by omega)] at y2 y3
      rw [mI_uI_j _ _ _ _ (by omega), mI_uI_j _ _ _ _ (by omega), mI_uI_a _ _ _ _ (by omega), mI_uI_a _ _ _ _ (by omega), if_neg (by omega), if_neg (by omega)]
      exact A.sb s' hs' y1 y2 y3 k hk
end LY

set_option maxRecDepth 100000
/-! the bytes of a version, both sides -/
section BT
variable {h c n r : Nat} {own : Nat → Nat} {B : BK} {σ : Sg} {M : Mm}
theorem latest_c (R : RR h own B σ M n) (I : IV c σ) (hr : r < 2) (x : Int32) : fRegion_latest (gr h r) x M = some ((fdn (pL σ r x) (nv (σ 26 r))).map (ve B r)) := by
  obtain ⟨V, h40, hV⟩ := (I.vn r hr).to
  have eV : nv (σ 26 r) = V := by rw [hV]; exact nv_i (by omega)
  have cl := c_latest R I hr hV h40 x V FU (Nat.le_refl V) (FU_S (by omega))
  have hk := (R.rg r hr).k
  have hp := (R.rg r hr).p1
  have L := R.vl r hr
  have hl := L.k
  have hs := L.size
  rw [eV] at hs
  rw [eV]
  have e0 : i3 V - i3 1 = (if V = 0 then m1 else i3 (V - 1)) := by
    by_cases e : V = 0
    · subst e; rfl
    · rw [if_neg e, i3_sub (by omega)]
  rw [← e0] at cl
  clear R I L
  rw [fRegion_latest_E, fgR_s hk, hp, rk_s hl, hs, bdR_s]
  exact cl
theorem latest_m {σ' : Sg} (I : IV c σ) (hr : r < 2) (x : Int32) (e : ∀ k, ¬ SCF k → σ' k = σ k) : fMd_latest (i3 r) x σ' = some (enc r (fdn (pL σ r x) (nv (σ 26 r)))) := by
  obtain ⟨V, h40, hV⟩ := (I.vn r hr).to
  have eV : nv (σ 26 r) = V := by rw [hV]; exact nv_i (by omega)
  have ml := m_latest (σ := σ') hr (by rw [e 26 (by unfold SCF; omega)]; exact hV) h40 x V 0 FU (by omega) (FU_S (by omega))
  have ep : pL σ' r x = pL σ r x := by unfold pL; rw [e 28 (by unfold SCF; omega)]
  rw [ep] at ml
  rw [eV, fMd_latest_E]
  have e0 : i3 40 * i3 r = i3 (40 * r + 0) := i3_mul 40 r
  rw [e0]
  exact ml
theorem part_hit (R : RR h own B σ M n) (hr : r < 2) {p y : Nat} (hp : p < nv (σ 18 r)) (hw : σ 19 (90 * r + p) = i3 0) (X : IVP σ r (90 * r + p)) (ha : p < 90) (hy : y < nv (σ 21 (90 * r + p))) : ∃ w M' σ', (bdW (fCode_decode (gr h r + 7) (some (pa B r p)) M) fun v11 M12 => if v11 = i3 0 then some (m4, M12) else bdR (fCode_plainByte (gr h r + 7) (i3 y) M12) fun v17 => some (v17, M12)) = some (w, M') ∧ IOS (fun cc x => cc = 0 ∧ gr h r + 8 ≤ x ∧ x ≤ gr h r + 11) M M' ∧ (if i3 3 ≤ i3 (gcn σ (90 * r + p)) then bdW (fMd_readAt (i3 (90 * r + p)) (i3 y) σ) fun v5 σ6 => some (v5, σ6) else some (m4, σ)) = some (w, σ') ∧ (∀ k, k ≠ 46 → σ' k = σ k) ∧ (w = m4 ∨ w = σ 22 (6 * (90 * r + p) + y)) := by
  obtain ⟨M1, a1, a2, a3⟩ := c_decode R hr hp hw X
  have g5 : gcn σ (90 * r + p) ≤ 5 := cntF_le
  have lo6 := X.lo.2
  by_cases z : 3 ≤ gcn σ (90 * r + p)
  · rw [if_pos z] at a1
    obtain ⟨σ1, b1, b2⟩ := m_readAt (pl := y) X (by omega) z (by omega)
    have a4 := a3 z y (by omega)
    have G := (R.code hr a2).rg r hr
    have c1 : ¬ i3 1 = i3 0 := by decide
    have c2 : ¬ i3 y < i3 0 := fun w => absurd ((i3_lt (by omega) (by omega)).mp w) (by omega)
    have c3 : ¬ i3 6 ≤ i3 y := fun w => absurd ((i3_le (by omega) (by omega)).mp w) (by omega)
    have pb : fCode_plainByte (gr h r + 7) (i3 y) M1 = some (i3 (dat (nv (σ 21 (90 * r + p))) (fun j => σ 22 (6 * (90 * r + p) + j)) y)) := by
      have k7 := G.k7
      have d0 := G.d0
      have k8 := G.k8
      have l8 := G.l8
      clear R X G a3 a1 b1
      simp (disch := (first | assumption | omega | decide | (simp only [mK_uI, mK_uP, mL_uI, mL_uP, mK_wI, mL_wI, mK_nA_e, mL_nA_e] <;> (first | assumption | omega)))) only [i3_le_t, i3_le_f, i3_lt_t, i3_lt_f, i3_eq_t, i3_eq_f, i3_add, i3_mul, i3_sub, i3_div, i3_dec, i3_m1, m1_i3, m1_eq, i3_ge0, m1_lt, i3_le_m1, ↓reduceIte, rZ_0, rZ_1, bdR_s, bdW_s, ifN_n, ifN_s, ↓fgI_s, ↓fgR_s, ↓rk_s, ↓fpI_s, ↓fpR_s, ↓fpZ_0, ↓fpZ_1, ↓alI_i, ↓alP_i, ↓asI_i, ↓asB_i, ↓asZ_0, ↓asZ_1, ↓aln_i, ↓fca_s, ↓fca_n, bdC_li, bdC_ri, mK_uI, mK_uP, mL_uI, mL_uP, mP_uI, mI_uP, mK_wI, mL_wI, mP_wI, mI_uI_e, mI_uI_c, nwO_s, mK_nA_e, mL_nA_e, fCode_plainByte_E, c2, d0, l8, c3, a4]
    refine ⟨i3 (dat (nv (σ 21 (90 * r + p))) (fun j => σ 22 (6 * (90 * r + p) + j)) y), M1, σ1, ?_, a2, ?_, b2, Or.inr ?_⟩
    · rw [a1, bdW_s, if_neg c1, pb, bdR_s]
    · rw [if_pos ((i3_le (by omega) (by omega)).mpr z), b1, bdW_s]
    · unfold dat
      rw [if_pos hy]
      exact (X.by y hy).1.symm
  · rw [if_neg z] at a1
    refine ⟨m4, M1, σ, ?_, a2, ?_, fun _ _ => rfl, Or.inl rfl⟩
    · rw [a1, bdW_s, if_pos rfl]
    · rw [if_neg fun w => z ((i3_le (by omega) (by omega)).mp w)]
theorem both_byte_l (R : RR h own B σ M n) (I : IV c σ) (hr : r < 2) {i x : Nat} (hi : i < nv (σ 26 r)) (hx : x < nv (σ 9 (nv (σ 27 (40 * r + i))))) : ∀ d q fu fu', d + q = nv (σ 33 (40 * r + i)) → d < fu → d < fu' → partsum (σ 21) (σ 34) r (40 * r + i) q ≤ x → ∃ w M' σ', fStore_byteAt_l5 (gr h r + 1) fu (some (ve B r i + 1)) (i3 x) (i3 (partsum (σ 21) (σ 34) r (40 * r + i) q)) (i3 q) M = some (w, M') ∧ IOS (fun cc x => cc = 0 ∧ gr h r + 8 ≤ x ∧ x ≤ gr h r + 11) M M' ∧ fMd_byteOf_l6 fu' (i3 r) (i3 (40 * r + i)) (i3 (x - partsum (σ 21) (σ 34) r (40 * r + i) q)) (i3 q) σ = some (w, σ') ∧ (∀ k, k ≠ 46 → σ' k = σ k) ∧ (w = m4 ∨ w = σ 10 (40 * nv (σ 27 (40 * r + i)) + x)) := by
  have X := I.vo r hr i hi
  have hps := X.ps
  intro d
  induction d with
  | zero =>
    intro q fu fu' hd _ _ hq
    rw [Nat.zero_add] at hd
    rw [hd] at hq
    omega
  | succ d ih =>
    intro q fu fu' hd hfu hfu' hq
    obtain ⟨f, rfl⟩ : ∃ f, fu = f + 1 := ⟨fu - 1, by omega⟩
    obtain ⟨f', rfl⟩ : ∃ f, fu' = f + 1 := ⟨fu' - 1, by omega⟩
    have V := R.vo r hr i hi
    have W := R.ver I hr hi
    obtain ⟨t1, t2, t3, t4⟩ := X.pt q (by omega)
    have vp := V.pt q (by omega)
    have hsum : partsum (σ 21) (σ 34) r (40 * r + i) (q + 1) = partsum (σ 21) (σ 34) r (40 * r + i) q + nv (σ 21 (90 * r + nv (σ 34 (20 * (40 * r + i) + q)))) := rfl
    have pcle := X.pc.2
    have vnle := (I.vn r hr).2
    have pnle := (I.pn r hr).2
    have hm40 := (I.en _ X.n1 X.nu.2)
    obtain ⟨p, hp⟩ : ∃ p, p = nv (σ 34 (20 * (40 * r + i) + q)) := ⟨_, rfl⟩
    rw [← hp] at t2 t3 t4 hsum
    have e34 : σ 34 (20 * (40 * r + i) + q) = i3 p := by rw [hp]; exact t1.1
    have XP := (I.po r hr p t2).1
    have pnum : mI M 501 (pa B r p) 0 = σ 21 (90 * r + p) := (R.po r hr p t2).lo
    have pk := (R.po r hr p t2).b.k
    obtain ⟨P, hP90, hP⟩ := (I.pn r hr).to
    have eP : nv (σ 18 r) = P := by rw [hP]; exact nv_i (by omega)
    have pat := c_partAt_i R hr hP (by omega) (p := p) (by omega)
    rw [if_pos t3] at pat
    obtain ⟨lo, hlo6, hlo⟩ := XP.lo.to
    have elo : nv (σ 21 (90 * r + p)) = lo := by rw [hlo]; exact nv_i (by omega)
    have w4 := W.rk
    have w5 : mL M (ve B r i + 1) = nv (σ 33 (40 * r + i)) := W.rl
    have ks := (R.rg r hr).ks
    have s3 := (R.rg r hr).s3
    have k7 := (R.rg r hr).k7
    have hxs := X.ps
    have x40 : x < 40 := by
      have z := hm40.ma.2
      omega
    have c0 : ¬ i3 (nv (σ 33 (40 * r + i))) ≤ i3 q := fun w => absurd ((i3_le (by omega) (by omega)).mp w) (by omega)
    obtain ⟨S, hS⟩ : ∃ S, S = partsum (σ 21) (σ 34) r (40 * r + i) q := ⟨_, rfl⟩
    rw [← hS] at hq hsum t4
    rw [elo] at hsum t4
    have C1 : fStore_byteAt_l5 (gr h r + 1) (f + 1) (some (ve B r i + 1)) (i3 x) (i3 S) (i3 q) M = if i3 (S + lo) ≤ i3 x then fStore_byteAt_l5 (gr h r + 1) f (some (ve B r i + 1)) (i3 x) (i3 (S + lo)) (i3 (q + 1)) M else bdW (fCode_decode (gr h r + 7) (some (pa B r p)) M) fun v11 M12 => if v11 = i3 0 then some (m4, M12) else fgR 8 803 (some (gr h r + 1)) M12 fun v13 => rk 2 v13 M12 fun a14 => bdR (fCode_plainByte a14 (i3 x - i3 S) M12) fun v17 => some (v17, M12) := by
      rw [fStore_byteAt_l5_S, fStore_byteAt_b5_E, aln_i w4 (by decide) (by decide), w5, if_neg c0, alI_i w4 (by omega) (by omega), vp, e34, rk_s ks, pat, bdR_s, ifN_s, fgI_s pk, pnum, hlo, i3_add, fgI_s pk, pnum, hlo, i3_add, fgR_s ks, s3, rk_s k7, i3_add]
    have C2 : fMd_byteOf_l6 (f' + 1) (i3 r) (i3 (40 * r + i)) (i3 (x - S)) (i3 q) σ = if i3 (x - S) < i3 lo then (if i3 3 ≤ i3 (gcn σ (90 * r + p)) then bdW (fMd_readAt (i3 (90 * r + p)) (i3 (x - S)) σ) fun v5 σ6 => some (v5, σ6) else some (m4, σ)) else fMd_byteOf_l6 f' (i3 r) (i3 (40 * r + i)) (i3 (x - S) - i3 lo) (i3 (q + 1)) σ := by
      have g : fMd_goodMany (i3 (90 * r + p)) σ = some (i3 (gcn σ (90 * r + p))) := m_goodMany (by omega)
      rw [fMd_byteOf_l6_S, fMd_byteOf_b6_E]
      simp only [i3_mul, i3_add]
      have m1' : ∀ {ω : Type} (ff : Int32 → Option ω), mgA 34 (i3 (20 * (40 * r + i) + q)) σ ff = ff (i3 p) := fun ff => by rw [mgA_34 (by omega), e34]
      have m2' : ∀ {ω : Type} (ff : Int32 → Option ω), mgA 21 (i3 (90 * r + p)) σ ff = ff (i3 lo) := fun ff => by rw [mgA_21 (by omega), hlo]
      simp only [m1', i3_add, m2', g, bdR_s]
    by_cases z : S + lo ≤ x
    · rw [if_pos ((i3_le (by omega) (by omega)).mpr z)] at C1
      rw [if_neg (fun w => absurd ((i3_lt (by omega) (by omega)).mp w) (by omega)), i3_sub (by omega), show x - S - lo = x - (S + lo) by omega] at C2
      obtain ⟨w, M', σ', a1, a2, a3, a4, a5⟩ := ih (q + 1) f f' (by omega) (by omega) (by omega) (by rw [hsum]; exact z)
      rw [hsum] at a1 a3
      rw [← hS]
      exact ⟨w, M', σ', C1.trans a1, a2, C2.trans a3, a4, a5⟩
    · rw [if_neg (fun w => z ((i3_le (by omega) (by omega)).mp w))] at C1
      rw [if_pos ((i3_lt (by omega) (by omega)).mpr (by omega))] at C2
      obtain ⟨w, M', σ', a1, a2, a3, a4, a5⟩ := part_hit R hr t2 t3 XP (y := x - S) (by omega) (by omega)
      rw [← hS]
      refine ⟨w, M', σ', C1.trans ?_, a2, C2.trans a3, a4, ?_⟩
      · rw [← a1, i3_sub hq]
        obtain ⟨M1, d1, d2, -⟩ := c_decode R hr t2 t3 XP
        have G := (R.code hr d2).rg r hr
        rw [d1, bdW_s, bdW_s, fgR_s G.ks, G.s3, rk_s G.k7]
      · rcases a5 with a5 | a5
        · exact Or.inl a5
        · right
          rw [a5, t4 (x - S) (by omega), show S + (x - S) = x by omega]
/-- one byte of one version -/
theorem both_byte (R : RR h own B σ M n) (I : IV c σ) (hr : r < 2) {i x : Nat} (hi : i < nv (σ 26 r)) (hx : x < nv (σ 9 (nv (σ 27 (40 * r + i))))) : ∃ w M' σ', fStore_byteAt (gr h r + 1) (some (ve B r i + 1)) (i3 x) M = some (w, M') ∧ IOS (fun cc x => cc = 0 ∧ gr h r + 8 ≤ x ∧ x ≤ gr h r + 11) M M' ∧ fMd_byteOf (i3 r) (i3 (40 * r + i)) (i3 x) σ = some (w, σ') ∧ (∀ k, k ≠ 46 → σ' k = σ k) ∧ (w = m4 ∨ w = σ 10 (40 * nv (σ 27 (40 * r + i)) + x)) := by
  have e := both_byte_l R I hr hi hx (nv (σ 33 (40 * r + i))) 0 FU FU rfl (FU_S (by have := (I.vo r hr i hi).pc.2; omega)) (FU_S (by have := (I.vo r hr i hi).pc.2; omega)) (Nat.zero_le _)
  obtain ⟨w, M', σ', a1, a2, a3, a4, a5⟩ := e
  have e0 : partsum (σ 21) (σ 34) r (40 * r + i) 0 = 0 := rfl
  rw [e0] at a1 a3
  rw [Nat.sub_zero] at a3
  exact ⟨w, M', σ', by rw [fStore_byteAt_E]; exact a1, a2, by rw [fMd_byteOf_E]; exact a3, a4, a5⟩
end BT

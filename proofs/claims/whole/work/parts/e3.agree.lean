set_option maxRecDepth 100000
/-! a region's bytes and counts agree: the class -/
section AG
variable {h c n r : Nat} {own : Nat → Nat} {B : BK} {σ : Sg} {M M' : Mm}
abbrev CDS (h r : Nat) : Nat → Nat → Prop := fun cc x => cc = 0 ∧ gr h r + 8 ≤ x ∧ x ≤ gr h r + 12
theorem RR.cds (R : RR h own B σ M n) (hr : r < 2) (f : IOS (CDS h r) M M') : RR h own B σ M' n := by
  have G := R.rg r hr
  refine R.scr (T := fun t => t = 10 + r) (f.frm fun cc a z _ => ?_) (fun x hx => by omega)
  obtain ⟨-, z1, z2⟩ := z
  rcases (by omega : a = gr h r + 8 ∨ a = gr h r + 9 ∨ a = gr h r + 10 ∨ a = gr h r + 11 ∨ a = gr h r + 12) with rfl | rfl | rfl | rfl | rfl
  · exact G.o8
  · exact G.o9
  · exact G.o10
  · exact G.o11
  · exact G.o12
/-- one part of a version, as it was put -/
theorem put_in (R : RR h own B σ M n) (hr : r < 2) {i p S L lo N : Nat} {x5 : Int32} (hi : i < nv (σ 26 r)) (hp : p < nv (σ 18 r)) (hN : nv (σ 27 (40 * r + i)) = N) (hN1 : 1 ≤ N) (hN2 : N ≤ nv (σ 8 0)) (hL : σ 9 N = i3 L) (hL40 : L ≤ 40) (hlo : σ 21 (90 * r + p) = i3 lo) (hlo6 : lo ≤ 6) (hSL : S + lo ≤ L) (h5 : x5 = i3 0 ∨ (x5 = i3 1 ∧ ∀ j, j < 6 → mI M 0 (gr h r + 8) j = i3 (dat lo (fun j => σ 22 (6 * (90 * r + p) + j)) j))) (hb : ∀ j, j < lo → σ 22 (6 * (90 * r + p) + j) = σ 10 (40 * N + (S + j))) (hg : ∀ j, j < lo → NB 15 (σ 22 (6 * (90 * r + p) + j))) (k4 : Option Nat → Int32 → Int32 → Mm → Option (Int32 × Mm)) (q : Nat) : ∀ d j fu, d + j = lo → d < fu → fStore_isAsPut_l46 (gr h r + 1) k4 fu (some (ve B r i)) (i3 (S + j)) (i3 q) (some (pa B r p)) x5 (i3 j) M = k4 (some (ve B r i)) (i3 (S + lo)) (i3 (q + 1)) M := by
  have pk := (R.po r hr p hp).b.k
  have pl : mI M 501 (pa B r p) 0 = i3 lo := (R.po r hr p hp).lo.trans hlo
  intro d
  induction d with
  | zero =>
    intro j fu hd hfu
    obtain ⟨f, rfl⟩ : ∃ f, fu = f + 1 := ⟨fu - 1, by omega⟩
    obtain rfl : j = lo := by omega
    rw [fStore_isAsPut_l46_S, fStore_isAsPut_b46_E, fgI_s pk, pl, if_pos ((i3_le (by omega) (by omega)).mpr (Nat.le_refl _)), i3_add]
  | succ d ih =>
    intro j fu hd hfu
    obtain ⟨f, rfl⟩ : ∃ f, fu = f + 1 := ⟨fu - 1, by omega⟩
    have ih' := ih (j + 1) f (by omega) (by omega)
    rw [← Nat.add_assoc] at ih'
    have c1 : ¬ i3 lo ≤ i3 j := fun w => absurd ((i3_le (by omega) (by omega)).mp w) (by omega)
    rcases h5 with h5 | ⟨h5, hd6⟩
    · rw [fStore_isAsPut_l46_S, fStore_isAsPut_b46_E, fgI_s pk, pl, if_neg c1, if_pos h5, fStore_isAsPut_j86_E, i3_add, i3_add]
      exact ih'
    · have n5 : ¬ x5 = i3 0 := by rw [h5]; decide
      have G := R.rg r hr
      have c2 : ¬ i3 j < i3 0 := fun w => absurd ((i3_lt (by omega) (by omega)).mp w) (by omega)
      have c3 : ¬ i3 6 ≤ i3 j := fun w => absurd ((i3_le (by omega) (by omega)).mp w) (by omega)
      have c4 : ¬ i3 (S + j) < i3 0 := fun w => absurd ((i3_lt (by omega) (by omega)).mp w) (by omega)
      have c5 : ¬ i3 40 ≤ i3 (S + j) := fun w => absurd ((i3_le (by omega) (by omega)).mp w) (by omega)
      have pb : fCode_plainByte (gr h r + 7) (i3 j) M = some (i3 (dat lo (fun j => σ 22 (6 * (90 * r + p) + j)) j)) := by
        rw [fCode_plainByte_E, if_neg c2, fgR_s G.k7, G.d0, aln_i G.k8 (by decide) (by decide), G.l8, if_neg c3, fgR_s G.k7, G.d0, alI_i G.k8 (by rw [G.l8]; omega) (by omega), hd6 j (by omega)]
      have V := R.vo r hr i hi
      have E := R.et N hN1 hN2
      have vp := V.b.p0
      rw [hN] at vp
      have bb : fBytes_at (en B N + 1) (i3 (S + j)) M = some (σ 10 (40 * N + (S + j))) := by
        rw [fBytes_at_E, if_neg c4, fgR_s E.b.b.k, E.b.b.p, aln_i E.b.b.rk (by decide) (by decide), E.b.b.rl, if_neg c5, fgR_s E.b.b.k, E.b.b.p, alI_i E.b.b.rk (by rw [E.b.b.rl]; omega) (by omega), E.by (S + j) (by rw [hL, nv_i (by omega)]; omega)]
      have ev : i3 (dat lo (fun j => σ 22 (6 * (90 * r + p) + j)) j) = σ 10 (40 * N + (S + j)) := by
        unfold dat
        rw [if_pos (by omega), ← hb j (by omega)]
        exact (hg j (by omega)).1.symm
      rw [fStore_isAsPut_l46_S, fStore_isAsPut_b46_E, fgI_s pk, pl, if_neg c1, if_neg n5, fgR_s G.ks, G.s3, rk_s G.k7, pb, bdR_s, fgR_s V.b.k, vp, fgR_s E.b.k, E.b.p, rk_s E.b.b.k, bb, bdR_s, if_pos ev, fStore_isAsPut_j86_E, i3_add, i3_add]
      exact ih'
theorem partsum_le {s21 s34 : Nat → Int32} {r a : Nat} : ∀ {q m : Nat}, q ≤ m → partsum s21 s34 r a q ≤ partsum s21 s34 r a m := by
  intro q m h
  induction h with
  | refl => exact Nat.le_refl _
  | step _ ih => exact Nat.le_trans ih (Nat.le_add_right _ _)
theorem c_asPut_l (R : RR h own B σ M n) (I : IV c σ) (hr : r < 2) {i : Nat} (hi : i < nv (σ 26 r)) : ∀ d q fu (M1 : Mm), d + q = nv (σ 33 (40 * r + i)) → d < fu → IOS (fun cc x => cc = 0 ∧ gr h r + 8 ≤ x ∧ x ≤ gr h r + 11) M M1 → ∃ M', fStore_isAsPut_l4 (gr h r + 1) fu (some (ve B r i)) (i3 (partsum (σ 21) (σ 34) r (40 * r + i) q)) (i3 q) M1 = some (i3 1, M') ∧ IOS (fun cc x => cc = 0 ∧ gr h r + 8 ≤ x ∧ x ≤ gr h r + 11) M M' := by
  have X := I.vo r hr i hi
  have pcle := X.pc.2
  have hN2 := X.nu.2
  have hN1 := X.n1
  obtain ⟨L, hL40, hL⟩ := (I.en _ hN1 hN2).ma.to
  have eL : nv (σ 9 (nv (σ 27 (40 * r + i)))) = L := by rw [hL]; exact nv_i (by omega)
  have hps := X.ps
  rw [eL] at hps
  intro d
  induction d with
  | zero =>
    intro q fu M1 hd hfu f1
    obtain ⟨f, rfl⟩ : ∃ f, fu = f + 1 := ⟨fu - 1, by omega⟩
    have R1 := R.code hr f1
    have V := R1.vo r hr i hi
    have W := R1.ver I hr hi
    rw [Nat.zero_add] at hd
    have hma := W.ma
    rw [hL] at hma
    refine ⟨M1, ?_, f1⟩
    rw [fStore_isAsPut_l4_S, fStore_isAsPut_b4_E, fgR_s W.k, W.p1, aln_i W.rk (by decide) (by decide), W.rl, hd, if_pos ((i3_le (by omega) (by omega)).mpr (Nat.le_refl _)), fgR_s W.k, W.p0, fgR_s W.ek, W.e3, fgI_s W.bk, hma, hps, if_pos rfl]
    rfl
  | succ d ih =>
    intro q fu M1 hd hfu f1
    obtain ⟨f, rfl⟩ : ∃ f, fu = f + 1 := ⟨fu - 1, by omega⟩
    have R1 := R.code hr f1
    have V := R1.vo r hr i hi
    have W := R1.ver I hr hi
    have G := R1.rg r hr
    obtain ⟨t1, t2, t3, t4⟩ := X.pt q (by omega)
    have vp := V.pt q (by omega)
    have hsum : partsum (σ 21) (σ 34) r (40 * r + i) (q + 1) = partsum (σ 21) (σ 34) r (40 * r + i) q + nv (σ 21 (90 * r + nv (σ 34 (20 * (40 * r + i) + q)))) := rfl
    have hle : partsum (σ 21) (σ 34) r (40 * r + i) (q + 1) ≤ partsum (σ 21) (σ 34) r (40 * r + i) (nv (σ 33 (40 * r + i))) := partsum_le (by omega)
    obtain ⟨p, hp⟩ : ∃ p, p = nv (σ 34 (20 * (40 * r + i) + q)) := ⟨_, rfl⟩
    rw [← hp] at t2 t3 t4 hsum
    have e34 : σ 34 (20 * (40 * r + i) + q) = i3 p := by rw [hp]; exact t1.1
    have XP := (I.po r hr p t2).1
    obtain ⟨P, hP90, hP⟩ := (I.pn r hr).to
    have eP : nv (σ 18 r) = P := by rw [hP]; exact nv_i (by omega)
    have pat := c_partAt_i R1 hr hP (by omega) (p := p) (by omega)
    rw [if_pos t3] at pat
    obtain ⟨lo, hlo6, hlo⟩ := XP.lo.to
    have elo : nv (σ 21 (90 * r + p)) = lo := by rw [hlo]; exact nv_i (by omega)
    have c0 : ¬ i3 (nv (σ 33 (40 * r + i))) ≤ i3 q := fun w => absurd ((i3_le (by omega) (by omega)).mp w) (by omega)
    obtain ⟨M2, a1, a2, a3⟩ := c_decode R1 hr t2 t3 XP
    have R2 := R1.code hr a2
    rw [elo] at hsum a3 t4
    have hg : ∀ j, j < lo → NB 15 (σ 22 (6 * (90 * r + p) + j)) := fun j hj => XP.by j (by omega)
    have pin := put_in (x5 := if 3 ≤ gcn σ (90 * r + p) then i3 1 else i3 0) R2 hr hi t2 rfl hN1 hN2 hL hL40 hlo hlo6 (S := partsum (σ 21) (σ 34) r (40 * r + i) q) (by omega) (by
      by_cases z : 3 ≤ gcn σ (90 * r + p)
      · rw [if_pos z]; exact Or.inr ⟨rfl, a3 z⟩
      · rw [if_neg z]; exact Or.inl rfl) t4 hg (fStore_isAsPut_l4 (gr h r + 1) f) q lo 0 FU (by omega) (FU_S (by omega))
    rw [Nat.add_zero (partsum (σ 21) (σ 34) r (40 * r + i) q)] at pin
    obtain ⟨M', b1, b2⟩ := ih (q + 1) f M2 (by omega) (by omega) (f1.then a2)
    rw [hsum] at b1
    refine ⟨M', ?_, b2⟩
    rw [fStore_isAsPut_l4_S, fStore_isAsPut_b4_E, fgR_s W.k, W.p1, aln_i W.rk (by decide) (by decide), W.rl, if_neg c0, fgR_s W.k, W.p1, alI_i W.rk (by rw [W.rl]; omega) (by omega), vp, e34, rk_s G.ks, pat, bdR_s, ifN_s, fgR_s G.ks, G.s3, rk_s G.k7, a1, bdW_s, pin, b1]
theorem c_asPut (R : RR h own B σ M n) (I : IV c σ) (hr : r < 2) {i : Nat} (hi : i < nv (σ 26 r)) : ∃ M', fStore_isAsPut (gr h r + 1) (some (ve B r i)) M = some (i3 1, M') ∧ IOS (fun cc x => cc = 0 ∧ gr h r + 8 ≤ x ∧ x ≤ gr h r + 11) M M' := by
  obtain ⟨M', a1, a2⟩ := c_asPut_l R I hr hi (nv (σ 33 (40 * r + i))) 0 FU M rfl (FU_S (by have := (I.vo r hr i hi).pc.2; omega)) IOS.refl
  exact ⟨M', by rw [fStore_isAsPut_E]; exact a1, a2⟩
/-- the tally of a region's versions -/
def TLY (h r : Nat) (σ : Sg) (i : Nat) (M : Mm) : Prop := ∀ p, p < 90 → mI M 0 (gr h r + 12) p = i3 (uses (σ 33) (σ 34) r p i)
theorem c_tally_l (R : RR h own B σ M n) (I : IV c σ) (hr : r < 2) {i : Nat} (hi : i < nv (σ 26 r)) : ∀ d q fu (M1 : Mm) (T : Nat → Nat), d + q = nv (σ 33 (40 * r + i)) → d < fu → IOS (CDS h r) M M1 → (∀ p, p < 90 → mI M1 0 (gr h r + 12) p = i3 (T p)) → ∃ M', fStore_tallyUp_l2 (gr h r + 1) fu (some (ve B r i + 1)) (i3 q) M1 = some ((), M') ∧ IOS (CDS h r) M M' ∧ ∀ p, p < 90 → mI M' 0 (gr h r + 12) p = i3 (T p + cntF (fun q => decide (σ 34 (20 * (40 * r + i) + q) = i3 p)) q d) := by
  have X := I.vo r hr i hi
  have pcle := X.pc.2
  intro d
  induction d with
  | zero =>
    intro q fu M1 T hd hfu f1 hT
    obtain ⟨f, rfl⟩ : ∃ f, fu = f + 1 := ⟨fu - 1, by omega⟩
    have R1 := R.cds hr f1
    have W := R1.ver I hr hi
    rw [Nat.zero_add] at hd
    refine ⟨M1, ?_, f1, hT⟩
    rw [fStore_tallyUp_l2_S, fStore_tallyUp_b2_E, aln_i W.rk (by decide) (by decide), W.rl, hd, if_pos ((i3_le (by omega) (by omega)).mpr (Nat.le_refl _))]
  | succ d ih =>
    intro q fu M1 T hd hfu f1 hT
    obtain ⟨f, rfl⟩ : ∃ f, fu = f + 1 := ⟨fu - 1, by omega⟩
    have R1 := R.cds hr f1
    have V := R1.vo r hr i hi
    have W := R1.ver I hr hi
    have G := R1.rg r hr
    obtain ⟨t1, t2, t3, t4⟩ := X.pt q (by omega)
    have vp := V.pt q (by omega)
    obtain ⟨p, hp⟩ : ∃ p, p = nv (σ 34 (20 * (40 * r + i) + q)) := ⟨_, rfl⟩
    have e34 : σ 34 (20 * (40 * r + i) + q) = i3 p := by rw [hp]; exact t1.1
    have p89 : p ≤ 89 := by rw [hp]; exact t1.2
    have c0 : ¬ i3 (nv (σ 33 (40 * r + i))) ≤ i3 q := fun w => absurd ((i3_le (by omega) (by omega)).mp w) (by omega)
    have c1 : ¬ i3 p < i3 0 := fun w => absurd ((i3_lt (by omega) (by omega)).mp w) (by omega)
    have c2 : ¬ i3 90 ≤ i3 p := fun w => absurd ((i3_le (by omega) (by omega)).mp w) (by omega)
    obtain ⟨M', a1, a2, a3⟩ := ih (q + 1) f (uI M1 0 (gr h r + 12) p (i3 (T p + 1))) (fun x => if x = p then T p + 1 else T x) (by omega) (by omega) (f1.then ((IOS.uI _ _ _ _).mono fun cc x w => by obtain ⟨w1, w2⟩ := w; exact ⟨w1, by omega, by omega⟩)) (fun x hx => by
      by_cases z : x = p
      · rw [if_pos z, z, mI_uI_e]
      · rw [if_neg z, mI_uI_j _ _ _ _ z]; exact hT x hx)
    refine ⟨M', ?_, a2, fun x hx => ?_⟩
    · rw [fStore_tallyUp_l2_S, fStore_tallyUp_b2_E, aln_i W.rk (by decide) (by decide), W.rl, if_neg c0, alI_i W.rk (by rw [W.rl]; omega) (by omega), vp, e34, if_neg c1, fgR_s G.ks, G.s4, aln_i G.k12 (by decide) (by decide), G.l12, if_neg c2, fgR_s G.ks, G.s4, alI_i G.k12 (by rw [G.l12]; omega) (by omega), hT p (by omega), i3_add, asI_i G.k12 (by rw [G.l12]; omega) (by omega), fStore_tallyUp_j35_E, i3_add, a1]
    · rw [a3 x hx, cntF_S]
      by_cases z : x = p
      · rw [if_pos z, if_pos (decide_eq_true (by rw [e34, z])), z, Nat.add_assoc]
      · rw [if_neg z, if_neg (fun w => z ((i3_inj (by omega) (by omega)).mp ((of_decide_eq_true w).symm.trans e34))), Nat.zero_add]
theorem c_tallied (R : RR h own B σ M n) (I : IV c σ) (hr : r < 2) (hT : TLY h r σ (nv (σ 26 r)) M) : ∀ d p fu, d + p = nv (σ 18 r) → d < fu → fStore_isTallied_l2 (gr h r + 1) fu (i3 p) M = some (i3 1) := by
  have G := R.rg r hr
  have L := R.pl r hr
  have P90 := (I.pn r hr).2
  intro d
  induction d with
  | zero =>
    intro p fu hd hfu
    obtain ⟨f, rfl⟩ : ∃ f, fu = f + 1 := ⟨fu - 1, by omega⟩
    rw [Nat.zero_add] at hd
    rw [fStore_isTallied_l2_S, fStore_isTallied_b2_E, fgR_s G.ks, G.s1, rk_s L.k, L.size, bdR_s, hd, if_pos ((i3_le (by omega) (by omega)).mpr (Nat.le_refl _))]
    rfl
  | succ d ih =>
    intro p fu hd hfu
    obtain ⟨f, rfl⟩ : ∃ f, fu = f + 1 := ⟨fu - 1, by omega⟩
    have ih' := ih (p + 1) f (by omega) (by omega)
    have A := R.po r hr p (by omega)
    obtain ⟨X1, X2⟩ := I.po r hr p (by omega)
    have c0 : ¬ i3 (nv (σ 18 r)) ≤ i3 p := fun w => absurd ((i3_le (by omega) (by omega)).mp w) (by omega)
    have c2 : ¬ i3 90 ≤ i3 p := fun w => absurd ((i3_le (by omega) (by omega)).mp w) (by omega)
    have e : σ 20 (90 * r + p) = i3 (uses (σ 33) (σ 34) r p (nv (σ 26 r))) := by rw [← X2]; exact X1.ct.1
    rw [fStore_isTallied_l2_S, fStore_isTallied_b2_E, fgR_s G.ks, G.s1, rk_s L.k, L.size, bdR_s, if_neg c0, fgR_s G.ks, G.s4, aln_i G.k12 (by decide) (by decide), G.l12, if_neg c2, fgR_s G.ks, G.s1, rk_s L.k, L.get (by omega), bdR_s, fca_s A.b.k, fgI_s A.b.k, A.ct, e, fgR_s G.ks, G.s4, alI_i G.k12 (by rw [G.l12]; omega) (by omega), hT p (by omega), if_pos rfl, i3_add, ih']
theorem c_sound_l (R : RR h own B σ M n) (I : IV c σ) (hr : r < 2) : ∀ d i fu (M1 : Mm), d + i = nv (σ 26 r) → d < fu → IOS (CDS h r) M M1 → TLY h r σ i M1 → ∃ M', fRegion_isSound_l9 (gr h r) fu (i3 i) M1 = some (i3 1, M') ∧ IOS (CDS h r) M M' := by
  have V40 := (I.vn r hr).2
  intro d
  induction d with
  | zero =>
    intro i fu M1 hd hfu f1 hT
    obtain ⟨f, rfl⟩ : ∃ f, fu = f + 1 := ⟨fu - 1, by omega⟩
    have R1 := R.cds hr f1
    have G := R1.rg r hr
    have L := R1.vl r hr
    rw [Nat.zero_add] at hd
    rw [hd] at hT
    have P90 := (I.pn r hr).2
    have ct := c_tallied R1 I hr hT (nv (σ 18 r)) 0 FU rfl (FU_S (by omega))
    refine ⟨M1, ?_, f1⟩
    rw [fRegion_isSound_l9_S, fRegion_isSound_b9_E, fgR_s G.k, G.p1, rk_s L.k, L.size, bdR_s, hd, if_pos ((i3_le (by omega) (by omega)).mpr (Nat.le_refl _)), fgR_s G.k, G.p0, rk_s G.ks, fStore_isTallied_E, ct, bdR_s]
    rfl
  | succ d ih =>
    intro i fu M1 hd hfu f1 hT
    obtain ⟨f, rfl⟩ : ∃ f, fu = f + 1 := ⟨fu - 1, by omega⟩
    have R1 := R.cds hr f1
    have G := R1.rg r hr
    have L := R1.vl r hr
    have W := R1.ver I hr (i := i) (by omega)
    have c0 : ¬ i3 (nv (σ 26 r)) ≤ i3 i := fun w => absurd ((i3_le (by omega) (by omega)).mp w) (by omega)
    obtain ⟨M2, a1, a2⟩ := c_asPut R1 I hr (i := i) (by omega)
    have f2 : IOS (CDS h r) M M2 := f1.then (a2.mono fun cc x w => ⟨w.1, w.2.1, by omega⟩)
    have hT2 : TLY h r σ i M2 := fun p hp => (a2.2 _ _ _ (by omega)).trans (hT p hp)
    obtain ⟨M3, b1, b2, b3⟩ := c_tally_l R I hr (i := i) (by omega) (nv (σ 33 (40 * r + i))) 0 FU M2 (fun p => uses (σ 33) (σ 34) r p i) rfl (FU_S (by have := (I.vo r hr i (by omega)).pc.2; omega)) f2 hT2
    obtain ⟨M', e1, e2⟩ := ih (i + 1) f M3 (by omega) (by omega) b2 b3
    refine ⟨M', ?_, e2⟩
    have n1 : ¬ i3 1 = i3 0 := by decide
    have G2 := (R.cds hr f2).rg r hr
    have W2 := (R.cds hr f2).ver I hr (i := i) (by omega)
    rw [fRegion_isSound_l9_S, fRegion_isSound_b9_E, fgR_s G.k, G.p1, rk_s L.k, L.size, bdR_s, if_neg c0, fgR_s G.k, G.p1, rk_s L.k, L.get (by omega), bdR_s, fca_s W.k, fgR_s G.k, G.p0, rk_s G.ks, a1, bdW_s, if_neg n1, fgR_s G2.k, G2.p0, fgR_s W2.k, W2.p1, rk_s G2.ks, fStore_tallyUp_E, b1, bdW_s, i3_add, e1]
theorem c_sound (R : RR h own B σ M n) (I : IV c σ) (hr : r < 2) : ∃ M', fRegion_isSound (gr h r) M = some (i3 1, M') ∧ IOS (CDS h r) M M' := by
  have G := R.rg r hr
  obtain ⟨M1, a1, a2, a3⟩ := c_fill (M := M) (v := i3 0) G.k12 G.l12 (by omega)
  have f1 : IOS (CDS h r) M M1 := a2.mono fun cc x w => by obtain ⟨w1, w2⟩ := w; exact ⟨w1, by omega, by omega⟩
  obtain ⟨M', b1, b2⟩ := c_sound_l R I hr (nv (σ 26 r)) 0 FU M1 rfl (FU_S (by have := (I.vn r hr).2; omega)) f1 (fun p hp => by rw [a3, if_pos hp]; rfl)
  refine ⟨M', ?_, b2⟩
  rw [fRegion_isSound_E, fgR_s G.k, G.p0, rk_s G.ks, fStore_beginTally_E, fgR_s G.ks, G.s4, a1, bdW_s, bdW_s, b1]
end AG

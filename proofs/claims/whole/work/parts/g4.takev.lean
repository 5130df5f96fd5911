set_option maxRecDepth 100000
/-! a region takes a version: both sides -/
section TV
variable {h c n r : Nat} {own : Nat → Nat} {B : BK} {σ σ' σh τ : Sg} {M M' : Mm}
theorem RR.nF {own' : Nat → Nat} {n' : Nat} (R : RR h own B τ M n) (f : FRM (fun _ => False) own M own' M') (fr : FRS own' n') : RR h own' B τ M' n' := by
  exact ⟨fr, R.k_em f, R.k_hb f, R.k_rg f, R.k_nm f (fun z => z), R.k_dy f (fun z => z), R.k_dm f (fun z => z), R.k_db f (fun z => z), R.k_nb f (fun z => z), R.k_co f (fun z => z), fun r hr => R.k_up f hr (fun z => z), fun r hr => R.k_hd f hr (fun z => z), R.k_en f (fun z => z), fun r hr => R.k_vl f hr (fun z => z), fun r hr => R.k_vo f hr (fun z => z), fun r hr => R.k_kl f hr (fun z => z), fun r hr => R.k_pl f hr (fun z => z), fun r hr => R.k_po f hr (fun z => z), R.k_us f (fun z => z), fun u hu => R.k_uo f hu (fun z => z), R.k_rs f (fun z => z), R.k_ro f (fun z => z)⟩
theorem VEC.sam {own' : Nat → Nat} {v e q : Nat} {lv lk ak : Int32} {g : Nat → Int32} (V : VEC own M v r e q lv lk ak g) (o0 : own' v = own v) (o1 : own' (v + 1) = own (v + 1)) (s0 : SAM M M' v) (s1 : SAM M M' (v + 1)) : VEC own' M' v r e q lv lk ak g :=
  ⟨⟨s0.1.trans V.b.k, (s0.2.2.1 _ _).trans V.b.p0, (s0.2.2.1 _ _).trans V.b.p1, o0.trans V.b.o, s1.1.trans V.b.rk, s1.2.1.trans V.b.rl, o1.trans V.b.ro⟩, (s0.2.2.2 _ _).trans V.lv, (s0.2.2.2 _ _).trans V.lk, (s0.2.2.2 _ _).trans V.ak, fun x hx => (s1.2.2.2 _ _).trans (V.pt x hx)⟩
theorem RR.wrv {v : Nat} (R : RR h own B τ M n) (hr : r < 2) (ov : own v = 18 + r) (ov1 : own (v + 1) = 18 + r) (S : ∀ a, own a ≠ 0 → a ≠ v → a ≠ v + 1 → SAM M M' a) (ap : ∀ i, i < nv (τ 26 r) → ve B r i ≠ v ∧ ve B r i ≠ v + 1 ∧ ve B r i + 1 ≠ v) : RR h own B τ M' n := by
  have f : FRM (fun t => t = 18 + r) own M own M' := fun a ha => ⟨rfl, fun hT => S a ha (fun z => hT (by rw [z]; exact ov)) (fun z => hT (by rw [z]; exact ov1)), fun h12 => (S a ha (fun z => by rw [z, ov] at h12; omega) (fun z => by rw [z, ov1] at h12; omega)).sap⟩
  have hvo : ∀ r0, r0 < 2 → ∀ i, i < nv (τ 26 r0) → VEC own M' (ve B r0 i) r0 (en B (nv (τ 27 (40 * r0 + i)))) (nv (τ 33 (40 * r0 + i))) (τ 30 (40 * r0 + i)) (τ 31 (40 * r0 + i)) (τ 32 (40 * r0 + i)) (fun q => τ 34 (20 * (40 * r0 + i) + q)) := fun r0 hr0 i hi => by
    by_cases z : r0 = r
    · subst z
      have V := R.vo r0 hr0 i hi
      obtain ⟨a1, a2, a3⟩ := ap i hi
      exact V.sam rfl rfl (S _ (by rw [V.b.o]; omega) a1 a2) (S _ (by rw [V.b.ro]; omega) a3 (by omega))
    · exact R.k_vo f hr0 (by omega) i hi
  exact ⟨R.fr, R.k_em f, R.k_hb f, R.k_rg f, R.k_nm f (by first | omega | (intro z; dsimp only at z; omega)), R.k_dy f (by first | omega | (intro z; dsimp only at z; omega)), R.k_dm f (by first | omega | (intro z; dsimp only at z; omega)), R.k_db f (by first | omega | (intro z; dsimp only at z; omega)), R.k_nb f (by first | omega | (intro z; dsimp only at z; omega)), R.k_co f (by first | omega | (intro z; dsimp only at z; omega)), fun r0 hr0 => R.k_up f hr0 (by first | omega | (intro z; dsimp only at z; omega)), fun r0 hr0 => R.k_hd f hr0 (by first | omega | (intro z; dsimp only at z; omega)), R.k_en f (by first | omega | (intro z; dsimp only at z; omega)), fun r0 hr0 => R.k_vl f hr0 (by first | omega | (intro z; dsimp only at z; omega)), hvo, fun r0 hr0 => R.k_kl f hr0 (by first | omega | (intro z; dsimp only at z; omega)), fun r0 hr0 => R.k_pl f hr0 (by first | omega | (intro z; dsimp only at z; omega)), fun r0 hr0 => R.k_po f hr0 (by first | omega | (intro z; dsimp only at z; omega)), R.k_us f (by first | omega | (intro z; dsimp only at z; omega)), fun u0 hu0 => R.k_uo f hu0 (by first | omega | (intro z; dsimp only at z; omega)), R.k_rs f (by first | omega | (intro z; dsimp only at z; omega)), R.k_ro f (by first | omega | (intro z; dsimp only at z; omega))⟩
theorem c_pos {N V : Nat} (R : RR h own B σ M n) (I : IV c σ) (hr : r < 2) (n1 : 1 ≤ N) (n2 : N ≤ nv (σ 8 0)) (eV : nv (σ 26 r) = V) (h40 : V ≤ 40) : ∀ k fu, k ≤ V → k < fu → fRegion_take_l18 (gr h r) fu (some (en B N)) (i3 k) (if k = 0 then m1 else i3 (k - 1)) M n = fRegion_take_j54 (gr h r) (some (en B N)) (i3 (posD σ r N k)) M n := by
  have G := R.rg r hr
  have L := R.vl r hr
  rw [eV] at L
  have E := R.et N n1 n2
  have e8 := I.ev.2
  intro k
  induction k with
  | zero =>
    intro fu hk hfu
    obtain ⟨f, rfl⟩ : ∃ f, fu = f + 1 := ⟨fu - 1, by omega⟩
    rw [fRegion_take_l18_S, fRegion_take_b18_E, if_pos rfl, if_pos m1_lt0]
    rfl
  | succ k ih =>
    intro fu hk hfu
    obtain ⟨f, rfl⟩ : ∃ f, fu = f + 1 := ⟨fu - 1, by omega⟩
    have ih' := ih f (by omega) (by omega)
    have W := R.ver I hr (i := k) (by omega)
    have X := (I.vo r hr k (by omega)).nu
    have hd1 : i3 k + m1 = if k = 0 then m1 else i3 (k - 1) := by
      by_cases z : k = 0
      · rw [if_pos z, z, i3_dec0]
      · rw [if_neg z]; exact i3_dec (by omega)
    have ep : posD σ r N (k + 1) = if N < nE σ r k then posD σ r N k else k + 1 := rfl
    have xe : σ 27 (40 * r + k) = i3 (nE σ r k) := X.1
    have xl : nE σ r k ≤ 200 := Nat.le_trans X.2 e8
    rw [fRegion_take_l18_S, fRegion_take_b18_E, if_neg (Nat.succ_ne_zero k), Nat.add_sub_cancel, if_neg (fun w => absurd ((i3_lt (by omega) (by omega)).mp w) (by omega)), fgR_s G.k, G.p1, rk_s L.k, L.get (by omega), bdR_s, fca_s W.k, fgR_s W.k, W.p0, fgI_s W.ek, W.nu, fgI_s E.b.k, E.nu, xe]
    by_cases z : nE σ r k ≤ N
    · rw [if_pos ((i3_le (by omega) (by omega)).mpr z), ep, if_neg (by omega)]
    · rw [if_neg (fun w => z ((i3_le (by omega) (by omega)).mp w)), ep, if_pos (by omega), hd1]
      exact ih'
theorem take_i {N V m : Nat} {mk : Int32} {C : CS} {g : Nat → Int32} (R : RR h own B σ M n) (I : IV c σ) (hr : r < 2) (F : FIT σ r N V m C g) (AG : ∀ k, 17 ≤ k → k ≤ 39 → k ≠ 36 → k ≠ 37 → σh k = σ k) (A : ∀ j, j < m → σh 4 j = g j) (u : ∀ q, q < C.1 → σh 6 q = i3 (C.2.2.1 q) ∧ σh 7 q = i3 (C.2.2.2 q)) (hmk : (mk = i3 0 ∧ σh 5 0 = i3 C.1) ∨ (mk = i3 1 ∧ C.1 = 0)) : ∃ own' B' M' n' σ', fRegion_take (gr h r) (some (en B N)) M n = some (.inl (), M', n') ∧ fMd_enters (i3 r) (i3 N) mk σh = some ((), σ') ∧ n ≤ n' ∧ n' + 6 * nv (σ 18 r) ≤ n + 3 + 6 * nv (σ' 18 r) ∧ RR h own' B' (gam σ σ') M' n' ∧ IV c (gam σ σ') ∧ (∀ k, k < 18 ∨ 35 < k → σ' k = σh k) ∧ (∀ r0, r0 < 2 → r0 ≠ r → nv (σ' 18 r0) = nv (σ 18 r0)) ∧ B'.2.1 = B.2.1 ∧ B'.2.2.2 = B.2.2.2 := by
  have n1 := F.n1
  have n2 := F.n2
  have v4 := F.v4
  have m4 := F.m4
  have eV : nv (σ 26 r) = V := by rw [F.hV]; exact nv_i (by omega)
  have K : CIN C m := by rw [F.hC]; exact cS_cin m4
  have c20 := K.1
  have hg := F.by15 I
  have h780 := F.c780 I hr
  have e8 := I.ev.2
  have a27 : σh 27 = σ 27 := AG 27 (by omega) (by omega) (by omega) (by omega)
  have a33 : σh 33 = σ 33 := AG 33 (by omega) (by omega) (by omega) (by omega)
  have a26 : σh 26 = σ 26 := AG 26 (by omega) (by omega) (by omega) (by omega)
  -- the check
  obtain ⟨σ', q1, E⟩ := m_enters (σ := σh) (mk := mk) (N := N) (V := V) I.pq hr m4 K hg F.rm h780 (fun k k1 k2 => AG k (by omega) (by omega) (by omega) (by omega)) (by omega) (by rw [a26]; exact F.hV) v4 (fun i hi => by
    rw [a33]
    obtain ⟨pc, p1, p2⟩ := (I.vo r hr i (by omega)).pc.to
    exact ⟨pc, p1, p2⟩) (fun i hi => by
    rw [a27]
    have X := (I.vo r hr i (by omega)).nu
    exact ⟨_, Nat.le_trans X.2 e8, X.1⟩) A u hmk
  rw [posD_e a27] at E
  have IZ := enter_iv I hr F AG E
  obtain ⟨T, -⟩ := tk_inv I.pq hr K hg F.rm h780 C.1 (Nat.le_refl _)
  obtain ⟨pos, hpos⟩ : ∃ pos, pos = posD σ r N V := ⟨_, rfl⟩
  have pl := (posD_le (σ := σ) (r := r) (N := N) (k := V)).1
  rw [← hpos] at E pl
  have PF := E.pf
  -- the class
  have G := R.rg r hr
  have L := R.vl r hr
  rw [eV] at L
  have EN := R.et N n1 n2
  obtain ⟨e, he⟩ : ∃ e, e = en B N := ⟨_, rfl⟩
  have cp := c_pos R I hr n1 n2 eV (by omega) V FU (Nat.le_refl V) (FU_S (by omega))
  rw [← he] at EN cp ⊢
  have g6 : gr h r + 6 < n := R.fr.lt (by rw [G.o6]; omega)
  have g15 : gr h r + 15 < n := R.fr.lt (by rw [G.o15]; omega)
  have e1n : e + 1 < n := R.fr.lt (by rw [EN.b.b.o]; omega)
  have e2n : e + 1 + 1 < n := R.fr.lt (by rw [EN.b.b.ro]; omega)
  have vln : ∀ i, i < V → ve B r i + 1 < n := fun i hi => R.fr.lt (by rw [(R.vo r hr i (by omega)).b.ro]; omega)
  obtain ⟨M3, hM3⟩ : ∃ M3, M3 = nA M n 10 0 := ⟨_, rfl⟩
  obtain ⟨own1, ho1⟩ : ∃ own1, own1 = oN own n (18 + r) := ⟨_, rfl⟩
  have N1 : NEWM n M M3 := by rw [hM3]; exact NEWM.nA (Nat.le_refl n)
  have f1 : FRM (fun _ => False) own M own1 M3 := N1.frm R.fr fun x hx => by rw [ho1]; exact oN_n _ _ (by omega)
  have fr1 : FRS own1 (n + 1) := by rw [ho1]; exact R.fr.oN _
  have R1 := R.nF f1 fr1
  have G1 := R1.rg r hr
  have EN1 := R1.et N n1 n2
  rw [← he] at EN1
  have Y1 : BY own1 M3 (e + 1) 24 m g := by
    refine ⟨EN1.b.b, by rw [EN1.ma, F.hm], fun j hj => ?_⟩
    have := EN1.by j (by rw [F.hm, nv_i (by omega)]; exact hj)
    rw [F.hg j hj]; exact this
  obtain ⟨Mc, k1, k2, k3⟩ := c_cut G1 Y1 m4 (by omega)
  rw [← F.hC] at k3
  have fc : FRM (fun x => x = 10 + r) own1 M3 own1 Mc := k2.frm fun cc a z _ => scu_own G1 z
  have Rc : RR h own1 B σ Mc (n + 1) := R1.scr fc fun x hx => by omega
  have Gc := Rc.rg r hr
  obtain ⟨M10, hM10⟩ : ∃ M10, M10 = nA Mc (n + 1) 21 C.1 := ⟨_, rfl⟩
  obtain ⟨own2, ho2⟩ : ∃ own2, own2 = oN own1 (n + 1) (18 + r) := ⟨_, rfl⟩
  have N2 : NEWM (n + 1) Mc M10 := by rw [hM10]; exact NEWM.nA (Nat.le_refl _)
  have f2 : FRM (fun _ => False) own1 Mc own2 M10 := N2.frm Rc.fr fun x hx => by rw [ho2]; exact oN_n _ _ (by omega)
  have fr2 : FRS own2 (n + 2) := by rw [ho2]; exact fr1.oN _
  have R2 := Rc.nF f2 fr2
  have G2 := R2.rg r hr
  have Yc := Y1.ios k2 (fun cc a z => by rw [scu_own G1 z]; omega)
  have Y2 : BY own2 M10 (e + 1) 24 m g := by
    have s0 := f2 (e + 1) (by rw [Yc.b.o]; omega)
    have s1 := f2 (e + 1 + 1) (by rw [Yc.b.ro]; omega)
    have t0 := s0.2.1 (fun z => z)
    have t1 := s1.2.1 (fun z => z)
    exact ⟨⟨t0.1.trans Yc.b.k, (t0.2.2.1 _ _).trans Yc.b.p, t1.1.trans Yc.b.rk, t1.2.1.trans Yc.b.rl, s0.1.trans Yc.b.o, s1.1.trans Yc.b.ro⟩, (t0.2.2.2 _ _).trans Yc.ma, fun j hj => (t1.2.2.2 _ _).trans (Yc.by j hj)⟩
  have u2 : CUR M10 (gr h r) C := ⟨((N2 _ (by omega)).2.2.2 _ _).trans k3.1, fun q hq => ⟨((N2 _ (by omega)).2.2.2 _ _).trans (k3.2 q hq).1, ((N2 _ (by omega)).2.2.2 _ _).trans (k3.2 q hq).2⟩⟩
  have ky : mK M10 (n + 1) = 21 := by rw [hM10]; exact mK_nA_e _ _ _ _
  have ly : mL M10 (n + 1) = C.1 := by rw [hM10]; exact mL_nA_e _ _ _ _
  have oy : own2 (n + 1) = 18 + r := by rw [ho2]; exact oN_e _ _ _
  have ov2 : own2 n = 18 + r := by rw [ho2, oN_n _ _ (by omega), ho1]; exact oN_e _ _ _
  obtain ⟨own4, B4, M4, n4, t1, t2, t3, R4, f4, b1, b2, b3, el⟩ := c_take_l (τ := σ) (y := n + 1) I.pq hr (t := 24) (by omega) (by omega) (by omega) (by omega) m4 K hg F.rm h780 (by omega) (by omega) (Or.inr (by omega)) C.1 0 FU own2 B M10 (n + 2) (by omega) (FU_S (by omega)) R2 Y2 u2 ky ly oy (fun i hi => by have := vln i (by omega); omega) (fun o ho => by omega)
  have t3' : n4 + 6 * nv (σ 18 r) ≤ n + 2 + 6 * nv (tkS σ r g C C.1 18 r) := t3
  -- the new version's cells
  have kv10 : mK M10 n = 10 ∧ (∀ cc j, mI M10 cc n j = i3 0) := by
    have s2 := N2 n (by omega)
    have sc : mK Mc n = mK M3 n ∧ ∀ cc j, mI Mc cc n j = mI M3 cc n j := ⟨k2.K n, fun cc j => k2.2 cc n j (fun z => by unfold SCU at z; omega)⟩
    refine ⟨s2.1.trans (sc.1.trans (by rw [hM3]; exact mK_nA_e _ _ _ _)), fun cc j => (s2.2.2.2 _ _).trans ((sc.2 _ _).trans ?_)⟩
    rw [hM3, mI_nA, if_pos rfl]; rfl
  obtain ⟨p4, p5⟩ := f4 n (by rw [ov2]; omega)
  obtain ⟨p6, p7⟩ := f4 (n + 1) (by rw [oy]; omega)
  rw [ov2] at p4 p5
  rw [oy] at p6 p7
  obtain ⟨c1, c2, c3, c4⟩ := p5 (by omega)
  obtain ⟨d1, d2, d3, d4⟩ := p7 (by omega)
  have kv4 : mK M4 n = 10 := c1.trans kv10.1
  have lv4 : mI M4 1002 n 0 = i3 0 := (c4 (by omega) _ _).trans (kv10.2 _ _)
  obtain ⟨M5, hM5⟩ : ∃ M5, M5 = uP (uP (uI (uI M4 1003 n 0 m1) 1004 n 0 m1) 1000 n 0 (some e)) 1001 n 0 (some (n + 1)) := ⟨_, rfl⟩
  have S5 : ∀ a, a ≠ n → SAM M4 M5 a := fun a ha => by
    rw [hM5]
    exact ⟨rfl, rfl, fun cc j => by rw [mP_uP, if_neg (fun z => ha z.2.1), mP_uP, if_neg (fun z => ha z.2.1)]; rfl, fun cc j => by rw [mI_uP, mI_uP, mI_uI_a _ _ _ _ ha, mI_uI_a _ _ _ _ ha]⟩
  have n26 : nv (tkS σ r g C C.1 26 r) = V := by rw [T.nk 26 (Or.inr (by decide))]; exact eV
  have veq : ∀ i, ve B4 r i = ve B r i := fun i => by unfold ve; rw [b1]
  have R5 : RR h own4 B4 (tkS σ r g C C.1) M5 n4 := R4.wrv hr p4 p6 (fun a _ h1 _ => S5 a h1) (fun i hi => by
    rw [n26] at hi
    have := vln i hi
    rw [veq]; omega)
  have NV : VEC own4 M5 n r e C.1 (i3 0) m1 m1 (fun q => i3 (pnS σ r g C q)) := by
    have s1 := S5 (n + 1) (by omega)
    refine ⟨⟨?_, ?_, ?_, p4, s1.1.trans (d1.trans ky), s1.2.1.trans (d2.trans ly), p6⟩, ?_, ?_, ?_, fun q hq => (s1.2.2.2 _ _).trans (el q hq)⟩
    · rw [hM5]; exact kv4
    · rw [hM5, mP_uP, if_neg (by omega), mP_uP, if_pos ⟨rfl, rfl, rfl⟩]
    · rw [hM5, mP_uP, if_pos ⟨rfl, rfl, rfl⟩]
    · rw [hM5, mI_uP, mI_uP, mI_uI_c _ _ _ _ (by decide), mI_uI_c _ _ _ _ (by decide)]; exact lv4
    · rw [hM5, mI_uP, mI_uP, mI_uI_c _ _ _ _ (by decide), mI_uI_e]
    · rw [hM5, mI_uP, mI_uP, mI_uI_e]
  -- the list
  have L5 := R5.vl r hr
  rw [n26] at L5
  have el5 : ELS own4 M5 V (ve B4 r) := fun i hi => by
    have Z := R5.vo r hr i (by rw [n26]; exact hi)
    have o := Z.b.o
    have kk := Z.b.k
    exact ⟨by rw [o]; omega, by rw [kk]; omega, by rw [kk]; omega⟩
  obtain ⟨own6, M6, n6, l1, l2, l3, fr6, f6, L6⟩ := add0_i L5 R5.em R5.fr el5 (fun i hi => by rw [(R5.vo r hr i (by rw [n26]; exact hi)).b.o]; omega) (by omega) (by omega) (x := n) (k := pos) pl (by rw [NV.b.k]; omega) (by rw [NV.b.k]; omega) (by rw [p4]; omega) (by rw [p4]; omega)
  have G6 := (R5.k_rg f6 r hr)
  have EN6 := R5.k_en f6 (by omega) N n1 (by rw [T.nk 8 (Or.inl (by decide))]; exact n2)
  have enq : en B4 N = e := by rw [he]; unfold en; rw [b2]
  rw [enq] at EN6
  obtain ⟨M7, hM7⟩ : ∃ M7, M7 = uI M6 0 (gr h r + 15) N (i3 1) := ⟨_, rfl⟩
  have f7 : FRM (fun t => t = 8 + r) own6 M6 own6 M7 := by
    rw [hM7]
    exact (IOS.uI _ _ _ _).frm fun cc a z _ => by rw [z.2]; exact G6.o15
  have FF : FRM (fun t => t = 14 + r ∨ t = 8 + r) own4 M5 own6 M7 := f6.trans f7
  have run : fRegion_take (gr h r) (some e) M n = some (.inl (), M7, n6) := by
    have v0 : (if V = 0 then m1 else i3 (V - 1)) = i3 V - i3 1 := by
      by_cases z : V = 0
      · rw [if_pos z, z]; rfl
      · rw [if_neg z, i3_sub (by omega)]
    rw [v0] at cp
    have G1s := G1.ks
    have e3 := EN1.b
    have kv5 : mK M4 n = 10 := kv4
    have k5a : mK (uI M4 1003 n 0 m1) n = 10 := kv4
    have k5b : mK (uI (uI M4 1003 n 0 m1) 1004 n 0 m1) n = 10 := kv4
    have k5c : mK (uP (uI (uI M4 1003 n 0 m1) 1004 n 0 m1) 1000 n 0 (some e)) n = 10 := kv4
    have tin : fStore_takeIn (gr h r + 1) (some (e + 1)) M3 (n + 1) = some (.inl (some (n + 1)), M4, n4) := by
      rw [fStore_takeIn_E, fgR_s G1.ks, G1.s2, rk_s G1.k4, k1, bdW_s, fgR_s Gc.ks, Gc.s2, fgI_s Gc.k4, k3.1, if_neg (fun w => absurd ((i3_lt (by omega) (by omega)).mp w) (by omega)), nwA_i (by omega) (by omega), ← hM10]
      exact t1
    have vin : fVersion_init n (some e) (some (n + 1)) M4 = some ((), M5) := by
      rw [fVersion_init_E, fpI_s kv5, fpI_s k5a, fpR_s k5b, fpR_s k5c, hM5]
    have q1' : mP M 601 (gr h r) 0 = some (gr h r + 13) := G.p1
    rw [fRegion_take_E, fgR_s G.k, G.p1, rk_s L.k, L.size, bdR_s, fgR_s G.k, G.p1, rk_s L.k, L.size, bdR_s, cp, ← hpos, fRegion_take_j54_E, fgR_s G.k, G.p1, nwO_s, ← hM3, fgR_s G1.k, G1.p0, fgR_s e3.k, e3.p, rk_s G1.ks, tin, bdC_li (by omega), rk_s kv4, vin, bdW_s, rk_s L5.k, l1, bdC_li l2, fgI_s EN6.b.k, EN6.nu, if_neg (fun w => absurd ((i3_lt (by omega) (by omega)).mp w) (by omega)), fgI_s EN6.b.k, EN6.nu, fgR_s G6.k, G6.p3, aln_i G6.k15 (by decide) (by decide), G6.l15, if_neg (fun w => absurd ((i3_le (by omega) (by omega)).mp w) (by omega)), fgR_s G6.k, G6.p3, fgI_s EN6.b.k, EN6.nu, asZ_1 G6.k15 (by rw [G6.l15]; omega) (by omega), ← hM7]
  have t18 : nv (σ' 18 r) = nv (tkS σ r g C C.1 18 r) := by rw [PF 18 (by decide) (by decide)]
  have s26 : ∀ r0, r0 < 2 → nv (σ' 26 r0) = if r0 = r then V + 1 else nv (σ 26 r0) := fun r0 hr0 => by
    by_cases z : r0 = r
    · subst z; rw [if_pos rfl, E.v6.1, nv_i (by omega)]
    · rw [if_neg z, E.v6.2 r0 z, a26]
  -- the relation
  obtain ⟨X1, hX1⟩ : ∃ X1 : Nat → Nat → Nat, X1 = fun r0 j => if r0 = r ∧ pos < j then j - 1 else j := ⟨_, rfl⟩
  have x1 : ∀ r0 j, X1 r0 j = if r0 = r ∧ pos < j then j - 1 else j := fun r0 j => by rw [hX1]
  have hvl : ∀ r0, r0 < 2 → LST own6 M7 (gr h r0 + 13) (14 + r0) (nv (σ' 26 r0)) (fun j => if r0 = r ∧ j = pos then n else ve B4 r0 (X1 r0 j)) := fun r0 hr0 => by
    rw [s26 r0 hr0]
    by_cases z : r0 = r
    · subst z
      rw [if_pos rfl]
      have L7 := L6.keep (f7.dy (14 + r0) (by omega) (by omega)) (f7.di (14 + r0) (by omega) (by omega)) (by rw [hM7]; rfl)
      refine L7.congr fun j hj => ?_
      show (if j < pos then ve B4 r0 j else if j = pos then n else ve B4 r0 (j - 1)) = _
      by_cases w : j = pos
      · rw [if_neg (by omega), if_pos w, if_pos ⟨rfl, w⟩]
      · rw [if_neg (c := r0 = r0 ∧ j = pos) (fun y => w y.2), x1]
        by_cases y : j < pos
        · rw [if_pos y, if_neg (by omega)]
        · rw [if_neg y, if_neg w, if_pos ⟨rfl, by omega⟩]
    · rw [if_neg z]
      have L7 := R5.k_vl FF hr0 (by omega)
      rw [T.nk 26 (Or.inr (by decide))] at L7
      exact L7.congr fun j hj => by rw [if_neg (fun y => z y.1), x1, if_neg (fun y => z y.1)]
  have hvo : ∀ r0, r0 < 2 → ∀ j, j < nv (σ' 26 r0) → VEC own6 M7 (if r0 = r ∧ j = pos then n else ve B4 r0 (X1 r0 j)) r0 (en B4 (nv (σ' 27 (40 * r0 + j)))) (nv (σ' 33 (40 * r0 + j))) (σ' 30 (40 * r0 + j)) (σ' 31 (40 * r0 + j)) (σ' 32 (40 * r0 + j)) (fun q => σ' 34 (20 * (40 * r0 + j) + q)) := fun r0 hr0 j hj => by
    obtain ⟨w27, w28, w29, w30, w31, w32, w33⟩ := E.nw
    rw [s26 r0 hr0] at hj
    by_cases z : r0 = r ∧ j = pos
    · obtain ⟨rfl, rfl⟩ := z
      rw [if_pos ⟨rfl, rfl⟩, w27, w30, w31, w32, w33, nv_i (by omega), nv_i (by omega), enq]
      have NV7 := NV.keep (FF.dy (18 + r0) (by omega) (by omega)) (FF.di (18 + r0) (by omega) (by omega))
      exact ⟨NV7.b, NV7.lv, NV7.lk, NV7.ak, fun q hq => (NV7.pt q hq).trans (E.np q hq).symm⟩
    · have j40 : j < 40 := by
        have := (I.vn r0 hr0).2
        by_cases y : r0 = r
        · rw [if_pos y] at hj; omega
        · rw [if_neg y] at hj; omega
      have ne : 40 * r0 + j ≠ 40 * r + pos := fun w => by
        obtain ⟨a, b⟩ : r0 = r ∧ j = pos := by omega
        exact z ⟨a, b⟩
      have hx : X1 r0 j < nv (σ 26 r0) := by
        rw [x1]
        by_cases y : r0 = r
        · subst y
          rw [if_pos rfl] at hj
          have : j ≠ pos := fun w => z ⟨rfl, w⟩
          by_cases w : pos < j
          · rw [if_pos ⟨rfl, w⟩]; omega
          · rw [if_neg (fun v => w v.2)]; omega
        · rw [if_neg y] at hj
          rw [if_neg (fun w => y w.1)]; exact hj
      have key : ∀ f, 27 ≤ f → f ≤ 33 → σ' f (40 * r0 + j) = σ f (40 * r0 + X1 r0 j) := fun f h1 h2 => by
        rw [E.vv f h1 h2 _ ne, AG f (by omega) (by omega) (by omega) (by omega), x1]
        by_cases y : r0 = r ∧ pos < j
        · obtain ⟨rfl, y2⟩ := y
          rw [if_pos rfl] at hj
          rw [if_pos (by omega), if_pos ⟨rfl, y2⟩, show 40 * r0 + j - 1 = 40 * r0 + (j - 1) by omega]
        · rw [if_neg (fun w => by
            by_cases v : r0 = r
            · subst v; exact y ⟨rfl, by omega⟩
            · rw [if_neg v] at hj; have := (I.vn r0 hr0).2; omega), if_neg y]
      have Z := R5.k_vo FF hr0 (by omega) (X1 r0 j) (by rw [T.nk 26 (Or.inr (by decide))]; exact hx)
      rw [T.nk 27 (Or.inr (by decide)), T.nk 30 (Or.inr (by decide)), T.nk 31 (Or.inr (by decide)), T.nk 32 (Or.inr (by decide)), T.nk 33 (Or.inr (by decide)), T.nk 34 (Or.inr (by decide))] at Z
      rw [if_neg z, key 27 (by decide) (by decide), key 30 (by decide) (by decide), key 31 (by decide) (by decide), key 32 (by decide) (by decide), key 33 (by decide) (by decide)]
      refine ⟨Z.b, Z.lv, Z.lk, Z.ak, fun q hq => (Z.pt q hq).trans ?_⟩
      have q20 : q < 20 := Nat.lt_of_lt_of_le hq (I.vo r0 hr0 _ hx).pc.2
      show σ 34 (20 * (40 * r0 + X1 r0 j) + q) = σ' 34 (20 * (40 * r0 + j) + q)
      rw [E.pp _ (by omega) ne q (by rw [key 33 (by decide) (by decide)]; exact hq) q20, AG 34 (by omega) (by omega) (by omega) (by omega), x1]
      by_cases y : r0 = r ∧ pos < j
      · obtain ⟨rfl, y2⟩ := y
        rw [if_pos rfl] at hj
        rw [if_pos (c := 40 * r0 + pos < 40 * r0 + j ∧ 40 * r0 + j ≤ 40 * r0 + V) (by omega), if_pos ⟨rfl, y2⟩, show 40 * r0 + j - 1 = 40 * r0 + (j - 1) by omega]
      · rw [if_neg y, if_neg (fun w => by
          by_cases v : r0 = r
          · subst v; exact y ⟨rfl, by omega⟩
          · rw [if_neg v] at hj; have := (I.vn r0 hr0).2; omega)]
  have hhd : ∀ r0, r0 < 2 → ∀ j, j < 201 → mI M7 0 (gr h r0 + 15) j = σ' 35 (201 * r0 + j) := fun r0 hr0 j hj => by
    rw [E.hd, hM7, AG 35 (by omega) (by omega) (by omega) (by omega)]
    have old := R5.k_hd f6 hr0 (by omega) j hj
    rw [T.nk 35 (Or.inr (by decide))] at old
    by_cases z : r0 = r ∧ j = N
    · obtain ⟨rfl, rfl⟩ := z
      rw [mI_uI_e, if_pos rfl]
    · rw [if_neg (by omega), mI_uI, if_neg (fun w => z (by unfold gr at w; omega))]
      exact old
  have RZ : RR h own6 ((fun r0 j => if r0 = r ∧ j = pos then n else ve B4 r0 (X1 r0 j)), B4.2) (fun k => if 26 ≤ k ∧ k ≤ 35 then σ' k else tkS σ r g C C.1 k) M7 n6 := ⟨fr6, R5.k_em FF, R5.k_hb FF, R5.k_rg FF, R5.k_nm FF (by first | omega | (intro z; dsimp only at z; omega)), R5.k_dy FF (by first | omega | (intro z; dsimp only at z; omega)), R5.k_dm FF (by first | omega | (intro z; dsimp only at z; omega)), R5.k_db FF (by first | omega | (intro z; dsimp only at z; omega)), R5.k_nb FF (by first | omega | (intro z; dsimp only at z; omega)), R5.k_co FF (by first | omega | (intro z; dsimp only at z; omega)), fun r0 hr0 => R5.k_up FF hr0 (by first | omega | (intro z; dsimp only at z; omega)), hhd, R5.k_en FF (by first | omega | (intro z; dsimp only at z; omega)), hvl, hvo, fun r0 hr0 => R5.k_kl FF hr0 (by first | omega | (intro z; dsimp only at z; omega)), fun r0 hr0 => R5.k_pl FF hr0 (by first | omega | (intro z; dsimp only at z; omega)), fun r0 hr0 => R5.k_po FF hr0 (by first | omega | (intro z; dsimp only at z; omega)), R5.k_us FF (by first | omega | (intro z; dsimp only at z; omega)), fun u0 hu0 => R5.k_uo FF hu0 (by first | omega | (intro z; dsimp only at z; omega)), R5.k_rs FF (by first | omega | (intro z; dsimp only at z; omega)), R5.k_ro FF (by first | omega | (intro z; dsimp only at z; omega))⟩
  have RY : RR h own6 ((fun r0 j => if r0 = r ∧ j = pos then n else ve B4 r0 (X1 r0 j)), B4.2) (gam σ σ') M7 n6 := by
    have ez : (fun k => if 26 ≤ k ∧ k ≤ 35 then σ' k else tkS σ r g C C.1 k) = gam σ σ' := funext fun k => by
      show (if 26 ≤ k ∧ k ≤ 35 then σ' k else tkS σ r g C C.1 k) = (if 18 ≤ k ∧ k ≤ 35 then σ' k else σ k)
      by_cases w : 26 ≤ k ∧ k ≤ 35
      · rw [if_pos w, if_pos (by omega)]
      · rw [if_neg w]
        by_cases v : 18 ≤ k ∧ k ≤ 35
        · rw [if_pos v, PF k (by omega) (by omega)]
        · rw [if_neg v, T.nk k (by omega)]
    rw [ez] at RZ
    exact RZ
  refine ⟨own6, _, M7, n6, σ', run, q1, by omega, ?_, RY, IZ, E.ot, fun r0 hr0 h0 => ?_, b2, b3⟩
  · rw [t18]; omega
  · rw [PF 18 (by decide) (by decide), (T.oc r0 hr0 h0).1]
end TV

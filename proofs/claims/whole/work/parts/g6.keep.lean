set_option maxRecDepth 100000
/-! the class's entry; what is kept; a store, both sides -/
section ST
variable {h c n r : Nat} {own : Nat → Nat} {B : BK} {σ σ' σh τ : Sg} {M M' : Mm}
/-- the address book with one more entry -/
def bkE (B : BK) (E n : Nat) : BK := (B.1, (fun k => if k = E + 1 then n else en B k), B.2.2)
theorem bkE_o {E k : Nat} (hk : k ≠ E + 1) : en (bkE B E n) k = en B k := if_neg hk
theorem bkE_e {E : Nat} : en (bkE B E n) (E + 1) = n := if_pos rfl
theorem ent_i {b t m E : Nat} {key : Int32} {g : Nat → Int32} (R : RR h own B σ M n) (I : IV c σ) (Y : BY own M b t m g) (t0 : t ≠ 0) (ht : t ≠ 1) (h40 : m ≤ 40) (hg : ∀ j, j < m → NB 15 (g j)) (hE : σ 8 0 = i3 E) (hE2 : E < 200) : ∃ own' M', (∀ (K : Option Nat → Mm → Nat → Option ((Int32 ⊕ Nat) × Mm × Nat)), (fpI 11 1108 (some h) (i3 (E + 1)) M fun M5 => nwO 4 M5 n fun y6 M7 n8 => fgI 11 1108 (some h) M7 fun v9 => fgI 11 1109 (some h) M7 fun v10 => rk 4 y6 M7 fun a11 => bdN (fEntry_init a11 key v9 v10 M7 n8) n8 fun _ M15 n16 => fgR 4 403 y6 M15 fun v17 => rk 1 v17 M15 fun a18 => bdW (fBytes_appendAll a18 (some b) M15) fun _ M22 => K y6 M22 n16) = K (some n) M' (n + 3)) ∧ RR h own' (bkE B E n) (enS σ E m key g) M' (n + 3) ∧ FRM (fun t => t = 1) own M own' M' := by
  have hh := R.hb
  have eE : nv (σ 8 0) = E := by rw [hE]; exact nv_i (by omega)
  have hn : h < n := R.fr.lt (by rw [hh.o]; omega)
  have bn : b < n := R.fr.lt (by rw [Y.b.o]; exact t0)
  have b1n : b + 1 < n := R.fr.lt (by rw [Y.b.ro]; exact t0)
  have bh : b ≠ h := fun z => by have := Y.b.o; rw [z, hh.o] at this; exact ht this.symm
  have b1h : b + 1 ≠ h := fun z => by have := Y.b.ro; rw [z, hh.o] at this; exact ht this.symm
  obtain ⟨M0, h0⟩ : ∃ M0, M0 = uI M 1108 h 0 (i3 (E + 1)) := ⟨_, rfl⟩
  obtain ⟨M7, h7⟩ : ∃ M7, M7 = nA M0 n 4 0 := ⟨_, rfl⟩
  obtain ⟨M8, h8⟩ : ∃ M8, M8 = uP (nA (nA M7 (n + 1) 1 0) (n + 2) 20 40) 100 (n + 1) 0 (some (n + 2)) := ⟨_, rfl⟩
  obtain ⟨M9, h9⟩ : ∃ M9, M9 = uI (uI (uI (uP M8 403 n 0 (some (n + 1))) 400 n 0 key) 401 n 0 (i3 (E + 1))) 402 n 0 (σ 11 0) := ⟨_, rfl⟩
  have N9 : NEWM n M0 M9 := by
    rw [h9, h8, h7]
    exact (((((((NEWM.nA (Nat.le_refl n)).trans (NEWM.nA (by omega))).trans (NEWM.nA (by omega))).trans (NEWM.uP (by omega))).trans (NEWM.uP (Nat.le_refl n))).trans (NEWM.uI (Nat.le_refl n))).trans (NEWM.uI (Nat.le_refl n))).trans (NEWM.uI (Nat.le_refl n))
  have K9 : ∀ a, mK M9 a = if a = n + 2 then 20 else if a = n + 1 then 1 else if a = n then 4 else mK M a := fun a => by
    rw [h9, mK_uI, mK_uI, mK_uI, mK_uP, h8, mK_uP, mK_nA, mK_nA, h7, mK_nA, h0, mK_uI]
  have L9 : mL M9 (n + 2) = 40 := by rw [h9, mL_uI, mL_uI, mL_uI, mL_uP, h8, mL_uP, mL_nA, if_pos rfl]
  have p1 : mP M9 403 n 0 = some (n + 1) := by rw [h9, mP_uI, mP_uI, mP_uI, mP_uP, if_pos ⟨rfl, rfl, rfl⟩]
  have p2 : mP M9 100 (n + 1) 0 = some (n + 2) := by rw [h9, mP_uI, mP_uI, mP_uI, mP_uP, if_neg (by omega), h8, mP_uP, if_pos ⟨rfl, rfl, rfl⟩]
  have i1 : mI M9 101 (n + 1) 0 = i3 0 := by
    rw [h9, mI_uI_c _ _ _ _ (by decide), mI_uI_c _ _ _ _ (by decide), mI_uI_c _ _ _ _ (by decide), mI_uP, h8, mI_uP, mI_nA, if_neg (by omega), mI_nA, if_pos rfl]; rfl
  have i2 : mI M9 400 n 0 = key := by rw [h9, mI_uI_c _ _ _ _ (by decide), mI_uI_c _ _ _ _ (by decide), mI_uI_e]
  have i3' : mI M9 401 n 0 = i3 (E + 1) := by rw [h9, mI_uI_c _ _ _ _ (by decide), mI_uI_e]
  have i4 : mI M9 402 n 0 = σ 11 0 := by rw [h9, mI_uI_e]
  obtain ⟨own1, ho⟩ : ∃ own1, own1 = oR own n (n + 3) 24 := ⟨_, rfl⟩
  have on : ∀ i, i < 3 → own1 (n + i) = 24 := fun i hi => by rw [ho]; exact oR_e (by omega) (by omega)
  have fr1 : FRS own1 (n + 3) := by rw [ho]; exact R.fr.oR 24 (by omega)
  have old9 : ∀ a, a < n → a ≠ h → SAM M M9 a := fun a ha hah => by
    have s0 : SAM M M0 a := by rw [h0]; exact ⟨rfl, rfl, fun _ _ => rfl, fun cc j => mI_uI_a _ _ _ _ hah _ _⟩
    exact s0.trans (N9 a ha)
  have Y9 : BY own1 M9 b t m g := by
    have s0 := old9 b bn bh
    have s1 := old9 (b + 1) b1n b1h
    have o0 : own1 b = own b := by rw [ho]; exact oR_n bn
    have o1 : own1 (b + 1) = own (b + 1) := by rw [ho]; exact oR_n b1n
    exact ⟨⟨s0.1.trans Y.b.k, (s0.2.2.1 _ _).trans Y.b.p, s1.1.trans Y.b.rk, s1.2.1.trans Y.b.rl, o0.trans Y.b.o, o1.trans Y.b.ro⟩, (s0.2.2.2 _ _).trans Y.ma, fun j hj => (s1.2.2.2 _ _).trans (Y.by j hj)⟩
  have Z9 : BYT own1 M9 (n + 1) 24 := ⟨by rw [K9, if_neg (by omega), if_pos rfl], p2, by rw [K9, if_pos rfl], L9, on 1 (by omega), on 2 (by omega)⟩
  obtain ⟨M', a1, a2, a3, a4⟩ := c_appendAll (A := 0) (D := m) (g := fun j => nv (g j)) Z9 Y9.b (by omega) i1 Y9.ma (by omega) (fun j hj => by
    have x := hg j hj
    exact ⟨(Y9.by j hj).trans x.1, by have := x.2; omega⟩)
  rw [Nat.zero_add] at a3
  have old' : ∀ a, a < n → a ≠ h → SAM M M' a := fun a ha hah => (old9 a ha hah).trans ⟨a2.K a, a2.L a, fun cc j => a2.P cc a j, fun cc j => a2.2 cc a j (fun z => by omega)⟩
  have hI : ∀ cc j, mI M' cc h j = if cc = 1108 ∧ j = 0 then i3 (E + 1) else mI M cc h j := fun cc j => by
    rw [a2.2 cc h j (fun z => by omega), (N9 h hn).2.2.2, h0, mI_uI]
    by_cases z : cc = 1108 ∧ j = 0
    · rw [if_pos ⟨z.1, rfl, z.2⟩, if_pos z]
    · rw [if_neg (fun w => z ⟨w.1, w.2.2⟩), if_neg z]
  have hS : SAP M M' h := ⟨(a2.K h).trans ((N9 h hn).1.trans (by rw [h0]; rfl)), (a2.L h).trans ((N9 h hn).2.1.trans (by rw [h0]; rfl)), fun cc j => (a2.P cc h j).trans (((N9 h hn).2.2.1 cc j).trans (by rw [h0]; rfl))⟩
  have F : FRM (fun t => t = 1) own M own1 M' := fun a ha => by
    have an := R.fr.lt ha
    refine ⟨by rw [ho]; exact oR_n an, fun hT => ?_, fun _ => ?_⟩
    · exact old' a an (fun z => hT (by rw [z]; exact hh.o))
    · by_cases z : a = h
      · rw [z]; exact hS
      · exact (old' a an z).sap
  refine ⟨own1, M', fun K => ?_, ?_, F⟩
  · have kh0 : mK M7 h = 11 := by rw [h7, mK_nA, if_neg (by omega), h0]; exact hh.k
    have nm7 : mI M7 1108 h 0 = i3 (E + 1) := by rw [h7, mI_nA, if_neg (by omega), h0, mI_uI_e]
    have dy7 : mI M7 1109 h 0 = σ 11 0 := by rw [h7, mI_nA, if_neg (by omega), h0, mI_uI_c _ _ _ _ (by decide)]; exact R.dy
    have k7n : mK M7 n = 4 := by rw [h7]; exact mK_nA_e _ _ _ _
    have k8a : mK (nA M7 (n + 1) 1 0) (n + 1) = 1 := mK_nA_e _ _ _ _
    have bi := bytes_init (M := nA M7 (n + 1) 1 0) (n := n + 2) (a0 := n + 1) k8a (by omega)
    rw [← h8] at bi
    have k8n : mK M8 n = 4 := by rw [h8, mK_uP, mK_nA, if_neg (by omega), mK_nA, if_neg (by omega)]; exact k7n
    have q1 : mK (uP M8 403 n 0 (some (n + 1))) n = 4 := k8n
    have q2 : mK (uI (uP M8 403 n 0 (some (n + 1))) 400 n 0 key) n = 4 := k8n
    have q3 : mK (uI (uI (uP M8 403 n 0 (some (n + 1))) 400 n 0 key) 401 n 0 (i3 (E + 1))) n = 4 := k8n
    have ini : fEntry_init n key (i3 (E + 1)) (σ 11 0) M7 (n + 1) = some (.inl (), M9, n + 3) := by
      rw [fEntry_init_E, nwO_s, rk_s k8a, bi, bdN_l (by omega), fpR_s k8n, fpI_s q1, fpI_s q2, fpI_s q3, ← h9]
    have k9n : mK M9 n = 4 := by rw [K9, if_neg (by omega), if_neg (by omega), if_pos rfl]
    rw [fpI_s hh.k, ← h0, nwO_s, ← h7, fgI_s kh0, nm7, fgI_s kh0, dy7, rk_s k7n, ini, bdN_l (by omega), fgR_s k9n, p1, rk_s Z9.k, a1, bdW_s]
  · have e8 : enS σ E m key g 8 0 = i3 (E + 1) := enS_8
    have hnm : mI M' 1108 h 0 = enS σ E m key g 8 0 := by rw [e8, hI, if_pos ⟨rfl, rfl⟩]
    have hdy : mI M' 1109 h 0 = σ 11 0 := by rw [hI, if_neg (by omega)]; exact R.dy
    have het : ∀ k, 1 ≤ k → k ≤ nv (enS σ E m key g 8 0) → ENC own1 M' (en (bkE B E n) k) k (enS σ E m key g 38 k) (enS σ E m key g 39 k) (enS σ E m key g 9 k) (fun j => enS σ E m key g 10 (40 * k + j)) := fun k k1 k2 => by
      rw [e8, nv_i (by omega)] at k2
      by_cases z : k = E + 1
      · subst z
        rw [bkE_e, enS_38, enS_39, enS_9]
        have s0 : mK M' n = 4 ∧ mP M' 403 n 0 = some (n + 1) := ⟨(a2.K n).trans (by rw [K9, if_neg (by omega), if_neg (by omega), if_pos rfl]), (a2.P _ _ _).trans p1⟩
        refine ⟨⟨s0.1, s0.2, on 0 (by omega), (a2.K _).trans Z9.k, (a2.P _ _ _).trans Z9.p, (a2.K _).trans Z9.rk, (a2.L _).trans Z9.rl, on 1 (by omega), on 2 (by omega)⟩, (a2.2 _ _ _ (by omega)).trans i2, (a2.2 _ _ _ (by omega)).trans i3', (a2.2 _ _ _ (by omega)).trans i4, a3, fun j hj => ?_⟩
        rw [nv_i (by omega)] at hj
        show mI M' 0 (n + 1 + 1) j = enS σ E m key g 10 (40 * (E + 1) + j)
        rw [enS_10 hj, a4, if_pos (by omega), Nat.sub_zero]
        exact (hg j hj).1.symm
      · have X := R.k_en F (by omega) k k1 (by omega)
        have x40 := (I.en k k1 (by omega)).ma.2
        rw [bkE_o z, enS_o (k := 38) (fun w => absurd w (by decide)) (fun _ => z) (by decide), enS_o (k := 39) (fun w => absurd w (by decide)) (fun _ => z) (by decide), enS_o (k := 9) (fun w => absurd w (by decide)) (fun _ => z) (by decide)]
        exact ⟨X.b, X.ke, X.nu, X.da, X.ma, fun j hj => (X.by j hj).trans (enS_o (k := 10) (fun _ => by omega) (fun w => absurd rfl w) (by decide)).symm⟩
    have hvo : ∀ r0, r0 < 2 → ∀ i, i < nv (σ 26 r0) → VEC own1 M' (ve B r0 i) r0 (en (bkE B E n) (nv (σ 27 (40 * r0 + i)))) (nv (σ 33 (40 * r0 + i))) (σ 30 (40 * r0 + i)) (σ 31 (40 * r0 + i)) (σ 32 (40 * r0 + i)) (fun q => σ 34 (20 * (40 * r0 + i) + q)) := fun r0 hr0 i hi => by
      have X := (I.vo r0 hr0 i hi).nu.2
      rw [bkE_o (by omega)]
      exact R.k_vo F hr0 (by omega) i hi
    have hkl : ∀ r0, r0 < 2 → LST own1 M' (gr h r0 + 14) (16 + r0) (nv (σ 36 r0)) (fun i => en (bkE B E n) (nv (σ 37 (200 * r0 + i)))) := fun r0 hr0 => (R.k_kl F hr0 (by omega)).congr fun i hi => by
      have X := (I.ko r0 hr0 i hi).1.2
      show en B (nv (σ 37 (200 * r0 + i))) = en (bkE B E n) (nv (σ 37 (200 * r0 + i)))
      rw [bkE_o (by omega)]
    have RZ : RR h own1 (bkE B E n) (fun k => if k = 8 ∨ k = 9 ∨ k = 10 ∨ k = 38 ∨ k = 39 then enS σ E m key g k else σ k) M' (n + 3) := ⟨fr1, R.k_em F, R.k_hb F, R.k_rg F, hnm, hdy, R.k_dm F (by first | omega | (intro z; dsimp only at z; omega)), R.k_db F (by first | omega | (intro z; dsimp only at z; omega)), R.k_nb F (by first | omega | (intro z; dsimp only at z; omega)), R.k_co F (by first | omega | (intro z; dsimp only at z; omega)), fun r0 hr0 => R.k_up F hr0 (by first | omega | (intro z; dsimp only at z; omega)), fun r0 hr0 => R.k_hd F hr0 (by first | omega | (intro z; dsimp only at z; omega)), het, fun r0 hr0 => R.k_vl F hr0 (by first | omega | (intro z; dsimp only at z; omega)), hvo, hkl, fun r0 hr0 => R.k_pl F hr0 (by first | omega | (intro z; dsimp only at z; omega)), fun r0 hr0 => R.k_po F hr0 (by first | omega | (intro z; dsimp only at z; omega)), R.k_us F (by first | omega | (intro z; dsimp only at z; omega)), fun u0 hu0 => R.k_uo F hu0 (by first | omega | (intro z; dsimp only at z; omega)), R.k_rs F (by first | omega | (intro z; dsimp only at z; omega)), R.k_ro F (by first | omega | (intro z; dsimp only at z; omega))⟩
    have ez : (fun k => if k = 8 ∨ k = 9 ∨ k = 10 ∨ k = 38 ∨ k = 39 then enS σ E m key g k else σ k) = enS σ E m key g := funext fun k => by
      by_cases z : k = 8 ∨ k = 9 ∨ k = 10 ∨ k = 38 ∨ k = 39
      · rw [if_pos z]
      · rw [if_neg z, enS_n (by omega)]
    rw [ez] at RZ
    exact RZ
/-- one more is kept for the other region -/
def kpS (σ : Sg) (r Kr N : Nat) : Sg := uS (uS σ 37 (200 * r + Kr) (i3 N)) 36 r (i3 (Kr + 1))
theorem kept_i {Kr N : Nat} (R : RR h own B σ M n) (I : IV c σ) (hr : r < 2) (hK : σ 36 r = i3 Kr) (hK2 : Kr < 200) (n1 : 1 ≤ N) (n2 : N ≤ nv (σ 8 0)) (hs : nv (σ 36 0) + nv (σ 36 1) < nv (σ 8 0)) : ∃ own' M' n', fAl_add1 (gr h r + 14) (some (en B N)) M n = some (.inl (i3 1), M', n') ∧ n ≤ n' ∧ n' ≤ n + 1 ∧ RR h own' B (kpS σ r Kr N) M' n' ∧ IV c (kpS σ r Kr N) := by
  have eK : nv (σ 36 r) = Kr := by rw [hK]; exact nv_i (by omega)
  have e8 := I.ev.2
  have L := R.kl r hr
  rw [eK] at L
  have X := R.et N n1 n2
  have el : ELS own M Kr (fun i => en B (nv (σ 37 (200 * r + i)))) := fun i hi => by
    obtain ⟨a, b⟩ := I.ko r hr i (by omega)
    have Z := R.et _ b a.2
    have o := Z.b.o
    have kk := Z.b.k
    exact ⟨by show own (en B (nv (σ 37 (200 * r + i)))) ≠ 0; rw [o]; omega, by show 1 ≤ mK M (en B (nv (σ 37 (200 * r + i)))); rw [kk]; omega, by show mK M (en B (nv (σ 37 (200 * r + i)))) ≤ 12; rw [kk]; omega⟩
  obtain ⟨own', M', n', q1, q2, q3, q4, q5, q6⟩ := add1_i L R.em R.fr el (by omega) hK2 (x := en B N) (by rw [X.b.k]; omega) (by rw [X.b.k]; omega) (by rw [X.b.o]; omega) (by rw [X.b.o]; omega)
  have v36 : ∀ r0, kpS σ r Kr N 36 r0 = if r0 = r then i3 (Kr + 1) else σ 36 r0 := fun r0 => by
    unfold kpS
    by_cases z : r0 = r
    · rw [z, uS_e, if_pos rfl]
    · rw [uS_d _ _ _ _ z, if_neg z, uS_n _ _ _ (by decide)]
  have v37 : ∀ j, kpS σ r Kr N 37 j = if j = 200 * r + Kr then i3 N else σ 37 j := fun j => by
    unfold kpS
    rw [uS_n _ _ _ (by decide)]
    by_cases z : j = 200 * r + Kr
    · rw [z, uS_e, if_pos rfl]
    · rw [uS_d _ _ _ _ z, if_neg z]
  have vo : ∀ k, k ≠ 36 → k ≠ 37 → kpS σ r Kr N k = σ k := fun k k1 k2 => by unfold kpS; rw [uS_n _ _ _ k1, uS_n _ _ _ k2]
  have n36 : ∀ r0, nv (kpS σ r Kr N 36 r0) = if r0 = r then Kr + 1 else nv (σ 36 r0) := fun r0 => by
    rw [v36]
    by_cases z : r0 = r
    · rw [if_pos z, if_pos z, nv_i (by omega)]
    · rw [if_neg z, if_neg z]
  have k200 : ∀ r0, r0 < 2 → nv (σ 36 r0) ≤ 200 := fun r0 hr0 => (I.kn r0 hr0).2
  have hkl : ∀ r0, r0 < 2 → LST own' M' (gr h r0 + 14) (16 + r0) (nv (kpS σ r Kr N 36 r0)) (fun i => en B (nv (kpS σ r Kr N 37 (200 * r0 + i)))) := fun r0 hr0 => by
    rw [n36]
    by_cases z : r0 = r
    · subst z
      rw [if_pos rfl]
      refine q6.congr fun i hi => ?_
      show (if i = Kr then en B N else en B (nv (σ 37 (200 * r0 + i)))) = en B (nv (kpS σ r0 Kr N 37 (200 * r0 + i)))
      rw [v37]
      by_cases w : i = Kr
      · rw [if_pos w, if_pos (by omega), nv_i (by omega)]
      · rw [if_neg w, if_neg (by omega)]
    · rw [if_neg z]
      refine (R.k_kl q5 hr0 (by omega)).congr fun i hi => ?_
      have := k200 r0 hr0
      show en B (nv (σ 37 (200 * r0 + i))) = en B (nv (kpS σ r Kr N 37 (200 * r0 + i)))
      rw [v37, if_neg (by omega)]
  have ikn : ∀ r0, r0 < 2 → NB 200 (kpS σ r Kr N 36 r0) := fun r0 hr0 => by
    rw [v36]
    by_cases z : r0 = r
    · rw [if_pos z]; exact NB.of (by omega) (by omega)
    · rw [if_neg z]; exact I.kn r0 hr0
  have iks : nv (kpS σ r Kr N 36 0) + nv (kpS σ r Kr N 36 1) ≤ nv (σ 8 0) := by
    rw [n36, n36]
    rcases (by omega : r = 0 ∨ r = 1) with rfl | rfl
    · rw [if_pos rfl, if_neg (by decide)]; omega
    · rw [if_neg (by decide), if_pos rfl]; omega
  have iko : ∀ r0, r0 < 2 → ∀ i, i < nv (kpS σ r Kr N 36 r0) → NB (nv (σ 8 0)) (kpS σ r Kr N 37 (200 * r0 + i)) ∧ 1 ≤ nv (kpS σ r Kr N 37 (200 * r0 + i)) := fun r0 hr0 i hi => by
    rw [n36] at hi
    rw [v37]
    by_cases w : 200 * r0 + i = 200 * r + Kr
    · rw [if_pos w, nv_i (by omega)]; exact ⟨NB.of n2 (by omega), n1⟩
    · rw [if_neg w]
      by_cases z : r0 = r
      · subst z
        rw [if_pos rfl] at hi
        exact I.ko r0 hr0 i (by omega)
      · rw [if_neg z] at hi
        exact I.ko r0 hr0 i hi
  have ez : (fun k => if k = 36 ∨ k = 37 then kpS σ r Kr N k else σ k) = kpS σ r Kr N := funext fun k => by
    by_cases z : k = 36 ∨ k = 37
    · rw [if_pos z]
    · rw [if_neg z, vo k (fun w => z (Or.inl w)) (fun w => z (Or.inr w))]
  have RZ : RR h own' B (fun k => if k = 36 ∨ k = 37 then kpS σ r Kr N k else σ k) M' n' := ⟨q4, R.k_em q5, R.k_hb q5, R.k_rg q5, R.k_nm q5 (by first | omega | (intro z; dsimp only at z; omega)), R.k_dy q5 (by first | omega | (intro z; dsimp only at z; omega)), R.k_dm q5 (by first | omega | (intro z; dsimp only at z; omega)), R.k_db q5 (by first | omega | (intro z; dsimp only at z; omega)), R.k_nb q5 (by first | omega | (intro z; dsimp only at z; omega)), R.k_co q5 (by first | omega | (intro z; dsimp only at z; omega)), fun r0 hr0 => R.k_up q5 hr0 (by first | omega | (intro z; dsimp only at z; omega)), fun r0 hr0 => R.k_hd q5 hr0 (by first | omega | (intro z; dsimp only at z; omega)), R.k_en q5 (by first | omega | (intro z; dsimp only at z; omega)), fun r0 hr0 => R.k_vl q5 hr0 (by first | omega | (intro z; dsimp only at z; omega)), fun r0 hr0 => R.k_vo q5 hr0 (by first | omega | (intro z; dsimp only at z; omega)), hkl, fun r0 hr0 => R.k_pl q5 hr0 (by first | omega | (intro z; dsimp only at z; omega)), fun r0 hr0 => R.k_po q5 hr0 (by first | omega | (intro z; dsimp only at z; omega)), R.k_us q5 (by first | omega | (intro z; dsimp only at z; omega)), fun u0 hu0 => R.k_uo q5 hu0 (by first | omega | (intro z; dsimp only at z; omega)), R.k_rs q5 (by first | omega | (intro z; dsimp only at z; omega)), R.k_ro q5 (by first | omega | (intro z; dsimp only at z; omega))⟩
  have IZ : IV c (fun k => if k = 36 ∨ k = 37 then kpS σ r Kr N k else σ k) := ⟨I.dr, I.db, I.ev, I.dy, I.dc, I.en, I.vn, I.vo, I.vi, I.hd, ikn, iks, iko, I.pn, I.po, I.dn, I.un, I.uo, I.uz, I.up, I.rn, I.rk⟩
  rw [ez] at RZ IZ
  exact ⟨own', M', n', q1, q2, q3, RZ, IZ⟩
/-- whether what is at hand has room -/
def rmB (σ : Sg) (r m : Nat) (g : Nat → Int32) : Bool := decide (nv (σ 8 0) < 200) && (if m = 0 then decide (nv (σ 26 r) < 40) else rom σ r m g)
theorem store_no {b t m : Nat} {key : Int32} {g : Nat → Int32} (R : RR h own B σ M n) (I : IV c σ) (hr : r < 2) (Y : BY own M b t m g) (h40 : m ≤ 40) (ht : t ≠ 10 + r) (hz : rmB σ r m g = false) : ∃ M', fHb_store h (some (gr h r)) key (some b) M n = some (.inr 2, M', n + 1) ∧ IOS (SCU (gr h r)) M M' := by
  have G := R.rg r hr
  have nm := R.nm
  have e8 := I.ev
  obtain ⟨E, hE2, hE⟩ := e8.to
  have eE : nv (σ 8 0) = E := by rw [hE]; exact nv_i (by omega)
  rw [hE] at nm
  unfold rmB at hz
  rw [eE] at hz
  have j22 : ∀ M1 : Mm, fHb_store_j22 h (some (gr h r)) key (some b) M1 n = some (.inr 2, M1, n + 1) := fun M1 => by
    rw [fHb_store_j22_E, fHb_store_j23_E, c_st0, bdC_ri (Nat.le_succ n)]
  by_cases z : E < 200
  · rw [decide_eq_true z, Bool.true_and] at hz
    obtain ⟨M1, e1, e2⟩ := c_hasRoom R I.pq (I.vn r hr).2 Y h40 ht hr
    rw [hz] at e1
    refine ⟨M1, ?_, e2⟩
    rw [fHb_store_E, fgI_s R.hb.k, nm, if_neg (fun w => absurd ((i3_le (by omega) (by omega)).mp w) (by omega)), rk_s G.k, e1, bdW_s, if_pos (show bI false = i3 0 from rfl)]
    exact j22 M1
  · refine ⟨M, ?_, IOS.refl⟩
    rw [fHb_store_E, fgI_s R.hb.k, nm, if_pos ((i3_le (by omega) (by omega)).mpr (by omega))]
    exact j22 M
end ST

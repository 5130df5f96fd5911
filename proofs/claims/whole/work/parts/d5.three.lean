set_option maxRecDepth 100000
/-! three turns; the check's reading of a part -/
section RA
variable {σ σ' : Sg} {w : Nat → Nat → Nat} {e0 e1 e2 d f : Nat}
def stw (w : Nat → Nat → Nat) (d o : Nat) : Nat → Nat → Nat := if o = d then w else lsw w d o
def tww (w : Nat → Nat → Nat) (d f : Nat) : Nat → Nat → Nat := stw (stw (stw (nmw (sww w d f) d) d 0) d 1) d 2
theorem m_inv {a : Nat} (ha : a < 16) : fMd_inverse (i3 a) = some (i3 (inv a)) := (inv_at ha).1
theorem turns_o (h : GS σ w e0 e1 e2) (hd : d < 3) {o F : Nat} (ho : o < 3) (k0 : e0 < 16) (k1 : e1 < 16) (k2 : e2 < 16) : ∃ σ', fMd_turns_l136 (F + 1) (i3 d) (i3 o) σ = fMd_turns_l136 F (i3 d) (i3 (o + 1)) σ' ∧ GS σ' (stw w d o) e0 e1 e2 ∧ ∀ k, k ≠ 46 → σ' k = σ k := by
  obtain ⟨r1, r2⟩ := h.rows k0 k1 k2
  have hw := (h o ho).1 d hd
  have n3 : ¬ i3 3 ≤ i3 o := fun z => absurd ((i3_le (by omega) (by omega)).mp z) (by omega)
  have rd : ∀ ff : Int32 → Option (Unit × Sg), mgA 46 (i3 4 * i3 o + i3 d) σ ff = ff (i3 (w o d)) := fun ff => by
    rw [i3_mul, i3_add, mgA_46 (by omega), hw.1]
  by_cases e : o = d
  · subst e
    refine ⟨σ, ?_, by unfold stw; rw [if_pos rfl]; exact h, fun _ _ => rfl⟩
    obtain ⟨G, hG⟩ : ∃ G, FU = G + 1 := ⟨99999, rfl⟩
    have n4 : ¬ i3 4 ≤ i3 0 := by decide
    rw [fMd_turns_l136_S, fMd_turns_b136_E, if_neg n3, rd, hG, fMd_turns_l158_S, fMd_turns_b158_E, if_neg n4, if_pos rfl, fMd_turns_j207_E, i3_add]
  · obtain ⟨σ', g1, g2⟩ := turns_less (σ := σ) (fMd_turns_l136 F) hd ho e hw.2 r1 4 0 FU σ (by omega) (FU_S (by omega)) ⟨fun _ _ => rfl, fun j hj => by show _ = (if 4 * o ≤ j ∧ j < 4 * o + 0 then _ else _); rw [if_neg (by omega)]; exact r2 j hj⟩
    refine ⟨σ', ?_, by unfold stw; rw [if_neg e]; exact h.less hd ho k0 k1 k2 g2, g2.1⟩
    rw [fMd_turns_l136_S, fMd_turns_b136_E, if_neg n3, rd]
    exact g1
theorem m_turn (h : GS σ w e0 e1 e2) (hd : d < 3) (hf : f < 3) (hdf : d ≤ f) (hz : ∀ x, d ≤ x → x < f → w x d = 0) (hn : w f d ≠ 0) (k0 : e0 < 16) (k1 : e1 < 16) (k2 : e2 < 16) : ∃ σ', fMd_turns (i3 d) σ = some ((), σ') ∧ GS σ' (tww w d f) e0 e1 e2 ∧ ∀ k, k ≠ 46 → σ' k = σ k := by
  have se : ∀ y x fu, x + y = f → y < fu → d ≤ x → fMd_turns_l2 fu (i3 d) (i3 x) σ = fMd_turns_l23 FU (i3 d) (i3 f) (i3 0) σ := by
    intro y
    induction y with
    | zero =>
      intro x fu hx hfu hdx
      obtain ⟨fu, rfl⟩ : ∃ f, fu = f + 1 := ⟨fu - 1, by omega⟩
      have e : x = f := by omega
      subst e
      have hw := ((h x hf).1 d hd)
      have ne : ¬ i3 (w x d) = i3 0 := fun z => hn ((i3_inj (by have := hw.2; omega) (by omega)).mp z)
      rw [fMd_turns_l2_S, fMd_turns_b2_E, i3_mul, i3_add, mgA_46 (by omega), hw.1, if_neg ne]
    | succ y ih =>
      intro x fu hx hfu hdx
      obtain ⟨fu, rfl⟩ : ∃ f, fu = f + 1 := ⟨fu - 1, by omega⟩
      have hw := ((h x (by omega)).1 d hd)
      have e := hz x hdx (by omega)
      rw [fMd_turns_l2_S, fMd_turns_b2_E, i3_mul, i3_add, mgA_46 (by omega), hw.1, e, if_pos rfl, i3_add]
      exact ih (x + 1) fu (by omega) (by omega) (by omega)
  obtain ⟨σ1, fu', a1, a2⟩ := turns_swap (σ := σ) hd hf 4 0 FU σ (by omega) (FU_S (by omega)) ⟨fun _ _ => rfl, fun j hj => by show _ = (if 4 * f ≤ j ∧ j < 4 * f + 0 then _ else if 4 * d ≤ j ∧ j < 4 * d + 0 then _ else _); rw [if_neg (by omega), if_neg (by omega)]⟩
  have G1 := h.swap hd hf a2
  obtain ⟨r1, r2⟩ := G1.rows k0 k1 k2
  have hw1 := (G1 d hd).1 d hd
  obtain ⟨σ2, b1, b2⟩ := turns_norm (σ := σ1) (d := d) hd (inv_at hw1.2).2.1 r1 r2 4 0 FU σ1 (by omega) (FU_S (by omega)) ⟨fun _ _ => rfl, fun j hj => by show _ = (if 4 * d ≤ j ∧ j < 4 * d + 0 then _ else _); rw [if_neg (by omega)]; exact r2 j hj⟩
  have G2 := G1.norm hd k0 k1 k2 b2
  obtain ⟨F, hF⟩ : ∃ F, FU = F + 1 + 1 + 1 + 1 := ⟨99996, rfl⟩
  obtain ⟨σ3, c1, G3, c3⟩ := turns_o (F := F + 1 + 1 + 1) G2 hd (o := 0) (by omega) k0 k1 k2
  obtain ⟨σ4, d1, G4, d3⟩ := turns_o (F := F + 1 + 1) G3 hd (o := 1) (by omega) k0 k1 k2
  obtain ⟨σ5, f1, G5, f3'⟩ := turns_o (F := F + 1) G4 hd (o := 2) (by omega) k0 k1 k2
  refine ⟨σ5, ?_, G5, fun k hk => by rw [f3' k hk, d3 k hk, c3 k hk, b2.1 k hk, a2.1 k hk]⟩
  have n4 : i3 4 ≤ i3 4 := by decide
  rw [fMd_turns_E, se (f - d) d FU (by omega) (FU_S (by omega)) (Nat.le_refl d), a1, fMd_turns_l23_S, fMd_turns_b23_E, if_pos n4, i3_mul, i3_add, mgA_46 (by omega), hw1.1, m_inv hw1.2, bdR_s, b1, hF, c1, d1, f1, fMd_turns_l136_S, fMd_turns_b136_E, if_pos (by decide)]
def tbl (t : List Nat) (i k : Nat) : Nat := t.getD (3 * i + k) 0
def chk (t : List Nat) (d f : Nat) (t' : List Nat) : Bool := decide (d ≤ f) && (decide (f < 3) && (((List.range 3).all fun x => !(decide (d ≤ x) && decide (x < f)) || decide (tbl t x d = 0)) && (decide (tbl t f d ≠ 0) && ((List.range 3).all fun i => (List.range 3).all fun k => decide (tww (tbl t) d f i k = tbl t' i k)))))
theorem GS.congr {w' : Nat → Nat → Nat} (h : GS σ w e0 e1 e2) (e : ∀ i k, i < 3 → k < 3 → w i k = w' i k) : GS σ w' e0 e1 e2 := fun i hi => by
  obtain ⟨h1, h2⟩ := h i hi
  exact ⟨fun k hk => by rw [← e i k hi hk]; exact h1 k hk, by rw [← e i 0 hi (by omega), ← e i 1 hi (by omega), ← e i 2 hi (by omega)]; exact h2⟩
theorem m_turn_t {t t' : List Nat} (h : GS σ (tbl t) e0 e1 e2) (hd : d < 3) (hc : chk t d f t' = true) (k0 : e0 < 16) (k1 : e1 < 16) (k2 : e2 < 16) : ∃ σ', fMd_turns (i3 d) σ = some ((), σ') ∧ GS σ' (tbl t') e0 e1 e2 ∧ ∀ k, k ≠ 46 → σ' k = σ k := by
  unfold chk at hc
  rw [Bool.and_eq_true, Bool.and_eq_true, Bool.and_eq_true, Bool.and_eq_true] at hc
  obtain ⟨c1, c2, c3, c4, c5⟩ := hc
  obtain ⟨σ', g1, g2, g3⟩ := m_turn (f := f) h hd (of_decide_eq_true c2) (of_decide_eq_true c1) (fun x h1 h2 => by
    have z := List.all_eq_true.mp c3 x (List.mem_range.mpr (by have := of_decide_eq_true c2; omega))
    rw [decide_eq_true h1, decide_eq_true h2] at z
    exact of_decide_eq_true (by simpa using z)) (of_decide_eq_true c4) k0 k1 k2
  exact ⟨σ', g1, g2.congr fun i k hi hk => of_decide_eq_true (List.all_eq_true.mp (List.all_eq_true.mp c5 i (List.mem_range.mpr hi)) k (List.mem_range.mpr hk)), g3⟩
theorem m_three {t0 t1 t2 : List Nat} {f0 f1 f2 pl : Nat} (h : GS σ (tbl t0) e0 e1 e2) (c0 : chk t0 0 f0 t1 = true) (c1 : chk t1 1 f1 t2 = true) (c2 : chk t2 2 f2 [1, 0, 0, 0, 1, 0, 0, 0, 1] = true) (k0 : e0 < 16) (k1 : e1 < 16) (k2 : e2 < 16) (hp : pl < 6) : ∃ σ', fMd_readAt_j95 (i3 pl) σ = some (i3 (f3 e0 e1 e2 (pl / 2)), σ') ∧ ∀ k, k ≠ 46 → σ' k = σ k := by
  obtain ⟨s1, a1, a2, a3⟩ := m_turn_t h (d := 0) (by omega) c0 k0 k1 k2
  obtain ⟨s2, b1, b2, b3⟩ := m_turn_t a2 (d := 1) (by omega) c1 k0 k1 k2
  obtain ⟨s3, d1, d2, d3⟩ := m_turn_t b2 (d := 2) (by omega) c2 k0 k1 k2
  refine ⟨s3, ?_, fun k hk => by rw [d3 k hk, b3 k hk, a3 k hk]⟩
  have fin : s3 46 (4 * (pl / 2) + 3) = i3 (f3 e0 e1 e2 (pl / 2)) := by
    have z := (d2 (pl / 2) (by omega)).2
    rw [z]
    have td : ∀ a, a < 16 → tm 1 a = a ∧ tm 0 a = 0 := by decide +kernel
    have u0 := td _ k0
    have u1 := td _ k1
    have u2 := td _ k2
    obtain ⟨q, hq⟩ : ∃ q, q = pl / 2 := ⟨_, rfl⟩
    rw [← hq]
    rcases (by omega : q = 0 ∨ q = 1 ∨ q = 2) with e | e | e
    · rw [e]
      show i3 (tm 1 e0 ^^^ tm 0 e1 ^^^ tm 0 e2) = i3 e0
      rw [u0.1, u1.2, u2.2, Nat.xor_zero, Nat.xor_zero]
    · rw [e]
      show i3 (tm 0 e0 ^^^ tm 1 e1 ^^^ tm 0 e2) = i3 e1
      rw [u0.2, u1.1, u2.2, Nat.zero_xor, Nat.xor_zero]
    · rw [e]
      show i3 (tm 0 e0 ^^^ tm 0 e1 ^^^ tm 1 e2) = i3 e2
      rw [u0.2, u1.2, u2.1, Nat.zero_xor, Nat.zero_xor]
  obtain ⟨F, hF⟩ : ∃ F, FU = F + 1 + 1 + 1 + 1 := ⟨99996, rfl⟩
  rw [fMd_readAt_j95_E, hF, fMd_readAt_l98_S, fMd_readAt_b98_E, if_neg (by decide), a1, bdW_s, i3_add, fMd_readAt_l98_S, fMd_readAt_b98_E, if_neg (by decide), b1, bdW_s, i3_add, fMd_readAt_l98_S, fMd_readAt_b98_E, if_neg (by decide), d1, bdW_s, i3_add, fMd_readAt_l98_S, fMd_readAt_b98_E, if_pos (by decide), show i3 2 = i3 2 from rfl, i3_div (by omega) (by omega), i3_mul, i3_add, mgA_46 (by omega), fin]
theorem gz_0_0 : chk [1, 0, 0, 0, 1, 0, 0, 0, 1] 0 0 [1, 0, 0, 0, 1, 0, 0, 0, 1] = true := by decide +kernel
theorem gz_0_1 : chk [1, 0, 0, 0, 1, 0, 0, 0, 1] 1 1 [1, 0, 0, 0, 1, 0, 0, 0, 1] = true := by decide +kernel
theorem gz_0_2 : chk [1, 0, 0, 0, 1, 0, 0, 0, 1] 2 2 [1, 0, 0, 0, 1, 0, 0, 0, 1] = true := by decide +kernel
theorem gz_1_0 : chk [1, 0, 0, 0, 1, 0, 1, 1, 1] 0 0 [1, 0, 0, 0, 1, 0, 0, 1, 1] = true := by decide +kernel
theorem gz_1_1 : chk [1, 0, 0, 0, 1, 0, 0, 1, 1] 1 1 [1, 0, 0, 0, 1, 0, 0, 0, 1] = true := by decide +kernel
theorem gz_1_2 : chk [1, 0, 0, 0, 1, 0, 0, 0, 1] 2 2 [1, 0, 0, 0, 1, 0, 0, 0, 1] = true := by decide +kernel
theorem gz_2_0 : chk [1, 0, 0, 0, 1, 0, 1, 2, 4] 0 0 [1, 0, 0, 0, 1, 0, 0, 2, 4] = true := by decide +kernel
theorem gz_2_1 : chk [1, 0, 0, 0, 1, 0, 0, 2, 4] 1 1 [1, 0, 0, 0, 1, 0, 0, 0, 4] = true := by decide +kernel
theorem gz_2_2 : chk [1, 0, 0, 0, 1, 0, 0, 0, 4] 2 2 [1, 0, 0, 0, 1, 0, 0, 0, 1] = true := by decide +kernel
theorem gz_3_0 : chk [1, 0, 0, 0, 0, 1, 1, 1, 1] 0 0 [1, 0, 0, 0, 0, 1, 0, 1, 1] = true := by decide +kernel
theorem gz_3_1 : chk [1, 0, 0, 0, 0, 1, 0, 1, 1] 1 2 [1, 0, 0, 0, 1, 1, 0, 0, 1] = true := by decide +kernel
theorem gz_3_2 : chk [1, 0, 0, 0, 1, 1, 0, 0, 1] 2 2 [1, 0, 0, 0, 1, 0, 0, 0, 1] = true := by decide +kernel
theorem gz_4_0 : chk [1, 0, 0, 0, 0, 1, 1, 2, 4] 0 0 [1, 0, 0, 0, 0, 1, 0, 2, 4] = true := by decide +kernel
theorem gz_4_1 : chk [1, 0, 0, 0, 0, 1, 0, 2, 4] 1 2 [1, 0, 0, 0, 1, 2, 0, 0, 1] = true := by decide +kernel
theorem gz_4_2 : chk [1, 0, 0, 0, 1, 2, 0, 0, 1] 2 2 [1, 0, 0, 0, 1, 0, 0, 0, 1] = true := by decide +kernel
theorem gz_5_0 : chk [1, 0, 0, 1, 1, 1, 1, 2, 4] 0 0 [1, 0, 0, 0, 1, 1, 0, 2, 4] = true := by decide +kernel
theorem gz_5_1 : chk [1, 0, 0, 0, 1, 1, 0, 2, 4] 1 1 [1, 0, 0, 0, 1, 1, 0, 0, 6] = true := by decide +kernel
theorem gz_5_2 : chk [1, 0, 0, 0, 1, 1, 0, 0, 6] 2 2 [1, 0, 0, 0, 1, 0, 0, 0, 1] = true := by decide +kernel
theorem gz_6_0 : chk [0, 1, 0, 0, 0, 1, 1, 1, 1] 0 2 [1, 1, 1, 0, 0, 1, 0, 1, 0] = true := by decide +kernel
theorem gz_6_1 : chk [1, 1, 1, 0, 0, 1, 0, 1, 0] 1 2 [1, 0, 1, 0, 1, 0, 0, 0, 1] = true := by decide +kernel
theorem gz_6_2 : chk [1, 0, 1, 0, 1, 0, 0, 0, 1] 2 2 [1, 0, 0, 0, 1, 0, 0, 0, 1] = true := by decide +kernel
theorem gz_7_0 : chk [0, 1, 0, 0, 0, 1, 1, 2, 4] 0 2 [1, 2, 4, 0, 0, 1, 0, 1, 0] = true := by decide +kernel
theorem gz_7_1 : chk [1, 2, 4, 0, 0, 1, 0, 1, 0] 1 2 [1, 0, 4, 0, 1, 0, 0, 0, 1] = true := by decide +kernel
theorem gz_7_2 : chk [1, 0, 4, 0, 1, 0, 0, 0, 1] 2 2 [1, 0, 0, 0, 1, 0, 0, 0, 1] = true := by decide +kernel
theorem gz_8_0 : chk [0, 1, 0, 1, 1, 1, 1, 2, 4] 0 1 [1, 1, 1, 0, 1, 0, 0, 3, 5] = true := by decide +kernel
theorem gz_8_1 : chk [1, 1, 1, 0, 1, 0, 0, 3, 5] 1 1 [1, 0, 1, 0, 1, 0, 0, 0, 5] = true := by decide +kernel
theorem gz_8_2 : chk [1, 0, 1, 0, 1, 0, 0, 0, 5] 2 2 [1, 0, 0, 0, 1, 0, 0, 0, 1] = true := by decide +kernel
theorem gz_9_0 : chk [0, 0, 1, 1, 1, 1, 1, 2, 4] 0 1 [1, 1, 1, 0, 0, 1, 0, 3, 5] = true := by decide +kernel
theorem gz_9_1 : chk [1, 1, 1, 0, 0, 1, 0, 3, 5] 1 2 [1, 0, 2, 0, 1, 3, 0, 0, 1] = true := by decide +kernel
theorem gz_9_2 : chk [1, 0, 2, 0, 1, 3, 0, 0, 1] 2 2 [1, 0, 0, 0, 1, 0, 0, 0, 1] = true := by decide +kernel
/-- whichever three they are -/
theorem m_gauss {s0 s1 s2 pl : Nat} (h : GS σ (fun i k => wgt (f3 s0 s1 s2 i) k) e0 e1 e2) (h01 : s0 < s1) (h12 : s1 < s2) (h2 : s2 < 5) (k0 : e0 < 16) (k1 : e1 < 16) (k2 : e2 < 16) (hp : pl < 6) : ∃ σ', fMd_readAt_j95 (i3 pl) σ = some (i3 (f3 e0 e1 e2 (pl / 2)), σ') ∧ ∀ k, k ≠ 46 → σ' k = σ k := by
  have fin : ∀ t : List Nat, ((List.range 3).all fun i => (List.range 3).all fun k => decide (wgt (f3 s0 s1 s2 i) k = tbl t i k)) = true → GS σ (tbl t) e0 e1 e2 := fun t ht => h.congr fun i k hi hk => of_decide_eq_true (List.all_eq_true.mp (List.all_eq_true.mp ht i (List.mem_range.mpr hi)) k (List.mem_range.mpr hk))
  clear h
  rcases (by omega : s0 = 0 ∨ s0 = 1 ∨ s0 = 2) with rfl | rfl | rfl
  · rcases (by omega : s1 = 1 ∨ s1 = 2 ∨ s1 = 3) with rfl | rfl | rfl
    · rcases (by omega : s2 = 2 ∨ s2 = 3 ∨ s2 = 4) with rfl | rfl | rfl
      · exact m_three (fin [1, 0, 0, 0, 1, 0, 0, 0, 1] (by decide +kernel)) gz_0_0 gz_0_1 gz_0_2 k0 k1 k2 hp
      · exact m_three (fin [1, 0, 0, 0, 1, 0, 1, 1, 1] (by decide +kernel)) gz_1_0 gz_1_1 gz_1_2 k0 k1 k2 hp
      · exact m_three (fin [1, 0, 0, 0, 1, 0, 1, 2, 4] (by decide +kernel)) gz_2_0 gz_2_1 gz_2_2 k0 k1 k2 hp
    · rcases (by omega : s2 = 3 ∨ s2 = 4) with rfl | rfl
      · exact m_three (fin [1, 0, 0, 0, 0, 1, 1, 1, 1] (by decide +kernel)) gz_3_0 gz_3_1 gz_3_2 k0 k1 k2 hp
      · exact m_three (fin [1, 0, 0, 0, 0, 1, 1, 2, 4] (by decide +kernel)) gz_4_0 gz_4_1 gz_4_2 k0 k1 k2 hp
    · obtain rfl : s2 = 4 := by omega
      exact m_three (fin [1, 0, 0, 1, 1, 1, 1, 2, 4] (by decide +kernel)) gz_5_0 gz_5_1 gz_5_2 k0 k1 k2 hp
  · rcases (by omega : s1 = 2 ∨ s1 = 3) with rfl | rfl
    · rcases (by omega : s2 = 3 ∨ s2 = 4) with rfl | rfl
      · exact m_three (fin [0, 1, 0, 0, 0, 1, 1, 1, 1] (by decide +kernel)) gz_6_0 gz_6_1 gz_6_2 k0 k1 k2 hp
      · exact m_three (fin [0, 1, 0, 0, 0, 1, 1, 2, 4] (by decide +kernel)) gz_7_0 gz_7_1 gz_7_2 k0 k1 k2 hp
    · obtain rfl : s2 = 4 := by omega
      exact m_three (fin [0, 1, 0, 1, 1, 1, 1, 2, 4] (by decide +kernel)) gz_8_0 gz_8_1 gz_8_2 k0 k1 k2 hp
  · obtain rfl : s1 = 3 := by omega
    obtain rfl : s2 = 4 := by omega
    exact m_three (fin [0, 0, 1, 1, 1, 1, 1, 2, 4] (by decide +kernel)) gz_9_0 gz_9_1 gz_9_2 k0 k1 k2 hp
end RA

set_option maxRecDepth 100000
/-! the class reads a part from its shards -/
section DE
variable {h c n r : Nat} {own : Nat → Nat} {B : BK} {σ σ' : Sg} {M M' : Mm}
theorem fac_c : ((List.range 5).all fun s => (List.range 3).all fun d => decide (fCode_factor (i3 s) (i3 d) = some (i3 (wgt s d)))) = true := by decide +kernel
theorem fac_e {s d : Nat} (hs : s < 5) (hd : d < 3) : fCode_factor (i3 s) (i3 d) = some (i3 (wgt s d)) := of_decide_eq_true (List.all_eq_true.mp (List.all_eq_true.mp fac_c s (List.mem_range.mpr hs)) d (List.mem_range.mpr hd))
def qi (q : Nat) : Int32 := if q = 3 then m1 else i3 q
theorem qi_c {d q : Nat} (hd : d < 3) (hq : q ≤ 3) : (i3 d = qi q) = (d = q) := by
  unfold qi
  by_cases z : q = 3
  · rw [if_pos z]
    have e := i3_m1 (k := d) (by omega)
    rw [e]
    exact (eq_false (by omega)).symm
  · rw [if_neg z]
    exact propext (i3_inj (by omega) (by omega))
theorem c_cell {g q i d : Nat} {s v : Nat → Nat} (k7 : mK M (g + 7) = 2) (d2 : mP M 202 (g + 7) 0 = some (g + 10)) (d3 : mP M 203 (g + 7) 0 = some (g + 11)) (k10 : mK M (g + 10) = 21) (l10 : mL M (g + 10) = 3) (k11 : mK M (g + 11) = 21) (l11 : mL M (g + 11) = 3) (hs : ∀ i, i < 3 → mI M 0 (g + 10) i = i3 (s i) ∧ s i < 5) (hv : ∀ i, i < 3 → mI M 0 (g + 11) i = i3 (v i)) (hi : i < 3) (hd : d < 3) (hq : q ≤ 3) : fCode_cell (g + 7) (i3 i) (i3 d) (qi q) M = some (i3 (cl3 s v q i d)) := by
  have e := qi_c hd hq
  obtain ⟨s1, s2⟩ := hs i hi
  have v1 := hv i hi
  have f1 := fac_e s2 hd
  unfold cl3
  clear hs hv
  by_cases z : d = q
  · rw [if_pos z]
    have e2 : (i3 d = qi q) = True := by rw [e]; exact eq_true z
    simp (disch := (first | assumption | omega | decide | (simp only [mK_uI, mK_uP, mL_uI, mL_uP, mK_wI, mL_wI, mK_nA_e, mL_nA_e] <;> (first | assumption | omega)))) only [i3_le_t, i3_le_f, i3_lt_t, i3_lt_f, i3_eq_t, i3_eq_f, i3_add, i3_mul, i3_sub, i3_div, i3_dec, i3_m1, m1_i3, m1_eq, i3_ge0, m1_lt, i3_le_m1, ↓reduceIte, rZ_0, rZ_1, bdR_s, bdW_s, ifN_n, ifN_s, ↓fgI_s, ↓fgR_s, ↓rk_s, ↓fpI_s, ↓fpR_s, ↓fpZ_0, ↓fpZ_1, ↓alI_i, ↓alP_i, ↓asI_i, ↓asB_i, ↓asZ_0, ↓asZ_1, ↓aln_i, ↓fca_s, ↓fca_n, bdC_li, bdC_ri, mK_uI, mK_uP, mL_uI, mL_uP, mP_uI, mI_uP, mK_wI, mL_wI, mP_wI, mI_uI_e, mI_uI_c, nwO_s, mK_nA_e, mL_nA_e, fCode_cell_E, e2, d3, v1]
  · rw [if_neg z]
    have e2 : (i3 d = qi q) = False := by rw [e]; exact eq_false z
    simp (disch := (first | assumption | omega | decide | (simp only [mK_uI, mK_uP, mL_uI, mL_uP, mK_wI, mL_wI, mK_nA_e, mL_nA_e] <;> (first | assumption | omega)))) only [i3_le_t, i3_le_f, i3_lt_t, i3_lt_f, i3_eq_t, i3_eq_f, i3_add, i3_mul, i3_sub, i3_div, i3_dec, i3_m1, m1_i3, m1_eq, i3_ge0, m1_lt, i3_le_m1, ↓reduceIte, rZ_0, rZ_1, bdR_s, bdW_s, ifN_n, ifN_s, ↓fgI_s, ↓fgR_s, ↓rk_s, ↓fpI_s, ↓fpR_s, ↓fpZ_0, ↓fpZ_1, ↓alI_i, ↓alP_i, ↓asI_i, ↓asB_i, ↓asZ_0, ↓asZ_1, ↓aln_i, ↓fca_s, ↓fca_n, bdC_li, bdC_ri, mK_uI, mK_uP, mL_uI, mL_uP, mP_uI, mI_uP, mK_wI, mL_wI, mP_wI, mI_uI_e, mI_uI_c, nwO_s, mK_nA_e, mL_nA_e, fCode_cell_E, e2, d2, s1, f1]
theorem cl3_lt {s v : Nat → Nat} {q i d : Nat} (hv : v i < 16) (hd : d < 3) : cl3 s v q i d < 16 := by
  unfold cl3
  by_cases z : d = q
  · rw [if_pos z]; exact hv
  · rw [if_neg z]; exact wgt_lt hd
theorem c_det {g q : Nat} {s v : Nat → Nat} (k7 : mK M (g + 7) = 2) (d2 : mP M 202 (g + 7) 0 = some (g + 10)) (d3 : mP M 203 (g + 7) 0 = some (g + 11)) (k10 : mK M (g + 10) = 21) (l10 : mL M (g + 10) = 3) (k11 : mK M (g + 11) = 21) (l11 : mL M (g + 11) = 3) (hs : ∀ i, i < 3 → mI M 0 (g + 10) i = i3 (s i) ∧ s i < 5) (hv : ∀ i, i < 3 → mI M 0 (g + 11) i = i3 (v i)) (hv2 : ∀ i, i < 3 → v i < 16) (hq : q ≤ 3) : fCode_determinant (g + 7) (qi q) M = some (i3 (dt3 s v q)) ∧ dt3 s v q < 16 := by
  have ce := fun i d hi hd => c_cell (M := M) (g := g) (q := q) (i := i) (d := d) k7 d2 d3 k10 l10 k11 l11 hs hv hi hd hq
  have cl := fun i d (hi : i < 3) (hd : d < 3) => cl3_lt (s := s) (q := q) (hv2 i hi) hd
  have c00 := ce 0 0 (by omega) (by omega)
  have c01 := ce 0 1 (by omega) (by omega)
  have c02 := ce 0 2 (by omega) (by omega)
  have c10 := ce 1 0 (by omega) (by omega)
  have c11 := ce 1 1 (by omega) (by omega)
  have c12 := ce 1 2 (by omega) (by omega)
  have c20 := ce 2 0 (by omega) (by omega)
  have c21 := ce 2 1 (by omega) (by omega)
  have c22 := ce 2 2 (by omega) (by omega)
  have l00 := cl 0 0 (by omega) (by omega)
  have l01 := cl 0 1 (by omega) (by omega)
  have l02 := cl 0 2 (by omega) (by omega)
  have l10' := cl 1 0 (by omega) (by omega)
  have l11' := cl 1 1 (by omega) (by omega)
  have l12 := cl 1 2 (by omega) (by omega)
  have l20 := cl 2 0 (by omega) (by omega)
  have l21 := cl 2 1 (by omega) (by omega)
  have l22 := cl 2 2 (by omega) (by omega)
  have m0 := x_lt (tm_lt l11' l22) (tm_lt l21 l12)
  have m1' := x_lt (tm_lt l21 l02) (tm_lt l01 l22)
  have m2' := x_lt (tm_lt l01 l12) (tm_lt l11' l02)
  have t0 := tm_lt l00 m0
  have t1 := tm_lt l10' m1'
  have t2 := tm_lt l20 m2'
  have x1 := x_lt t0 t1
  refine ⟨?_, x_lt x1 t2⟩
  obtain ⟨F, hF⟩ : ∃ F, FU = F + 1 + 1 + 1 + 1 := ⟨99996, rfl⟩
  have st : ∀ (i j k : Nat) (acc : Nat) (f : Nat), i < 3 → j < 3 → k < 3 → acc < 16 → (i3 i + i3 1) - (i3 i + i3 1) / i3 3 * i3 3 = i3 j → (i3 i + i3 2) - (i3 i + i3 2) / i3 3 * i3 3 = i3 k → fCode_determinant_l4 (g + 7) (f + 1) (qi q) (i3 acc) (i3 i) M = fCode_determinant_l4 (g + 7) f (qi q) (i3 (acc ^^^ tm (cl3 s v q i 0) (tm (cl3 s v q j 1) (cl3 s v q k 2) ^^^ tm (cl3 s v q k 1) (cl3 s v q j 2)))) (i3 (i + 1)) M := by
    intro i j k acc f hi hj hk ha ej ek
    have n0 : ¬ i3 3 ≤ i3 i := fun z => absurd ((i3_le (by omega) (by omega)).mp z) (by omega)
    have a1 := ce j 1 hj (by omega)
    have a2 := ce k 2 hk (by omega)
    have a3 := ce k 1 hk (by omega)
    have a4 := ce j 2 hj (by omega)
    have a5 := ce i 0 hi (by omega)
    have b1 := cl j 1 hj (by omega)
    have b2 := cl k 2 hk (by omega)
    have b3 := cl k 1 hk (by omega)
    have b4 := cl j 2 hj (by omega)
    have b5 := cl i 0 hi (by omega)
    rw [fCode_determinant_l4_S, fCode_determinant_b4_E, if_neg n0, rk_s k7, ej, a1, bdR_s, rk_s k7, ek, a2, bdR_s, c_times b1 b2, bdR_s, rk_s k7, a3, bdR_s, rk_s k7, a4, bdR_s, c_times b3 b4, bdR_s, rk_s k7, a5, bdR_s, i3_xor (tm_lt b1 b2) (tm_lt b3 b4), c_times b5 (x_lt (tm_lt b1 b2) (tm_lt b3 b4)), bdR_s, i3_xor ha (tm_lt b5 (x_lt (tm_lt b1 b2) (tm_lt b3 b4))), i3_add]
  have c3 : i3 3 ≤ i3 3 := by decide
  rw [fCode_determinant_E, hF, st 0 1 2 0 _ (by omega) (by omega) (by omega) (by omega) (by decide) (by decide), st 1 2 0 _ _ (by omega) (by omega) (by omega) (x_lt (by omega) t0) (by decide) (by decide), st 2 0 1 _ _ (by omega) (by omega) (by omega) (x_lt (x_lt (by omega) t0) t1) (by decide) (by decide), fCode_determinant_l4_S, fCode_determinant_b4_E, if_pos c3, Nat.zero_xor]
  rfl
theorem dt3_b {s v : Nat → Nat} {q : Nat} (hc : ∀ i k, i < 3 → k < 3 → cl3 s v q i k < 16) : dt3 s v q = dt9 (cl3 s v q 0 0) (cl3 s v q 0 1) (cl3 s v q 0 2) (cl3 s v q 1 0) (cl3 s v q 1 1) (cl3 s v q 1 2) (cl3 s v q 2 0) (cl3 s v q 2 1) (cl3 s v q 2 2) := by
  have l00 := hc 0 0 (by omega) (by omega)
  have l01 := hc 0 1 (by omega) (by omega)
  have l02 := hc 0 2 (by omega) (by omega)
  have l10 := hc 1 0 (by omega) (by omega)
  have l11 := hc 1 1 (by omega) (by omega)
  have l12 := hc 1 2 (by omega) (by omega)
  have l20 := hc 2 0 (by omega) (by omega)
  have l21 := hc 2 1 (by omega) (by omega)
  have l22 := hc 2 2 (by omega) (by omega)
  unfold dt3 dt9
  rw [tmb_e l00 (x_lt (tm_lt l11 l22) (tm_lt l21 l12)), tmb_e l10 (x_lt (tm_lt l21 l02) (tm_lt l01 l22)), tmb_e l20 (x_lt (tm_lt l01 l12) (tm_lt l11 l02)), tmb_e l11 l22, tmb_e l21 l12, tmb_e l21 l02, tmb_e l01 l22, tmb_e l01 l12, tmb_e l11 l02]
def f3 (a b d : Nat) : Nat → Nat := fun i => if i = 0 then a else if i = 1 then b else d
theorem rhb_e {w0 w1 w2 d0 d1 d2 : Nat} (h0 : w0 < 16) (h1 : w1 < 16) (h2 : w2 < 16) (k0 : d0 < 16) (k1 : d1 < 16) (k2 : d2 < 16) : rh w0 w1 w2 d0 d1 d2 = rhb w0 w1 w2 d0 d1 d2 := by
  unfold rh rhb
  rw [tmb_e h0 k0, tmb_e h1 k1, tmb_e h2 k2]
theorem crc_ex {f : Nat → Nat → Nat → Bool} {e0 e1 e2 : Nat} (k0 : e0 < 16) (k1 : e1 < 16) (k2 : e2 < 16) (hh : ((List.range 16).all fun a => (List.range 16).all fun b => (List.range 16).all fun d => f a b d) = true) : f e0 e1 e2 = true := List.all_eq_true.mp (List.all_eq_true.mp (List.all_eq_true.mp hh e0 (List.mem_range.mpr k0)) e1 (List.mem_range.mpr k1)) e2 (List.mem_range.mpr k2)
def crn (s0 s1 s2 q : Nat) : Nat := 125 * s0 + 25 * s1 + 5 * s2 + q
theorem crc_all {s0 s1 s2 q e0 e1 e2 : Nat} (h01 : s0 < s1) (h12 : s1 < s2) (h2 : s2 < 5) (hq : q < 3) (n0 : q ≠ s0) (n1 : q ≠ s1) (n2 : q ≠ s2) (k0 : e0 < 16) (k1 : e1 < 16) (k2 : e2 < 16) : crc s0 s1 s2 q e0 e1 e2 = true := by
  rcases (by omega : s0 = 0 ∨ s0 = 1 ∨ s0 = 2) with rfl | rfl | rfl
  · rcases (by omega : s1 = 1 ∨ s1 = 2 ∨ s1 = 3) with rfl | rfl | rfl
    · rcases (by omega : s2 = 2 ∨ s2 = 3 ∨ s2 = 4) with rfl | rfl | rfl
      · omega
      · obtain rfl : q = 2 := by omega
        exact crc_ex k0 k1 k2 crc_0
      · obtain rfl : q = 2 := by omega
        exact crc_ex k0 k1 k2 crc_1
    · rcases (by omega : s2 = 3 ∨ s2 = 4) with rfl | rfl
      · obtain rfl : q = 1 := by omega
        exact crc_ex k0 k1 k2 crc_2
      · obtain rfl : q = 1 := by omega
        exact crc_ex k0 k1 k2 crc_3
    · obtain rfl : s2 = 4 := by omega
      rcases (by omega : q = 1 ∨ q = 2) with rfl | rfl
      · exact crc_ex k0 k1 k2 crc_4
      · exact crc_ex k0 k1 k2 crc_5
  · rcases (by omega : s1 = 2 ∨ s1 = 3) with rfl | rfl
    · rcases (by omega : s2 = 3 ∨ s2 = 4) with rfl | rfl
      · obtain rfl : q = 0 := by omega
        exact crc_ex k0 k1 k2 crc_6
      · obtain rfl : q = 0 := by omega
        exact crc_ex k0 k1 k2 crc_7
    · obtain rfl : s2 = 4 := by omega
      rcases (by omega : q = 0 ∨ q = 2) with rfl | rfl
      · exact crc_ex k0 k1 k2 crc_8
      · exact crc_ex k0 k1 k2 crc_9
  · obtain rfl : s1 = 3 := by omega
    obtain rfl : s2 = 4 := by omega
    rcases (by omega : q = 0 ∨ q = 1) with rfl | rfl
    · exact crc_ex k0 k1 k2 crc_10
    · exact crc_ex k0 k1 k2 crc_11
/-- Cramer's rule gives the data back -/
theorem cramer {s0 s1 s2 q e0 e1 e2 : Nat} (h01 : s0 < s1) (h12 : s1 < s2) (h2 : s2 < 5) (hq : q < 3) (n0 : q ≠ s0) (n1 : q ≠ s1) (n2 : q ≠ s2) (k0 : e0 < 16) (k1 : e1 < 16) (k2 : e2 < 16) (v : Nat → Nat) (hv : ∀ i, i < 3 → v i = rh (wgt (f3 s0 s1 s2 i) 0) (wgt (f3 s0 s1 s2 i) 1) (wgt (f3 s0 s1 s2 i) 2) e0 e1 e2) : tm (dt3 (f3 s0 s1 s2) v q) (inv (dt3 (f3 s0 s1 s2) v 3)) = f3 e0 e1 e2 q ∧ dt3 (f3 s0 s1 s2) v 3 ≠ 0 := by
  have v16 : ∀ i, i < 3 → v i < 16 := fun i hi => by rw [hv i hi]; exact rh_lt (wgt_lt (by omega)) (wgt_lt (by omega)) (wgt_lt (by omega)) k0 k1 k2
  have hx : v 0 = rhb (wgt s0 0) (wgt s0 1) (wgt s0 2) e0 e1 e2 := (hv 0 (by omega)).trans (rhb_e (wgt_lt (by omega)) (wgt_lt (by omega)) (wgt_lt (by omega)) k0 k1 k2)
  have hy : v 1 = rhb (wgt s1 0) (wgt s1 1) (wgt s1 2) e0 e1 e2 := (hv 1 (by omega)).trans (rhb_e (wgt_lt (by omega)) (wgt_lt (by omega)) (wgt_lt (by omega)) k0 k1 k2)
  have hz : v 2 = rhb (wgt s2 0) (wgt s2 1) (wgt s2 2) e0 e1 e2 := (hv 2 (by omega)).trans (rhb_e (wgt_lt (by omega)) (wgt_lt (by omega)) (wgt_lt (by omega)) k0 k1 k2)
  have dq := dt3_b (s := f3 s0 s1 s2) (v := v) (q := q) fun i k hi hk => cl3_lt (v16 i hi) hk
  have dn := dt3_b (s := f3 s0 s1 s2) (v := v) (q := 3) fun i k hi hk => cl3_lt (v16 i hi) hk
  have dql : dt3 (f3 s0 s1 s2) v q < 16 := by
    have cl := fun i d (hi : i < 3) (hd : d < 3) => cl3_lt (s := f3 s0 s1 s2) (q := q) (v16 i hi) hd
    exact x_lt (x_lt (tm_lt (cl 0 0 (by omega) (by omega)) (x_lt (tm_lt (cl 1 1 (by omega) (by omega)) (cl 2 2 (by omega) (by omega))) (tm_lt (cl 2 1 (by omega) (by omega)) (cl 1 2 (by omega) (by omega))))) (tm_lt (cl 1 0 (by omega) (by omega)) (x_lt (tm_lt (cl 2 1 (by omega) (by omega)) (cl 0 2 (by omega) (by omega))) (tm_lt (cl 0 1 (by omega) (by omega)) (cl 2 2 (by omega) (by omega)))))) (tm_lt (cl 2 0 (by omega) (by omega)) (x_lt (tm_lt (cl 0 1 (by omega) (by omega)) (cl 1 2 (by omega) (by omega))) (tm_lt (cl 1 1 (by omega) (by omega)) (cl 0 2 (by omega) (by omega)))))
  have dnl : dt3 (f3 s0 s1 s2) v 3 < 16 := by
    have cl := fun i d (hi : i < 3) (hd : d < 3) => cl3_lt (s := f3 s0 s1 s2) (q := 3) (v16 i hi) hd
    exact x_lt (x_lt (tm_lt (cl 0 0 (by omega) (by omega)) (x_lt (tm_lt (cl 1 1 (by omega) (by omega)) (cl 2 2 (by omega) (by omega))) (tm_lt (cl 2 1 (by omega) (by omega)) (cl 1 2 (by omega) (by omega))))) (tm_lt (cl 1 0 (by omega) (by omega)) (x_lt (tm_lt (cl 2 1 (by omega) (by omega)) (cl 0 2 (by omega) (by omega))) (tm_lt (cl 0 1 (by omega) (by omega)) (cl 2 2 (by omega) (by omega)))))) (tm_lt (cl 2 0 (by omega) (by omega)) (x_lt (tm_lt (cl 0 1 (by omega) (by omega)) (cl 1 2 (by omega) (by omega))) (tm_lt (cl 1 1 (by omega) (by omega)) (cl 0 2 (by omega) (by omega)))))
  rw [tmb_e dql (inv_at dnl).2.1, ivb_e dnl]
  have go : crc s0 s1 s2 q e0 e1 e2 = true := crc_all h01 h12 h2 hq n0 n1 n2 k0 k1 k2
  unfold crc at go
  rw [Bool.and_eq_true] at go
  obtain ⟨g1, g2⟩ := go
  have dn' : dt3 (f3 s0 s1 s2) v 3 = dt9 (wgt s0 0) (wgt s0 1) (wgt s0 2) (wgt s1 0) (wgt s1 1) (wgt s1 2) (wgt s2 0) (wgt s2 1) (wgt s2 2) := dn
  rw [dn']
  refine ⟨?_, fun z => ?_⟩
  · rw [dq]
    rcases (by omega : q = 0 ∨ q = 1 ∨ q = 2) with rfl | rfl | rfl
    · have e : dt9 (cl3 (f3 s0 s1 s2) v 0 0 0) (cl3 (f3 s0 s1 s2) v 0 0 1) (cl3 (f3 s0 s1 s2) v 0 0 2) (cl3 (f3 s0 s1 s2) v 0 1 0) (cl3 (f3 s0 s1 s2) v 0 1 1) (cl3 (f3 s0 s1 s2) v 0 1 2) (cl3 (f3 s0 s1 s2) v 0 2 0) (cl3 (f3 s0 s1 s2) v 0 2 1) (cl3 (f3 s0 s1 s2) v 0 2 2) = dt9 (v 0) (wgt s0 1) (wgt s0 2) (v 1) (wgt s1 1) (wgt s1 2) (v 2) (wgt s2 1) (wgt s2 2) := rfl
      rw [e, hx, hy, hz]
      exact Nat.eq_of_beq_eq_true g1
    · have e : dt9 (cl3 (f3 s0 s1 s2) v 1 0 0) (cl3 (f3 s0 s1 s2) v 1 0 1) (cl3 (f3 s0 s1 s2) v 1 0 2) (cl3 (f3 s0 s1 s2) v 1 1 0) (cl3 (f3 s0 s1 s2) v 1 1 1) (cl3 (f3 s0 s1 s2) v 1 1 2) (cl3 (f3 s0 s1 s2) v 1 2 0) (cl3 (f3 s0 s1 s2) v 1 2 1) (cl3 (f3 s0 s1 s2) v 1 2 2) = dt9 (wgt s0 0) (v 0) (wgt s0 2) (wgt s1 0) (v 1) (wgt s1 2) (wgt s2 0) (v 2) (wgt s2 2) := rfl
      rw [e, hx, hy, hz]
      exact Nat.eq_of_beq_eq_true g1
    · have e : dt9 (cl3 (f3 s0 s1 s2) v 2 0 0) (cl3 (f3 s0 s1 s2) v 2 0 1) (cl3 (f3 s0 s1 s2) v 2 0 2) (cl3 (f3 s0 s1 s2) v 2 1 0) (cl3 (f3 s0 s1 s2) v 2 1 1) (cl3 (f3 s0 s1 s2) v 2 1 2) (cl3 (f3 s0 s1 s2) v 2 2 0) (cl3 (f3 s0 s1 s2) v 2 2 1) (cl3 (f3 s0 s1 s2) v 2 2 2) = dt9 (wgt s0 0) (wgt s0 1) (v 0) (wgt s1 0) (wgt s1 1) (v 1) (wgt s2 0) (wgt s2 1) (v 2) := rfl
      rw [e, hx, hy, hz]
      exact Nat.eq_of_beq_eq_true g1
  · have z' : Nat.beq (dt9 (wgt s0 0) (wgt s0 1) (wgt s0 2) (wgt s1 0) (wgt s1 1) (wgt s1 2) (wgt s2 0) (wgt s2 1) (wgt s2 2)) 0 = true := by rw [z]; rfl
    rw [z'] at g2
    exact absurd g2 (by decide)
end DE

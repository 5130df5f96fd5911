set_option maxRecDepth 100000
/-! node -/
section ND
variable {h c n r : Nat} {own : Nat → Nat} {B : BK} {σ σ' : Sg} {M M' : Mm}
theorem cntF_up {p : Nat → Bool} : ∀ {d i : Nat}, cntF p i (d + 1) = cntF p i d + if p (i + d) = true then 1 else 0 := by
  intro d
  induction d with
  | zero =>
    intro i
    rw [cntF_S]
    show (if p i = true then 1 else 0) + 0 = 0 + (if p i = true then 1 else 0)
    rw [Nat.add_zero, Nat.zero_add]
  | succ d ih =>
    intro i
    rw [cntF_S, ih, cntF_S]
    have e : i + 1 + d = i + (d + 1) := by omega
    rw [e]
    omega
/-- the first s shards of a part have lost a node -/
def nls (σ : Sg) (a nd s : Nat) : Sg := fun k j => if (k = 23 ∨ k = 25) ∧ 5 * a ≤ j ∧ j < 5 * a + s ∧ σ 19 a = i3 0 ∧ σ 23 j = i3 nd then (if k = 23 then m1 else i3 0) else σ k j
abbrev ndp (σ : Sg) (a nd : Nat) : Nat → Bool := fun s => decide (σ 19 a = i3 0 ∧ σ 23 (5 * a + s) = i3 nd)
theorem nls_0 (σ : Sg) (a nd : Nat) : nls σ a nd 0 = σ := funext fun k => funext fun j => if_neg (by omega)
theorem nls_k (σ : Sg) (a nd s : Nat) {k : Nat} (h1 : k ≠ 23) (h2 : k ≠ 25) : nls σ a nd s k = σ k := funext fun j => if_neg (by omega)
theorem nls_o (σ : Sg) (a nd s k : Nat) {j : Nat} (hj : j < 5 * a ∨ 5 * a + s ≤ j) : nls σ a nd s k j = σ k j := if_neg (by omega)
theorem nls_S (σ : Sg) {a nd s : Nat} (v w : Int32) (hv : v = if σ 19 a = i3 0 ∧ σ 23 (5 * a + s) = i3 nd then m1 else σ 23 (5 * a + s)) (hw : w = if σ 19 a = i3 0 ∧ σ 23 (5 * a + s) = i3 nd then i3 0 else σ 25 (5 * a + s)) : uS (uS (nls σ a nd s) 23 (5 * a + s) v) 25 (5 * a + s) w = nls σ a nd (s + 1) := funext fun k => funext fun j => by
  show (if k = 25 ∧ j = 5 * a + s then w else if k = 23 ∧ j = 5 * a + s then v else (if (k = 23 ∨ k = 25) ∧ 5 * a ≤ j ∧ j < 5 * a + s ∧ σ 19 a = i3 0 ∧ σ 23 j = i3 nd then (if k = 23 then m1 else i3 0) else σ k j)) = (if (k = 23 ∨ k = 25) ∧ 5 * a ≤ j ∧ j < 5 * a + (s + 1) ∧ σ 19 a = i3 0 ∧ σ 23 j = i3 nd then (if k = 23 then m1 else i3 0) else σ k j)
  by_cases ej : j = 5 * a + s
  · subst ej
    by_cases z : σ 19 a = i3 0 ∧ σ 23 (5 * a + s) = i3 nd
    · rw [if_pos z] at hv hw
      by_cases k5 : k = 25
      · subst k5
        rw [if_pos ⟨rfl, rfl⟩, if_pos ⟨Or.inr rfl, by omega, by omega, z.1, z.2⟩, if_neg (by omega), hw]
      · rw [if_neg (fun w => k5 w.1)]
        by_cases k3 : k = 23
        · subst k3
          rw [if_pos ⟨rfl, rfl⟩, if_pos ⟨Or.inl rfl, by omega, by omega, z.1, z.2⟩, if_pos rfl, hv]
        · rw [if_neg (fun w => k3 w.1), if_neg (by omega), if_neg (by omega)]
    · rw [if_neg z] at hv hw
      have e2 : (if (k = 23 ∨ k = 25) ∧ 5 * a ≤ 5 * a + s ∧ 5 * a + s < 5 * a + (s + 1) ∧ σ 19 a = i3 0 ∧ σ 23 (5 * a + s) = i3 nd then (if k = 23 then m1 else i3 0) else σ k (5 * a + s)) = σ k (5 * a + s) := if_neg fun w => z ⟨w.2.2.2.1, w.2.2.2.2⟩
      rw [e2]
      by_cases k5 : k = 25
      · subst k5
        rw [if_pos ⟨rfl, rfl⟩, hw]
      · rw [if_neg (fun w => k5 w.1)]
        by_cases k3 : k = 23
        · subst k3
          rw [if_pos ⟨rfl, rfl⟩, hv]
        · rw [if_neg (fun w => k3 w.1), if_neg (by omega)]
  · rw [if_neg (fun w => ej w.2), if_neg (fun w => ej w.2)]
    by_cases z : (k = 23 ∨ k = 25) ∧ 5 * a ≤ j ∧ j < 5 * a + s ∧ σ 19 a = i3 0 ∧ σ 23 j = i3 nd
    · have e3 : (k = 23 ∨ k = 25) ∧ 5 * a ≤ j ∧ j < 5 * a + (s + 1) ∧ σ 19 a = i3 0 ∧ σ 23 j = i3 nd := ⟨z.1, z.2.1, by omega, z.2.2.2.1, z.2.2.2.2⟩
      rw [if_pos z, if_pos e3]
    · rw [if_neg z, if_neg fun w => z ⟨w.1, w.2.1, by omega, w.2.2.2.1, w.2.2.2.2⟩]
theorem m_node_in {r p nd P : Nat} (hr : r < 2) (hp : p < P) (h90 : P ≤ 90) (hP : σ 18 r = i3 P) (hro : ∀ s, s < 5 → NB 1 (σ 25 (5 * (90 * r + p) + s))) : ∀ d s f k0, d + s = 5 → k0 < 1000 → fMd_node_l91 (f + d) (i3 r) (i3 nd) (i3 0) (i3 (k0 + cntF (ndp σ (90 * r + p) nd) 0 s)) (i3 (5 * (90 * r + p) + s)) (nls σ (90 * r + p) nd s) = fMd_node_l91 f (i3 r) (i3 nd) (i3 0) (i3 (k0 + cntF (ndp σ (90 * r + p) nd) 0 5)) (i3 (5 * (90 * r + p) + 5)) (nls σ (90 * r + p) nd 5) := by
  intro d
  induction d with
  | zero =>
    intro s f k0 hd hk0
    have hs : s = 5 := by omega
    subst hs
    rfl
  | succ d ih =>
    intro s f k0 hd hk0
    have ih' := ih (s + 1) f k0 (by omega) hk0
    have cl : cntF (ndp σ (90 * r + p) nd) 0 s ≤ 5 := Nat.le_trans cntF_le (by omega)
    rw [cntF_up, Nat.zero_add] at ih'
    have ef : f + (d + 1) = f + d + 1 := by omega
    rw [ef, fMd_node_l91_S, fMd_node_b91_E]
    have a18 : nls σ (90 * r + p) nd s 18 = σ 18 := nls_k _ _ _ _ (by decide) (by decide)
    have a19 : nls σ (90 * r + p) nd s 19 = σ 19 := nls_k _ _ _ _ (by decide) (by decide)
    have a23 : nls σ (90 * r + p) nd s 23 (5 * (90 * r + p) + s) = σ 23 (5 * (90 * r + p) + s) := nls_o _ _ _ _ _ (by omega)
    have a25 : nls σ (90 * r + p) nd s 25 (5 * (90 * r + p) + s) = σ 25 (5 * (90 * r + p) + s) := nls_o _ _ _ _ _ (by omega)
    have ed : (5 * (90 * r + p) + s) / 5 = 90 * r + p := by omega
    have ho := hro s (by omega)
    by_cases z : σ 19 (90 * r + p) = i3 0 ∧ σ 23 (5 * (90 * r + p) + s) = i3 nd
    · obtain ⟨z1, z2⟩ := z
      have st := nls_S σ (a := 90 * r + p) (nd := nd) (s := s) m1 (i3 0) (by rw [if_pos ⟨z1, z2⟩]) (by rw [if_pos ⟨z1, z2⟩])
      rw [if_pos (show ndp σ (90 * r + p) nd s = true from decide_eq_true ⟨z1, z2⟩)] at ih'
      have e3 : k0 + cntF (ndp σ (90 * r + p) nd) 0 s + 1 = k0 + (cntF (ndp σ (90 * r + p) nd) 0 s + 1) := by omega
      have e4 : 5 * (90 * r + p) + s + 1 = 5 * (90 * r + p) + (s + 1) := by omega
      clear ih hro
      by_cases y : σ 25 (5 * (90 * r + p) + s) = i3 0
      · simp (disch := (first | assumption | omega | decide | (simp only [mK_uI, mK_uP, mL_uI, mL_uP, mK_wI, mL_wI, mK_nA_e, mL_nA_e] <;> (first | assumption | omega)))) only [i3_le_t, i3_le_f, i3_lt_t, i3_lt_f, i3_eq_t, i3_eq_f, i3_add, i3_mul, i3_sub, i3_div, i3_dec, i3_m1, m1_i3, m1_eq, i3_ge0, m1_lt, i3_le_m1, ↓reduceIte, rZ_0, rZ_1, bdR_s, bdW_s, ifN_n, ifN_s, uS_n, uS_e, uS_d, ↓mgF_s, ↓mpF_s, ↓mgA_2, ↓mgA_4, ↓mgA_6, ↓mgA_7, ↓mgA_9, ↓mgA_10, ↓mgA_12, ↓mgA_14, ↓mgA_15, ↓mgA_16, ↓mgA_17, ↓mgA_18, ↓mgA_19, ↓mgA_20, ↓mgA_21, ↓mgA_22, ↓mgA_23, ↓mgA_24, ↓mgA_25, ↓mgA_26, ↓mgA_27, ↓mgA_28, ↓mgA_29, ↓mgA_30, ↓mgA_31, ↓mgA_32, ↓mgA_33, ↓mgA_34, ↓mgA_35, ↓mgA_36, ↓mgA_37, ↓mgA_38, ↓mgA_39, ↓mgA_41, ↓mgA_42, ↓mgA_43, ↓mgA_44, ↓mgA_45, ↓mgA_46, ↓mpA_2, ↓mpA_4, ↓mpA_6, ↓mpA_7, ↓mpA_9, ↓mpA_10, ↓mpA_12, ↓mpA_14, ↓mpA_15, ↓mpA_16, ↓mpZ_17, ↓mpA_18, ↓mpZ_19, ↓mpA_20, ↓mpA_21, ↓mpA_22, ↓mpA_23, ↓mpA_24, ↓mpZ_25, ↓mpA_26, ↓mpA_27, ↓mpA_28, ↓mpA_29, ↓mpA_30, ↓mpA_31, ↓mpA_32, ↓mpA_33, ↓mpA_34, ↓mpZ_35, ↓mpA_36, ↓mpA_37, ↓mpA_38, ↓mpA_39, ↓mpA_41, ↓mpA_42, ↓mpZ_43, ↓mpA_44, ↓mpA_45, ↓mpA_46, a18, hP, a19, ed, z1, a23, z2, fMd_node_j141_E, fMd_node_j165_E, a25, y, fMd_node_j191_E, fMd_node_j192_E, st, fMd_node_j205_E, e3, e4, ih']
      · simp (disch := (first | assumption | omega | decide | (simp only [mK_uI, mK_uP, mL_uI, mL_uP, mK_wI, mL_wI, mK_nA_e, mL_nA_e] <;> (first | assumption | omega)))) only [i3_le_t, i3_le_f, i3_lt_t, i3_lt_f, i3_eq_t, i3_eq_f, i3_add, i3_mul, i3_sub, i3_div, i3_dec, i3_m1, m1_i3, m1_eq, i3_ge0, m1_lt, i3_le_m1, ↓reduceIte, rZ_0, rZ_1, bdR_s, bdW_s, ifN_n, ifN_s, uS_n, uS_e, uS_d, ↓mgF_s, ↓mpF_s, ↓mgA_2, ↓mgA_4, ↓mgA_6, ↓mgA_7, ↓mgA_9, ↓mgA_10, ↓mgA_12, ↓mgA_14, ↓mgA_15, ↓mgA_16, ↓mgA_17, ↓mgA_18, ↓mgA_19, ↓mgA_20, ↓mgA_21, ↓mgA_22, ↓mgA_23, ↓mgA_24, ↓mgA_25, ↓mgA_26, ↓mgA_27, ↓mgA_28, ↓mgA_29, ↓mgA_30, ↓mgA_31, ↓mgA_32, ↓mgA_33, ↓mgA_34, ↓mgA_35, ↓mgA_36, ↓mgA_37, ↓mgA_38, ↓mgA_39, ↓mgA_41, ↓mgA_42, ↓mgA_43, ↓mgA_44, ↓mgA_45, ↓mgA_46, ↓mpA_2, ↓mpA_4, ↓mpA_6, ↓mpA_7, ↓mpA_9, ↓mpA_10, ↓mpA_12, ↓mpA_14, ↓mpA_15, ↓mpA_16, ↓mpZ_17, ↓mpA_18, ↓mpZ_19, ↓mpA_20, ↓mpA_21, ↓mpA_22, ↓mpA_23, ↓mpA_24, ↓mpZ_25, ↓mpA_26, ↓mpA_27, ↓mpA_28, ↓mpA_29, ↓mpA_30, ↓mpA_31, ↓mpA_32, ↓mpA_33, ↓mpA_34, ↓mpZ_35, ↓mpA_36, ↓mpA_37, ↓mpA_38, ↓mpA_39, ↓mpA_41, ↓mpA_42, ↓mpZ_43, ↓mpA_44, ↓mpA_45, ↓mpA_46, a18, hP, a19, ed, z1, a23, z2, fMd_node_j141_E, fMd_node_j165_E, a25, y, fMd_node_j191_E, fMd_node_j192_E, st, fMd_node_j205_E, e3, e4, ih']
    · rw [if_neg (show ¬ ndp σ (90 * r + p) nd s = true from fun w => z (of_decide_eq_true w)), Nat.add_zero] at ih'
      have e4 : 5 * (90 * r + p) + s + 1 = 5 * (90 * r + p) + (s + 1) := by omega
      have st := fun v w h1 h2 => nls_S σ (a := 90 * r + p) (nd := nd) (s := s) v w (by rw [if_neg z]; exact h1) (by rw [if_neg z]; exact h2)
      clear ih hro
      by_cases y : σ 25 (5 * (90 * r + p) + s) = i3 0
      · have st' := st (σ 23 (5 * (90 * r + p) + s)) (i3 0) rfl y.symm
        by_cases z1 : σ 19 (90 * r + p) = i3 0
        · have z2 : ¬ σ 23 (5 * (90 * r + p) + s) = i3 nd := fun w => z ⟨z1, w⟩
          simp (disch := (first | assumption | omega | decide | (simp only [mK_uI, mK_uP, mL_uI, mL_uP, mK_wI, mL_wI, mK_nA_e, mL_nA_e] <;> (first | assumption | omega)))) only [i3_le_t, i3_le_f, i3_lt_t, i3_lt_f, i3_eq_t, i3_eq_f, i3_add, i3_mul, i3_sub, i3_div, i3_dec, i3_m1, m1_i3, m1_eq, i3_ge0, m1_lt, i3_le_m1, ↓reduceIte, rZ_0, rZ_1, bdR_s, bdW_s, ifN_n, ifN_s, uS_n, uS_e, uS_d, ↓mgF_s, ↓mpF_s, ↓mgA_2, ↓mgA_4, ↓mgA_6, ↓mgA_7, ↓mgA_9, ↓mgA_10, ↓mgA_12, ↓mgA_14, ↓mgA_15, ↓mgA_16, ↓mgA_17, ↓mgA_18, ↓mgA_19, ↓mgA_20, ↓mgA_21, ↓mgA_22, ↓mgA_23, ↓mgA_24, ↓mgA_25, ↓mgA_26, ↓mgA_27, ↓mgA_28, ↓mgA_29, ↓mgA_30, ↓mgA_31, ↓mgA_32, ↓mgA_33, ↓mgA_34, ↓mgA_35, ↓mgA_36, ↓mgA_37, ↓mgA_38, ↓mgA_39, ↓mgA_41, ↓mgA_42, ↓mgA_43, ↓mgA_44, ↓mgA_45, ↓mgA_46, ↓mpA_2, ↓mpA_4, ↓mpA_6, ↓mpA_7, ↓mpA_9, ↓mpA_10, ↓mpA_12, ↓mpA_14, ↓mpA_15, ↓mpA_16, ↓mpZ_17, ↓mpA_18, ↓mpZ_19, ↓mpA_20, ↓mpA_21, ↓mpA_22, ↓mpA_23, ↓mpA_24, ↓mpZ_25, ↓mpA_26, ↓mpA_27, ↓mpA_28, ↓mpA_29, ↓mpA_30, ↓mpA_31, ↓mpA_32, ↓mpA_33, ↓mpA_34, ↓mpZ_35, ↓mpA_36, ↓mpA_37, ↓mpA_38, ↓mpA_39, ↓mpA_41, ↓mpA_42, ↓mpZ_43, ↓mpA_44, ↓mpA_45, ↓mpA_46, a18, hP, a19, ed, z1, a23, z2, fMd_node_j140_E, fMd_node_j141_E, fMd_node_j165_E, a25, y, fMd_node_j191_E, fMd_node_j192_E, st', fMd_node_j205_E, e4, Nat.add_zero, ih']
        · simp (disch := (first | assumption | omega | decide | (simp only [mK_uI, mK_uP, mL_uI, mL_uP, mK_wI, mL_wI, mK_nA_e, mL_nA_e] <;> (first | assumption | omega)))) only [i3_le_t, i3_le_f, i3_lt_t, i3_lt_f, i3_eq_t, i3_eq_f, i3_add, i3_mul, i3_sub, i3_div, i3_dec, i3_m1, m1_i3, m1_eq, i3_ge0, m1_lt, i3_le_m1, ↓reduceIte, rZ_0, rZ_1, bdR_s, bdW_s, ifN_n, ifN_s, uS_n, uS_e, uS_d, ↓mgF_s, ↓mpF_s, ↓mgA_2, ↓mgA_4, ↓mgA_6, ↓mgA_7, ↓mgA_9, ↓mgA_10, ↓mgA_12, ↓mgA_14, ↓mgA_15, ↓mgA_16, ↓mgA_17, ↓mgA_18, ↓mgA_19, ↓mgA_20, ↓mgA_21, ↓mgA_22, ↓mgA_23, ↓mgA_24, ↓mgA_25, ↓mgA_26, ↓mgA_27, ↓mgA_28, ↓mgA_29, ↓mgA_30, ↓mgA_31, ↓mgA_32, ↓mgA_33, ↓mgA_34, ↓mgA_35, ↓mgA_36, ↓mgA_37, ↓mgA_38, ↓mgA_39, ↓mgA_41, ↓mgA_42, ↓mgA_43, ↓mgA_44, ↓mgA_45, ↓mgA_46, ↓mpA_2, ↓mpA_4, ↓mpA_6, ↓mpA_7, ↓mpA_9, ↓mpA_10, ↓mpA_12, ↓mpA_14, ↓mpA_15, ↓mpA_16, ↓mpZ_17, ↓mpA_18, ↓mpZ_19, ↓mpA_20, ↓mpA_21, ↓mpA_22, ↓mpA_23, ↓mpA_24, ↓mpZ_25, ↓mpA_26, ↓mpA_27, ↓mpA_28, ↓mpA_29, ↓mpA_30, ↓mpA_31, ↓mpA_32, ↓mpA_33, ↓mpA_34, ↓mpZ_35, ↓mpA_36, ↓mpA_37, ↓mpA_38, ↓mpA_39, ↓mpA_41, ↓mpA_42, ↓mpZ_43, ↓mpA_44, ↓mpA_45, ↓mpA_46, a18, hP, a19, ed, z1, a23, fMd_node_j140_E, fMd_node_j141_E, fMd_node_j165_E, a25, y, fMd_node_j191_E, fMd_node_j192_E, st', fMd_node_j205_E, e4, Nat.add_zero, ih']
      · have y1 : σ 25 (5 * (90 * r + p) + s) = i3 1 := by
          obtain ⟨q, hq, hqe⟩ := ho.to
          rcases (by omega : q = 0 ∨ q = 1) with rfl | rfl
          · exact absurd hqe y
          · exact hqe
        have st' := st (σ 23 (5 * (90 * r + p) + s)) (i3 1) rfl y1.symm
        by_cases z1 : σ 19 (90 * r + p) = i3 0
        · have z2 : ¬ σ 23 (5 * (90 * r + p) + s) = i3 nd := fun w => z ⟨z1, w⟩
          simp (disch := (first | assumption | omega | decide | (simp only [mK_uI, mK_uP, mL_uI, mL_uP, mK_wI, mL_wI, mK_nA_e, mL_nA_e] <;> (first | assumption | omega)))) only [i3_le_t, i3_le_f, i3_lt_t, i3_lt_f, i3_eq_t, i3_eq_f, i3_add, i3_mul, i3_sub, i3_div, i3_dec, i3_m1, m1_i3, m1_eq, i3_ge0, m1_lt, i3_le_m1, ↓reduceIte, rZ_0, rZ_1, bdR_s, bdW_s, ifN_n, ifN_s, uS_n, uS_e, uS_d, ↓mgF_s, ↓mpF_s, ↓mgA_2, ↓mgA_4, ↓mgA_6, ↓mgA_7, ↓mgA_9, ↓mgA_10, ↓mgA_12, ↓mgA_14, ↓mgA_15, ↓mgA_16, ↓mgA_17, ↓mgA_18, ↓mgA_19, ↓mgA_20, ↓mgA_21, ↓mgA_22, ↓mgA_23, ↓mgA_24, ↓mgA_25, ↓mgA_26, ↓mgA_27, ↓mgA_28, ↓mgA_29, ↓mgA_30, ↓mgA_31, ↓mgA_32, ↓mgA_33, ↓mgA_34, ↓mgA_35, ↓mgA_36, ↓mgA_37, ↓mgA_38, ↓mgA_39, ↓mgA_41, ↓mgA_42, ↓mgA_43, ↓mgA_44, ↓mgA_45, ↓mgA_46, ↓mpA_2, ↓mpA_4, ↓mpA_6, ↓mpA_7, ↓mpA_9, ↓mpA_10, ↓mpA_12, ↓mpA_14, ↓mpA_15, ↓mpA_16, ↓mpZ_17, ↓mpA_18, ↓mpZ_19, ↓mpA_20, ↓mpA_21, ↓mpA_22, ↓mpA_23, ↓mpA_24, ↓mpZ_25, ↓mpA_26, ↓mpA_27, ↓mpA_28, ↓mpA_29, ↓mpA_30, ↓mpA_31, ↓mpA_32, ↓mpA_33, ↓mpA_34, ↓mpZ_35, ↓mpA_36, ↓mpA_37, ↓mpA_38, ↓mpA_39, ↓mpA_41, ↓mpA_42, ↓mpZ_43, ↓mpA_44, ↓mpA_45, ↓mpA_46, a18, hP, a19, ed, z1, a23, z2, fMd_node_j140_E, fMd_node_j141_E, fMd_node_j165_E, a25, y, fMd_node_j191_E, fMd_node_j192_E, st', fMd_node_j205_E, e4, Nat.add_zero, ih']
        · simp (disch := (first | assumption | omega | decide | (simp only [mK_uI, mK_uP, mL_uI, mL_uP, mK_wI, mL_wI, mK_nA_e, mL_nA_e] <;> (first | assumption | omega)))) only [i3_le_t, i3_le_f, i3_lt_t, i3_lt_f, i3_eq_t, i3_eq_f, i3_add, i3_mul, i3_sub, i3_div, i3_dec, i3_m1, m1_i3, m1_eq, i3_ge0, m1_lt, i3_le_m1, ↓reduceIte, rZ_0, rZ_1, bdR_s, bdW_s, ifN_n, ifN_s, uS_n, uS_e, uS_d, ↓mgF_s, ↓mpF_s, ↓mgA_2, ↓mgA_4, ↓mgA_6, ↓mgA_7, ↓mgA_9, ↓mgA_10, ↓mgA_12, ↓mgA_14, ↓mgA_15, ↓mgA_16, ↓mgA_17, ↓mgA_18, ↓mgA_19, ↓mgA_20, ↓mgA_21, ↓mgA_22, ↓mgA_23, ↓mgA_24, ↓mgA_25, ↓mgA_26, ↓mgA_27, ↓mgA_28, ↓mgA_29, ↓mgA_30, ↓mgA_31, ↓mgA_32, ↓mgA_33, ↓mgA_34, ↓mgA_35, ↓mgA_36, ↓mgA_37, ↓mgA_38, ↓mgA_39, ↓mgA_41, ↓mgA_42, ↓mgA_43, ↓mgA_44, ↓mgA_45, ↓mgA_46, ↓mpA_2, ↓mpA_4, ↓mpA_6, ↓mpA_7, ↓mpA_9, ↓mpA_10, ↓mpA_12, ↓mpA_14, ↓mpA_15, ↓mpA_16, ↓mpZ_17, ↓mpA_18, ↓mpZ_19, ↓mpA_20, ↓mpA_21, ↓mpA_22, ↓mpA_23, ↓mpA_24, ↓mpZ_25, ↓mpA_26, ↓mpA_27, ↓mpA_28, ↓mpA_29, ↓mpA_30, ↓mpA_31, ↓mpA_32, ↓mpA_33, ↓mpA_34, ↓mpZ_35, ↓mpA_36, ↓mpA_37, ↓mpA_38, ↓mpA_39, ↓mpA_41, ↓mpA_42, ↓mpZ_43, ↓mpA_44, ↓mpA_45, ↓mpA_46, a18, hP, a19, ed, z1, a23, fMd_node_j140_E, fMd_node_j141_E, fMd_node_j165_E, a25, y, fMd_node_j191_E, fMd_node_j192_E, st', fMd_node_j205_E, e4, Nat.add_zero, ih']
theorem cntF_congr {p q : Nat → Bool} : ∀ {d i : Nat}, (∀ j, i ≤ j → j < i + d → p j = q j) → cntF p i d = cntF q i d := by
  intro d
  induction d with
  | zero => intro i _; rfl
  | succ d ih =>
    intro i h
    rw [cntF_S, cntF_S, h i (Nat.le_refl i) (by omega), ih fun j h1 h2 => h j (by omega) (by omega)]
theorem c_loseOn {a nd : Nat} (A : PRT own M a r) (g : Nat → Int32) (hg : ∀ j, j < 5 → mI M 0 (a + 3) j = g j) : ∃ M', fPart_loseOn a (i3 nd) M = some (i3 (cntF (fun s => decide (g s = i3 nd)) 0 5), M') ∧ IOS (fun cc x => cc = 0 ∧ x = a + 3) M M' ∧ ∀ j, j < 5 → mI M' 0 (a + 3) j = if g j = i3 nd then m1 else g j := by
  have k := A.k
  have p4 := A.p4
  have k3 := A.k3
  have l3 := A.l3
  clear A
  have lp : ∀ d s k0 fu (M : Mm), d + s = 5 → d < fu → k0 ≤ s → mK M a = 5 → mP M 504 a 0 = some (a + 3) → mK M (a + 3) = 21 → mL M (a + 3) = 5 → (∀ j, s ≤ j → j < 5 → mI M 0 (a + 3) j = g j) → ∃ M', fPart_loseOn_l4 a fu (i3 nd) (i3 k0) (i3 s) M = some (i3 (k0 + cntF (fun s => decide (g s = i3 nd)) s d), M') ∧ IOS (fun cc x => cc = 0 ∧ x = a + 3) M M' ∧ ∀ j, mI M' 0 (a + 3) j = if s ≤ j ∧ j < 5 ∧ g j = i3 nd then m1 else mI M 0 (a + 3) j := by
    intro d
    induction d with
    | zero =>
      intro s k0 fu M hd hfu hk k p4 k3 l3 hg
      obtain ⟨f, rfl⟩ : ∃ f, fu = f + 1 := ⟨fu - 1, by omega⟩
      refine ⟨M, ?_, IOS.refl, fun j => by rw [if_neg (by omega)]⟩
      rw [fPart_loseOn_l4_S, fPart_loseOn_b4_E]
      simp (disch := (first | assumption | omega | decide | (simp only [mK_uI, mK_uP, mL_uI, mL_uP, mK_wI, mL_wI, mK_nA_e, mL_nA_e] <;> (first | assumption | omega)))) only [i3_le_t, i3_le_f, i3_lt_t, i3_lt_f, i3_eq_t, i3_eq_f, i3_add, i3_mul, i3_sub, i3_div, i3_dec, i3_m1, m1_i3, m1_eq, i3_ge0, m1_lt, i3_le_m1, ↓reduceIte, rZ_0, rZ_1, bdR_s, bdW_s, ifN_n, ifN_s, ↓fgI_s, ↓fgR_s, ↓rk_s, ↓fpI_s, ↓fpR_s, ↓fpZ_0, ↓fpZ_1, ↓alI_i, ↓alP_i, ↓asI_i, ↓asB_i, ↓asZ_0, ↓asZ_1, ↓aln_i, ↓fca_s, ↓fca_n, bdC_li, bdC_ri, mK_uI, mK_uP, mL_uI, mL_uP, mP_uI, mI_uP, mK_wI, mL_wI, mP_wI, mI_uI_e, mI_uI_c, nwO_s, mK_nA_e, mL_nA_e, p4, l3, cntF, Nat.add_zero]
    | succ d ih =>
      intro s k0 fu M hd hfu hk k p4 k3 l3 hg
      obtain ⟨f, rfl⟩ : ∃ f, fu = f + 1 := ⟨fu - 1, by omega⟩
      have hs := hg s (Nat.le_refl s) (by omega)
      rw [cntF_S]
      by_cases z : g s = i3 nd
      · obtain ⟨M', e1, e2, e3⟩ := ih (s + 1) (k0 + 1) f (uI M 0 (a + 3) s m1) (by omega) (by omega) (by omega) k p4 k3 l3 (fun j h1 h2 => by rw [mI_uI_j _ _ _ _ (by omega)]; exact hg j (by omega) h2)
        refine ⟨M', ?_, (IOS.uI _ _ _ _).then e2, fun j => ?_⟩
        · rw [fPart_loseOn_l4_S, fPart_loseOn_b4_E]
          clear ih e2 e3 hg
          simp (disch := (first | assumption | omega | decide | (simp only [mK_uI, mK_uP, mL_uI, mL_uP, mK_wI, mL_wI, mK_nA_e, mL_nA_e] <;> (first | assumption | omega)))) only [i3_le_t, i3_le_f, i3_lt_t, i3_lt_f, i3_eq_t, i3_eq_f, i3_add, i3_mul, i3_sub, i3_div, i3_dec, i3_m1, m1_i3, m1_eq, i3_ge0, m1_lt, i3_le_m1, ↓reduceIte, rZ_0, rZ_1, bdR_s, bdW_s, ifN_n, ifN_s, ↓fgI_s, ↓fgR_s, ↓rk_s, ↓fpI_s, ↓fpR_s, ↓fpZ_0, ↓fpZ_1, ↓alI_i, ↓alP_i, ↓asI_i, ↓asB_i, ↓asZ_0, ↓asZ_1, ↓aln_i, ↓fca_s, ↓fca_n, bdC_li, bdC_ri, mK_uI, mK_uP, mL_uI, mL_uP, mP_uI, mI_uP, mK_wI, mL_wI, mP_wI, mI_uI_e, mI_uI_c, nwO_s, mK_nA_e, mL_nA_e, p4, l3, hs, z, decide_true, fPart_loseOn_j33_E, e1, Nat.add_assoc]
        · rw [e3]
          by_cases e : j = s
          · subst e; rw [if_neg (by omega), mI_uI_e, if_pos ⟨Nat.le_refl _, by omega, z⟩]
          · rw [mI_uI_j _ _ _ _ e]
            by_cases y : s ≤ j ∧ j < 5 ∧ g j = i3 nd
            · rw [if_pos ⟨by omega, y.2.1, y.2.2⟩, if_pos y]
            · rw [if_neg (fun w => y ⟨by omega, w.2.1, w.2.2⟩), if_neg y]
      · obtain ⟨M', e1, e2, e3⟩ := ih (s + 1) k0 f M (by omega) (by omega) (by omega) k p4 k3 l3 (fun j h1 h2 => hg j (by omega) h2)
        refine ⟨M', ?_, e2, fun j => ?_⟩
        · rw [fPart_loseOn_l4_S, fPart_loseOn_b4_E]
          clear ih e2 e3 hg
          simp (disch := (first | assumption | omega | decide | (simp only [mK_uI, mK_uP, mL_uI, mL_uP, mK_wI, mL_wI, mK_nA_e, mL_nA_e] <;> (first | assumption | omega)))) only [i3_le_t, i3_le_f, i3_lt_t, i3_lt_f, i3_eq_t, i3_eq_f, i3_add, i3_mul, i3_sub, i3_div, i3_dec, i3_m1, m1_i3, m1_eq, i3_ge0, m1_lt, i3_le_m1, ↓reduceIte, rZ_0, rZ_1, bdR_s, bdW_s, ifN_n, ifN_s, ↓fgI_s, ↓fgR_s, ↓rk_s, ↓fpI_s, ↓fpR_s, ↓fpZ_0, ↓fpZ_1, ↓alI_i, ↓alP_i, ↓asI_i, ↓asB_i, ↓asZ_0, ↓asZ_1, ↓aln_i, ↓fca_s, ↓fca_n, bdC_li, bdC_ri, mK_uI, mK_uP, mL_uI, mL_uP, mP_uI, mI_uP, mK_wI, mL_wI, mP_wI, mI_uI_e, mI_uI_c, nwO_s, mK_nA_e, mL_nA_e, p4, l3, hs, z, decide_false, Bool.false_eq_true, fPart_loseOn_j33_E, e1, Nat.zero_add]
        · rw [e3]
          by_cases y : s ≤ j ∧ j < 5 ∧ g j = i3 nd
          · have : j ≠ s := fun e => z (by rw [← e]; exact y.2.2)
            rw [if_pos ⟨by omega, y.2.1, y.2.2⟩, if_pos y]
          · rw [if_neg (fun w => y ⟨by omega, w.2.1, w.2.2⟩), if_neg y]
  obtain ⟨M', e1, e2, e3⟩ := lp 5 0 0 FU M (by omega) (FU_S (by omega)) (by omega) k p4 k3 l3 (fun j _ h2 => hg j h2)
  refine ⟨M', ?_, e2, fun j hj => ?_⟩
  · rw [Nat.zero_add] at e1
    rw [fPart_loseOn_E]; exact e1
  · rw [e3, hg j hj]
    by_cases z : g j = i3 nd
    · rw [if_pos ⟨by omega, hj, z⟩, if_pos z]
    · rw [if_neg (fun w => z w.2.2), if_neg z]
theorem node_loop (hr : r < 2) {nd P : Nat} (hnd : nd < 6) (h90 : P ≤ 90) : ∀ d p k fu fu2 (σ : Sg) (M : Mm), d + p = P → d < fu → 5 * d < fu2 → k ≤ 5 * p → RR h own B σ M n → IV c σ → σ 18 r = i3 P → ∃ k' M' σ', fStore_loseShardsOn_l4 (gr h r + 1) fu (i3 nd) (i3 k) (i3 p) M = some (i3 k', M') ∧ fMd_node_l91 fu2 (i3 r) (i3 nd) (i3 0) (i3 k) (i3 (5 * (90 * r + p))) σ = some (i3 k', σ') ∧ RR h own B σ' M' n ∧ IV c σ' ∧ σ' 0 = σ 0 ∧ σ' 36 = σ 36 ∧ σ' 18 = σ 18 ∧ σ' 8 = σ 8 := by
  intro d
  induction d with
  | zero =>
    intro p k fu fu2 σ M hd hfu hfu2 hk R I hP
    obtain ⟨f, rfl⟩ : ∃ f, fu = f + 1 := ⟨fu - 1, by omega⟩
    obtain ⟨f2, rfl⟩ : ∃ f, fu2 = f + 1 := ⟨fu2 - 1, by omega⟩
    have eP : nv (σ 18 r) = P := by rw [hP]; exact nv_i (by omega)
    have w1 := (R.rg r hr).ks
    have w2 := (R.rg r hr).s1
    have L := R.pl r hr
    rw [eP] at L
    have w3 := L.k
    have w4 := L.size
    have hpP : p = P := by omega
    subst hpP
    refine ⟨k, M, σ, ?_, ?_, R, I, rfl, rfl, rfl, rfl⟩
    · clear R I L
      rw [fStore_loseShardsOn_l4_S, fStore_loseShardsOn_b4_E]
      simp (disch := (first | assumption | omega | decide | (simp only [mK_uI, mK_uP, mL_uI, mL_uP, mK_wI, mL_wI, mK_nA_e, mL_nA_e] <;> (first | assumption | omega)))) only [i3_le_t, i3_le_f, i3_lt_t, i3_lt_f, i3_eq_t, i3_eq_f, i3_add, i3_mul, i3_sub, i3_div, i3_dec, i3_m1, m1_i3, m1_eq, i3_ge0, m1_lt, i3_le_m1, ↓reduceIte, rZ_0, rZ_1, bdR_s, bdW_s, ifN_n, ifN_s, ↓fgI_s, ↓fgR_s, ↓rk_s, ↓fpI_s, ↓fpR_s, ↓fpZ_0, ↓fpZ_1, ↓alI_i, ↓alP_i, ↓asI_i, ↓asB_i, ↓asZ_0, ↓asZ_1, ↓aln_i, ↓fca_s, ↓fca_n, bdC_li, bdC_ri, mK_uI, mK_uP, mL_uI, mL_uP, mP_uI, mI_uP, mK_wI, mL_wI, mP_wI, mI_uI_e, mI_uI_c, nwO_s, mK_nA_e, mL_nA_e, w2, w4]
    · clear R I L
      rw [fMd_node_l91_S, fMd_node_b91_E]
      simp (disch := (first | assumption | omega | decide | (simp only [mK_uI, mK_uP, mL_uI, mL_uP, mK_wI, mL_wI, mK_nA_e, mL_nA_e] <;> (first | assumption | omega)))) only [i3_le_t, i3_le_f, i3_lt_t, i3_lt_f, i3_eq_t, i3_eq_f, i3_add, i3_mul, i3_sub, i3_div, i3_dec, i3_m1, m1_i3, m1_eq, i3_ge0, m1_lt, i3_le_m1, ↓reduceIte, rZ_0, rZ_1, bdR_s, bdW_s, ifN_n, ifN_s, uS_n, uS_e, uS_d, ↓mgF_s, ↓mpF_s, ↓mgA_2, ↓mgA_4, ↓mgA_6, ↓mgA_7, ↓mgA_9, ↓mgA_10, ↓mgA_12, ↓mgA_14, ↓mgA_15, ↓mgA_16, ↓mgA_17, ↓mgA_18, ↓mgA_19, ↓mgA_20, ↓mgA_21, ↓mgA_22, ↓mgA_23, ↓mgA_24, ↓mgA_25, ↓mgA_26, ↓mgA_27, ↓mgA_28, ↓mgA_29, ↓mgA_30, ↓mgA_31, ↓mgA_32, ↓mgA_33, ↓mgA_34, ↓mgA_35, ↓mgA_36, ↓mgA_37, ↓mgA_38, ↓mgA_39, ↓mgA_41, ↓mgA_42, ↓mgA_43, ↓mgA_44, ↓mgA_45, ↓mgA_46, ↓mpA_2, ↓mpA_4, ↓mpA_6, ↓mpA_7, ↓mpA_9, ↓mpA_10, ↓mpA_12, ↓mpA_14, ↓mpA_15, ↓mpA_16, ↓mpZ_17, ↓mpA_18, ↓mpZ_19, ↓mpA_20, ↓mpA_21, ↓mpA_22, ↓mpA_23, ↓mpA_24, ↓mpZ_25, ↓mpA_26, ↓mpA_27, ↓mpA_28, ↓mpA_29, ↓mpA_30, ↓mpA_31, ↓mpA_32, ↓mpA_33, ↓mpA_34, ↓mpZ_35, ↓mpA_36, ↓mpA_37, ↓mpA_38, ↓mpA_39, ↓mpA_41, ↓mpA_42, ↓mpZ_43, ↓mpA_44, ↓mpA_45, ↓mpA_46, hP]
  | succ d ih =>
    intro p k fu fu2 σ M hd hfu hfu2 hk R I hP
    obtain ⟨f, rfl⟩ : ∃ f, fu = f + 1 := ⟨fu - 1, by omega⟩
    obtain ⟨f2, rfl⟩ : ∃ f, fu2 = f + 5 := ⟨fu2 - 5, by omega⟩
    have eP : nv (σ 18 r) = P := by rw [hP]; exact nv_i (by omega)
    have w1 := (R.rg r hr).ks
    have w2 := (R.rg r hr).s1
    have L := R.pl r hr
    rw [eP] at L
    have w3 := L.k
    have w4 := L.size
    have w5 := L.get (i := p) (by omega)
    have hp : p < nv (σ 18 r) := by omega
    have A := R.po r hr p hp
    have a1 := A.b.k
    obtain ⟨X, -⟩ := I.po r hr p hp
    obtain ⟨M1, e1, e2, e3⟩ := c_loseOn (nd := nd) A.b (fun s => if σ 19 (90 * r + p) = i3 0 then σ 23 (5 * (90 * r + p) + s) else m1) A.nd
    have ec : cntF (fun s => decide ((if σ 19 (90 * r + p) = i3 0 then σ 23 (5 * (90 * r + p) + s) else m1) = i3 nd)) 0 5 = cntF (ndp σ (90 * r + p) nd) 0 5 := cntF_congr fun j h1 h2 => by
      show decide _ = decide _
      by_cases z : σ 19 (90 * r + p) = i3 0
      · rw [if_pos z]
        by_cases y : σ 23 (5 * (90 * r + p) + j) = i3 nd
        · rw [decide_eq_true y, decide_eq_true ⟨z, y⟩]
        · rw [decide_eq_false y, decide_eq_false fun w => y w.2]
      · have nm : ¬ m1 = i3 nd := fun w => nn_ne1 (a := nd) (by omega) w.symm
        have n2 : ¬ (σ 19 (90 * r + p) = i3 0 ∧ σ 23 (5 * (90 * r + p) + j) = i3 nd) := fun w => z w.1
        rw [if_neg z, decide_eq_false nm, decide_eq_false n2]
    rw [ec] at e1
    have mi := m_node_in (σ := σ) (nd := nd) hr (p := p) (P := P) (by omega) h90 hP (fun s hs => (X.ro s hs).1) 5 0 f2 k (by omega) (by omega)
    have c0 : cntF (ndp σ (90 * r + p) nd) 0 0 = 0 := rfl
    rw [c0, nls_0] at mi
    simp only [Nat.add_zero] at mi
    have cl : cntF (ndp σ (90 * r + p) nd) 0 5 ≤ 5 := cntF_le
    have f1 : IOS (fun _ x => pa B r p ≤ x ∧ x ≤ pa B r p + 4) M M1 := e2.mono fun cc a z => by omega
    have s0 : ∀ cc a j, a ≠ pa B r p + 3 → mI M1 cc a j = mI M cc a j := fun cc a j h1 => e2.2 cc a j (by omega)
    have n23 : ∀ s, s < 5 → nls σ (90 * r + p) nd 5 23 (5 * (90 * r + p) + s) = if σ 19 (90 * r + p) = i3 0 ∧ σ 23 (5 * (90 * r + p) + s) = i3 nd then m1 else σ 23 (5 * (90 * r + p) + s) := fun s hs => by
      show (if (23 = 23 ∨ 23 = 25) ∧ 5 * (90 * r + p) ≤ 5 * (90 * r + p) + s ∧ 5 * (90 * r + p) + s < 5 * (90 * r + p) + 5 ∧ σ 19 (90 * r + p) = i3 0 ∧ σ 23 (5 * (90 * r + p) + s) = i3 nd then (if 23 = 23 then m1 else i3 0) else _) = _
      by_cases z : σ 19 (90 * r + p) = i3 0 ∧ σ 23 (5 * (90 * r + p) + s) = i3 nd
      · rw [if_pos ⟨Or.inl rfl, by omega, by omega, z.1, z.2⟩, if_pos z, if_pos rfl]
      · rw [if_neg (fun w => z w.2.2.2), if_neg z]
    have n25 : ∀ s, s < 5 → nls σ (90 * r + p) nd 5 25 (5 * (90 * r + p) + s) = if σ 19 (90 * r + p) = i3 0 ∧ σ 23 (5 * (90 * r + p) + s) = i3 nd then i3 0 else σ 25 (5 * (90 * r + p) + s) := fun s hs => by
      show (if (25 = 23 ∨ 25 = 25) ∧ 5 * (90 * r + p) ≤ 5 * (90 * r + p) + s ∧ 5 * (90 * r + p) + s < 5 * (90 * r + p) + 5 ∧ σ 19 (90 * r + p) = i3 0 ∧ σ 23 (5 * (90 * r + p) + s) = i3 nd then (if 25 = 23 then m1 else i3 0) else _) = _
      by_cases z : σ 19 (90 * r + p) = i3 0 ∧ σ 23 (5 * (90 * r + p) + s) = i3 nd
      · rw [if_pos ⟨Or.inr rfl, by omega, by omega, z.1, z.2⟩, if_pos z, if_neg (by decide)]
      · rw [if_neg (fun w => z w.2.2.2), if_neg z]
    have nne : ∀ s, s < 5 → nls σ (90 * r + p) nd 5 23 (5 * (90 * r + p) + s) ≠ m1 → σ 23 (5 * (90 * r + p) + s) ≠ m1 ∧ nls σ (90 * r + p) nd 5 25 (5 * (90 * r + p) + s) = σ 25 (5 * (90 * r + p) + s) ∧ ¬ (σ 19 (90 * r + p) = i3 0 ∧ σ 23 (5 * (90 * r + p) + s) = i3 nd) := fun s hs w => by
      rw [n23 s hs] at w
      by_cases z : σ 19 (90 * r + p) = i3 0 ∧ σ 23 (5 * (90 * r + p) + s) = i3 nd
      · rw [if_pos z] at w; exact absurd rfl w
      · rw [if_neg z] at w
        exact ⟨w, by rw [n25 s hs, if_neg z], z⟩
    have R2 : RR h own B (nls σ (90 * r + p) nd 5) M1 n := by
      refine R.setp hr hp I.p90 f1 (fun k hk => nls_k _ _ _ _ (fun w => hk (by unfold PTF; omega)) (fun w => hk (by unfold PTF; omega))) (fun a ha => ⟨by rw [nls_k _ _ _ _ (by decide) (by decide)], by rw [nls_k _ _ _ _ (by decide) (by decide)], fun s' hs' => ⟨nls_o _ _ _ _ _ (by omega), nls_o _ _ _ _ _ (by omega)⟩, fun j hj => by rw [nls_k _ _ _ _ (by decide) (by decide)]⟩) ?_
      rw [nls_k _ _ _ _ (show (19 : Nat) ≠ 23 by decide) (by decide), nls_k _ _ _ _ (show (20 : Nat) ≠ 23 by decide) (by decide), nls_k _ _ _ _ (show (21 : Nat) ≠ 23 by decide) (by decide), nls_k _ _ _ _ (show (22 : Nat) ≠ 23 by decide) (by decide), nls_k _ _ _ _ (show (24 : Nat) ≠ 23 by decide) (by decide)]
      have b' : PRT own M1 (pa B r p) r := A.b.keep (fun a o => ⟨rfl, f1.K a, f1.L a, fun cc j => f1.P cc a j⟩)
      refine ⟨b', (s0 _ _ _ (by omega)).trans A.nu, (s0 _ _ _ (by omega)).trans A.lo, (s0 _ _ _ (by omega)).trans A.ct, (s0 _ _ _ (by omega)).trans A.sw, fun j hj => (s0 _ _ _ (by omega)).trans (A.by j hj), fun s hs => ?_, fun s hs y1 y2 => ?_, fun s hs y1 y2 y3 k hk => ?_⟩
      · rw [e3 s hs]
        show _ = if σ 19 (90 * r + p) = i3 0 then nls σ (90 * r + p) nd 5 23 (5 * (90 * r + p) + s) else m1
        rw [n23 s hs]
        by_cases z : σ 19 (90 * r + p) = i3 0
        · rw [if_pos z, if_pos z]
          by_cases y : σ 23 (5 * (90 * r + p) + s) = i3 nd
          · rw [if_pos y, if_pos ⟨z, y⟩]
          · rw [if_neg y, if_neg fun w => y w.2]
        · have nm : ¬ m1 = i3 nd := fun w => nn_ne1 (a := nd) (by omega) w.symm
          rw [if_neg z, if_neg z, if_neg nm]
      · obtain ⟨v1, v2, v3⟩ := nne s hs y2
        rw [s0 _ _ _ (by omega)]
        exact (A.ro s hs y1 v1).trans v2.symm
      · obtain ⟨v1, v2, v3⟩ := nne s hs y2
        have y3 : nls σ (90 * r + p) nd 5 25 (5 * (90 * r + p) + s) = i3 0 := y3
        rw [v2] at y3
        rw [s0 _ _ _ (by omega)]
        exact A.sb s hs y1 v1 y3 k hk
    have I2 : IV c (nls σ (90 * r + p) nd 5) := by
      refine I.setg (fun k hk => nls_k _ _ _ _ (fun w => hk (by omega)) (fun w => hk (by omega))) fun r0 hr0 p0 hp0 => ?_
      obtain ⟨Y, -⟩ := I.po r0 hr0 p0 hp0
      rw [nls_k _ _ _ _ (show (24 : Nat) ≠ 23 by decide) (by decide)]
      by_cases e : 90 * r0 + p0 = 90 * r + p
      · rw [e] at Y ⊢
        refine ⟨fun s hs => ?_, fun s hs => ?_, fun s hs y1 y2 => ?_⟩
        · rw [n23 s hs]
          by_cases z : σ 19 (90 * r + p) = i3 0 ∧ σ 23 (5 * (90 * r + p) + s) = i3 nd
          · rw [if_pos z]; exact Or.inl rfl
          · rw [if_neg z]; exact Y.nd s hs
        · rw [n23 s hs, n25 s hs]
          by_cases z : σ 19 (90 * r + p) = i3 0 ∧ σ 23 (5 * (90 * r + p) + s) = i3 nd
          · rw [if_pos z, if_pos z]; exact ⟨NB.of (by omega) (by omega), fun w => absurd w (by decide)⟩
          · rw [if_neg z, if_neg z]; exact Y.ro s hs
        · obtain ⟨v1, v2, v3⟩ := nne s hs y1
          rw [v2] at y2
          exact Y.sb s hs v1 y2
      · have o23 : ∀ s, s < 5 → nls σ (90 * r + p) nd 5 23 (5 * (90 * r0 + p0) + s) = σ 23 (5 * (90 * r0 + p0) + s) := fun s hs => nls_o _ _ _ _ _ (by omega)
        have o25 : ∀ s, s < 5 → nls σ (90 * r + p) nd 5 25 (5 * (90 * r0 + p0) + s) = σ 25 (5 * (90 * r0 + p0) + s) := fun s hs => nls_o _ _ _ _ _ (by omega)
        refine ⟨fun s hs => ?_, fun s hs => ?_, fun s hs y1 y2 => ?_⟩
        · rw [o23 s hs]; exact Y.nd s hs
        · rw [o23 s hs, o25 s hs]; exact Y.ro s hs
        · rw [o23 s hs] at y1
          rw [o25 s hs] at y2
          exact Y.sb s hs y1 y2
    obtain ⟨k', M', σ', g1, g2, g3, g4, g5, g6, g7, g8⟩ := ih (p + 1) (k + cntF (ndp σ (90 * r + p) nd) 0 5) f f2 _ _ (by omega) (by omega) (by omega) (by omega) R2 I2 (by rw [nls_k _ _ _ _ (by decide) (by decide)]; exact hP)
    refine ⟨k', M', σ', ?_, ?_, g3, g4, ?_, ?_, ?_, ?_⟩
    · clear R I L A X ih R2 I2 g3 g4 e2 e3 f1 s0 n23 n25 nne mi
      rw [fStore_loseShardsOn_l4_S, fStore_loseShardsOn_b4_E]
      simp (disch := (first | assumption | omega | decide | (simp only [mK_uI, mK_uP, mL_uI, mL_uP, mK_wI, mL_wI, mK_nA_e, mL_nA_e] <;> (first | assumption | omega)))) only [i3_le_t, i3_le_f, i3_lt_t, i3_lt_f, i3_eq_t, i3_eq_f, i3_add, i3_mul, i3_sub, i3_div, i3_dec, i3_m1, m1_i3, m1_eq, i3_ge0, m1_lt, i3_le_m1, ↓reduceIte, rZ_0, rZ_1, bdR_s, bdW_s, ifN_n, ifN_s, ↓fgI_s, ↓fgR_s, ↓rk_s, ↓fpI_s, ↓fpR_s, ↓fpZ_0, ↓fpZ_1, ↓alI_i, ↓alP_i, ↓asI_i, ↓asB_i, ↓asZ_0, ↓asZ_1, ↓aln_i, ↓fca_s, ↓fca_n, bdC_li, bdC_ri, mK_uI, mK_uP, mL_uI, mL_uP, mP_uI, mI_uP, mK_wI, mL_wI, mP_wI, mI_uI_e, mI_uI_c, nwO_s, mK_nA_e, mL_nA_e, w2, w4, w5, e1, g1]
    · have e5 : 5 * (90 * r + p) + 5 = 5 * (90 * r + (p + 1)) := by omega
      rw [mi, e5]
      exact g2
    · rw [g5, nls_k _ _ _ _ (by decide) (by decide)]
    · rw [g6, nls_k _ _ _ _ (by decide) (by decide)]
    · rw [g7, nls_k _ _ _ _ (by decide) (by decide)]
    · rw [g8, nls_k _ _ _ _ (by decide) (by decide)]
theorem c_isUp (R : RR h own B σ M n) (hr : r < 2) {j : Nat} (hj : j < 6) : fStore_isUp (gr h r + 1) (i3 j) M = some (if σ 17 (6 * r + j) = i3 0 then i3 1 else i3 0) := by
  have w1 := (R.rg r hr).ks
  have w2 := (R.rg r hr).s0
  have w3 := (R.rg r hr).k2
  have w4 := (R.rg r hr).l2
  have w5 := R.up r hr j hj
  clear R
  by_cases z : σ 17 (6 * r + j) = i3 0
  · rw [if_pos z] at w5
    simp (disch := (first | assumption | omega | decide | (simp only [mK_uI, mK_uP, mL_uI, mL_uP, mK_wI, mL_wI, mK_nA_e, mL_nA_e] <;> (first | assumption | omega)))) only [i3_le_t, i3_le_f, i3_lt_t, i3_lt_f, i3_eq_t, i3_eq_f, i3_add, i3_mul, i3_sub, i3_div, i3_dec, i3_m1, m1_i3, m1_eq, i3_ge0, m1_lt, i3_le_m1, ↓reduceIte, rZ_0, rZ_1, bdR_s, bdW_s, ifN_n, ifN_s, ↓fgI_s, ↓fgR_s, ↓rk_s, ↓fpI_s, ↓fpR_s, ↓fpZ_0, ↓fpZ_1, ↓alI_i, ↓alP_i, ↓asI_i, ↓asB_i, ↓asZ_0, ↓asZ_1, ↓aln_i, ↓fca_s, ↓fca_n, bdC_li, bdC_ri, mK_uI, mK_uP, mL_uI, mL_uP, mP_uI, mI_uP, mK_wI, mL_wI, mP_wI, mI_uI_e, mI_uI_c, nwO_s, mK_nA_e, mL_nA_e, fStore_isUp_E, w2, w4, w5, z]
  · rw [if_neg z] at w5
    simp (disch := (first | assumption | omega | decide | (simp only [mK_uI, mK_uP, mL_uI, mL_uP, mK_wI, mL_wI, mK_nA_e, mL_nA_e] <;> (first | assumption | omega)))) only [i3_le_t, i3_le_f, i3_lt_t, i3_lt_f, i3_eq_t, i3_eq_f, i3_add, i3_mul, i3_sub, i3_div, i3_dec, i3_m1, m1_i3, m1_eq, i3_ge0, m1_lt, i3_le_m1, ↓reduceIte, rZ_0, rZ_1, bdR_s, bdW_s, ifN_n, ifN_s, ↓fgI_s, ↓fgR_s, ↓rk_s, ↓fpI_s, ↓fpR_s, ↓fpZ_0, ↓fpZ_1, ↓alI_i, ↓alP_i, ↓asI_i, ↓asB_i, ↓asZ_0, ↓asZ_1, ↓aln_i, ↓fca_s, ↓fca_n, bdC_li, bdC_ri, mK_uI, mK_uP, mL_uI, mL_uP, mP_uI, mI_uP, mK_wI, mL_wI, mP_wI, mI_uI_e, mI_uI_c, nwO_s, mK_nA_e, mL_nA_e, fStore_isUp_E, w2, w4, w5, z]
theorem RR.setup (R : RR h own B σ M n) (hr : r < 2) {j v : Nat} (hj : j < 6) (hv : v ≤ 1) : RR h own B (uS σ 17 (6 * r + j) (i3 (1 - v))) (uI M 0 (gr h r + 2) j (i3 v)) n := by
  have f : FRM (fun t => t = 6 + r) own M own (uI M 0 (gr h r + 2) j (i3 v)) := (IOS.uI _ _ _ _).frm fun _ a z _ => by rw [z.2]; exact (R.rg r hr).o2
  have hup : ∀ r0, r0 < 2 → ∀ j0, j0 < 6 → mI (uI M 0 (gr h r + 2) j (i3 v)) 0 (gr h r0 + 2) j0 = (if uS σ 17 (6 * r + j) (i3 (1 - v)) 17 (6 * r0 + j0) = i3 0 then i3 1 else i3 0) := fun r0 hr0 j0 hj0 => by
    by_cases e : r0 = r ∧ j0 = j
    · obtain ⟨rfl, rfl⟩ := e
      rw [mI_uI_e, uS_e]
      rcases (by omega : v = 0 ∨ v = 1) with rfl | rfl
      · rw [if_neg (by decide)]
      · rw [if_pos (by decide)]
    · rw [uS_d _ _ _ _ (by omega), mI_uI, if_neg (by unfold gr; omega)]
      exact R.up r0 hr0 j0 hj0
  exact ⟨R.fr, R.k_em f, R.k_hb f, R.k_rg f, R.k_nm f (by first | omega | (intro z; dsimp only at z; omega)), R.k_dy f (by first | omega | (intro z; dsimp only at z; omega)), R.k_dm f (by first | omega | (intro z; dsimp only at z; omega)), R.k_db f (by first | omega | (intro z; dsimp only at z; omega)), R.k_nb f (by first | omega | (intro z; dsimp only at z; omega)), R.k_co f (by first | omega | (intro z; dsimp only at z; omega)), hup, fun r0 hr0 => R.k_hd f hr0 (by first | omega | (intro z; dsimp only at z; omega)), R.k_en f (by first | omega | (intro z; dsimp only at z; omega)), fun r0 hr0 => R.k_vl f hr0 (by first | omega | (intro z; dsimp only at z; omega)), fun r0 hr0 => R.k_vo f hr0 (by first | omega | (intro z; dsimp only at z; omega)), fun r0 hr0 => R.k_kl f hr0 (by first | omega | (intro z; dsimp only at z; omega)), fun r0 hr0 => R.k_pl f hr0 (by first | omega | (intro z; dsimp only at z; omega)), fun r0 hr0 => R.k_po f hr0 (by first | omega | (intro z; dsimp only at z; omega)), R.k_us f (by first | omega | (intro z; dsimp only at z; omega)), fun u0 hu0 => R.k_uo f hu0 (by first | omega | (intro z; dsimp only at z; omega)), R.k_rs f (by first | omega | (intro z; dsimp only at z; omega)), R.k_ro f (by first | omega | (intro z; dsimp only at z; omega))⟩
theorem op_node (R : RR h own B σ M n) (I : IV c σ) (x1 x2 : Int32) {v : Nat} (hv : v ≤ 1) : OPR h c σ n (fHb_node h x1 x2 (i3 v) M n) (fMd_node x1 x2 (i3 v) σ) (cdf 1 0 2) := by
  have k := R.hb.k
  have hn : n ≤ n + 1 := Nat.le_succ n
  rcases regs x1 with ⟨r, hr, rfl⟩ | ⟨h0, h1⟩
  · have q1 := c_reg (n := n) R hr
    have q2 := m_reg hr
    have q3 := (R.rg r hr).k
    have q4 := (R.rg r hr).p0
    have q5 := (R.rg r hr).ks
    by_cases hx : inR x2 0 5
    · have q7 := inR_m hx (by omega)
      obtain ⟨j, -, hj, rfl⟩ := hx
      have u1 := c_isUp R hr (j := j) (by omega)
      obtain ⟨w, hw, hwe⟩ := (I.dn (6 * r + j) (by omega)).to
      by_cases z : w = v
      · -- it goes
        subst z
        have e1 : fStore_turn (gr h r + 1) (i3 j) (i3 w) M = some ((), uI M 0 (gr h r + 2) j (i3 w)) := by
          have w2 := (R.rg r hr).s0
          have w3 := (R.rg r hr).k2
          have w4 := (R.rg r hr).l2
          clear R I
          rcases (by omega : w = 0 ∨ w = 1) with rfl | rfl
          · simp (disch := (first | assumption | omega | decide | (simp only [mK_uI, mK_uP, mL_uI, mL_uP, mK_wI, mL_wI, mK_nA_e, mL_nA_e] <;> (first | assumption | omega)))) only [i3_le_t, i3_le_f, i3_lt_t, i3_lt_f, i3_eq_t, i3_eq_f, i3_add, i3_mul, i3_sub, i3_div, i3_dec, i3_m1, m1_i3, m1_eq, i3_ge0, m1_lt, i3_le_m1, ↓reduceIte, rZ_0, rZ_1, bdR_s, bdW_s, ifN_n, ifN_s, ↓fgI_s, ↓fgR_s, ↓rk_s, ↓fpI_s, ↓fpR_s, ↓fpZ_0, ↓fpZ_1, ↓alI_i, ↓alP_i, ↓asI_i, ↓asB_i, ↓asZ_0, ↓asZ_1, ↓aln_i, ↓fca_s, ↓fca_n, bdC_li, bdC_ri, mK_uI, mK_uP, mL_uI, mL_uP, mP_uI, mI_uP, mK_wI, mL_wI, mP_wI, mI_uI_e, mI_uI_c, nwO_s, mK_nA_e, mL_nA_e, fStore_turn_E, w2, w4]
          · simp (disch := (first | assumption | omega | decide | (simp only [mK_uI, mK_uP, mL_uI, mL_uP, mK_wI, mL_wI, mK_nA_e, mL_nA_e] <;> (first | assumption | omega)))) only [i3_le_t, i3_le_f, i3_lt_t, i3_lt_f, i3_eq_t, i3_eq_f, i3_add, i3_mul, i3_sub, i3_div, i3_dec, i3_m1, m1_i3, m1_eq, i3_ge0, m1_lt, i3_le_m1, ↓reduceIte, rZ_0, rZ_1, bdR_s, bdW_s, ifN_n, ifN_s, ↓fgI_s, ↓fgR_s, ↓rk_s, ↓fpI_s, ↓fpR_s, ↓fpZ_0, ↓fpZ_1, ↓alI_i, ↓alP_i, ↓asI_i, ↓asB_i, ↓asZ_0, ↓asZ_1, ↓aln_i, ↓fca_s, ↓fca_n, bdC_li, bdC_ri, mK_uI, mK_uP, mL_uI, mL_uP, mP_uI, mI_uP, mK_wI, mL_wI, mP_wI, mI_uI_e, mI_uI_c, nwO_s, mK_nA_e, mL_nA_e, fStore_turn_E, w2, w4]
        have R2 : RR h own B (uS (uS σ 0 0 (i3 0)) 17 (6 * r + j) (i3 (1 - w))) (uI M 0 (gr h r + 2) j (i3 w)) n := RR.setup (R.scf (scf0 _)) hr (by omega) hw
        have hdn : ∀ j0, j0 < 12 → NB 1 (uS (uS σ 0 0 (i3 0)) 17 (6 * r + j) (i3 (1 - w)) 17 j0) := fun j0 hj0 => by
          by_cases e : j0 = 6 * r + j
          · rw [e, uS_e]; exact NB.of (by omega) (by omega)
          · rw [uS_d _ _ _ _ e]; exact I.dn j0 hj0
        have I2 : IV c (uS (uS σ 0 0 (i3 0)) 17 (6 * r + j) (i3 (1 - w))) := ⟨I.dr, I.db, I.ev, I.dy, I.dc, I.en, I.vn, I.vo, I.vi, I.hd, I.kn, I.ks, I.ko, I.pn, I.po, hdn, I.un, I.uo, I.uz, I.up, I.rn, I.rk⟩
        obtain ⟨P, h90, hP⟩ := (I.pn r hr).to
        rcases (by omega : w = 0 ∨ w = 1) with rfl | rfl
        · obtain ⟨k', M', σ', g1, g2, g3, g4, g5, g6, g7, g8⟩ := node_loop (h := h) (c := c) (n := n) (own := own) (B := B) hr (nd := j) (by omega) h90 P 0 0 FU FU _ _ (by omega) (FU_S (by omega)) (FU_S (by omega)) (by omega) R2 I2 hP
          refine ⟨.inl (i3 k'), M', n, i3 k', σ', ?_, ?_, ⟨by rw [g5]; rfl, rfl⟩, Nat.le_refl n, POT.same (by omega) (by omega) g6 g7 g8, own, B, g3, g4.up0⟩
          · rw [if_pos hwe] at u1
            clear R I g3 g4 R2 I2
            simp (disch := (first | assumption | omega | decide | (simp only [mK_uI, mK_uP, mL_uI, mL_uP, mK_wI, mL_wI, mK_nA_e, mL_nA_e] <;> (first | assumption | omega)))) only [i3_le_t, i3_le_f, i3_lt_t, i3_lt_f, i3_eq_t, i3_eq_f, i3_add, i3_mul, i3_sub, i3_div, i3_dec, i3_m1, m1_i3, m1_eq, i3_ge0, m1_lt, i3_le_m1, ↓reduceIte, rZ_0, rZ_1, bdR_s, bdW_s, ifN_n, ifN_s, ↓fgI_s, ↓fgR_s, ↓rk_s, ↓fpI_s, ↓fpR_s, ↓fpZ_0, ↓fpZ_1, ↓alI_i, ↓alP_i, ↓asI_i, ↓asB_i, ↓asZ_0, ↓asZ_1, ↓aln_i, ↓fca_s, ↓fca_n, bdC_li, bdC_ri, mK_uI, mK_uP, mL_uI, mL_uP, mP_uI, mI_uP, mK_wI, mL_wI, mP_wI, mI_uI_e, mI_uI_c, nwO_s, mK_nA_e, mL_nA_e, fHb_node_E, q1, q4, fHb_node_j25_E, c_idx1, u1, fHb_node_j43_E, c_st1, e1, fStore_loseShardsOn_E, g1]
          · have e5 : 5 * (90 * r + 0) = 450 * r := by omega
            rw [e5] at g2
            have g2' : fMd_node_l91 FU (i3 r) (i3 j) (i3 0) (i3 0) (i3 (450 * r)) (uS (uS σ 0 0 (i3 0)) 17 (6 * r + j) (i3 1)) = some (i3 k', σ') := g2
            clear R I g3 g4 R2 I2 g2
            simp (disch := (first | assumption | omega | decide | (simp only [mK_uI, mK_uP, mL_uI, mL_uP, mK_wI, mL_wI, mK_nA_e, mL_nA_e] <;> (first | assumption | omega)))) only [i3_le_t, i3_le_f, i3_lt_t, i3_lt_f, i3_eq_t, i3_eq_f, i3_add, i3_mul, i3_sub, i3_div, i3_dec, i3_m1, m1_i3, m1_eq, i3_ge0, m1_lt, i3_le_m1, ↓reduceIte, rZ_0, rZ_1, bdR_s, bdW_s, ifN_n, ifN_s, uS_n, uS_e, uS_d, ↓mgF_s, ↓mpF_s, ↓mgA_2, ↓mgA_4, ↓mgA_6, ↓mgA_7, ↓mgA_9, ↓mgA_10, ↓mgA_12, ↓mgA_14, ↓mgA_15, ↓mgA_16, ↓mgA_17, ↓mgA_18, ↓mgA_19, ↓mgA_20, ↓mgA_21, ↓mgA_22, ↓mgA_23, ↓mgA_24, ↓mgA_25, ↓mgA_26, ↓mgA_27, ↓mgA_28, ↓mgA_29, ↓mgA_30, ↓mgA_31, ↓mgA_32, ↓mgA_33, ↓mgA_34, ↓mgA_35, ↓mgA_36, ↓mgA_37, ↓mgA_38, ↓mgA_39, ↓mgA_41, ↓mgA_42, ↓mgA_43, ↓mgA_44, ↓mgA_45, ↓mgA_46, ↓mpA_2, ↓mpA_4, ↓mpA_6, ↓mpA_7, ↓mpA_9, ↓mpA_10, ↓mpA_12, ↓mpA_14, ↓mpA_15, ↓mpA_16, ↓mpZ_17, ↓mpA_18, ↓mpZ_19, ↓mpA_20, ↓mpA_21, ↓mpA_22, ↓mpA_23, ↓mpA_24, ↓mpZ_25, ↓mpA_26, ↓mpA_27, ↓mpA_28, ↓mpA_29, ↓mpA_30, ↓mpA_31, ↓mpA_32, ↓mpA_33, ↓mpA_34, ↓mpZ_35, ↓mpA_36, ↓mpA_37, ↓mpA_38, ↓mpA_39, ↓mpA_41, ↓mpA_42, ↓mpZ_43, ↓mpA_44, ↓mpA_45, ↓mpA_46, fMd_node_E, q2, q7, fMd_node_j21_E, hwe, fMd_node_j53_E, m_holds0, fMd_node_j80_E, g2']
        · refine ⟨.inl (i3 0), uI M 0 (gr h r + 2) j (i3 1), n, i3 0, uS (uS σ 0 0 (i3 0)) 17 (6 * r + j) (i3 0), ?_, ?_, ⟨rfl, rfl⟩, Nat.le_refl n, POT.same (by omega) (by omega) rfl rfl rfl, own, B, R2, I2.up0⟩
          · have hw0 : ¬ σ 17 (6 * r + j) = i3 0 := by rw [hwe]; decide
            rw [if_neg hw0] at u1
            clear R I R2 I2
            simp (disch := (first | assumption | omega | decide | (simp only [mK_uI, mK_uP, mL_uI, mL_uP, mK_wI, mL_wI, mK_nA_e, mL_nA_e] <;> (first | assumption | omega)))) only [i3_le_t, i3_le_f, i3_lt_t, i3_lt_f, i3_eq_t, i3_eq_f, i3_add, i3_mul, i3_sub, i3_div, i3_dec, i3_m1, m1_i3, m1_eq, i3_ge0, m1_lt, i3_le_m1, ↓reduceIte, rZ_0, rZ_1, bdR_s, bdW_s, ifN_n, ifN_s, ↓fgI_s, ↓fgR_s, ↓rk_s, ↓fpI_s, ↓fpR_s, ↓fpZ_0, ↓fpZ_1, ↓alI_i, ↓alP_i, ↓asI_i, ↓asB_i, ↓asZ_0, ↓asZ_1, ↓aln_i, ↓fca_s, ↓fca_n, bdC_li, bdC_ri, mK_uI, mK_uP, mL_uI, mL_uP, mP_uI, mI_uP, mK_wI, mL_wI, mP_wI, mI_uI_e, mI_uI_c, nwO_s, mK_nA_e, mL_nA_e, fHb_node_E, q1, q4, fHb_node_j25_E, c_idx1, u1, fHb_node_j43_E, c_st1, e1]
          · have st : ∀ f, fMd_node_l91 (f + 1) (i3 r) (i3 j) (i3 1) (i3 0) (i3 (450 * r)) (uS (uS σ 0 0 (i3 0)) 17 (6 * r + j) (i3 0)) = some (i3 0, uS (uS σ 0 0 (i3 0)) 17 (6 * r + j) (i3 0)) := fun f => by
              rw [fMd_node_l91_S, fMd_node_b91_E]
              clear R I R2 I2
              by_cases y : P = 0
              · simp (disch := (first | assumption | omega | decide | (simp only [mK_uI, mK_uP, mL_uI, mL_uP, mK_wI, mL_wI, mK_nA_e, mL_nA_e] <;> (first | assumption | omega)))) only [i3_le_t, i3_le_f, i3_lt_t, i3_lt_f, i3_eq_t, i3_eq_f, i3_add, i3_mul, i3_sub, i3_div, i3_dec, i3_m1, m1_i3, m1_eq, i3_ge0, m1_lt, i3_le_m1, ↓reduceIte, rZ_0, rZ_1, bdR_s, bdW_s, ifN_n, ifN_s, uS_n, uS_e, uS_d, ↓mgF_s, ↓mpF_s, ↓mgA_2, ↓mgA_4, ↓mgA_6, ↓mgA_7, ↓mgA_9, ↓mgA_10, ↓mgA_12, ↓mgA_14, ↓mgA_15, ↓mgA_16, ↓mgA_17, ↓mgA_18, ↓mgA_19, ↓mgA_20, ↓mgA_21, ↓mgA_22, ↓mgA_23, ↓mgA_24, ↓mgA_25, ↓mgA_26, ↓mgA_27, ↓mgA_28, ↓mgA_29, ↓mgA_30, ↓mgA_31, ↓mgA_32, ↓mgA_33, ↓mgA_34, ↓mgA_35, ↓mgA_36, ↓mgA_37, ↓mgA_38, ↓mgA_39, ↓mgA_41, ↓mgA_42, ↓mgA_43, ↓mgA_44, ↓mgA_45, ↓mgA_46, ↓mpA_2, ↓mpA_4, ↓mpA_6, ↓mpA_7, ↓mpA_9, ↓mpA_10, ↓mpA_12, ↓mpA_14, ↓mpA_15, ↓mpA_16, ↓mpZ_17, ↓mpA_18, ↓mpZ_19, ↓mpA_20, ↓mpA_21, ↓mpA_22, ↓mpA_23, ↓mpA_24, ↓mpZ_25, ↓mpA_26, ↓mpA_27, ↓mpA_28, ↓mpA_29, ↓mpA_30, ↓mpA_31, ↓mpA_32, ↓mpA_33, ↓mpA_34, ↓mpZ_35, ↓mpA_36, ↓mpA_37, ↓mpA_38, ↓mpA_39, ↓mpA_41, ↓mpA_42, ↓mpZ_43, ↓mpA_44, ↓mpA_45, ↓mpA_46, hP, y]
              · simp (disch := (first | assumption | omega | decide | (simp only [mK_uI, mK_uP, mL_uI, mL_uP, mK_wI, mL_wI, mK_nA_e, mL_nA_e] <;> (first | assumption | omega)))) only [i3_le_t, i3_le_f, i3_lt_t, i3_lt_f, i3_eq_t, i3_eq_f, i3_add, i3_mul, i3_sub, i3_div, i3_dec, i3_m1, m1_i3, m1_eq, i3_ge0, m1_lt, i3_le_m1, ↓reduceIte, rZ_0, rZ_1, bdR_s, bdW_s, ifN_n, ifN_s, uS_n, uS_e, uS_d, ↓mgF_s, ↓mpF_s, ↓mgA_2, ↓mgA_4, ↓mgA_6, ↓mgA_7, ↓mgA_9, ↓mgA_10, ↓mgA_12, ↓mgA_14, ↓mgA_15, ↓mgA_16, ↓mgA_17, ↓mgA_18, ↓mgA_19, ↓mgA_20, ↓mgA_21, ↓mgA_22, ↓mgA_23, ↓mgA_24, ↓mgA_25, ↓mgA_26, ↓mgA_27, ↓mgA_28, ↓mgA_29, ↓mgA_30, ↓mgA_31, ↓mgA_32, ↓mgA_33, ↓mgA_34, ↓mgA_35, ↓mgA_36, ↓mgA_37, ↓mgA_38, ↓mgA_39, ↓mgA_41, ↓mgA_42, ↓mgA_43, ↓mgA_44, ↓mgA_45, ↓mgA_46, ↓mpA_2, ↓mpA_4, ↓mpA_6, ↓mpA_7, ↓mpA_9, ↓mpA_10, ↓mpA_12, ↓mpA_14, ↓mpA_15, ↓mpA_16, ↓mpZ_17, ↓mpA_18, ↓mpZ_19, ↓mpA_20, ↓mpA_21, ↓mpA_22, ↓mpA_23, ↓mpA_24, ↓mpZ_25, ↓mpA_26, ↓mpA_27, ↓mpA_28, ↓mpA_29, ↓mpA_30, ↓mpA_31, ↓mpA_32, ↓mpA_33, ↓mpA_34, ↓mpZ_35, ↓mpA_36, ↓mpA_37, ↓mpA_38, ↓mpA_39, ↓mpA_41, ↓mpA_42, ↓mpZ_43, ↓mpA_44, ↓mpA_45, ↓mpA_46, hP]
            have st2 : fMd_node_l91 FU (i3 r) (i3 j) (i3 1) (i3 0) (i3 (450 * r)) (uS (uS σ 0 0 (i3 0)) 17 (6 * r + j) (i3 0)) = _ := st 99999
            clear R I R2 I2
            simp (disch := (first | assumption | omega | decide | (simp only [mK_uI, mK_uP, mL_uI, mL_uP, mK_wI, mL_wI, mK_nA_e, mL_nA_e] <;> (first | assumption | omega)))) only [i3_le_t, i3_le_f, i3_lt_t, i3_lt_f, i3_eq_t, i3_eq_f, i3_add, i3_mul, i3_sub, i3_div, i3_dec, i3_m1, m1_i3, m1_eq, i3_ge0, m1_lt, i3_le_m1, ↓reduceIte, rZ_0, rZ_1, bdR_s, bdW_s, ifN_n, ifN_s, uS_n, uS_e, uS_d, ↓mgF_s, ↓mpF_s, ↓mgA_2, ↓mgA_4, ↓mgA_6, ↓mgA_7, ↓mgA_9, ↓mgA_10, ↓mgA_12, ↓mgA_14, ↓mgA_15, ↓mgA_16, ↓mgA_17, ↓mgA_18, ↓mgA_19, ↓mgA_20, ↓mgA_21, ↓mgA_22, ↓mgA_23, ↓mgA_24, ↓mgA_25, ↓mgA_26, ↓mgA_27, ↓mgA_28, ↓mgA_29, ↓mgA_30, ↓mgA_31, ↓mgA_32, ↓mgA_33, ↓mgA_34, ↓mgA_35, ↓mgA_36, ↓mgA_37, ↓mgA_38, ↓mgA_39, ↓mgA_41, ↓mgA_42, ↓mgA_43, ↓mgA_44, ↓mgA_45, ↓mgA_46, ↓mpA_2, ↓mpA_4, ↓mpA_6, ↓mpA_7, ↓mpA_9, ↓mpA_10, ↓mpA_12, ↓mpA_14, ↓mpA_15, ↓mpA_16, ↓mpZ_17, ↓mpA_18, ↓mpZ_19, ↓mpA_20, ↓mpA_21, ↓mpA_22, ↓mpA_23, ↓mpA_24, ↓mpZ_25, ↓mpA_26, ↓mpA_27, ↓mpA_28, ↓mpA_29, ↓mpA_30, ↓mpA_31, ↓mpA_32, ↓mpA_33, ↓mpA_34, ↓mpZ_35, ↓mpA_36, ↓mpA_37, ↓mpA_38, ↓mpA_39, ↓mpA_41, ↓mpA_42, ↓mpZ_43, ↓mpA_44, ↓mpA_45, ↓mpA_46, fMd_node_E, q2, q7, fMd_node_j21_E, hwe, fMd_node_j53_E, m_holds0, fMd_node_j80_E, st2]
      · have u2 : fStore_isUp (gr h r + 1) (i3 j) M = some (i3 v) := by
          rw [u1]
          rcases (by omega : w = 0 ∨ w = 1) with rfl | rfl
          · have : v = 1 := by omega
            rw [if_pos hwe, this]
          · have : v = 0 := by omega
            rw [if_neg (by rw [hwe]; decide), this]
        refine OPR.err R I 2 2 (v := i3 0) ?_ ?_ rfl (by omega) (by omega)
        · clear R I
          simp (disch := (first | assumption | omega | decide | (simp only [mK_uI, mK_uP, mL_uI, mL_uP, mK_wI, mL_wI, mK_nA_e, mL_nA_e] <;> (first | assumption | omega)))) only [i3_le_t, i3_le_f, i3_lt_t, i3_lt_f, i3_eq_t, i3_eq_f, i3_add, i3_mul, i3_sub, i3_div, i3_dec, i3_m1, m1_i3, m1_eq, i3_ge0, m1_lt, i3_le_m1, ↓reduceIte, rZ_0, rZ_1, bdR_s, bdW_s, ifN_n, ifN_s, ↓fgI_s, ↓fgR_s, ↓rk_s, ↓fpI_s, ↓fpR_s, ↓fpZ_0, ↓fpZ_1, ↓alI_i, ↓alP_i, ↓asI_i, ↓asB_i, ↓asZ_0, ↓asZ_1, ↓aln_i, ↓fca_s, ↓fca_n, bdC_li, bdC_ri, mK_uI, mK_uP, mL_uI, mL_uP, mP_uI, mI_uP, mK_wI, mL_wI, mP_wI, mI_uI_e, mI_uI_c, nwO_s, mK_nA_e, mL_nA_e, fHb_node_E, q1, q4, fHb_node_j25_E, c_idx1, u2, fHb_node_j43_E, c_st0]
        · clear R I
          simp (disch := (first | assumption | omega | decide | (simp only [mK_uI, mK_uP, mL_uI, mL_uP, mK_wI, mL_wI, mK_nA_e, mL_nA_e] <;> (first | assumption | omega)))) only [i3_le_t, i3_le_f, i3_lt_t, i3_lt_f, i3_eq_t, i3_eq_f, i3_add, i3_mul, i3_sub, i3_div, i3_dec, i3_m1, m1_i3, m1_eq, i3_ge0, m1_lt, i3_le_m1, ↓reduceIte, rZ_0, rZ_1, bdR_s, bdW_s, ifN_n, ifN_s, uS_n, uS_e, uS_d, ↓mgF_s, ↓mpF_s, ↓mgA_2, ↓mgA_4, ↓mgA_6, ↓mgA_7, ↓mgA_9, ↓mgA_10, ↓mgA_12, ↓mgA_14, ↓mgA_15, ↓mgA_16, ↓mgA_17, ↓mgA_18, ↓mgA_19, ↓mgA_20, ↓mgA_21, ↓mgA_22, ↓mgA_23, ↓mgA_24, ↓mgA_25, ↓mgA_26, ↓mgA_27, ↓mgA_28, ↓mgA_29, ↓mgA_30, ↓mgA_31, ↓mgA_32, ↓mgA_33, ↓mgA_34, ↓mgA_35, ↓mgA_36, ↓mgA_37, ↓mgA_38, ↓mgA_39, ↓mgA_41, ↓mgA_42, ↓mgA_43, ↓mgA_44, ↓mgA_45, ↓mgA_46, ↓mpA_2, ↓mpA_4, ↓mpA_6, ↓mpA_7, ↓mpA_9, ↓mpA_10, ↓mpA_12, ↓mpA_14, ↓mpA_15, ↓mpA_16, ↓mpZ_17, ↓mpA_18, ↓mpZ_19, ↓mpA_20, ↓mpA_21, ↓mpA_22, ↓mpA_23, ↓mpA_24, ↓mpZ_25, ↓mpA_26, ↓mpA_27, ↓mpA_28, ↓mpA_29, ↓mpA_30, ↓mpA_31, ↓mpA_32, ↓mpA_33, ↓mpA_34, ↓mpZ_35, ↓mpA_36, ↓mpA_37, ↓mpA_38, ↓mpA_39, ↓mpA_41, ↓mpA_42, ↓mpZ_43, ↓mpA_44, ↓mpA_45, ↓mpA_46, fMd_node_E, q2, q7, fMd_node_j21_E, hwe, fMd_node_j53_E, m_holdsk]
    · have q7 := noR_m hx (by omega) (by omega)
      refine OPR.err R I 0 1 (v := i3 0) ?_ ?_ rfl (by omega) (by omega)
      · rcases i3_cases x2 with a | ⟨j, hj, rfl⟩
        · clear R I
          simp (disch := (first | assumption | omega | decide | (simp only [mK_uI, mK_uP, mL_uI, mL_uP, mK_wI, mL_wI, mK_nA_e, mL_nA_e] <;> (first | assumption | omega)))) only [i3_le_t, i3_le_f, i3_lt_t, i3_lt_f, i3_eq_t, i3_eq_f, i3_add, i3_mul, i3_sub, i3_div, i3_dec, i3_m1, m1_i3, m1_eq, i3_ge0, m1_lt, i3_le_m1, ↓reduceIte, rZ_0, rZ_1, bdR_s, bdW_s, ifN_n, ifN_s, ↓fgI_s, ↓fgR_s, ↓rk_s, ↓fpI_s, ↓fpR_s, ↓fpZ_0, ↓fpZ_1, ↓alI_i, ↓alP_i, ↓asI_i, ↓asB_i, ↓asZ_0, ↓asZ_1, ↓aln_i, ↓fca_s, ↓fca_n, bdC_li, bdC_ri, mK_uI, mK_uP, mL_uI, mL_uP, mP_uI, mI_uP, mK_wI, mL_wI, mP_wI, mI_uI_e, mI_uI_c, nwO_s, mK_nA_e, mL_nA_e, fHb_node_E, q1, q4, a, fHb_node_j24_E, fHb_node_j25_E, c_idx0]
        · have hj6 : 6 ≤ j := by
            by_cases y : j < 6
            · exact absurd ⟨j, by omega, by omega, rfl⟩ hx
            · omega
          clear R I
          simp (disch := (first | assumption | omega | decide | (simp only [mK_uI, mK_uP, mL_uI, mL_uP, mK_wI, mL_wI, mK_nA_e, mL_nA_e] <;> (first | assumption | omega)))) only [i3_le_t, i3_le_f, i3_lt_t, i3_lt_f, i3_eq_t, i3_eq_f, i3_add, i3_mul, i3_sub, i3_div, i3_dec, i3_m1, m1_i3, m1_eq, i3_ge0, m1_lt, i3_le_m1, ↓reduceIte, rZ_0, rZ_1, bdR_s, bdW_s, ifN_n, ifN_s, ↓fgI_s, ↓fgR_s, ↓rk_s, ↓fpI_s, ↓fpR_s, ↓fpZ_0, ↓fpZ_1, ↓alI_i, ↓alP_i, ↓asI_i, ↓asB_i, ↓asZ_0, ↓asZ_1, ↓aln_i, ↓fca_s, ↓fca_n, bdC_li, bdC_ri, mK_uI, mK_uP, mL_uI, mL_uP, mP_uI, mI_uP, mK_wI, mL_wI, mP_wI, mI_uI_e, mI_uI_c, nwO_s, mK_nA_e, mL_nA_e, fHb_node_E, q1, q4, fHb_node_j24_E, fHb_node_j25_E, c_idx0]
      · clear R I
        simp (disch := (first | assumption | omega | decide | (simp only [mK_uI, mK_uP, mL_uI, mL_uP, mK_wI, mL_wI, mK_nA_e, mL_nA_e] <;> (first | assumption | omega)))) only [i3_le_t, i3_le_f, i3_lt_t, i3_lt_f, i3_eq_t, i3_eq_f, i3_add, i3_mul, i3_sub, i3_div, i3_dec, i3_m1, m1_i3, m1_eq, i3_ge0, m1_lt, i3_le_m1, ↓reduceIte, rZ_0, rZ_1, bdR_s, bdW_s, ifN_n, ifN_s, uS_n, uS_e, uS_d, ↓mgF_s, ↓mpF_s, ↓mgA_2, ↓mgA_4, ↓mgA_6, ↓mgA_7, ↓mgA_9, ↓mgA_10, ↓mgA_12, ↓mgA_14, ↓mgA_15, ↓mgA_16, ↓mgA_17, ↓mgA_18, ↓mgA_19, ↓mgA_20, ↓mgA_21, ↓mgA_22, ↓mgA_23, ↓mgA_24, ↓mgA_25, ↓mgA_26, ↓mgA_27, ↓mgA_28, ↓mgA_29, ↓mgA_30, ↓mgA_31, ↓mgA_32, ↓mgA_33, ↓mgA_34, ↓mgA_35, ↓mgA_36, ↓mgA_37, ↓mgA_38, ↓mgA_39, ↓mgA_41, ↓mgA_42, ↓mgA_43, ↓mgA_44, ↓mgA_45, ↓mgA_46, ↓mpA_2, ↓mpA_4, ↓mpA_6, ↓mpA_7, ↓mpA_9, ↓mpA_10, ↓mpA_12, ↓mpA_14, ↓mpA_15, ↓mpA_16, ↓mpZ_17, ↓mpA_18, ↓mpZ_19, ↓mpA_20, ↓mpA_21, ↓mpA_22, ↓mpA_23, ↓mpA_24, ↓mpZ_25, ↓mpA_26, ↓mpA_27, ↓mpA_28, ↓mpA_29, ↓mpA_30, ↓mpA_31, ↓mpA_32, ↓mpA_33, ↓mpA_34, ↓mpZ_35, ↓mpA_36, ↓mpA_37, ↓mpA_38, ↓mpA_39, ↓mpA_41, ↓mpA_42, ↓mpZ_43, ↓mpA_44, ↓mpA_45, ↓mpA_46, fMd_node_E, q2, q7, fMd_node_j20_E, fMd_node_j21_E, fMd_node_j53_E, m_holdsk]
  · have q1 := c_noreg (h := h) (M := M) (n := n) h0 h1
    have q2 := m_noreg h0 h1
    refine OPR.err R I 0 1 (v := i3 0) ?_ ?_ rfl (by omega) (by omega)
    · simp (disch := (first | assumption | omega | decide | (simp only [mK_uI, mK_uP, mL_uI, mL_uP, mK_wI, mL_wI, mK_nA_e, mL_nA_e] <;> (first | assumption | omega)))) only [i3_le_t, i3_le_f, i3_lt_t, i3_lt_f, i3_eq_t, i3_eq_f, i3_add, i3_mul, i3_sub, i3_div, i3_dec, i3_m1, m1_i3, m1_eq, i3_ge0, m1_lt, i3_le_m1, ↓reduceIte, rZ_0, rZ_1, bdR_s, bdW_s, ifN_n, ifN_s, ↓fgI_s, ↓fgR_s, ↓rk_s, ↓fpI_s, ↓fpR_s, ↓fpZ_0, ↓fpZ_1, ↓alI_i, ↓alP_i, ↓asI_i, ↓asB_i, ↓asZ_0, ↓asZ_1, ↓aln_i, ↓fca_s, ↓fca_n, bdC_li, bdC_ri, mK_uI, mK_uP, mL_uI, mL_uP, mP_uI, mI_uP, mK_wI, mL_wI, mP_wI, mI_uI_e, mI_uI_c, nwO_s, mK_nA_e, mL_nA_e, fHb_node_E, q1]
    · simp (disch := (first | assumption | omega | decide | (simp only [mK_uI, mK_uP, mL_uI, mL_uP, mK_wI, mL_wI, mK_nA_e, mL_nA_e] <;> (first | assumption | omega)))) only [i3_le_t, i3_le_f, i3_lt_t, i3_lt_f, i3_eq_t, i3_eq_f, i3_add, i3_mul, i3_sub, i3_div, i3_dec, i3_m1, m1_i3, m1_eq, i3_ge0, m1_lt, i3_le_m1, ↓reduceIte, rZ_0, rZ_1, bdR_s, bdW_s, ifN_n, ifN_s, uS_n, uS_e, uS_d, ↓mgF_s, ↓mpF_s, ↓mgA_2, ↓mgA_4, ↓mgA_6, ↓mgA_7, ↓mgA_9, ↓mgA_10, ↓mgA_12, ↓mgA_14, ↓mgA_15, ↓mgA_16, ↓mgA_17, ↓mgA_18, ↓mgA_19, ↓mgA_20, ↓mgA_21, ↓mgA_22, ↓mgA_23, ↓mgA_24, ↓mgA_25, ↓mgA_26, ↓mgA_27, ↓mgA_28, ↓mgA_29, ↓mgA_30, ↓mgA_31, ↓mgA_32, ↓mgA_33, ↓mgA_34, ↓mgA_35, ↓mgA_36, ↓mgA_37, ↓mgA_38, ↓mgA_39, ↓mgA_41, ↓mgA_42, ↓mgA_43, ↓mgA_44, ↓mgA_45, ↓mgA_46, ↓mpA_2, ↓mpA_4, ↓mpA_6, ↓mpA_7, ↓mpA_9, ↓mpA_10, ↓mpA_12, ↓mpA_14, ↓mpA_15, ↓mpA_16, ↓mpZ_17, ↓mpA_18, ↓mpZ_19, ↓mpA_20, ↓mpA_21, ↓mpA_22, ↓mpA_23, ↓mpA_24, ↓mpZ_25, ↓mpA_26, ↓mpA_27, ↓mpA_28, ↓mpA_29, ↓mpA_30, ↓mpA_31, ↓mpA_32, ↓mpA_33, ↓mpA_34, ↓mpZ_35, ↓mpA_36, ↓mpA_37, ↓mpA_38, ↓mpA_39, ↓mpA_41, ↓mpA_42, ↓mpZ_43, ↓mpA_44, ↓mpA_45, ↓mpA_46, fMd_node_E, q2, fMd_node_j20_E, fMd_node_j21_E, fMd_node_j53_E, m_holdsk]
end ND

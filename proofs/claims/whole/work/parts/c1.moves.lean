set_option maxRecDepth 100000
/-! lists: out of one; versions move down -/
section RE
variable {h c n r : Nat} {own : Nat → Nat} {B : BK} {σ σ' : Sg} {M M' : Mm} {l t len : Nat} {f : Nat → Nat}
theorem remove_i (h : LST own M l t len f) (el : ELS own M len f) (ht : 12 < t) {i : Nat} (hi : i < len) : ∃ M', fAl_remove l (i3 i) M = some (some (f i), M') ∧ FRM (fun y => y = t) own M own M' ∧ LST own M' l t (len - 1) (fun j => if j < i then f j else f (j + 1)) := by
  have hle := h.le
  obtain ⟨h1, h2, h3, rw0, h4, h5, h6⟩ := h
  rcases h5 with h5 | ⟨k1, k2, k3, k4, k5⟩
  · omega
  have hgi := h6 i hi
  have s1 : len - (len - 1) = 1 := by omega
  have fin : ∀ M2 : Mm, (∀ a, mK M2 a = mK M a) → (∀ a, mL M2 a = mL M a) → (∀ cc a j, mI M2 cc a j = mI (uI M 1200 l 0 (mI M 1200 l 0 + i3 1)) cc a j) → (∀ cc a j, mP M2 cc a j = if cc = 0 ∧ a = rw0 ∧ i ≤ j ∧ j < len - 1 then mP M 0 rw0 (j + 1) else mP M cc a j) → fAl_fastRemove_j34 l (some rw0) (i3 (len - 1)) M2 = some ((), uP (uI M2 1202 l 0 (i3 (len - 1))) 0 rw0 (len - 1) none) ∧ FRM (fun y => y = t) own M own (uP (uI M2 1202 l 0 (i3 (len - 1))) 0 rw0 (len - 1) none) ∧ LST own (uP (uI M2 1202 l 0 (i3 (len - 1))) 0 rw0 (len - 1) none) l t (len - 1) (fun j => if j < i then f j else f (j + 1)) := by
    intro M2 gK gL gI gP
    refine ⟨?_, fun a ha => ⟨rfl, fun hT => ?_, fun h12 => ?_⟩, ?_⟩
    · have q1 : mK M2 l = 12 := (gK _).trans h1
      have q2 : mK (uI M2 1202 l 0 (i3 (len - 1))) rw0 = 23 := (gK _).trans k1
      have q3 : len - 1 < mL (uI M2 1202 l 0 (i3 (len - 1))) rw0 := by show len - 1 < mL M2 rw0; rw [gL]; omega
      have q4 : pok 23 none (uI M2 1202 l 0 (i3 (len - 1))) = true := rfl
      clear gK gL gI gP el h6
      simp (disch := (first | assumption | omega | decide | (simp only [mK_uI, mK_uP, mL_uI, mL_uP, mK_wI, mL_wI, mK_nA_e, mL_nA_e] <;> (first | assumption | omega)))) only [i3_le_t, i3_le_f, i3_lt_t, i3_lt_f, i3_eq_t, i3_eq_f, i3_add, i3_mul, i3_sub, i3_div, i3_dec, i3_m1, m1_i3, m1_eq, i3_ge0, m1_lt, i3_le_m1, ↓reduceIte, rZ_0, rZ_1, bdR_s, bdW_s, ifN_n, ifN_s, ↓fgI_s, ↓fgR_s, ↓rk_s, ↓fpI_s, ↓fpR_s, ↓fpZ_0, ↓fpZ_1, ↓alI_i, ↓alP_i, ↓asI_i, ↓asB_i, ↓asZ_0, ↓asZ_1, ↓aln_i, ↓fca_s, ↓fca_n, bdC_li, bdC_ri, mK_uI, mK_uP, mL_uI, mL_uP, mP_uI, mI_uP, mK_wI, mL_wI, mP_wI, mI_uI_e, mI_uI_c, nwO_s, mK_nA_e, mL_nA_e, fAl_fastRemove_j34_E, ↓asP_i]
    · have d1 : a ≠ l := fun z => hT (by rw [z]; exact h2)
      have d2 : a ≠ rw0 := fun z => hT (by rw [z]; exact k2)
      refine ⟨gK a, gL a, fun cc j => ?_, fun cc j => ?_⟩
      · rw [mP_uP, if_neg (fun z => d2 z.2.1), mP_uI, gP, if_neg (fun z => d2 z.2.1)]
      · rw [mI_uP, mI_uI_a _ _ _ _ d1, gI, mI_uI_a _ _ _ _ d1]
    · have d2 : a ≠ rw0 := fun z => by rw [z] at h12; omega
      refine ⟨gK a, gL a, fun cc j => ?_⟩
      rw [mP_uP, if_neg (fun z => d2 z.2.1), mP_uI, gP, if_neg (fun z => d2 z.2.1)]
    · refine ⟨(gK _).trans h1, h2, ?_, rw0, ?_, Or.inr ⟨(gK _).trans k1, k2, ?_, ?_, ?_⟩, fun j hj => ?_⟩
      · rw [mI_uP, mI_uI_e]
      · rw [mP_uP, if_neg (by omega), mP_uI, gP, if_neg (by omega)]; exact h4
      · show 0 < mL M2 rw0; rw [gL]; exact k3
      · show len - 1 ≤ mL M2 rw0; rw [gL]; omega
      · show mL M2 rw0 ≤ 300; rw [gL]; exact k5
      · rw [mP_uP, if_neg (by omega), mP_uI, gP]
        by_cases z : j < i
        · rw [if_neg (by omega), h6 j (by omega)]; exact congrArg some (if_pos z).symm
        · rw [if_pos (by omega), h6 (j + 1) (by omega)]; exact congrArg some (if_neg z).symm
  have hp : ∀ x, x < len - 1 - i → pok 23 (mP (uI M 1200 l 0 (mI M 1200 l 0 + i3 1)) 0 rw0 (i + 1 + x)) (uI M 1200 l 0 (mI M 1200 l 0 + i3 1)) = true := fun x hx => by
    have e1 : mP (uI M 1200 l 0 (mI M 1200 l 0 + i3 1)) 0 rw0 (i + 1 + x) = some (f (i + 1 + x)) := h6 _ (by omega)
    rw [e1]
    obtain ⟨-, y2, y3⟩ := el (i + 1 + x) (by omega)
    exact pok_s y2 y3
  by_cases z : len - 1 ≤ i
  · obtain ⟨f1, f2, f3⟩ := fin (uI M 1200 l 0 (mI M 1200 l 0 + i3 1)) (fun _ => rfl) (fun _ => rfl) (fun _ _ _ => rfl) (fun cc a j => by rw [if_neg (by omega)]; rfl)
    refine ⟨_, ?_, f2, f3⟩
    have q1 : mI (uI M 1200 l 0 (mI M 1200 l 0 + i3 1)) 1202 l 0 = i3 len := by rw [mI_uI_c _ _ _ _ (by decide)]; exact h3
    generalize hM2 : uI M 1200 l 0 (mI M 1200 l 0 + i3 1) = M2 at *
    have q0 : mK M2 l = 12 := by rw [← hM2]; exact h1
    clear fin f2 f3 hp el h6
    simp (disch := (first | assumption | omega | decide | (simp only [mK_uI, mK_uP, mL_uI, mL_uP, mK_wI, mL_wI, mK_nA_e, mL_nA_e] <;> (first | assumption | omega)))) only [i3_le_t, i3_le_f, i3_lt_t, i3_lt_f, i3_eq_t, i3_eq_f, i3_add, i3_mul, i3_sub, i3_div, i3_dec, i3_m1, m1_i3, m1_eq, i3_ge0, m1_lt, i3_le_m1, ↓reduceIte, rZ_0, rZ_1, bdR_s, bdW_s, ifN_n, ifN_s, ↓fgI_s, ↓fgR_s, ↓rk_s, ↓fpI_s, ↓fpR_s, ↓fpZ_0, ↓fpZ_1, ↓alI_i, ↓alP_i, ↓asI_i, ↓asB_i, ↓asZ_0, ↓asZ_1, ↓aln_i, ↓fca_s, ↓fca_n, bdC_li, bdC_ri, mK_uI, mK_uP, mL_uI, mL_uP, mP_uI, mI_uP, mK_wI, mL_wI, mP_wI, mI_uI_e, mI_uI_c, nwO_s, mK_nA_e, mL_nA_e, fAl_remove_E, h3, fOb_checkIndex_E, fPc_checkIndex_E, h4, hgi, fAl_fastRemove_E, hM2, q1, f1]
  · obtain ⟨M2, hM2⟩ : ∃ M2, M2 = uI M 1200 l 0 (mI M 1200 l 0 + i3 1) := ⟨_, rfl⟩
    rw [← hM2] at hp
    have qK : ∀ a, mK M2 a = mK M a := fun a => by rw [hM2]; rfl
    have qL : ∀ a, mL M2 a = mL M a := fun a => by rw [hM2]; rfl
    have a1 : mK M2 rw0 = 23 := (qK _).trans k1
    have a2 : 0 < mL M2 rw0 := by rw [qL]; exact k3
    have a3 : i + 1 + (len - 1 - i) ≤ mL M2 rw0 := by rw [qL]; omega
    have a4 : i + (len - 1 - i) ≤ mL M2 rw0 := by rw [qL]; omega
    have a5 : mL M2 rw0 ≤ 300 := by rw [qL]; exact k5
    obtain ⟨f1, f2, f3⟩ := fin (mC M2 rw0 rw0 (i + 1) i (len - 1 - i)) (fun a => qK a) (fun a => qL a) (fun cc a j => by rw [mI_mC, hM2]) (fun cc a j => by
      rw [mP_mC]
      by_cases y : cc = 0 ∧ a = rw0 ∧ i ≤ j ∧ j < len - 1
      · rw [if_pos (by omega), if_pos y]
        have e2 : i + 1 + (j - i) = j + 1 := by omega
        rw [e2, hM2]; rfl
      · rw [if_neg (by omega), if_neg y, hM2]; rfl)
    refine ⟨_, ?_, f2, f3⟩
    have q1 : mI M2 1202 l 0 = i3 len := by rw [hM2, mI_uI_c _ _ _ _ (by decide)]; exact h3
    have q0 : mK M2 l = 12 := (qK _).trans h1
    clear fin f2 f3 el h6 qK qL
    simp (disch := (first | assumption | omega | decide | (simp only [mK_uI, mK_uP, mL_uI, mL_uP, mK_wI, mL_wI, mK_nA_e, mL_nA_e] <;> (first | assumption | omega)))) only [i3_le_t, i3_le_f, i3_lt_t, i3_lt_f, i3_eq_t, i3_eq_f, i3_add, i3_mul, i3_sub, i3_div, i3_dec, i3_m1, m1_i3, m1_eq, i3_ge0, m1_lt, i3_le_m1, ↓reduceIte, rZ_0, rZ_1, bdR_s, bdW_s, ifN_n, ifN_s, ↓fgI_s, ↓fgR_s, ↓rk_s, ↓fpI_s, ↓fpR_s, ↓fpZ_0, ↓fpZ_1, ↓alI_i, ↓alP_i, ↓asI_i, ↓asB_i, ↓asZ_0, ↓asZ_1, ↓aln_i, ↓fca_s, ↓fca_n, bdC_li, bdC_ri, mK_uI, mK_uP, mL_uI, mL_uP, mP_uI, mI_uP, mK_wI, mL_wI, mP_wI, mI_uI_e, mI_uI_c, nwO_s, mK_nA_e, mL_nA_e, fAl_remove_E, h3, fOb_checkIndex_E, fPc_checkIndex_E, h4, hgi, fAl_fastRemove_E, hM2.symm, q1, ↓acp_i, f1]
/-- one version moved to another place, m of its parts -/
def mvv (σ : Sg) (x y m : Nat) : Sg := fun f j => if 27 ≤ f ∧ f ≤ 33 ∧ j = y then σ f x else if f = 34 ∧ 20 * y ≤ j ∧ j < 20 * y + m then σ 34 (20 * x + (j - 20 * y)) else σ f j
theorem m_moves_l {x y pc : Nat} (hx : x < 80) (hy : y < 80) (hxy : x ≠ y) (hpc : pc ≤ 20) : ∀ d q fu (σ : Sg), d + q = pc → d < fu → σ 33 x = i3 pc → fMd_moves_l86 fu (i3 x) (i3 y) (i3 q) σ = some ((), fun f j => if f = 34 ∧ 20 * y + q ≤ j ∧ j < 20 * y + pc then σ 34 (20 * x + (j - 20 * y)) else σ f j) := by
  intro d
  induction d with
  | zero =>
    intro q fu σ hd hfu hs
    obtain ⟨f, rfl⟩ : ∃ f, fu = f + 1 := ⟨fu - 1, by omega⟩
    have e : (fun f j => if f = 34 ∧ 20 * y + q ≤ j ∧ j < 20 * y + pc then σ 34 (20 * x + (j - 20 * y)) else σ f j) = σ := funext fun f => funext fun j => if_neg (by omega)
    rw [fMd_moves_l86_S, fMd_moves_b86_E, e]
    simp (disch := (first | assumption | omega | decide | (simp only [mK_uI, mK_uP, mL_uI, mL_uP, mK_wI, mL_wI, mK_nA_e, mL_nA_e] <;> (first | assumption | omega)))) only [i3_le_t, i3_le_f, i3_lt_t, i3_lt_f, i3_eq_t, i3_eq_f, i3_add, i3_mul, i3_sub, i3_div, i3_dec, i3_m1, m1_i3, m1_eq, i3_ge0, m1_lt, i3_le_m1, ↓reduceIte, rZ_0, rZ_1, bdR_s, bdW_s, ifN_n, ifN_s, uS_n, uS_e, uS_d, ↓mgF_s, ↓mpF_s, ↓mgA_2, ↓mgA_4, ↓mgA_6, ↓mgA_7, ↓mgA_9, ↓mgA_10, ↓mgA_12, ↓mgA_14, ↓mgA_15, ↓mgA_16, ↓mgA_17, ↓mgA_18, ↓mgA_19, ↓mgA_20, ↓mgA_21, ↓mgA_22, ↓mgA_23, ↓mgA_24, ↓mgA_25, ↓mgA_26, ↓mgA_27, ↓mgA_28, ↓mgA_29, ↓mgA_30, ↓mgA_31, ↓mgA_32, ↓mgA_33, ↓mgA_34, ↓mgA_35, ↓mgA_36, ↓mgA_37, ↓mgA_38, ↓mgA_39, ↓mgA_41, ↓mgA_42, ↓mgA_43, ↓mgA_44, ↓mgA_45, ↓mgA_46, ↓mpA_2, ↓mpA_4, ↓mpA_6, ↓mpA_7, ↓mpA_9, ↓mpA_10, ↓mpA_12, ↓mpA_14, ↓mpA_15, ↓mpA_16, ↓mpZ_17, ↓mpA_18, ↓mpZ_19, ↓mpA_20, ↓mpA_21, ↓mpA_22, ↓mpA_23, ↓mpA_24, ↓mpZ_25, ↓mpA_26, ↓mpA_27, ↓mpA_28, ↓mpA_29, ↓mpA_30, ↓mpA_31, ↓mpA_32, ↓mpA_33, ↓mpA_34, ↓mpZ_35, ↓mpA_36, ↓mpA_37, ↓mpA_38, ↓mpA_39, ↓mpA_41, ↓mpA_42, ↓mpZ_43, ↓mpA_44, ↓mpA_45, ↓mpA_46, hs]
  | succ d ih =>
    intro q fu σ hd hfu hs
    obtain ⟨f, rfl⟩ : ∃ f, fu = f + 1 := ⟨fu - 1, by omega⟩
    have ih' := ih (q + 1) f (uS σ 34 (20 * y + q) (σ 34 (20 * x + q))) (by omega) (by omega) hs
    have e : (fun f j => if f = 34 ∧ 20 * y + (q + 1) ≤ j ∧ j < 20 * y + pc then uS σ 34 (20 * y + q) (σ 34 (20 * x + q)) 34 (20 * x + (j - 20 * y)) else uS σ 34 (20 * y + q) (σ 34 (20 * x + q)) f j) = (fun f j => if f = 34 ∧ 20 * y + q ≤ j ∧ j < 20 * y + pc then σ 34 (20 * x + (j - 20 * y)) else σ f j) := funext fun f => funext fun j => by
      show (if f = 34 ∧ 20 * y + (q + 1) ≤ j ∧ j < 20 * y + pc then (if 34 = 34 ∧ 20 * x + (j - 20 * y) = 20 * y + q then σ 34 (20 * x + q) else σ 34 (20 * x + (j - 20 * y))) else (if f = 34 ∧ j = 20 * y + q then σ 34 (20 * x + q) else σ f j)) = _
      by_cases z : f = 34 ∧ j = 20 * y + q
      · obtain ⟨rfl, rfl⟩ := z
        rw [if_neg (by omega), if_pos ⟨rfl, rfl⟩, if_pos (by omega), Nat.add_sub_cancel_left]
      · by_cases w : f = 34 ∧ 20 * y + q ≤ j ∧ j < 20 * y + pc
        · rw [if_pos (by omega), if_neg (by omega), if_pos w]
        · rw [if_neg (by omega), if_neg z, if_neg w]
    rw [e] at ih'
    rw [fMd_moves_l86_S, fMd_moves_b86_E]
    clear ih e
    simp (disch := (first | assumption | omega | decide | (simp only [mK_uI, mK_uP, mL_uI, mL_uP, mK_wI, mL_wI, mK_nA_e, mL_nA_e] <;> (first | assumption | omega)))) only [i3_le_t, i3_le_f, i3_lt_t, i3_lt_f, i3_eq_t, i3_eq_f, i3_add, i3_mul, i3_sub, i3_div, i3_dec, i3_m1, m1_i3, m1_eq, i3_ge0, m1_lt, i3_le_m1, ↓reduceIte, rZ_0, rZ_1, bdR_s, bdW_s, ifN_n, ifN_s, uS_n, uS_e, uS_d, ↓mgF_s, ↓mpF_s, ↓mgA_2, ↓mgA_4, ↓mgA_6, ↓mgA_7, ↓mgA_9, ↓mgA_10, ↓mgA_12, ↓mgA_14, ↓mgA_15, ↓mgA_16, ↓mgA_17, ↓mgA_18, ↓mgA_19, ↓mgA_20, ↓mgA_21, ↓mgA_22, ↓mgA_23, ↓mgA_24, ↓mgA_25, ↓mgA_26, ↓mgA_27, ↓mgA_28, ↓mgA_29, ↓mgA_30, ↓mgA_31, ↓mgA_32, ↓mgA_33, ↓mgA_34, ↓mgA_35, ↓mgA_36, ↓mgA_37, ↓mgA_38, ↓mgA_39, ↓mgA_41, ↓mgA_42, ↓mgA_43, ↓mgA_44, ↓mgA_45, ↓mgA_46, ↓mpA_2, ↓mpA_4, ↓mpA_6, ↓mpA_7, ↓mpA_9, ↓mpA_10, ↓mpA_12, ↓mpA_14, ↓mpA_15, ↓mpA_16, ↓mpZ_17, ↓mpA_18, ↓mpZ_19, ↓mpA_20, ↓mpA_21, ↓mpA_22, ↓mpA_23, ↓mpA_24, ↓mpZ_25, ↓mpA_26, ↓mpA_27, ↓mpA_28, ↓mpA_29, ↓mpA_30, ↓mpA_31, ↓mpA_32, ↓mpA_33, ↓mpA_34, ↓mpZ_35, ↓mpA_36, ↓mpA_37, ↓mpA_38, ↓mpA_39, ↓mpA_41, ↓mpA_42, ↓mpZ_43, ↓mpA_44, ↓mpA_45, ↓mpA_46, hs, ih']
theorem m_moves {x y pc : Nat} (hx : x < 80) (hy : y < 80) (hxy : x ≠ y) (hpc : pc ≤ 20) (hs : σ 33 x = i3 pc) : fMd_moves (i3 x) (i3 y) σ = some ((), mvv σ x y pc) := by
  have l := m_moves_l (σ := uS (uS (uS (uS (uS (uS (uS σ 27 y (σ 27 x)) 28 y (σ 28 x)) 29 y (σ 29 x)) 30 y (σ 30 x)) 31 y (σ 31 x)) 32 y (σ 32 x)) 33 y (σ 33 x)) hx hy hxy hpc pc 0 FU (by omega) (FU_S (by omega)) (by rw [uS_d _ _ _ _ hxy]; exact hs)
  have e : (fun f j => if f = 34 ∧ 20 * y + 0 ≤ j ∧ j < 20 * y + pc then uS (uS (uS (uS (uS (uS (uS σ 27 y (σ 27 x)) 28 y (σ 28 x)) 29 y (σ 29 x)) 30 y (σ 30 x)) 31 y (σ 31 x)) 32 y (σ 32 x)) 33 y (σ 33 x) 34 (20 * x + (j - 20 * y)) else uS (uS (uS (uS (uS (uS (uS σ 27 y (σ 27 x)) 28 y (σ 28 x)) 29 y (σ 29 x)) 30 y (σ 30 x)) 31 y (σ 31 x)) 32 y (σ 32 x)) 33 y (σ 33 x) f j) = mvv σ x y pc := funext fun f => funext fun j => by
    show (if f = 34 ∧ 20 * y + 0 ≤ j ∧ j < 20 * y + pc then σ 34 (20 * x + (j - 20 * y)) else (if f = 33 ∧ j = y then σ 33 x else if f = 32 ∧ j = y then σ 32 x else if f = 31 ∧ j = y then σ 31 x else if f = 30 ∧ j = y then σ 30 x else if f = 29 ∧ j = y then σ 29 x else if f = 28 ∧ j = y then σ 28 x else if f = 27 ∧ j = y then σ 27 x else σ f j)) = (if 27 ≤ f ∧ f ≤ 33 ∧ j = y then σ f x else if f = 34 ∧ 20 * y ≤ j ∧ j < 20 * y + pc then σ 34 (20 * x + (j - 20 * y)) else σ f j)
    by_cases z : 27 ≤ f ∧ f ≤ 33 ∧ j = y
    · obtain ⟨z1, z2, rfl⟩ := z
      rw [if_neg (by omega), if_pos (⟨z1, z2, rfl⟩ : 27 ≤ f ∧ f ≤ 33 ∧ j = j)]
      rcases (by omega : f = 27 ∨ f = 28 ∨ f = 29 ∨ f = 30 ∨ f = 31 ∨ f = 32 ∨ f = 33) with rfl | rfl | rfl | rfl | rfl | rfl | rfl <;> simp
    · rw [if_neg z]
      by_cases w : f = 34 ∧ 20 * y ≤ j ∧ j < 20 * y + pc
      · rw [if_pos (by omega), if_pos w]
      · rw [if_neg (by omega), if_neg w, if_neg (by omega), if_neg (by omega), if_neg (by omega), if_neg (by omega), if_neg (by omega), if_neg (by omega), if_neg (by omega)]
  rw [e] at l
  simp (disch := (first | assumption | omega | decide | (simp only [mK_uI, mK_uP, mL_uI, mL_uP, mK_wI, mL_wI, mK_nA_e, mL_nA_e] <;> (first | assumption | omega)))) only [i3_le_t, i3_le_f, i3_lt_t, i3_lt_f, i3_eq_t, i3_eq_f, i3_add, i3_mul, i3_sub, i3_div, i3_dec, i3_m1, m1_i3, m1_eq, i3_ge0, m1_lt, i3_le_m1, ↓reduceIte, rZ_0, rZ_1, bdR_s, bdW_s, ifN_n, ifN_s, uS_n, uS_e, uS_d, ↓mgF_s, ↓mpF_s, ↓mgA_2, ↓mgA_4, ↓mgA_6, ↓mgA_7, ↓mgA_9, ↓mgA_10, ↓mgA_12, ↓mgA_14, ↓mgA_15, ↓mgA_16, ↓mgA_17, ↓mgA_18, ↓mgA_19, ↓mgA_20, ↓mgA_21, ↓mgA_22, ↓mgA_23, ↓mgA_24, ↓mgA_25, ↓mgA_26, ↓mgA_27, ↓mgA_28, ↓mgA_29, ↓mgA_30, ↓mgA_31, ↓mgA_32, ↓mgA_33, ↓mgA_34, ↓mgA_35, ↓mgA_36, ↓mgA_37, ↓mgA_38, ↓mgA_39, ↓mgA_41, ↓mgA_42, ↓mgA_43, ↓mgA_44, ↓mgA_45, ↓mgA_46, ↓mpA_2, ↓mpA_4, ↓mpA_6, ↓mpA_7, ↓mpA_9, ↓mpA_10, ↓mpA_12, ↓mpA_14, ↓mpA_15, ↓mpA_16, ↓mpZ_17, ↓mpA_18, ↓mpZ_19, ↓mpA_20, ↓mpA_21, ↓mpA_22, ↓mpA_23, ↓mpA_24, ↓mpZ_25, ↓mpA_26, ↓mpA_27, ↓mpA_28, ↓mpA_29, ↓mpA_30, ↓mpA_31, ↓mpA_32, ↓mpA_33, ↓mpA_34, ↓mpZ_35, ↓mpA_36, ↓mpA_37, ↓mpA_38, ↓mpA_39, ↓mpA_41, ↓mpA_42, ↓mpZ_43, ↓mpA_44, ↓mpA_45, ↓mpA_46, fMd_moves_E]
  exact l
end RE

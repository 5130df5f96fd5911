set_option maxRecDepth 100000
/-! lists: behind, between, out -/
section LO
variable {own : Nat → Nat} {M : Mm} {n l t len : Nat} {f : Nat → Nat}
theorem oN_or (own : Nat → Nat) (n t : Nat) (g : Prop) [d : Decidable g] : (if g then oN own n t else own) = (if g then oN own n t else own) := rfl
/-- the row of a list with room for one more, grown where it must be -/
theorem room_i (h : LST own M l t len f) (e : EMP own M) (fr : FRS own n) (el : ELS own M len f) (ht : 12 < t) (hl : len < 200) : (∃ rw0, LSR own M l t len f rw0 ∧ len < mL M rw0) ∨ (∃ M', fAl_grow0 l M n = some (.inl (some n), M', n + 1) ∧ (∃ rw0, mP M 1201 l 0 = some rw0 ∧ ((rw0 = mL M 0 ∧ mK M rw0 = 26 ∧ len = 0) ∨ (mK M rw0 = 23 ∧ mL M rw0 = len))) ∧ LSR (oN own n t) M' l t len f n ∧ len < mL M' n ∧ FRM (fun x => x = t) own M (oN own n t) M') := by
  have h' := h
  obtain ⟨h1, h2, h3, rw0, h4, h5, h6⟩ := h'
  by_cases c : mK M rw0 = 23 ∧ len < mL M rw0
  · left
    rcases h5 with h5 | h5
    · have := e.2.2
      rw [h5.1] at c
      omega
    · exact ⟨rw0, ⟨h1, h2, h3, h4, h5.1, h5.2.1, h5.2.2.1, h5.2.2.2.1, h5.2.2.2.2, h6⟩, c.2⟩
  · right
    have hc : ∀ r, mP M 1201 l 0 = some r → r = mL M 0 ∨ mL M r = len := fun r hr => by
      rw [h4] at hr
      have hr := Option.some.inj hr
      subst hr
      rcases h5 with h5 | h5
      · exact Or.inl h5.1
      · right; have := h5.1; have := h5.2.2.2.1; omega
    obtain ⟨M', g1, g2, g3, g4⟩ := grow_i h e fr el ht hl hc
    refine ⟨M', g1, ⟨rw0, h4, ?_⟩, g2, g3, g4⟩
    rcases h5 with h5 | h5
    · exact Or.inl ⟨h5.1, by rw [h5.1]; exact e.2.2, h5.2⟩
    · right; have := h5.1; have := h5.2.2.2.1; exact ⟨h5.1, by omega⟩
theorem ELS.frm {own' : Nat → Nat} {M' : Mm} (el : ELS own M len f) (k : ∀ i, i < len → own (f i) ≠ 0 → own' (f i) = own (f i) ∧ mK M' (f i) = mK M (f i)) : ELS own' M' len f := fun i hi => by
  obtain ⟨x1, x2, x3⟩ := el i hi
  obtain ⟨k1, k2⟩ := k i hi x1
  rw [k1, k2]
  exact ⟨x1, x2, x3⟩
/-- one more, behind -/
theorem add1_i (h : LST own M l t len f) (e : EMP own M) (fr : FRS own n) (el : ELS own M len f) (ht : 12 < t) (hl : len < 200) {x : Nat} (hx1 : 1 ≤ mK M x) (hx2 : mK M x ≤ 12) (hx3 : own x ≠ 0) (hxt : own x ≠ t) : ∃ own' M' n', fAl_add1 l (some x) M n = some (.inl (i3 1), M', n') ∧ n ≤ n' ∧ n' ≤ n + 1 ∧ FRS own' n' ∧ FRM (fun y => y = t) own M own' M' ∧ LST own' M' l t (len + 1) (fun j => if j = len then x else f j) := by
  -- the list's word for its changes
  have hlt : own l = t := h.2.1
  have st0 : FRM (fun y => y = t) own M own (uI M 1200 l 0 (mI M 1200 l 0 + i3 1)) := (IOS.uI 1200 l 0 _).frm fun c a z _ => by rw [z.2]; exact hlt
  generalize hM2 : uI M 1200 l 0 (mI M 1200 l 0 + i3 1) = M2 at st0
  have h2 : LST own M2 l t len f := by
    obtain ⟨h1, h2, h3, h4⟩ := h
    subst hM2
    exact ⟨h1, h2, by rw [mI_uI, if_neg (by omega)]; exact h3, h4⟩
  have e2 : EMP own M2 := e.keep (st0.st 1 (by decide) (by decide))
  have el2 : ELS own M2 len f := el.frm fun i _ _ => ⟨rfl, by subst hM2; rfl⟩
  have hx2' : 1 ≤ mK M2 x ∧ mK M2 x ≤ 12 := by subst hM2; exact ⟨hx1, hx2⟩
  have hk : mK M l = 12 := h.1
  have hk2 : mK M2 l = 12 := h2.1
  have fin : ∀ own3 M3 rw0, LSR own3 M3 l t len f rw0 → len < mL M3 rw0 → FRM (fun y => y = t) own M own3 M3 → 1 ≤ mK M3 x ∧ mK M3 x ≤ 12 → fAl_add2_j11 l (some x) (some rw0) (i3 len) M3 = (fun n => some (.inl (), uI (uP M3 0 rw0 len (some x)) 1202 l 0 (i3 (len + 1)), n)) ∧ FRM (fun y => y = t) own M own3 (uI (uP M3 0 rw0 len (some x)) 1202 l 0 (i3 (len + 1))) ∧ LST own3 (uI (uP M3 0 rw0 len (some x)) 1202 l 0 (i3 (len + 1))) l t (len + 1) (fun j => if j = len then x else f j) := by
    intro own3 M3 rw0 g hlen fm hx
    obtain ⟨g1, g2, g3, g4, g5, g6, g7, g8, g9, g10⟩ := g
    have hp := pok_s hx.1 hx.2
    refine ⟨?_, ?_, ?_⟩
    · funext n
      have q1 : mK (uP M3 0 rw0 len (some x)) l = 12 := g1
      clear g3 g6 g10 fm h h2 el el2 st0 e e2
      simp (disch := (first | assumption | omega | decide | (simp only [mK_uI, mK_uP, mL_uI, mL_uP, mK_wI, mL_wI, mK_nA_e, mL_nA_e] <;> (first | assumption | omega)))) only [i3_le_t, i3_le_f, i3_lt_t, i3_lt_f, i3_eq_t, i3_eq_f, i3_add, i3_mul, i3_sub, i3_div, i3_dec, i3_m1, m1_i3, m1_eq, i3_ge0, m1_lt, i3_le_m1, ↓reduceIte, rZ_0, rZ_1, bdR_s, bdW_s, ifN_n, ifN_s, ↓fgI_s, ↓fgR_s, ↓rk_s, ↓fpI_s, ↓fpR_s, ↓fpZ_0, ↓fpZ_1, ↓alI_i, ↓alP_i, ↓asI_i, ↓asB_i, ↓asZ_0, ↓asZ_1, ↓aln_i, ↓fca_s, ↓fca_n, bdC_li, bdC_ri, mK_uI, mK_uP, mL_uI, mL_uP, mP_uI, mI_uP, mK_wI, mL_wI, mP_wI, mI_uI_e, mI_uI_c, nwO_s, mK_nA_e, mL_nA_e, fAl_add2_j11_E, ↓asP_i]
    · refine fm.then fun a ha => ⟨rfl, fun hT => ?_, fun h12 => ?_⟩
      · have d1 : a ≠ l := fun z => hT (by rw [z]; exact g2)
        have d2 : a ≠ rw0 := fun z => hT (by rw [z]; exact g6)
        exact ⟨rfl, rfl, fun c j => by rw [mP_uI, mP_uP, if_neg fun z => d2 z.2.1], fun c j => by rw [mI_uI, if_neg fun z => d1 z.2.1, mI_uP]⟩
      · have d2 : a ≠ rw0 := fun z => by rw [z] at h12; omega
        exact ⟨rfl, rfl, fun c j => by rw [mP_uI, mP_uP, if_neg fun z => d2 z.2.1]⟩
    · refine ⟨g1, g2, by rw [mI_uI, if_pos ⟨rfl, rfl, rfl⟩], rw0, ?_, Or.inr ⟨g5, g6, g7, hlen, g9⟩, fun i hi => ?_⟩
      · rw [mP_uI, mP_uP, if_neg fun z => absurd z.1 (by decide)]; exact g4
      · rw [mP_uI, mP_uP]
        by_cases z : i = len
        · rw [if_pos ⟨rfl, rfl, z⟩]; exact congrArg some (if_pos z).symm
        · rw [if_neg fun w => z w.2.2, g10 i (by omega)]; exact congrArg some (if_neg z).symm
  have hrun : ∀ x0 M3 n3, fAl_add2 l (some x) (mP M2 1201 l 0) (mI M2 1202 l 0) M2 n = some (.inl x0, M3, n3) → n ≤ n3 → fAl_add1 l (some x) M n = some (.inl (i3 1), M3, n3) := fun x0 M3 n3 hr hn => by
    clear fin h h2 el el2 st0 e e2
    simp (disch := (first | assumption | omega | decide | (simp only [mK_uI, mK_uP, mL_uI, mL_uP, mK_wI, mL_wI, mK_nA_e, mL_nA_e] <;> (first | assumption | omega)))) only [i3_le_t, i3_le_f, i3_lt_t, i3_lt_f, i3_eq_t, i3_eq_f, i3_add, i3_mul, i3_sub, i3_div, i3_dec, i3_m1, m1_i3, m1_eq, i3_ge0, m1_lt, i3_le_m1, ↓reduceIte, rZ_0, rZ_1, bdR_s, bdW_s, ifN_n, ifN_s, ↓fgI_s, ↓fgR_s, ↓rk_s, ↓fpI_s, ↓fpR_s, ↓fpZ_0, ↓fpZ_1, ↓alI_i, ↓alP_i, ↓asI_i, ↓asB_i, ↓asZ_0, ↓asZ_1, ↓aln_i, ↓fca_s, ↓fca_n, bdC_li, bdC_ri, mK_uI, mK_uP, mL_uI, mL_uP, mP_uI, mI_uP, mK_wI, mL_wI, mP_wI, mI_uI_e, mI_uI_c, nwO_s, mK_nA_e, mL_nA_e, fAl_add1_E, hM2, hr]
  have h3 : mI M2 1202 l 0 = i3 len := h2.2.2.1
  rcases room_i h2 e2 fr el2 ht hl with ⟨rw0, g, gl⟩ | ⟨M3, g1, ⟨rw0, g2, g3⟩, g4, g5, g6⟩
  · obtain ⟨f1, f2, f3⟩ := fin own M2 rw0 g gl st0 hx2'
    refine ⟨own, _, n, hrun () _ _ ?_ (Nat.le_refl n), Nat.le_refl n, Nat.le_succ n, fr, f2, f3⟩
    have g4 := g.2.2.2.1
    have g5 := g.2.2.2.2.1
    have g9 := g.2.2.2.2.2.2.2.2.1
    rw [h3, g4]
    clear fin hrun h h2 el el2 st0 e e2 g
    simp (disch := (first | assumption | omega | decide | (simp only [mK_uI, mK_uP, mL_uI, mL_uP, mK_wI, mL_wI, mK_nA_e, mL_nA_e] <;> (first | assumption | omega)))) only [i3_le_t, i3_le_f, i3_lt_t, i3_lt_f, i3_eq_t, i3_eq_f, i3_add, i3_mul, i3_sub, i3_div, i3_dec, i3_m1, m1_i3, m1_eq, i3_ge0, m1_lt, i3_le_m1, ↓reduceIte, rZ_0, rZ_1, bdR_s, bdW_s, ifN_n, ifN_s, ↓fgI_s, ↓fgR_s, ↓rk_s, ↓fpI_s, ↓fpR_s, ↓fpZ_0, ↓fpZ_1, ↓alI_i, ↓alP_i, ↓asI_i, ↓asB_i, ↓asZ_0, ↓asZ_1, ↓aln_i, ↓fca_s, ↓fca_n, bdC_li, bdC_ri, mK_uI, mK_uP, mL_uI, mL_uP, mP_uI, mI_uP, mK_wI, mL_wI, mP_wI, mI_uI_e, mI_uI_c, nwO_s, mK_nA_e, mL_nA_e, fAl_add2_E, f1]
  · obtain ⟨f1, f2, f3⟩ := fin _ M3 n g4 g5 (st0.then g6) (by
      have hs := g6 x hx3
      have := (hs.2.1 hxt).1
      rw [this]; exact hx2')
    refine ⟨_, _, n + 1, hrun () _ _ ?_ (Nat.le_succ n), Nat.le_succ n, Nat.le_refl _, fr.oN t, f2, f3⟩
    rw [h3, g2]
    have hn1 : n ≤ n + 1 := Nat.le_succ n
    clear fin hrun h h2 el el2 st0 e e2 g4 g6
    rcases g3 with ⟨k1, k2, k3⟩ | ⟨k1, k2⟩
    · subst k3
      simp (disch := (first | assumption | omega | decide | (simp only [mK_uI, mK_uP, mL_uI, mL_uP, mK_wI, mL_wI, mK_nA_e, mL_nA_e] <;> (first | assumption | omega)))) only [i3_le_t, i3_le_f, i3_lt_t, i3_lt_f, i3_eq_t, i3_eq_f, i3_add, i3_mul, i3_sub, i3_div, i3_dec, i3_m1, m1_i3, m1_eq, i3_ge0, m1_lt, i3_le_m1, ↓reduceIte, rZ_0, rZ_1, bdR_s, bdW_s, ifN_n, ifN_s, ↓fgI_s, ↓fgR_s, ↓rk_s, ↓fpI_s, ↓fpR_s, ↓fpZ_0, ↓fpZ_1, ↓alI_i, ↓alP_i, ↓asI_i, ↓asB_i, ↓asZ_0, ↓asZ_1, ↓aln_i, ↓fca_s, ↓fca_n, bdC_li, bdC_ri, mK_uI, mK_uP, mL_uI, mL_uP, mP_uI, mI_uP, mK_wI, mL_wI, mP_wI, mI_uI_e, mI_uI_c, nwO_s, mK_nA_e, mL_nA_e, fAl_add2_E, ↓aln_e, g1, f1]
    · simp (disch := (first | assumption | omega | decide | (simp only [mK_uI, mK_uP, mL_uI, mL_uP, mK_wI, mL_wI, mK_nA_e, mL_nA_e] <;> (first | assumption | omega)))) only [i3_le_t, i3_le_f, i3_lt_t, i3_lt_f, i3_eq_t, i3_eq_f, i3_add, i3_mul, i3_sub, i3_div, i3_dec, i3_m1, m1_i3, m1_eq, i3_ge0, m1_lt, i3_le_m1, ↓reduceIte, rZ_0, rZ_1, bdR_s, bdW_s, ifN_n, ifN_s, ↓fgI_s, ↓fgR_s, ↓rk_s, ↓fpI_s, ↓fpR_s, ↓fpZ_0, ↓fpZ_1, ↓alI_i, ↓alP_i, ↓asI_i, ↓asB_i, ↓asZ_0, ↓asZ_1, ↓aln_i, ↓fca_s, ↓fca_n, bdC_li, bdC_ri, mK_uI, mK_uP, mL_uI, mL_uP, mP_uI, mI_uP, mK_wI, mL_wI, mP_wI, mI_uI_e, mI_uI_c, nwO_s, mK_nA_e, mL_nA_e, fAl_add2_E, k2, g1, f1]
end LO

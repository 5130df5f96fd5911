set_option maxRecDepth 100000
/-! the check reads a part: three equations by three -/
section GA
variable {σ σ' : Sg} {w : Nat → Nat → Nat} {e0 e1 e2 d f : Nat}
def GS (σ : Sg) (w : Nat → Nat → Nat) (e0 e1 e2 : Nat) : Prop := ∀ i, i < 3 → (∀ k, k < 3 → σ 46 (4 * i + k) = i3 (w i k) ∧ w i k < 16) ∧ σ 46 (4 * i + 3) = i3 (rh (w i 0) (w i 1) (w i 2) e0 e1 e2)
def RWS (σ σ' : Sg) (ρ : Nat → Int32) : Prop := (∀ k, k ≠ 46 → σ' k = σ k) ∧ ∀ j, j < 12 → σ' 46 j = ρ j
theorem turns_swap (hd : d < 3) (hf : f < 3) : ∀ d0 k fu (σk : Sg), d0 + k = 4 → d0 < fu → RWS σ σk (fun j => if 4 * f ≤ j ∧ j < 4 * f + k then σ 46 (4 * d + (j - 4 * f)) else if 4 * d ≤ j ∧ j < 4 * d + k then σ 46 (4 * f + (j - 4 * d)) else σ 46 j) → ∃ σ' fu', fMd_turns_l23 fu (i3 d) (i3 f) (i3 k) σk = fMd_turns_l23 (fu' + 1) (i3 d) (i3 f) (i3 4) σ' ∧ RWS σ σ' (fun j => if 4 * f ≤ j ∧ j < 4 * f + 4 then σ 46 (4 * d + (j - 4 * f)) else if 4 * d ≤ j ∧ j < 4 * d + 4 then σ 46 (4 * f + (j - 4 * d)) else σ 46 j) := by
  intro d0
  induction d0 with
  | zero =>
    intro k fu σk hk hfu h
    obtain ⟨fu, rfl⟩ : ∃ f, fu = f + 1 := ⟨fu - 1, by omega⟩
    have e : k = 4 := by omega
    subst e
    exact ⟨σk, fu, rfl, h⟩
  | succ d0 ih =>
    intro k fu σk hk hfu h
    obtain ⟨fu, rfl⟩ : ∃ f, fu = f + 1 := ⟨fu - 1, by omega⟩
    have r1 : σk 46 (4 * f + k) = σ 46 (4 * f + k) := by rw [h.2 _ (by omega)]; show (if _ then _ else _) = _; rw [if_neg (by omega), if_neg (by omega)]
    have r2 : σk 46 (4 * d + k) = σ 46 (4 * d + k) := by rw [h.2 _ (by omega)]; show (if _ then _ else _) = _; rw [if_neg (by omega), if_neg (by omega)]
    have st : RWS σ (uS (uS σk 46 (4 * f + k) (σ 46 (4 * d + k))) 46 (4 * d + k) (σ 46 (4 * f + k))) (fun j => if 4 * f ≤ j ∧ j < 4 * f + (k + 1) then σ 46 (4 * d + (j - 4 * f)) else if 4 * d ≤ j ∧ j < 4 * d + (k + 1) then σ 46 (4 * f + (j - 4 * d)) else σ 46 j) := by
      refine ⟨fun x hx => by rw [uS_n _ _ _ hx, uS_n _ _ _ hx]; exact h.1 x hx, fun j hj => ?_⟩
      show (if 46 = 46 ∧ j = 4 * d + k then σ 46 (4 * f + k) else if 46 = 46 ∧ j = 4 * f + k then σ 46 (4 * d + k) else σk 46 j) = (if 4 * f ≤ j ∧ j < 4 * f + (k + 1) then σ 46 (4 * d + (j - 4 * f)) else if 4 * d ≤ j ∧ j < 4 * d + (k + 1) then σ 46 (4 * f + (j - 4 * d)) else σ 46 j)
      by_cases a : j = 4 * d + k
      · subst a
        rw [if_pos ⟨rfl, rfl⟩]
        by_cases b : f = d
        · subst b
          rw [if_pos (by omega), Nat.add_sub_cancel_left]
        · rw [if_neg (by omega), if_pos (by omega), Nat.add_sub_cancel_left]
      · rw [if_neg (fun z => a z.2)]
        by_cases b : j = 4 * f + k
        · subst b
          rw [if_pos ⟨rfl, rfl⟩, if_pos (by omega), Nat.add_sub_cancel_left]
        · rw [if_neg (fun z => b z.2), h.2 j hj]
          show (if 4 * f ≤ j ∧ j < 4 * f + k then _ else if 4 * d ≤ j ∧ j < 4 * d + k then _ else _) = _
          by_cases c1 : 4 * f ≤ j ∧ j < 4 * f + k
          · rw [if_pos c1, if_pos (show 4 * f ≤ j ∧ j < 4 * f + (k + 1) by omega)]
          · rw [if_neg c1, if_neg (show ¬ (4 * f ≤ j ∧ j < 4 * f + (k + 1)) by omega)]
            by_cases c2 : 4 * d ≤ j ∧ j < 4 * d + k
            · rw [if_pos c2, if_pos (show 4 * d ≤ j ∧ j < 4 * d + (k + 1) by omega)]
            · rw [if_neg c2, if_neg (show ¬ (4 * d ≤ j ∧ j < 4 * d + (k + 1)) by omega)]
    obtain ⟨σ', fu', g1, g2⟩ := ih (k + 1) fu _ (by omega) (by omega) st
    refine ⟨σ', fu', ?_, g2⟩
    rw [fMd_turns_l23_S, fMd_turns_b23_E]
    clear ih st g2 h
    simp (disch := (first | assumption | omega | decide | (simp only [mK_uI, mK_uP, mL_uI, mL_uP, mK_wI, mL_wI, mK_nA_e, mL_nA_e] <;> (first | assumption | omega)))) only [i3_le_t, i3_le_f, i3_lt_t, i3_lt_f, i3_eq_t, i3_eq_f, i3_add, i3_mul, i3_sub, i3_div, i3_dec, i3_m1, m1_i3, m1_eq, i3_ge0, m1_lt, i3_le_m1, ↓reduceIte, rZ_0, rZ_1, bdR_s, bdW_s, ifN_n, ifN_s, uS_n, uS_e, uS_d, ↓mgF_s, ↓mpF_s, ↓mgA_2, ↓mgA_4, ↓mgA_6, ↓mgA_7, ↓mgA_9, ↓mgA_10, ↓mgA_12, ↓mgA_14, ↓mgA_15, ↓mgA_16, ↓mgA_17, ↓mgA_18, ↓mgA_19, ↓mgA_20, ↓mgA_21, ↓mgA_22, ↓mgA_23, ↓mgA_24, ↓mgA_25, ↓mgA_26, ↓mgA_27, ↓mgA_28, ↓mgA_29, ↓mgA_30, ↓mgA_31, ↓mgA_32, ↓mgA_33, ↓mgA_34, ↓mgA_35, ↓mgA_36, ↓mgA_37, ↓mgA_38, ↓mgA_39, ↓mgA_41, ↓mgA_42, ↓mgA_43, ↓mgA_44, ↓mgA_45, ↓mgA_46, ↓mpA_2, ↓mpA_4, ↓mpA_6, ↓mpA_7, ↓mpA_9, ↓mpA_10, ↓mpA_12, ↓mpA_14, ↓mpA_15, ↓mpA_16, ↓mpZ_17, ↓mpA_18, ↓mpZ_19, ↓mpA_20, ↓mpA_21, ↓mpA_22, ↓mpA_23, ↓mpA_24, ↓mpZ_25, ↓mpA_26, ↓mpA_27, ↓mpA_28, ↓mpA_29, ↓mpA_30, ↓mpA_31, ↓mpA_32, ↓mpA_33, ↓mpA_34, ↓mpZ_35, ↓mpA_36, ↓mpA_37, ↓mpA_38, ↓mpA_39, ↓mpA_41, ↓mpA_42, ↓mpZ_43, ↓mpA_44, ↓mpA_45, ↓mpA_46, r1, r2, g1]
/-- a row of 12 by a factor -/
theorem turns_norm {b : Nat} {ρ : Nat → Nat} (hd : d < 3) (hb : b < 16) (hρ : ∀ j, j < 12 → ρ j < 16) (h0 : ∀ j, j < 12 → σ 46 j = i3 (ρ j)) : ∀ d0 k fu (σk : Sg), d0 + k = 4 → d0 < fu → RWS σ σk (fun j => if 4 * d ≤ j ∧ j < 4 * d + k then i3 (tm b (ρ j)) else i3 (ρ j)) → ∃ σ', fMd_turns_l95 fu (i3 d) (i3 b) (i3 k) σk = fMd_turns_l136 FU (i3 d) (i3 0) σ' ∧ RWS σ σ' (fun j => if 4 * d ≤ j ∧ j < 4 * d + 4 then i3 (tm b (ρ j)) else i3 (ρ j)) := by
  intro d0
  induction d0 with
  | zero =>
    intro k fu σk hk hfu h
    obtain ⟨fu, rfl⟩ : ∃ f, fu = f + 1 := ⟨fu - 1, by omega⟩
    have e : k = 4 := by omega
    subst e
    refine ⟨σk, ?_, h⟩
    rw [fMd_turns_l95_S, fMd_turns_b95_E, if_pos (by decide)]
  | succ d0 ih =>
    intro k fu σk hk hfu h
    obtain ⟨fu, rfl⟩ : ∃ f, fu = f + 1 := ⟨fu - 1, by omega⟩
    have r1 : σk 46 (4 * d + k) = i3 (ρ (4 * d + k)) := by rw [h.2 _ (by omega)]; show (if _ then _ else _) = _; rw [if_neg (by omega)]
    have tt := m_times hb (hρ (4 * d + k) (by omega))
    have st : RWS σ (uS σk 46 (4 * d + k) (i3 (tm b (ρ (4 * d + k))))) (fun j => if 4 * d ≤ j ∧ j < 4 * d + (k + 1) then i3 (tm b (ρ j)) else i3 (ρ j)) := by
      refine ⟨fun x hx => by rw [uS_n _ _ _ hx]; exact h.1 x hx, fun j hj => ?_⟩
      show (if 46 = 46 ∧ j = 4 * d + k then _ else σk 46 j) = (if 4 * d ≤ j ∧ j < 4 * d + (k + 1) then i3 (tm b (ρ j)) else i3 (ρ j))
      by_cases a : j = 4 * d + k
      · subst a
        rw [if_pos ⟨rfl, rfl⟩, if_pos (by omega)]
      · rw [if_neg (fun z => a z.2), h.2 j hj]
        show (if 4 * d ≤ j ∧ j < 4 * d + k then _ else _) = _
        by_cases c1 : 4 * d ≤ j ∧ j < 4 * d + k
        · rw [if_pos c1, if_pos (by omega)]
        · rw [if_neg c1, if_neg (by omega)]
    obtain ⟨σ', g1, g2⟩ := ih (k + 1) fu _ (by omega) (by omega) st
    refine ⟨σ', ?_, g2⟩
    rw [fMd_turns_l95_S, fMd_turns_b95_E]
    clear ih st g2 h h0 hρ
    simp (disch := (first | assumption | omega | decide | (simp only [mK_uI, mK_uP, mL_uI, mL_uP, mK_wI, mL_wI, mK_nA_e, mL_nA_e] <;> (first | assumption | omega)))) only [i3_le_t, i3_le_f, i3_lt_t, i3_lt_f, i3_eq_t, i3_eq_f, i3_add, i3_mul, i3_sub, i3_div, i3_dec, i3_m1, m1_i3, m1_eq, i3_ge0, m1_lt, i3_le_m1, ↓reduceIte, rZ_0, rZ_1, bdR_s, bdW_s, ifN_n, ifN_s, uS_n, uS_e, uS_d, ↓mgF_s, ↓mpF_s, ↓mgA_2, ↓mgA_4, ↓mgA_6, ↓mgA_7, ↓mgA_9, ↓mgA_10, ↓mgA_12, ↓mgA_14, ↓mgA_15, ↓mgA_16, ↓mgA_17, ↓mgA_18, ↓mgA_19, ↓mgA_20, ↓mgA_21, ↓mgA_22, ↓mgA_23, ↓mgA_24, ↓mgA_25, ↓mgA_26, ↓mgA_27, ↓mgA_28, ↓mgA_29, ↓mgA_30, ↓mgA_31, ↓mgA_32, ↓mgA_33, ↓mgA_34, ↓mgA_35, ↓mgA_36, ↓mgA_37, ↓mgA_38, ↓mgA_39, ↓mgA_41, ↓mgA_42, ↓mgA_43, ↓mgA_44, ↓mgA_45, ↓mgA_46, ↓mpA_2, ↓mpA_4, ↓mpA_6, ↓mpA_7, ↓mpA_9, ↓mpA_10, ↓mpA_12, ↓mpA_14, ↓mpA_15, ↓mpA_16, ↓mpZ_17, ↓mpA_18, ↓mpZ_19, ↓mpA_20, ↓mpA_21, ↓mpA_22, ↓mpA_23, ↓mpA_24, ↓mpZ_25, ↓mpA_26, ↓mpA_27, ↓mpA_28, ↓mpA_29, ↓mpA_30, ↓mpA_31, ↓mpA_32, ↓mpA_33, ↓mpA_34, ↓mpZ_35, ↓mpA_36, ↓mpA_37, ↓mpA_38, ↓mpA_39, ↓mpA_41, ↓mpA_42, ↓mpZ_43, ↓mpA_44, ↓mpA_45, ↓mpA_46, r1, tt, g1]
/-- a row less a multiple of another -/
theorem turns_less {o l : Nat} {ρ : Nat → Nat} (k136 : Int32 → Int32 → Sg → Option (Unit × Sg)) (hd : d < 3) (ho : o < 3) (hne : o ≠ d) (hl : l < 16) (hρ : ∀ j, j < 12 → ρ j < 16) : ∀ d0 k fu (σk : Sg), d0 + k = 4 → d0 < fu → RWS σ σk (fun j => if 4 * o ≤ j ∧ j < 4 * o + k then i3 (ρ j ^^^ tm l (ρ (4 * d + (j - 4 * o)))) else i3 (ρ j)) → ∃ σ', fMd_turns_l158 k136 fu (i3 d) (i3 o) (i3 l) (i3 k) σk = k136 (i3 d) (i3 (o + 1)) σ' ∧ RWS σ σ' (fun j => if 4 * o ≤ j ∧ j < 4 * o + 4 then i3 (ρ j ^^^ tm l (ρ (4 * d + (j - 4 * o)))) else i3 (ρ j)) := by
  intro d0
  induction d0 with
  | zero =>
    intro k fu σk hk hfu h
    obtain ⟨fu, rfl⟩ : ∃ f, fu = f + 1 := ⟨fu - 1, by omega⟩
    have e : k = 4 := by omega
    subst e
    refine ⟨σk, ?_, h⟩
    rw [fMd_turns_l158_S, fMd_turns_b158_E, if_pos (by decide), fMd_turns_j207_E, i3_add]
  | succ d0 ih =>
    intro k fu σk hk hfu h
    obtain ⟨fu, rfl⟩ : ∃ f, fu = f + 1 := ⟨fu - 1, by omega⟩
    have r1 : σk 46 (4 * o + k) = i3 (ρ (4 * o + k)) := by rw [h.2 _ (by omega)]; show (if _ then _ else _) = _; rw [if_neg (by omega)]
    have r2 : σk 46 (4 * d + k) = i3 (ρ (4 * d + k)) := by rw [h.2 _ (by omega)]; show (if _ then _ else _) = _; rw [if_neg (by omega)]
    have tt := m_times hl (hρ (4 * d + k) (by omega))
    have xx := i3_xor (hρ (4 * o + k) (by omega)) (tm_lt hl (hρ (4 * d + k) (by omega)))
    have st : RWS σ (uS σk 46 (4 * o + k) (i3 (ρ (4 * o + k) ^^^ tm l (ρ (4 * d + k))))) (fun j => if 4 * o ≤ j ∧ j < 4 * o + (k + 1) then i3 (ρ j ^^^ tm l (ρ (4 * d + (j - 4 * o)))) else i3 (ρ j)) := by
      refine ⟨fun x hx => by rw [uS_n _ _ _ hx]; exact h.1 x hx, fun j hj => ?_⟩
      show (if 46 = 46 ∧ j = 4 * o + k then _ else σk 46 j) = (if 4 * o ≤ j ∧ j < 4 * o + (k + 1) then i3 (ρ j ^^^ tm l (ρ (4 * d + (j - 4 * o)))) else i3 (ρ j))
      by_cases a : j = 4 * o + k
      · subst a
        rw [if_pos ⟨rfl, rfl⟩, if_pos (by omega), Nat.add_sub_cancel_left]
      · rw [if_neg (fun z => a z.2), h.2 j hj]
        show (if 4 * o ≤ j ∧ j < 4 * o + k then _ else _) = _
        by_cases c1 : 4 * o ≤ j ∧ j < 4 * o + k
        · rw [if_pos c1, if_pos (by omega)]
        · rw [if_neg c1, if_neg (by omega)]
    obtain ⟨σ', g1, g2⟩ := ih (k + 1) fu _ (by omega) (by omega) st
    refine ⟨σ', ?_, g2⟩
    rw [fMd_turns_l158_S, fMd_turns_b158_E]
    clear ih st g2 h hρ
    simp (disch := (first | assumption | omega | decide | (simp only [mK_uI, mK_uP, mL_uI, mL_uP, mK_wI, mL_wI, mK_nA_e, mL_nA_e] <;> (first | assumption | omega)))) only [i3_le_t, i3_le_f, i3_lt_t, i3_lt_f, i3_eq_t, i3_eq_f, i3_add, i3_mul, i3_sub, i3_div, i3_dec, i3_m1, m1_i3, m1_eq, i3_ge0, m1_lt, i3_le_m1, ↓reduceIte, rZ_0, rZ_1, bdR_s, bdW_s, ifN_n, ifN_s, uS_n, uS_e, uS_d, ↓mgF_s, ↓mpF_s, ↓mgA_2, ↓mgA_4, ↓mgA_6, ↓mgA_7, ↓mgA_9, ↓mgA_10, ↓mgA_12, ↓mgA_14, ↓mgA_15, ↓mgA_16, ↓mgA_17, ↓mgA_18, ↓mgA_19, ↓mgA_20, ↓mgA_21, ↓mgA_22, ↓mgA_23, ↓mgA_24, ↓mgA_25, ↓mgA_26, ↓mgA_27, ↓mgA_28, ↓mgA_29, ↓mgA_30, ↓mgA_31, ↓mgA_32, ↓mgA_33, ↓mgA_34, ↓mgA_35, ↓mgA_36, ↓mgA_37, ↓mgA_38, ↓mgA_39, ↓mgA_41, ↓mgA_42, ↓mgA_43, ↓mgA_44, ↓mgA_45, ↓mgA_46, ↓mpA_2, ↓mpA_4, ↓mpA_6, ↓mpA_7, ↓mpA_9, ↓mpA_10, ↓mpA_12, ↓mpA_14, ↓mpA_15, ↓mpA_16, ↓mpZ_17, ↓mpA_18, ↓mpZ_19, ↓mpA_20, ↓mpA_21, ↓mpA_22, ↓mpA_23, ↓mpA_24, ↓mpZ_25, ↓mpA_26, ↓mpA_27, ↓mpA_28, ↓mpA_29, ↓mpA_30, ↓mpA_31, ↓mpA_32, ↓mpA_33, ↓mpA_34, ↓mpZ_35, ↓mpA_36, ↓mpA_37, ↓mpA_38, ↓mpA_39, ↓mpA_41, ↓mpA_42, ↓mpZ_43, ↓mpA_44, ↓mpA_45, ↓mpA_46, r1, r2, tt, xx, g1]
def sww (w : Nat → Nat → Nat) (d f : Nat) : Nat → Nat → Nat := fun i k => if i = f then w d k else if i = d then w f k else w i k
def nmw (w : Nat → Nat → Nat) (d : Nat) : Nat → Nat → Nat := fun i k => if i = d then tm (inv (w d d)) (w d k) else w i k
def lsw (w : Nat → Nat → Nat) (d o : Nat) : Nat → Nat → Nat := fun i k => if i = o then w o k ^^^ tm (w o d) (w d k) else w i k
theorem GS.swap (h : GS σ w e0 e1 e2) (hd : d < 3) (hf : f < 3) (g : RWS σ σ' (fun j => if 4 * f ≤ j ∧ j < 4 * f + 4 then σ 46 (4 * d + (j - 4 * f)) else if 4 * d ≤ j ∧ j < 4 * d + 4 then σ 46 (4 * f + (j - 4 * d)) else σ 46 j)) : GS σ' (sww w d f) e0 e1 e2 := by
  have row : ∀ i k, i < 3 → k < 4 → σ' 46 (4 * i + k) = σ 46 (4 * (if i = f then d else if i = d then f else i) + k) := fun i k hi hk => by
    rw [g.2 _ (by omega)]
    show (if 4 * f ≤ 4 * i + k ∧ 4 * i + k < 4 * f + 4 then σ 46 (4 * d + (4 * i + k - 4 * f)) else if 4 * d ≤ 4 * i + k ∧ 4 * i + k < 4 * d + 4 then σ 46 (4 * f + (4 * i + k - 4 * d)) else σ 46 (4 * i + k)) = _
    by_cases a : i = f
    · subst a
      rw [if_pos (by omega), if_pos rfl, Nat.add_sub_cancel_left]
    · rw [if_neg (by omega), if_neg a]
      by_cases b : i = d
      · subst b
        rw [if_pos (by omega), if_pos rfl, Nat.add_sub_cancel_left]
      · rw [if_neg (by omega), if_neg b]
  intro i hi
  have e : ∀ k, sww w d f i k = w (if i = f then d else if i = d then f else i) k := fun k => by
    unfold sww
    by_cases a : i = f
    · rw [if_pos a, if_pos a]
    · rw [if_neg a, if_neg a]
      by_cases b : i = d
      · rw [if_pos b, if_pos b]
      · rw [if_neg b, if_neg b]
  have hx : (if i = f then d else if i = d then f else i) < 3 := by
    split
    · exact hd
    · split
      · exact hf
      · exact hi
  obtain ⟨h1, h2⟩ := h _ hx
  rw [e 0, e 1, e 2]
  exact ⟨fun k hk => by rw [row i k hi (by omega), e k]; exact h1 k hk, by rw [row i 3 hi (by omega)]; exact h2⟩
def rof (w : Nat → Nat → Nat) (e0 e1 e2 : Nat) : Nat → Nat := fun j => if j % 4 = 3 then rh (w (j / 4) 0) (w (j / 4) 1) (w (j / 4) 2) e0 e1 e2 else w (j / 4) (j % 4)
theorem GS.rows (h : GS σ w e0 e1 e2) (k0 : e0 < 16) (k1 : e1 < 16) (k2 : e2 < 16) : (∀ j, j < 12 → rof w e0 e1 e2 j < 16) ∧ ∀ j, j < 12 → σ 46 j = i3 (rof w e0 e1 e2 j) := by
  constructor
  · intro j hj
    obtain ⟨h1, h2⟩ := h (j / 4) (by omega)
    show (if j % 4 = 3 then _ else _) < 16
    by_cases a : j % 4 = 3
    · rw [if_pos a]
      exact rh_lt (h1 0 (by omega)).2 (h1 1 (by omega)).2 (h1 2 (by omega)).2 k0 k1 k2
    · rw [if_neg a]; exact (h1 (j % 4) (by omega)).2
  · intro j hj
    obtain ⟨h1, h2⟩ := h (j / 4) (by omega)
    show σ 46 j = i3 (if j % 4 = 3 then _ else _)
    by_cases a : j % 4 = 3
    · rw [if_pos a]
      have e : 4 * (j / 4) + 3 = j := by omega
      rw [e] at h2; exact h2
    · rw [if_neg a]
      have e : 4 * (j / 4) + j % 4 = j := by omega
      have := (h1 (j % 4) (by omega)).1
      rw [e] at this; exact this
theorem rof_w {i k : Nat} (hk : k < 3) : rof w e0 e1 e2 (4 * i + k) = w i k := by
  unfold rof
  have a : (4 * i + k) % 4 = k := by omega
  have b : (4 * i + k) / 4 = i := by omega
  rw [a, b, if_neg (by omega)]
theorem rof_3 {i : Nat} : rof w e0 e1 e2 (4 * i + 3) = rh (w i 0) (w i 1) (w i 2) e0 e1 e2 := by
  unfold rof
  have a : (4 * i + 3) % 4 = 3 := by omega
  have b : (4 * i + 3) / 4 = i := by omega
  rw [a, b, if_pos rfl]
theorem GS.norm (h : GS σ w e0 e1 e2) (hd : d < 3) (k0 : e0 < 16) (k1 : e1 < 16) (k2 : e2 < 16) (g : RWS σ σ' (fun j => if 4 * d ≤ j ∧ j < 4 * d + 4 then i3 (tm (inv (w d d)) (rof w e0 e1 e2 j)) else i3 (rof w e0 e1 e2 j))) : GS σ' (nmw w d) e0 e1 e2 := by
  intro i hi
  obtain ⟨h1, h2⟩ := h i hi
  have hb := (inv_at ((h d hd).1 d hd).2).2.1
  have rd : ∀ k, k < 4 → σ' 46 (4 * i + k) = if i = d then i3 (tm (inv (w d d)) (rof w e0 e1 e2 (4 * i + k))) else i3 (rof w e0 e1 e2 (4 * i + k)) := fun k hk => by
    rw [g.2 _ (by omega)]
    show (if 4 * d ≤ 4 * i + k ∧ 4 * i + k < 4 * d + 4 then _ else _) = _
    by_cases a : i = d
    · rw [if_pos (by omega), if_pos a]
    · rw [if_neg (by omega), if_neg a]
  unfold nmw
  refine ⟨fun k hk => ?_, ?_⟩
  · rw [rd k (by omega), rof_w hk]
    show _ = i3 (if i = d then tm (inv (w d d)) (w d k) else w i k) ∧ (if i = d then tm (inv (w d d)) (w d k) else w i k) < 16
    by_cases a : i = d
    · subst a; rw [if_pos rfl, if_pos rfl]; exact ⟨rfl, tm_lt hb (h1 k hk).2⟩
    · rw [if_neg a, if_neg a]; exact ⟨rfl, (h1 k hk).2⟩
  · rw [rd 3 (by omega), rof_3]
    show _ = i3 (rh (if i = d then tm (inv (w d d)) (w d 0) else w i 0) (if i = d then tm (inv (w d d)) (w d 1) else w i 1) (if i = d then tm (inv (w d d)) (w d 2) else w i 2) e0 e1 e2)
    by_cases a : i = d
    · subst a
      rw [if_pos rfl, if_pos rfl, if_pos rfl, if_pos rfl, rh_mul hb (h1 0 (by omega)).2 (h1 1 (by omega)).2 (h1 2 (by omega)).2 k0 k1 k2]
    · rw [if_neg a, if_neg a, if_neg a, if_neg a]
theorem GS.less {o : Nat} (h : GS σ w e0 e1 e2) (hd : d < 3) (ho : o < 3) (k0 : e0 < 16) (k1 : e1 < 16) (k2 : e2 < 16) (g : RWS σ σ' (fun j => if 4 * o ≤ j ∧ j < 4 * o + 4 then i3 (rof w e0 e1 e2 j ^^^ tm (w o d) (rof w e0 e1 e2 (4 * d + (j - 4 * o)))) else i3 (rof w e0 e1 e2 j))) : GS σ' (lsw w d o) e0 e1 e2 := by
  intro i hi
  obtain ⟨h1, h2⟩ := h i hi
  obtain ⟨m1', m2'⟩ := h d hd
  have hl := ((h o ho).1 d hd).2
  have rd : ∀ k, k < 4 → σ' 46 (4 * i + k) = if i = o then i3 (rof w e0 e1 e2 (4 * i + k) ^^^ tm (w o d) (rof w e0 e1 e2 (4 * d + k))) else i3 (rof w e0 e1 e2 (4 * i + k)) := fun k hk => by
    rw [g.2 _ (by omega)]
    show (if 4 * o ≤ 4 * i + k ∧ 4 * i + k < 4 * o + 4 then i3 (rof w e0 e1 e2 (4 * i + k) ^^^ tm (w o d) (rof w e0 e1 e2 (4 * d + (4 * i + k - 4 * o)))) else _) = _
    by_cases a : i = o
    · subst a; rw [if_pos (by omega), if_pos rfl, Nat.add_sub_cancel_left]
    · rw [if_neg (by omega), if_neg a]
  unfold lsw
  refine ⟨fun k hk => ?_, ?_⟩
  · rw [rd k (by omega), rof_w hk, rof_w hk]
    show _ = i3 (if i = o then w o k ^^^ tm (w o d) (w d k) else w i k) ∧ (if i = o then w o k ^^^ tm (w o d) (w d k) else w i k) < 16
    by_cases a : i = o
    · subst a; rw [if_pos rfl, if_pos rfl]; exact ⟨rfl, x_lt (h1 k hk).2 (tm_lt hl (m1' k hk).2)⟩
    · rw [if_neg a, if_neg a]; exact ⟨rfl, (h1 k hk).2⟩
  · rw [rd 3 (by omega), rof_3, rof_3]
    show _ = i3 (rh (if i = o then w o 0 ^^^ tm (w o d) (w d 0) else w i 0) (if i = o then w o 1 ^^^ tm (w o d) (w d 1) else w i 1) (if i = o then w o 2 ^^^ tm (w o d) (w d 2) else w i 2) e0 e1 e2)
    by_cases a : i = o
    · subst a
      have n0 := (m1' 0 (by omega)).2
      have n1 := (m1' 1 (by omega)).2
      have n2 := (m1' 2 (by omega)).2
      rw [if_pos rfl, if_pos rfl, if_pos rfl, if_pos rfl, rh_mul hl n0 n1 n2 k0 k1 k2, rh_add (h1 0 (by omega)).2 (h1 1 (by omega)).2 (h1 2 (by omega)).2 (tm_lt hl n0) (tm_lt hl n1) (tm_lt hl n2) k0 k1 k2]
    · rw [if_neg a, if_neg a, if_neg a, if_neg a]
end GA

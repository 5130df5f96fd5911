set_option maxRecDepth 100000
/-! delete -/
section DE
variable {h c n r : Nat} {own : Nat → Nat} {B : BK} {σ σ' σh τ : Sg} {M M' : Mm}
theorem op_delete (R : RR h own B σ M n) (I : IV c σ) (x1 x2 : Int32) : OPR h c σ n (fHb_delete h x1 x2 M n) (fMd_delete x1 x2 σ) (cdf 1 2 3) := by
  have hh := R.hb
  have hn : n ≤ n + 1 := Nat.le_succ n
  have hn0 : n ≤ n := Nat.le_refl n
  rcases regs x1 with ⟨r, hr, rfl⟩ | ⟨h0, h1⟩
  · have q1 := c_reg (n := n) R hr
    have q2 := m_reg hr
    have G := R.rg r hr
    rcases key_c x2 with ⟨k1, k2⟩ | ⟨k1, k2⟩
    · have q3 := c_key (M := M) (n := n) k1
      have la : fRegion_latest (gr h r) x2 M = some ((lat σ r x2).map (ve B r)) := latest_c R I hr x2
      have lm : fMd_latest (i3 r) x2 σ = some (enc r (lat σ r x2)) := latest_m (σ' := σ) I hr x2 (fun _ _ => rfl)
      have co := c_isObject R I hr x2
      have hj : fHb_delete h (i3 r) x2 M n = if bI (obj σ r x2).isSome = i3 0 then some (.inl (i3 0), M, n) else bdC (fHb_store h (some (gr h r)) x2 (some (h + 37)) M n) n fun v15 M16 n17 => some (.inl v15, M16, n17) := by
        rw [fHb_delete_E, rk_s hh.k, q1, bdC_li hn0, q3, bdC_li hn0, rk_s G.k, la, bdR_s, co, bdR_s, fgR_s hh.k, hh.p4, rk_s hh.k]
      have no47 : fMd_delete_j47 (i3 r) x2 (i3 1) σ = some (i3 0, uS σ 0 0 (i3 0)) := by
        rw [fMd_delete_j47_E, fMd_delete_j48_E, if_neg (by decide), k2, bdR_s, if_neg (by decide), if_pos rfl, fMd_delete_j100_E, fMd_delete_j101_E, m_holds0, bdW_s, if_neg (by decide), if_pos rfl]
      have mj : fMd_delete (i3 r) x2 σ = if bI (obj σ r x2).isSome = i3 0 then some (i3 0, uS σ 0 0 (i3 0)) else fMd_delete_j48 (i3 r) x2 (i3 1) (i3 1) σ := by
        rw [fMd_delete_E, q2, bdR_s, if_neg (by decide), k2, bdR_s, if_neg (by decide), lm, bdR_s, fMd_delete_j26_E]
        unfold obj
        cases hf : lat σ r x2 with
        | none =>
          rw [if_pos (show enc r none = m1 from rfl)]
          exact no47
        | some i =>
          have hi := (fdn_lt (show fdn (pL σ r x2) (nv (σ 26 r)) = some i from hf)).1
          have i40 := (I.vn r hr).2
          have mk := m_mark I hr hi
          rw [if_neg (show ¬ enc r (some i) = m1 from fun w => by have w2 : i3 (40 * r + i) = m1 := w; rw [i3_m1 (by omega)] at w2; exact w2)]
          show (bdR (fMd_isMark (i3 (40 * r + i)) σ) fun v1 => _) = if bI (if σ 9 (nE σ r i) = i3 0 then none else some i).isSome = i3 0 then _ else _
          rw [mk, bdR_s]
          by_cases w : σ 9 (nE σ r i) = i3 0
          · rw [if_pos w, if_pos w, if_neg (by decide), no47]; rfl
          · rw [if_neg w, if_neg w, if_pos rfl]; rfl
      cases ho : (obj σ r x2).isSome with
      | false =>
        rw [ho] at hj mj
        refine OPR.ok0 R I (w := i3 0) ?_ ?_
        · rw [hj, if_pos (show bI false = i3 0 from rfl)]
        · rw [mj, if_pos (show bI false = i3 0 from rfl)]
      | true =>
        rw [ho] at hj mj
        rw [if_neg (show ¬ bI true = i3 0 by decide)] at hj mj
        obtain ⟨E, hE2, hE⟩ := I.ev.to
        have eE : nv (σ 8 0) = E := by rw [hE]; exact nv_i (by omega)
        obtain ⟨V, hV2, hV⟩ := (I.vn r hr).to
        have eV : nv (σ 26 r) = V := by rw [hV]; exact nv_i (by omega)
        have Y : BY own M (h + 37) 4 0 (fun _ => i3 0) := ⟨hh.nb, R.nb, fun j hj => by omega⟩
        have rb : rmB σ r 0 (fun _ => i3 0) = (decide (E < 200) && decide (V < 40)) := by unfold rmB; rw [if_pos rfl, eE, eV]
        have m48 : fMd_delete_j48 (i3 r) x2 (i3 1) (i3 1) σ = if (decide (E < 200) && decide (V < 40)) = true then fMd_delete_j100 (i3 r) x2 (i3 1) σ else fMd_delete_j96 (i3 r) x2 (i3 1) σ := by
          rw [fMd_delete_j48_E, if_neg (by decide), k2, bdR_s, if_neg (by decide), if_neg (by decide), mgA_26 (by omega), hV]
          by_cases z : V = 40
          · rw [if_pos (by rw [z]), decide_eq_false (show ¬ V < 40 by omega), Bool.and_false, if_neg (by decide)]
          · rw [if_neg (fun w => z ((i3_inj (by omega) (by omega)).mp w)), mgF_s, hE, decide_eq_true (show V < 40 by omega), Bool.and_true]
            by_cases y : E = 200
            · rw [if_pos (by rw [y]), decide_eq_false (show ¬ E < 200 by omega), if_neg (by decide)]
            · rw [if_neg (fun w => y ((i3_inj (by omega) (by omega)).mp w)), decide_eq_true (show E < 200 by omega), if_pos rfl]
        cases hz : rmB σ r 0 (fun _ => i3 0) with
        | false =>
          have hz2 := hz
          rw [rb] at hz2
          obtain ⟨M1, s1, s2⟩ := store_no (key := x2) R I hr Y (by omega) (by omega) hz
          have fm : FRM (fun x => x = 10 + r) own M own M1 := s2.frm fun cc a z _ => scu_own G z
          refine OPR.same R I (o := .inr 2) (v := i3 0) (n' := n + 1) (σ' := uS σ 0 0 (i3 3)) (M' := M1) ?_ ?_ fm (fun x hx => by omega) (scf0 _) ⟨rfl, by rw [uS_e]; decide⟩ (by omega) (by omega)
          · rw [hj, s1, bdC_ri hn]
          · rw [mj, m48, hz2, if_neg (by decide), fMd_delete_j96_E, fMd_delete_j101_E, m_holdsk (by decide) (by decide), bdW_s, if_pos rfl]
        | true =>
          have hz2 := hz
          rw [rb] at hz2
          obtain ⟨own', B', M', n', γ, σ1, σ2, s1, s2, s3, s4, s5, s6, s7, s8, s9, -⟩ := store_i (σh := uS σ 0 0 (i3 0)) (mk := i3 1) (C := cS (fun _ => i3 0) 0 0) R I hr Y (by omega) (by omega) (by omega) (by omega) (fun j hj => by omega) k1 hE hE2 hz (fun k a _ _ => uS_n _ _ _ (by omega)) rfl (fun j hj => by omega) (fun q hq => absurd hq (Nat.not_lt_zero q)) (Or.inr ⟨rfl, rfl⟩)
          have fin : ∀ k, ¬ SCF k → σ2 k = γ k := fun k hk => by
            by_cases z : k < 8 ∨ 40 ≤ k
            · rw [(s8 k z).2, (s8 k z).1, uS_n _ _ _ (fun w => hk (Or.inl w))]
            · exact (s7 k (by omega) (by unfold SCF at hk; omega) (by omega)).symm
          refine ⟨.inl (i3 (E + 1)), M', n', i3 (E + 1), σ2, ?_, ?_, ⟨by rw [(s8 0 (Or.inl (by decide))).2, uS_e], rfl⟩, s4, ?_, own', B', s5.scf fin, (s6.scf fin).up0⟩
          · rw [hj, s1, bdC_li s4]
          · rw [mj, m48, hz2, if_pos rfl, fMd_delete_j100_E, fMd_delete_j101_E, m_holds0, bdW_s, if_neg (by decide), if_neg (by decide), s2, bdW_s, s3, bdW_s]
          · unfold POT
            unfold kpt ppt at s9 ⊢
            rw [fin 36 (by unfold SCF; omega), fin 18 (by unfold SCF; omega), fin 8 (by unfold SCF; omega)]
            exact s9
    · have q3 := c_nokey (M := M) (n := n) k1
      refine OPR.err R I 1 2 (v := i3 0) ?_ ?_ rfl (by omega) (by omega)
      · rw [fHb_delete_E, rk_s hh.k, q1, bdC_li hn0, q3, bdC_ri hn]
      · rw [fMd_delete_E, q2, bdR_s, if_neg (by decide), k2, bdR_s, if_pos rfl, fMd_delete_j25_E, fMd_delete_j26_E, if_pos rfl, fMd_delete_j47_E, fMd_delete_j48_E, if_neg (by decide), k2, bdR_s, if_pos rfl, fMd_delete_j101_E, m_holdsk (by decide) (by decide), bdW_s, if_pos rfl]
  · have q1 := c_noreg (h := h) (M := M) (n := n) h0 h1
    have q2 := m_noreg h0 h1
    refine OPR.err R I 0 1 (v := i3 0) ?_ ?_ rfl (by omega) (by omega)
    · rw [fHb_delete_E, rk_s hh.k, q1, bdC_ri hn]
    · rw [fMd_delete_E, q2, bdR_s, if_pos rfl, fMd_delete_j25_E, fMd_delete_j26_E, if_pos rfl, fMd_delete_j47_E, fMd_delete_j48_E, if_pos rfl, fMd_delete_j101_E, m_holdsk (by decide) (by decide), bdW_s, if_pos rfl]
end DE

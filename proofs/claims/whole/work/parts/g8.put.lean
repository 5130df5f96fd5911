set_option maxRecDepth 100000
/-! put, delete -/
section PU
variable {h c n r : Nat} {own : Nat → Nat} {B : BK} {σ σ' σh τ : Sg} {M M' : Mm}
theorem m_atHand {m : Nat} (hm : σ 1 0 = i3 m) (h40 : m ≤ 40) : ∃ σ', fMd_atHand σ = some ((), σ') ∧ (∀ k, k ≠ 3 → k ≠ 4 → k ≠ 5 → k ≠ 6 → k ≠ 7 → σ' k = σ k) ∧ AHD σ' m (σ 2) ∧ MCR σ' (cS (σ 2) m m) := by
  have lp : ∀ d j fu (σ2 : Sg), d + j = m → d < fu → (∀ k, k ≠ 3 → k ≠ 4 → σ2 k = σ k) → σ2 3 0 = i3 m → (∀ x, x < j → σ2 4 x = σ 2 x) → ∃ σ', fMd_atHand_l10 fu (i3 j) σ2 = some ((), σ') ∧ (∀ k, k ≠ 3 → k ≠ 4 → k ≠ 5 → k ≠ 6 → k ≠ 7 → σ' k = σ k) ∧ AHD σ' m (σ 2) ∧ MCR σ' (cS (σ 2) m m) := by
    intro d
    induction d with
    | zero =>
      intro j fu σ2 hd hfu e2 e3 v2
      obtain ⟨f, rfl⟩ : ∃ f, fu = f + 1 := ⟨fu - 1, by omega⟩
      obtain ⟨σ3, a1, a2, a3⟩ := m_cuts (σ := σ2) (m := m) (g := σ 2) ⟨e3, fun x hx => v2 x (by omega)⟩ h40
      refine ⟨σ3, ?_, fun k k3 k4 k5 k6 k7 => (a2 k k5 k6 k7).trans (e2 k k3 k4), ⟨by rw [a2 3 (by decide) (by decide) (by decide)]; exact e3, fun x hx => by rw [a2 4 (by decide) (by decide) (by decide)]; exact v2 x (by omega)⟩, a3⟩
      rw [fMd_atHand_l10_S, fMd_atHand_b10_E, mgF_s, e3, if_pos ((i3_le (by omega) (by omega)).mpr (by omega)), a1, bdW_s]
    | succ d ih =>
      intro j fu σ2 hd hfu e2 e3 v2
      obtain ⟨f, rfl⟩ : ∃ f, fu = f + 1 := ⟨fu - 1, by omega⟩
      rw [fMd_atHand_l10_S, fMd_atHand_b10_E, mgF_s, e3, if_neg (fun w => absurd ((i3_le (by omega) (by omega)).mp w) (by omega)), mgA_2 (by omega), mpA_4 (by omega), i3_add]
      refine ih (j + 1) f _ (by omega) (by omega) (fun k k3 k4 => by rw [uS_n _ _ _ k4]; exact e2 k k3 k4) (by rw [uS_n _ _ _ (by decide)]; exact e3) (fun x hx => ?_)
      by_cases z : x = j
      · rw [z, uS_e, e2 2 (by decide) (by decide)]
      · rw [uS_d _ _ _ _ z]; exact v2 x (by omega)
  rw [fMd_atHand_E, mgF_s, hm, mpF_s]
  exact lp m 0 FU _ (by omega) (FU_S (by omega)) (fun k k3 _ => uS_n _ _ _ k3) (uS_e _ _ _ _) (fun x hx => by omega)
/-- whether a condition holds -/
def canB (σ : Sg) (r : Nat) (key x3 : Int32) : Bool := if x3 = m1 then true else if x3 = i3 0 then !(obj σ r key).isSome else match lat σ r key with
  | none => false
  | some i => decide (σ 27 (40 * r + i) = x3)
theorem c_holds (R : RR h own B σ M n) (I : IV c σ) (hr : r < 2) (key x3 : Int32) : fHb_holds x3 ((lat σ r key).map (ve B r)) M = some (bI (canB σ r key x3)) := by
  unfold canB
  rw [fHb_holds_E]
  by_cases z : x3 = m1
  · rw [if_pos z, if_pos z, rZ_1]; rfl
  · rw [if_neg z, if_neg z]
    by_cases y : x3 = i3 0
    · rw [if_pos y, if_pos y, c_isObject R I hr, bdR_s]
      cases (obj σ r key).isSome with
      | false => rw [if_pos (show bI false = i3 0 from rfl), rZ_1]; rfl
      | true => rw [if_neg (show ¬ bI true = i3 0 by decide), rZ_0]; rfl
    · rw [if_neg y, if_neg y]
      cases hf : lat σ r key with
      | none => rfl
      | some i =>
        have W := R.ver I hr (fdn_lt (show fdn (pL σ r key) (nv (σ 26 r)) = some i from hf)).1
        show (fgR 10 1000 (some (ve B r i)) M fun v2 => fgI 4 401 v2 M fun v3 => if v3 = x3 then rZ (i3 1) (some (i3 1)) else rZ (i3 0) (some (i3 0))) = _
        rw [fgR_s W.k, W.p0, fgI_s W.ek, W.nu]
        show _ = some (bI (decide (σ 27 (40 * r + i) = x3)))
        by_cases w : σ 27 (40 * r + i) = x3
        · rw [if_pos w, rZ_1, decide_eq_true w]; rfl
        · rw [if_neg w, rZ_0, decide_eq_false w]; rfl
theorem m_can (I : IV c σ) (hr : r < 2) (key x3 : Int32) : fMd_put_j45 (i3 r) key x3 (i3 1) (i3 1) (enc r (lat σ r key)) σ = fMd_put_j96 (i3 r) key (i3 1) (i3 1) (bI (canB σ r key x3)) σ := by
  unfold canB
  rw [fMd_put_j45_E]
  by_cases z : x3 = m1
  · rw [if_pos z, if_pos z, fMd_put_j91_E]; rfl
  · rw [if_neg z, if_neg z]
    by_cases y : x3 = i3 0
    · rw [if_pos y, if_pos y]
      unfold obj
      cases hf : lat σ r key with
      | none =>
        rw [if_pos (show enc r none = m1 from rfl), fMd_put_j91_E]; rfl
      | some i =>
        have hi := (fdn_lt (show fdn (pL σ r key) (nv (σ 26 r)) = some i from hf)).1
        have i40 := (I.vn r hr).2
        have mk := m_mark I hr hi
        rw [if_neg (show ¬ enc r (some i) = m1 from fun w => by have w2 : i3 (40 * r + i) = m1 := w; rw [i3_m1 (by omega)] at w2; exact w2)]
        show (bdR (fMd_isMark (i3 (40 * r + i)) σ) fun v1 => _) = fMd_put_j96 (i3 r) key (i3 1) (i3 1) (bI (!(if σ 9 (nE σ r i) = i3 0 then none else some i).isSome)) σ
        rw [mk, bdR_s]
        by_cases w : σ 9 (nE σ r i) = i3 0
        · rw [if_pos w, if_pos w, if_neg (by decide), fMd_put_j91_E]; rfl
        · rw [if_neg w, if_neg w, if_pos rfl, fMd_put_j95_E]; rfl
    · rw [if_neg y, if_neg y]
      cases hf : lat σ r key with
      | none =>
        rw [if_pos (show enc r none = m1 from rfl), fMd_put_j95_E]; rfl
      | some i =>
        have hi := (fdn_lt (show fdn (pL σ r key) (nv (σ 26 r)) = some i from hf)).1
        have i40 := (I.vn r hr).2
        rw [if_neg (show ¬ enc r (some i) = m1 from fun w => by have w2 : i3 (40 * r + i) = m1 := w; rw [i3_m1 (by omega)] at w2; exact w2)]
        show (mgA 27 (i3 (40 * r + i)) σ fun v2 => _) = fMd_put_j96 (i3 r) key (i3 1) (i3 1) (bI (decide (σ 27 (40 * r + i) = x3))) σ
        rw [mgA_27 (by omega)]
        by_cases w : σ 27 (40 * r + i) = x3
        · rw [if_pos w, decide_eq_true w, fMd_put_j91_E]; rfl
        · rw [if_neg w, decide_eq_false w, fMd_put_j95_E]; rfl
theorem m_isFull {m : Nat} {g : Nat → Int32} (Q : PQ σ) (hE : NB 200 (σ 8 0)) (V40 : NB 40 (σ 26 r)) (A : AHD σ m g) (u : MCR σ (cS g m m)) (h40 : m ≤ 40) (m0 : m ≠ 0) (hr : r < 2) : fMd_isFull (i3 r) σ = some (bI (!rmB σ r m g)) := by
  obtain ⟨E, hE2, hEe⟩ := hE.to
  have eE : nv (σ 8 0) = E := by rw [hEe]; exact nv_i (by omega)
  unfold rmB
  rw [if_neg m0, eE, fMd_isFull_E, mgF_s, hEe]
  by_cases z : E = 200
  · rw [if_pos (by rw [z]), fMd_isFull_j18_E, rZ_1, decide_eq_false (by omega), Bool.false_and]; rfl
  · rw [if_neg (fun w => z ((i3_inj (by omega) (by omega)).mp w)), m_hasRoom Q V40 A u h40 hr, bdR_s, decide_eq_true (by omega), Bool.true_and]
    cases rom σ r m g with
    | false => rw [if_pos (show bI false = i3 0 from rfl), fMd_isFull_j18_E, rZ_1]; rfl
    | true => rw [if_neg (show ¬ bI true = i3 0 by decide), rZ_0]; rfl
theorem rmB_e {m : Nat} {g : Nat → Int32} (e : PFE σ' σ) (e8 : σ' 8 = σ 8) (e26 : σ' 26 = σ 26) : rmB σ' r m g = rmB σ r m g := by
  unfold rmB rom upN
  rw [e8, e26, e 17 (by decide) (by decide), e 18 (by decide) (by decide), nwp_e e]
theorem PQ.e (Q : PQ σ) (e : PFE σ' σ) : PQ σ' := fun r0 hr0 => by
  have := Q r0 hr0
  unfold IVP at this ⊢
  rw [e 18 (by decide) (by decide), e 19 (by decide) (by decide), e 20 (by decide) (by decide), e 21 (by decide) (by decide), e 22 (by decide) (by decide), e 23 (by decide) (by decide), e 24 (by decide) (by decide), e 25 (by decide) (by decide)]
  exact this
theorem op_put (R : RR h own B σ M n) (I : IV c σ) (x1 x2 x3 : Int32) : OPR h c σ n (fHb_put h x1 x2 x3 M n) (fMd_put x1 x2 x3 σ) (cdf 1 2 3) := by
  have hh := R.hb
  have hn : n ≤ n + 1 := Nat.le_succ n
  have hn0 : n ≤ n := Nat.le_refl n
  obtain ⟨m, h40, hm⟩ := I.dr.to
  have em : nv (σ 1 0) = m := by rw [hm]; exact nv_i (by omega)
  obtain ⟨σa, ah, ao, aA, aC⟩ := m_atHand hm h40
  have aS : ∀ k, ¬ SCF k → σa k = σ k := fun k hk => ao k (fun w => hk (by unfold SCF; omega)) (fun w => hk (by unfold SCF; omega)) (fun w => hk (by unfold SCF; omega)) (fun w => hk (by unfold SCF; omega)) (fun w => hk (by unfold SCF; omega))
  have tS : ∀ (t : Int32) k, ¬ SCF k → uS σa 0 0 t k = σ k := fun t k hk => by rw [uS_n _ _ _ (fun w => hk (Or.inl w))]; exact aS k hk
  have bad1 : ∀ x5 s0, fMd_put_j96 x1 x2 (i3 0) x5 s0 σ = some (i3 0, uS σa 0 0 (i3 1)) := fun x5 s0 => by
    rw [fMd_put_j96_E, ah, bdW_s, if_pos rfl, fMd_put_j146_E, m_holdsk (by decide) (by decide), bdW_s, if_pos rfl]
  have any : ∀ x4 x5, ∃ s0, fMd_put_j44 x1 x2 x3 x4 x5 σ = fMd_put_j96 x1 x2 x4 x5 s0 σ := fun x4 x5 => by
    rw [fMd_put_j44_E, fMd_put_j45_E]
    by_cases z : x3 = m1
    · exact ⟨i3 1, by rw [if_pos z, fMd_put_j91_E]⟩
    · rw [if_neg z]
      by_cases y : x3 = i3 0
      · exact ⟨i3 1, by rw [if_pos y, if_pos rfl, fMd_put_j91_E]⟩
      · exact ⟨i3 0, by rw [if_neg y, if_pos rfl, fMd_put_j95_E]⟩
  rcases regs x1 with ⟨r, hr, rfl⟩ | ⟨h0, h1⟩
  · have q1 := c_reg (n := n) R hr
    have q2 := m_reg hr
    have G := R.rg r hr
    have bad2 : ∀ s0, fMd_put_j96 (i3 r) x2 (i3 1) (i3 0) s0 σ = some (i3 0, uS σa 0 0 (i3 2)) := fun s0 => by
      rw [fMd_put_j96_E, ah, bdW_s, if_neg (by decide), if_pos rfl, fMd_put_j146_E, m_holdsk (by decide) (by decide), bdW_s, if_pos rfl]
    have wrong : fMd_put_j22 (i3 r) x2 x3 (i3 1) σ = some (i3 0, uS σa 0 0 (i3 2)) := by
      obtain ⟨s0, e⟩ := any (i3 1) (i3 0)
      rw [fMd_put_j22_E, fMd_put_j23_E, if_neg (by decide), if_pos rfl, e]
      exact bad2 s0
    rcases key_c x2 with ⟨k1, k2⟩ | ⟨k1, k2⟩
    · have q3 := c_key (M := M) (n := n) k1
      by_cases z : x3 < m1
      · refine OPR.same0 R I (o := .inr 1) (v := i3 0) (n' := n + 1) (σ' := uS σa 0 0 (i3 2)) ?_ ?_ (tS _) ⟨rfl, by rw [uS_e]; decide⟩ (by omega) (by omega)
        · rw [fHb_put_E, rk_s hh.k, q1, bdC_li hn0, q3, bdC_li hn0, if_pos z, fHb_put_j21_E, c_arg0, bdC_ri hn]
        · rw [fMd_put_E, q2, bdR_s, k2, bdR_s, if_neg (by decide), if_pos z]
          exact wrong
      · have la : fRegion_latest (gr h r) x2 M = some ((lat σ r x2).map (ve B r)) := latest_c R I hr x2
        have lm : fMd_latest (i3 r) x2 σ = some (enc r (lat σ r x2)) := latest_m (σ' := σ) I hr x2 (fun _ _ => rfl)
        have mm : fMd_put (i3 r) x2 x3 σ = fMd_put_j96 (i3 r) x2 (i3 1) (i3 1) (bI (canB σ r x2 x3)) σ := by
          rw [fMd_put_E, q2, bdR_s, k2, bdR_s, if_neg (by decide), if_neg z, fMd_put_j23_E, if_neg (by decide), if_neg (by decide), lm, bdR_s]
          exact m_can I hr x2 x3
        have cc : fHb_put h (i3 r) x2 x3 M n = fHb_put_j39 h x2 x3 (some (gr h r)) (if m = 0 then i3 0 else i3 1) M n := by
          rw [fHb_put_E, rk_s hh.k, q1, bdC_li hn0, q3, bdC_li hn0, if_neg z, fHb_put_j21_E, c_arg1, bdC_li hn0, fgR_s hh.k, hh.p2, fgI_s hh.dr.k, R.dm, hm]
          by_cases y : m = 0
          · rw [if_pos y, if_pos ((i3_le (by omega) (by omega)).mpr (by omega))]
          · rw [if_neg y, if_neg (fun w => absurd ((i3_le (by omega) (by omega)).mp w) (by omega))]
        have a1 : σa 1 0 = i3 m := by rw [ao 1 (by decide) (by decide) (by decide) (by decide) (by decide)]; exact hm
        by_cases y : m = 0
        · refine OPR.same0 R I (o := .inr 2) (v := i3 0) (n' := n + 1) (σ' := uS σa 0 0 (i3 3)) ?_ ?_ (tS _) ⟨rfl, by rw [uS_e]; decide⟩ (by omega) (by omega)
          · rw [cc, if_pos y, fHb_put_j39_E, c_st0, bdC_ri hn]
          · rw [mm, fMd_put_j96_E, ah, bdW_s, if_neg (by decide), if_neg (by decide), mgF_s, a1, if_pos (by rw [y]), fMd_put_j141_E, fMd_put_j146_E, m_holdsk (by decide) (by decide), bdW_s, if_pos rfl]
        · have ch := c_holds R I hr x2 x3
          rw [if_neg y] at cc
          have hj : fHb_put h (i3 r) x2 x3 M n = if bI (canB σ r x2 x3) = i3 0 then some (.inl (i3 0), M, n) else bdC (fHb_store h (some (gr h r)) x2 (some (h + 33)) M n) n fun v11 M12 n13 => fgR 11 1102 (some h) M12 fun v14 => rk 1 v14 M12 fun a15 => bdW (fBytes_makeEmpty a15 M12) fun v18 M19 => some (.inl v11, M19, n13) := by
            rw [cc, fHb_put_j39_E, c_st1, bdC_li hn0, rk_s G.k, la, bdR_s, ch, bdR_s, fgR_s hh.k, hh.p2, rk_s hh.k]
          have mj : fMd_put (i3 r) x2 x3 σ = if bI (canB σ r x2 x3) = i3 0 then fMd_put_j145 (i3 r) x2 (bI (canB σ r x2 x3)) σa else bdR (fMd_isFull (i3 r) σa) fun v4 => if v4 = i3 0 then fMd_put_j145 (i3 r) x2 (bI (canB σ r x2 x3)) σa else fMd_put_j141 (i3 r) x2 (bI (canB σ r x2 x3)) σa := by
            rw [mm, fMd_put_j96_E, ah, bdW_s, if_neg (by decide), if_neg (by decide), mgF_s, a1, if_neg (fun w => y ((i3_inj (by omega) (by omega)).mp w))]
          cases hc : canB σ r x2 x3 with
          | false =>
            rw [hc] at hj mj
            refine OPR.same0 R I (o := .inl (i3 0)) (v := i3 0) (n' := n) (σ' := uS σa 0 0 (i3 0)) ?_ ?_ (tS _) ⟨rfl, rfl⟩ (by omega) (by omega)
            · rw [hj, if_pos (show bI false = i3 0 from rfl)]
            · rw [mj, if_pos (show bI false = i3 0 from rfl), fMd_put_j145_E, fMd_put_j146_E, m_holds0, bdW_s, if_neg (by decide), if_pos (show bI false = i3 0 from rfl)]
          | true =>
            rw [hc] at hj mj
            rw [if_neg (show ¬ bI true = i3 0 by decide)] at hj mj
            have pfe : PFE σa σ := fun k a b => ao k (by omega) (by omega) (by omega) (by omega) (by omega)
            have a8 : σa 8 = σ 8 := ao 8 (by decide) (by decide) (by decide) (by decide) (by decide)
            have a26 : σa 26 = σ 26 := ao 26 (by decide) (by decide) (by decide) (by decide) (by decide)
            have fu := m_isFull (σ := σa) (r := r) (I.pq.e pfe) (by rw [a8]; exact I.ev) (by rw [a26]; exact I.vn r hr) aA aC h40 y hr
            rw [rmB_e pfe a8 a26] at fu
            have Y : BY own M (h + 33) 2 m (σ 2) := ⟨hh.dr, by rw [R.dm, hm], fun j hj => R.db j (by omega)⟩
            have hg : ∀ j, j < m → NB 15 (σ 2 j) := fun j hj => I.db j (by omega)
            cases hz : rmB σ r m (σ 2) with
            | false =>
              rw [hz] at fu
              obtain ⟨M1, s1, s2⟩ := store_no (key := x2) R I hr Y h40 (by omega) hz
              have fm : FRM (fun x => x = 10 + r) own M own M1 := s2.frm fun cc a z _ => scu_own G z
              refine OPR.same R I (o := .inr 2) (v := i3 0) (n' := n + 1) (σ' := uS σa 0 0 (i3 3)) (M' := M1) ?_ ?_ fm (fun x hx => by omega) (tS _) ⟨rfl, by rw [uS_e]; decide⟩ (by omega) (by omega)
              · rw [hj, s1, bdC_ri hn]
              · rw [mj, fu, bdR_s, if_neg (show ¬ bI (!false) = i3 0 by decide), fMd_put_j141_E, fMd_put_j146_E, m_holdsk (by decide) (by decide), bdW_s, if_pos rfl]
            | true =>
              rw [hz] at fu
              obtain ⟨E, hE2, hE⟩ := I.ev.to
              obtain ⟨σh, hσh⟩ : ∃ σh, σh = uS (uS σa 0 0 (i3 0)) 1 0 (i3 0) := ⟨_, rfl⟩
              have hn' : ∀ k, k ≠ 0 → k ≠ 1 → σh k = σa k := fun k a b => by rw [hσh, uS_n _ _ _ b, uS_n _ _ _ a]
              obtain ⟨own', B', M', n', γ, σ1, σ2, s1, s2, s3, s4, s5, s6, s7, s8, s9, -⟩ := store_i (σh := σh) (mk := i3 0) (C := cS (σ 2) m m) R I hr Y (by omega) (by omega) h40 (by omega) hg k1 hE hE2 hz (fun k a b _ => by
                rw [hn' k (by omega) (by omega)]; exact ao k (by omega) (by omega) (by omega) (by omega) (by omega)) rfl (fun j hj => by rw [hn' 4 (by decide) (by decide)]; exact aA.2 j hj) (fun q hq => by rw [hn' 6 (by decide) (by decide), hn' 7 (by decide) (by decide)]; exact aC.2 q hq) (Or.inl ⟨rfl, by rw [hn' 5 (by decide) (by decide)]; exact aC.1⟩)
              have R2 := s5.setd (i3 0) (fun j hj => by rw [nv_i (by omega)] at hj; omega)
              have I2 : IV c (uS γ 1 0 (i3 0)) := by
                have hdr : NB 40 (uS γ 1 0 (i3 0) 1 0) := by rw [uS_e]; exact NB.of (by omega) (by omega)
                have hdb : ∀ j, j < nv (uS γ 1 0 (i3 0) 1 0) → NB 15 (γ 2 j) := fun j hj => by rw [uS_e, nv_i (by omega)] at hj; omega
                exact ⟨hdr, hdb, s6.ev, s6.dy, s6.dc, s6.en, s6.vn, s6.vo, s6.vi, s6.hd, s6.kn, s6.ks, s6.ko, s6.pn, s6.po, s6.dn, s6.un, s6.uo, s6.uz, s6.up, s6.rn, s6.rk⟩
              have fin : ∀ k, ¬ SCF k → σ2 k = uS γ 1 0 (i3 0) k := fun k hk => by
                by_cases z1 : k = 1
                · subst z1
                  rw [(s8 1 (Or.inl (by decide))).2, hσh]
                  funext j
                  by_cases w : j = 0
                  · subst w; rw [uS_e, uS_e]
                  · rw [uS_d _ _ _ _ w, uS_d _ _ _ _ w, (s8 1 (Or.inl (by decide))).1, uS_n _ _ _ (by decide), ao 1 (by decide) (by decide) (by decide) (by decide) (by decide)]
                · rw [uS_n _ _ _ z1]
                  by_cases z2 : k = 2
                  · subst z2
                    rw [(s8 2 (Or.inl (by decide))).2, (s8 2 (Or.inl (by decide))).1, hn' 2 (by decide) (by decide), ao 2 (by decide) (by decide) (by decide) (by decide) (by decide)]
                  · by_cases z3 : k = 43
                    · subst z3
                      rw [(s8 43 (Or.inr (by decide))).2, (s8 43 (Or.inr (by decide))).1, hn' 43 (by decide) (by decide), ao 43 (by decide) (by decide) (by decide) (by decide) (by decide)]
                    · exact (s7 k (by unfold SCF at hk; omega) (by unfold SCF at hk; omega) z3).symm
              refine ⟨.inl (i3 (E + 1)), uI M' 101 (h + 33) 0 (i3 0), n', i3 (E + 1), σ2, ?_, ?_, ⟨by rw [(s8 0 (Or.inl (by decide))).2, hσh, uS_n _ _ _ (by decide), uS_e], rfl⟩, s4, ?_, own', B', R2.scf fin, (I2.scf fin).up0⟩
              · have k' := s5.hb
                rw [hj, s1, bdC_li s4, fgR_s k'.k, k'.p2, rk_s k'.dr.k, fBytes_makeEmpty_E, fpI_s k'.dr.k, bdW_s]
              · rw [mj, fu, bdR_s, if_pos (show bI (!true) = i3 0 from rfl), fMd_put_j145_E, fMd_put_j146_E, m_holds0, bdW_s, if_neg (by decide), if_neg (show ¬ bI true = i3 0 by decide), mpF_s, ← hσh, fMd_puts_E, mgF_s, hn' 3 (by decide) (by decide), aA.1, s2, bdW_s, s3, bdW_s, bdW_s]
              · unfold POT
                unfold kpt ppt at s9 ⊢
                rw [fin 36 (by unfold SCF; omega), fin 18 (by unfold SCF; omega), fin 8 (by unfold SCF; omega), uS_n _ _ _ (by decide), uS_n _ _ _ (by decide), uS_n _ _ _ (by decide)]
                exact s9
    · have q3 := c_nokey (M := M) (n := n) k1
      refine OPR.same0 R I (o := .inr 1) (v := i3 0) (n' := n + 1) (σ' := uS σa 0 0 (i3 2)) ?_ ?_ (tS _) ⟨rfl, by rw [uS_e]; decide⟩ (by omega) (by omega)
      · rw [fHb_put_E, rk_s hh.k, q1, bdC_li hn0, q3, bdC_ri hn]
      · rw [fMd_put_E, q2, bdR_s, k2, bdR_s, if_pos rfl]
        exact wrong
  · have q1 := c_noreg (h := h) (M := M) (n := n) h0 h1
    have q2 := m_noreg h0 h1
    have mm : fMd_put x1 x2 x3 σ = some (i3 0, uS σa 0 0 (i3 1)) := by
      have j23 : ∀ s0, fMd_put_j23 x1 x2 x3 (i3 0) s0 σ = some (i3 0, uS σa 0 0 (i3 1)) := fun s0 => by
        obtain ⟨s1, e⟩ := any (i3 0) s0
        rw [fMd_put_j23_E, if_pos rfl, e]
        exact bad1 _ _
      rcases key_c x2 with ⟨k1, k2⟩ | ⟨k1, k2⟩
      · rw [fMd_put_E, q2, bdR_s, k2, bdR_s, if_neg (by decide)]
        by_cases z : x3 < m1
        · rw [if_pos z, fMd_put_j22_E]; exact j23 _
        · rw [if_neg z]; exact j23 _
      · rw [fMd_put_E, q2, bdR_s, k2, bdR_s, if_pos rfl, fMd_put_j22_E]; exact j23 _
    refine OPR.same0 R I (o := .inr 0) (v := i3 0) (n' := n + 1) (σ' := uS σa 0 0 (i3 1)) ?_ mm (tS _) ⟨rfl, by rw [uS_e]; decide⟩ (by omega) (by omega)
    rw [fHb_put_E, rk_s hh.k, q1, bdC_ri hn]
end PU

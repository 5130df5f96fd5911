set_option maxRecDepth 100000
/-! the start: the harbour and the check, made -/
def BYT0 (M : Mm) (a : Nat) : Prop := mK M a = 1 ∧ mP M 100 a 0 = some (a + 1) ∧ mI M 101 a 0 = 0 ∧ mK M (a + 1) = 20 ∧ mL M (a + 1) = 40
theorem BYT0.keep {S : Nat → Prop} {M M' : Mm} {a : Nat} (h : BYT0 M a) (k : SM S M M') (ha : ¬ S a) (hb : ¬ S (a + 1)) : BYT0 M' a := by
  obtain ⟨h1, h2, h3, h4, h5⟩ := h
  exact ⟨k.kd ha h1, k.pt ha h2, k.it ha h3, k.kd hb h4, k.ln hb h5⟩
/-- one field of the harbour laid -/
def HST (fid h a : Nat) (M M' : Mm) : Prop := SM (NW h a) M M' ∧ mK M' h = 11 ∧ (∀ c, mI M' c h 0 = mI M c h 0) ∧ (∀ c v, c ≠ fid → mP M c h 0 = v → mP M' c h 0 = v) ∧ mP M' fid h 0 = some a
section SR
variable {h fid a m : Nat} {M : Mm} {Q : Unit → Mm → Nat → Prop} {f : Mm → Nat → Option ((Unit ⊕ Nat) × Mm × Nat)}
theorem reg_step (hk : mK M h = 11) (ha : h < a) (h0 : 0 < h) (hm : m = a + 16) (k : ∀ M', HST fid h a M M' → REG0 M' a (a + 1) → RES (f M' m) Q) : RES (nwO 6 M a fun y M2 n3 => rk 6 y M2 fun a4 => bdN (fRegion_init a4 M2 n3) n3 fun _ M8 n9 => fpR 11 fid (some h) y M8 fun M10 => f M10 n9) Q := by
  refine RES.newO (RES.look (kd := 6) (by simp [mK_nA]) ?_)
  refine RES.call (region_init (nA M a 6 0) (a + 1) a (by simp [mK_nA]) (by omega) (by omega)) (fun _ _ _ hp => by rw [hp.1]; omega) (fun _ Ma na hp => ?_)
  obtain ⟨e, a1, a2⟩ := hp
  have e : na = m := by omega
  rw [e]
  have hne : ¬ NW a (a + 1) h := fun z => by rcases z with z | z <;> omega
  have k1 : mK Ma h = 11 := a1.kd hne (kn hk ha)
  refine RES.putR (kd := 11) k1 ?_
  have s1 : SM (fun b => b = h) Ma (uP Ma fid h 0 (some a)) := SM.uP fid h 0 _
  refine k _ ⟨(((SM.nA a 6 0).trans a1).trans s1).mono (fun b z => ?_), k1, fun c => ?_, fun c v hc hv => ?_, by simp [mP_uP]⟩ (a2.keep s1 (fun z => by omega) (fun b g1 g2 z => by omega) (fun z => by omega))
  · rcases z with (z | z | z) | z
    · exact Or.inr (by omega)
    · exact Or.inr (by omega)
    · exact Or.inr (by omega)
    · exact Or.inl z
  · refine Eq.trans (show mI (uP Ma fid h 0 (some a)) c h 0 = mI (nA M a 6 0) c h 0 from (a1 h hne).2.2.1 c 0) ?_
    rw [mI_nA, if_neg (by omega)]
  · rw [mP_uP, if_neg (fun z => hc z.1)]
    exact a1.pt hne (by rw [mP_nA, if_neg (by omega)]; exact hv)
theorem byt_step (hk : mK M h = 11) (ha : h < a) (h0 : 0 < h) (hm : m = a + 2) (k : ∀ M', HST fid h a M M' → BYT0 M' a → RES (f M' m) Q) : RES (nwO 1 M a fun y M2 n3 => rk 1 y M2 fun a4 => bdN (fBytes_init a4 M2 n3) n3 fun _ M8 n9 => fpR 11 fid (some h) y M8 fun M10 => f M10 n9) Q := by
  refine RES.newO (RES.look (kd := 1) (by simp [mK_nA]) ?_)
  refine RES.call (bytes_init' (nA M a 1 0) (a + 1) a (by simp [mK_nA]) (by omega)) (fun _ _ _ hp => by rw [hp.1]; omega) (fun _ Ma na hp => ?_)
  obtain ⟨e, a1, b1, b2, b3, b4⟩ := hp
  have e : na = m := by omega
  rw [e]
  have hne : ¬ NW a (a + 1) h := fun z => by rcases z with z | z <;> omega
  have k1 : mK Ma h = 11 := a1.kd hne (kn hk ha)
  refine RES.putR (kd := 11) k1 ?_
  have s1 : SM (fun b => b = h) Ma (uP Ma fid h 0 (some a)) := SM.uP fid h 0 _
  have bb : BYT0 Ma a := ⟨b1, b2, b3.trans (by rw [mI_nA, if_pos rfl]), b4.1, b4.2.1⟩
  refine k _ ⟨(((SM.nA a 1 0).trans a1).trans s1).mono (fun b z => ?_), k1, fun c => ?_, fun c v hc hv => ?_, by simp [mP_uP]⟩ (bb.keep s1 (fun z => by omega) (fun z => by omega))
  · rcases z with (z | z | z) | z
    · exact Or.inr (by omega)
    · exact Or.inr (by omega)
    · exact Or.inr (by omega)
    · exact Or.inl z
  · refine Eq.trans (show mI (uP Ma fid h 0 (some a)) c h 0 = mI (nA M a 1 0) c h 0 from (a1 h hne).2.2.1 c 0) ?_
    rw [mI_nA, if_neg (by omega)]
  · rw [mP_uP, if_neg (fun z => hc z.1)]
    exact a1.pt hne (by rw [mP_nA, if_neg (by omega)]; exact hv)
theorem lst_step (hk : mK M h = 11) (ha : h < a) (hm : m = a + 1) (k : ∀ M', HST fid h a M M' → NIL0 M' a → RES (f M' m) Q) : RES (nwO 12 M a fun y M2 n3 => rk 12 y M2 fun a4 => bdW (fAl_init a4 M2) fun _ M8 => fpR 11 fid (some h) y M8 fun M10 => f M10 n3) Q := by
  subst hm
  refine RES.newO (RES.look (kd := 12) (by simp [mK_nA]) (RES.al (by simp [mK_nA]) (RES.putR (kd := 11) (by simp only [mK_uP, mK_uI]; exact kn hk ha) ?_)))
  obtain ⟨b1, b2, b3, b4, b5, b6⟩ := al_step M a h 11 fid hk ha (by omega) _ rfl
  exact k _ ⟨b5.mono (fun b z => z.elim Or.inl (fun z => Or.inr (by omega))), b1, b6, b3, b2⟩ b4
theorem row_step (hk : mK M h = 11) (ha : h < a) (hm : m = a + 1) (k : ∀ M', HST fid h a M M' → ROW M' a 21 3 → RES (f M' m) Q) : RES (nwA 21 300 (i3 3) M a fun y M2 n3 => fpR 11 fid (some h) y M2 fun M10 => f M10 n3) Q := by
  subst hm
  refine RES.newA (len := 3) (by decide) (RES.putR (kd := 11) (kn hk ha) ?_)
  refine k _ ⟨((SM.nA a 21 3).trans (SM.uP fid h 0 _)).mono (fun b z => z.elim (fun z => Or.inr (by omega)) Or.inl), kn hk ha, fun c => ?_, fun c v hc hv => ?_, by simp [mP_uP]⟩ (by simp [ROW, mK_nA, mK_uP, mL_nA, mL_uP, mI_nA, mI_uP])
  · show mI (nA M a 21 3) c h 0 = _
    rw [mI_nA, if_neg (by omega)]
  · rw [mP_uP, if_neg (fun z => hc z.1), mP_nA, if_neg (by omega)]
    exact hv
end SR
def HARB (h : Nat) (M : Mm) : Prop := (mK M h = 11 ∧ mP M 1100 h 0 = some (h + 1) ∧ mP M 1101 h 0 = some (h + 17) ∧ mP M 1102 h 0 = some (h + 33) ∧ mP M 1103 h 0 = some (h + 35) ∧ mP M 1104 h 0 = some (h + 37) ∧ mP M 1105 h 0 = some (h + 39) ∧ mP M 1106 h 0 = some (h + 40) ∧ mP M 1107 h 0 = some (h + 41) ∧ mI M 1108 h 0 = 0 ∧ mI M 1109 h 0 = 0) ∧ (∀ r, r < 2 → REG0 M (gr h r) (gr h r + 1)) ∧ BYT0 M (h + 33) ∧ BYT0 M (h + 35) ∧ BYT0 M (h + 37) ∧ NIL0 M (h + 39) ∧ NIL0 M (h + 40) ∧ ROW M (h + 41) 21 3
theorem HARB.keep {S : Nat → Prop} {h : Nat} {M M' : Mm} (H : HARB h M) (k : SM S M M') (hs : ∀ b, b ≤ h + 41 → ¬ S b) : HARB h M' := by
  obtain ⟨⟨h1, h2, h3, h4, h5, h6, h7, h8, h9, h10, h11⟩, r, b1, b2, b3, l1, l2, w⟩ := H
  have s : ∀ b, b ≤ h + 41 → ¬ S b := hs
  have s0 := s h (by omega)
  exact ⟨⟨k.kd s0 h1, k.pt s0 h2, k.pt s0 h3, k.pt s0 h4, k.pt s0 h5, k.pt s0 h6, k.pt s0 h7, k.pt s0 h8, k.pt s0 h9, k.it s0 h10, k.it s0 h11⟩, fun i hi => (r i hi).keep k (s _ (by unfold gr; omega)) (fun b g1 g2 => s b (by unfold gr at g2; omega)) (s 0 (by omega)), b1.keep k (s _ (by omega)) (s _ (by omega)), b2.keep k (s _ (by omega)) (s _ (by omega)), b3.keep k (s _ (by omega)) (s _ (by omega)), l1.keep k (s _ (by omega)) (s 0 (by omega)), l2.keep k (s _ (by omega)) (s 0 (by omega)), w.keep k (s _ (by omega))⟩
theorem nw_up {h a b x : Nat} (e : b ≤ a) (z : NW h a x) : NW h b x := z.elim Or.inl (fun z => Or.inr (by omega))
theorem harb_init (M : Mm) (h : Nat) (hk : mK M h = 11) (h0 : 0 < h) (i8 : mI M 1108 h 0 = 0) (i9 : mI M 1109 h 0 = 0) : RES (fHb_init h M (h + 1)) (fun _ M' n' => n' = h + 42 ∧ SM (NW h (h + 1)) M M' ∧ HARB h M') := by
  rw [fHb_init_E]
  refine reg_step (m := h + 17) hk (by omega) h0 (by omega) (fun Ma ta pa => ?_)
  refine reg_step (m := h + 33) ta.2.1 (by omega) h0 (by omega) (fun Mb tb pb => ?_)
  refine byt_step (m := h + 35) tb.2.1 (by omega) h0 (by omega) (fun Mc tc pc => ?_)
  refine byt_step (m := h + 37) tc.2.1 (by omega) h0 (by omega) (fun Md td pd => ?_)
  refine byt_step (m := h + 39) td.2.1 (by omega) h0 (by omega) (fun Me te pe => ?_)
  refine lst_step (m := h + 40) te.2.1 (by omega) (by omega) (fun Mf tf pf => ?_)
  refine lst_step (m := h + 41) tf.2.1 (by omega) (by omega) (fun Mg tg pg => ?_)
  refine row_step (m := h + 42) tg.2.1 (by omega) (by omega) (fun Mh th ph => ?_)
  have uh := th.1
  have ug := tg.1.then (uh.mono fun b z => nw_up (by omega) z)
  have uf := tf.1.then (ug.mono fun b z => nw_up (by omega) z)
  have ue := te.1.then (uf.mono fun b z => nw_up (by omega) z)
  have ud := td.1.then (ue.mono fun b z => nw_up (by omega) z)
  have uc := tc.1.then (ud.mono fun b z => nw_up (by omega) z)
  have ub := tb.1.then (uc.mono fun b z => nw_up (by omega) z)
  have ua := ta.1.then (ub.mono fun b z => nw_up (by omega) z)
  have no : ∀ x b : Nat, h < b → b < x → ¬ NW h x b := fun x b g1 g2 z => by rcases z with z | z <;> omega
  have nz : ∀ x : Nat, h < x → ¬ NW h x 0 := fun x g z => by rcases z with z | z <;> omega
  refine RES.fin ⟨rfl, ua, ⟨th.2.1, th.2.2.2.1 1100 _ (by decide) (tg.2.2.2.1 1100 _ (by decide) (tf.2.2.2.1 1100 _ (by decide) (te.2.2.2.1 1100 _ (by decide) (td.2.2.2.1 1100 _ (by decide) (tc.2.2.2.1 1100 _ (by decide) (tb.2.2.2.1 1100 _ (by decide) (ta.2.2.2.2))))))), th.2.2.2.1 1101 _ (by decide) (tg.2.2.2.1 1101 _ (by decide) (tf.2.2.2.1 1101 _ (by decide) (te.2.2.2.1 1101 _ (by decide) (td.2.2.2.1 1101 _ (by decide) (tc.2.2.2.1 1101 _ (by decide) (tb.2.2.2.2)))))), th.2.2.2.1 1102 _ (by decide) (tg.2.2.2.1 1102 _ (by decide) (tf.2.2.2.1 1102 _ (by decide) (te.2.2.2.1 1102 _ (by decide) (td.2.2.2.1 1102 _ (by decide) (tc.2.2.2.2))))), th.2.2.2.1 1103 _ (by decide) (tg.2.2.2.1 1103 _ (by decide) (tf.2.2.2.1 1103 _ (by decide) (te.2.2.2.1 1103 _ (by decide) (td.2.2.2.2)))), th.2.2.2.1 1104 _ (by decide) (tg.2.2.2.1 1104 _ (by decide) (tf.2.2.2.1 1104 _ (by decide) (te.2.2.2.2))), th.2.2.2.1 1105 _ (by decide) (tg.2.2.2.1 1105 _ (by decide) (tf.2.2.2.2)), th.2.2.2.1 1106 _ (by decide) (tg.2.2.2.2), th.2.2.2.2, ((th.2.2.1 1108).trans ((tg.2.2.1 1108).trans ((tf.2.2.1 1108).trans ((te.2.2.1 1108).trans ((td.2.2.1 1108).trans ((tc.2.2.1 1108).trans ((tb.2.2.1 1108).trans ((ta.2.2.1 1108))))))))).trans i8, ((th.2.2.1 1109).trans ((tg.2.2.1 1109).trans ((tf.2.2.1 1109).trans ((te.2.2.1 1109).trans ((td.2.2.1 1109).trans ((tc.2.2.1 1109).trans ((tb.2.2.1 1109).trans ((ta.2.2.1 1109))))))))).trans i9⟩, fun r hr => ?_, pc.keep ud (no _ _ (by omega) (by omega)) (no _ _ (by omega) (by omega)), pd.keep ue (no _ _ (by omega) (by omega)) (no _ _ (by omega) (by omega)), pe.keep uf (no _ _ (by omega) (by omega)) (no _ _ (by omega) (by omega)), pf.keep ug (no _ _ (by omega) (by omega)) (nz _ (by omega)), pg.keep uh (no _ _ (by omega) (by omega)) (nz _ (by omega)), ph⟩
  have hr : r = 0 ∨ r = 1 := by omega
  rcases hr with rfl | rfl
  · rw [show gr h 0 = h + 1 from by unfold gr; omega]
    exact pa.keep ub (no _ _ (by omega) (by omega)) (fun b g1 g2 => no _ _ (by omega) (by omega)) (nz _ (by omega))
  · rw [show gr h 1 = h + 17 from by unfold gr; omega]
    exact pb.keep uc (no _ _ (by omega) (by omega)) (fun b g1 g2 => no _ _ (by omega) (by omega)) (nz _ (by omega))
/-! the check laid beside it -/
def sg0 : Sg := fun _ _ => 0
theorem bdM_l {ω : Type} {v : Unit} {M' : Mm} {n n' : Nat} {f : Mm → Nat → Option ω} (h : n ≤ n') : bdM (some ((Sum.inl v : Unit ⊕ Nat), M', n')) n f = f M' n' := if_pos h
theorem start_run (h e0 : Nat) (he : e0 < h) : ∃ Mz : Mm, MOK Mz (h + 42) ∧ σ1 Mz (h + 42) = sg0 ∧ HARB h (M1 Mz (h + 42)) ∧ mL (M1 Mz (h + 42)) 0 = e0 ∧ mK (M1 Mz (h + 42)) e0 = 26 ∧ mK (M1 Mz (h + 42)) (h + 82) = 25 ∧ mL (M1 Mz (h + 42)) (h + 82) = 1 ∧ ∀ {ω : Type} (k : Nat → Nat → Nat → Mm → Nat → Option ω), fLw_A (M00 e0) h k = k h (h + 42) (h + 82) Mz (h + 83) := by
  have ka : mK (nA (M00 e0) h 11 0) h = 11 := by rw [mK_nA, if_pos rfl]
  obtain ⟨v, Mh, nh, eh, en, sh, hh⟩ := harb_init (nA (M00 e0) h 11 0) h ka (by omega) (by rw [mI_nA, if_pos rfl]) (by rw [mI_nA, if_pos rfl])
  subst en
  obtain ⟨Mk, hMk⟩ : ∃ Mk, Mk = nA Mh (h + 42) 13 0 := ⟨_, rfl⟩
  have kb : mK Mk (h + 42) = 13 := by rw [hMk, mK_nA, if_pos rfl]
  have em := fMd_init_eq (n := h + 43) kb (by omega)
  have e2 : (ini (h + 42) mdl Mk (h + 43)).2 = h + 82 := by
    rw [ini_n]
    show h + 43 + 39 = _
    omega
  have io := ini_old mdl Mk (h + 43) (show h + 42 < h + 43 by omega)
  have iw := ini_new mdl Mk (h + 43) (show h + 42 < h + 43 by omega) mdl_nd
  have ok := MOK_init (n := h + 43) kb (by omega)
  rw [e2] at em
  generalize (ini (h + 42) mdl Mk (h + 43)).1 = Mn at em io iw ok
  have pz : ∀ k, mfl[k]? = some true → ∃ i, i < 39 ∧ mP (nA Mn (h + 82) 25 1) (1300 + k) (h + 42) 0 = some (h + 43 + i) ∧ mK (nA Mn (h + 82) 25 1) (h + 43 + i) = (if mbool k = true then 22 else 21) ∧ mL (nA Mn (h + 82) 25 1) (h + 43 + i) = mlen k ∧ ∀ c j, mI (nA Mn (h + 82) 25 1) c (h + 43 + i) j = 0 := fun k hk => by
    obtain ⟨i, hi, hi2⟩ := mdl_at k (mfl_len hk) hk
    obtain ⟨q1, q2, q3, q4⟩ := iw i _ hi2
    exact ⟨i, hi, by rw [mP_nA, if_neg (by omega)]; exact q1, by rw [mK_nA, if_neg (by omega)]; exact q2, by rw [mL_nA, if_neg (by omega)]; exact q3, fun c j => by rw [mI_nA, if_neg (by omega)]; exact q4 c j⟩
  have okz : MOK (nA Mn (h + 82) 25 1) (h + 42) := by
    refine ⟨by rw [mK_nA, if_neg (by omega)]; exact ok.1, fun k hk => ?_, fun k k' hk hk' e => ?_⟩
    · obtain ⟨i, -, q1, q2, q3, -⟩ := pz k hk
      exact ⟨_, q1, q2, q3⟩
    · rw [mP_nA, if_neg (by omega), mP_nA, if_neg (by omega)] at e
      exact ok.2.2 k k' hk hk' e
  have s1 : SM (fun b => h + 42 ≤ b) Mh (nA Mn (h + 82) 25 1) := fun b hb => by
    have hb : b < h + 42 := Nat.not_le.mp hb
    obtain ⟨j1, j2, j3, j4, j5⟩ := io b (by omega)
    have j5 := fun c j => j5 c j (fun z => absurd z (by omega))
    subst hMk
    refine ⟨?_, ?_, fun c j => ?_, fun c j => ?_, fun j => ?_⟩
    · rw [mK_nA, if_neg (by omega), j1, mK_nA, if_neg (by omega)]
    · rw [mL_nA, if_neg (by omega), j2, mL_nA, if_neg (by omega)]
    · rw [mI_nA, if_neg (by omega), j3, mI_nA, if_neg (by omega)]
    · rw [mP_nA, if_neg (by omega), j5, mP_nA, if_neg (by omega)]
    · rw [mJ_nA, if_neg (by omega), j4, mJ_nA, if_neg (by omega)]
  have zz : σ1 (nA Mn (h + 82) 25 1) (h + 42) = sg0 := funext fun k => funext fun j => by
    show (if mfl[k]? = some true then mI (nA Mn (h + 82) 25 1) 0 ((mP (nA Mn (h + 82) 25 1) (1300 + k) (h + 42) 0).getD 0) j else mI (nA Mn (h + 82) 25 1) (1300 + k) (h + 42) 0) = 0
    by_cases hk : mfl[k]? = some true
    · obtain ⟨i, -, q1, -, -, q4⟩ := pz k hk
      rw [if_pos hk, q1]
      exact q4 0 j
    · rw [if_neg hk, mI_nA, if_neg (by omega), (io (h + 42) (by omega)).2.2.1, hMk, mI_nA, if_pos rfl]
  have rn : ∀ {ω : Type} (k : Nat → Nat → Nat → Mm → Nat → Option ω), fLw_A (M00 e0) h k = k h (h + 42) (h + 82) (nA Mn (h + 82) 25 1) (h + 83) := fun k => by
    unfold fLw_A
    rw [nwO_s, rk_s ka, eh, bdM_l (show h + 1 ≤ h + 42 by omega), nwO_s]
    subst hMk
    rw [rk_s kb]
    show bdM (fMd_init (h + 42) (nA Mh (h + 42) 13 0) (h + 43)) (h + 43) _ = _
    rw [em, bdM_l (show h + 43 ≤ h + 82 by omega)]
    refine Eq.trans (nwA_s (j := 1) (show 1 < 2 ^ 31 by decide) (show 1 ≤ 8100 by decide)) ?_
    rw [rk_s (show mK (nA Mn (h + 82) 25 1) (h + 82) = 25 by rw [mK_nA, if_pos rfl])]
  have c82 : mK (nA Mn (h + 82) 25 1) (h + 82) = 25 := by rw [mK_nA, if_pos rfl]
  have l82 : mL (nA Mn (h + 82) 25 1) (h + 82) = 1 := by rw [mL_nA, if_pos rfl]
  generalize nA Mn (h + 82) 25 1 = Mz at pz okz s1 zz rn c82 l82
  have np : ∀ b, b < h + 42 ∨ b = h + 82 → ¬ PR Mz (h + 42) b := fun b hb z => by
    rcases z with z | ⟨k, hk, z⟩
    · omega
    · obtain ⟨i, hi, q1, -⟩ := pz k hk
      rw [q1] at z
      have z : b = h + 43 + i := z
      omega
  have s2 : SM (fun b => h + 42 ≤ b) Mz (M1 Mz (h + 42)) := fun b hb => ⟨mK_neg (np b (Or.inl (Nat.not_le.mp hb))), rfl, fun _ _ => rfl, fun _ _ => rfl, fun _ => rfl⟩
  have s3 := s1.then s2
  have n1 : ¬ NW h (h + 1) e0 := fun z => by rcases z with z | z <;> omega
  have n2 : ¬ NW h (h + 1) 0 := fun z => by rcases z with z | z <;> omega
  refine ⟨Mz, okz, zz, hh.keep s3 (fun b hb z => by omega), ?_, ?_, (mK_neg (np _ (Or.inr rfl))).trans c82, l82, rn⟩
  · refine s3.ln (fun z => by omega) (sh.ln n2 ?_)
    rw [mL_nA, if_neg (by omega)]
    rfl
  · refine s3.kd (fun z => by omega) (sh.kd n1 ?_)
    rw [mK_nA, if_neg (by omega)]
    show (if e0 = e0 then 26 else 0) = 26
    exact if_pos rfl
/-! both at the start: alike -/
def tgl : List Nat := [1, 1, 1, 6, 20, 10, 10, 10, 10, 10, 10, 10, 10, 10, 14, 16, 8, 1, 1, 7, 21, 11, 11, 11, 11, 11, 11, 11, 11, 11, 15, 17, 9, 2, 2, 3, 3, 4, 4, 22, 23, 5, 0, 0, 0, 0, 0, 0, 0, 0, 0, 0, 0, 0, 0, 0, 0, 0, 0, 0, 0, 0, 0, 0, 0, 0, 0, 0, 0, 0, 0, 0, 0, 0, 0, 0, 0, 0, 0, 0, 0, 0, 1]
def ow0 (e0 h : Nat) : Nat → Nat := fun a => if a = 0 ∨ a = e0 then 1 else if a < h then 0 else if h + 83 ≤ a then 0 else (tgl[a - h]?).getD 0
theorem ow_at {e0 h a i : Nat} (h0 : e0 < h) (e : a = h + i) (hi : i < 83) : ow0 e0 h a = (tgl[i]?).getD 0 := by
  subst e
  unfold ow0
  rw [if_neg (by omega), if_neg (by omega), if_neg (by omega), Nat.add_sub_cancel_left]
theorem tg_r : ∀ r, r < 2 → (∀ i, i < 9 → (tgl[1 + 16 * r + (4 + i)]?).getD 0 = 10 + r) ∧ (tgl[1 + 16 * r + 0]?).getD 0 = 1 ∧ (tgl[1 + 16 * r + 1]?).getD 0 = 1 ∧ (tgl[1 + 16 * r + 2]?).getD 0 = 6 + r ∧ (tgl[1 + 16 * r + 3]?).getD 0 = 20 + r ∧ (tgl[1 + 16 * r + 13]?).getD 0 = 14 + r ∧ (tgl[1 + 16 * r + 14]?).getD 0 = 16 + r ∧ (tgl[1 + 16 * r + 15]?).getD 0 = 8 + r := by decide
theorem rg0 {own : Nat → Nat} {M : Mm} {g r : Nat} (H : REG0 M g (g + 1)) (o0 : own g = 1) (o1 : own (g + 1) = 1) (o2 : own (g + 2) = 6 + r) (oo : ∀ i, i < 9 → own (g + (4 + i)) = 10 + r) (o15 : own (g + 15) = 8 + r) : RG own M g r := by
  obtain ⟨h1, h2, h3, h4, h5, ⟨s1, s2, s3, s4, s5, s6, ⟨u1, u2, -⟩, -, ⟨c1, c2, c3, -, c5, c6⟩, ⟨d1, d2, d3, d4, d5, d6, d7, d8, d9⟩, t⟩, -, -, h9⟩ := H
  exact ⟨h1, h2, h3, h4, h5, o0, s1, s2, s3, s4, s5, s6, o1, u1, u2, o2, c1, c2, c3, oo 0 (by omega), c5.1, c5.2.1, oo 1 (by omega), c6.1, c6.2.1, oo 2 (by omega), d1, d2, d3, d4, d5, oo 3 (by omega), d6.1, d6.2.1, oo 4 (by omega), d7.1, d7.2.1, oo 5 (by omega), d8.1, d8.2.1, oo 6 (by omega), d9.1, d9.2.1, oo 7 (by omega), t.1, t.2.1, oo 8 (by omega), h9.1, h9.2.1, o15⟩
theorem lst0 {own : Nat → Nat} {M : Mm} {l t : Nat} {f : Nat → Nat} (H : NIL0 M l) (o : own l = t) : LST own M l t 0 f := ⟨H.1, o, H.2.2, mL M 0, H.2.1, Or.inl ⟨rfl, rfl⟩, fun i hi => absurd hi (Nat.not_lt_zero i)⟩
theorem byt0 {own : Nat → Nat} {M : Mm} {b t : Nat} (H : BYT0 M b) (o : own b = t) (o1 : own (b + 1) = t) : BYT own M b t := ⟨H.1, H.2.1, H.2.2.2.1, H.2.2.2.2, o, o1⟩
def bk0 : BK := (fun _ _ => 0, fun _ => 0, fun _ _ => 0, fun _ => 0, fun _ => 0)
theorem rr_start {e0 h : Nat} {M : Mm} (he : e0 < h) (H : HARB h M) (z0 : mL M 0 = e0) (z1 : mK M e0 = 26) (j1 : mK M (h + 82) = 25) (j2 : mL M (h + 82) = 1) : RR h (ow0 e0 h) bk0 sg0 M (h + 83) := by
  obtain ⟨⟨h1, h2, h3, h4, h5, h6, h7, h8, h9, h10, h11⟩, rr, b1, b2, b3, l1, l2, w⟩ := H
  have o : ∀ i, i < 83 → ow0 e0 h (h + i) = (tgl[i]?).getD 0 := fun i hi => ow_at he rfl hi
  have q : ∀ r, r < 2 → ∀ i, i ≤ 15 → ow0 e0 h (gr h r + i) = (tgl[1 + 16 * r + i]?).getD 0 := fun r hr i hi => ow_at he (by unfold gr; omega) (by omega)
  have hz : ∀ {P : Prop} (j : Nat), j < nv (0 : Int32) → P := fun j hj => absurd hj (Nat.not_lt_zero j)
  refine ⟨fun a ha => ?_, ⟨if_pos (Or.inl rfl), ?_, ?_⟩, ⟨h1, h2, h3, h4, h5, h6, h7, h8, h9, o 0 (by omega), w.1, w.2.1, o 41 (by omega), j1, j2, o 82 (by omega), byt0 b1 (o 33 (by omega)) (o 34 (by omega)), byt0 b2 (o 35 (by omega)) (o 36 (by omega)), byt0 b3 (o 37 (by omega)) (o 38 (by omega))⟩, fun r hr => ?_, h10, h11, b1.2.2.1, fun j hj => hz j hj, b3.2.2.1, fun j _ => w.2.2 0 j, fun r hr j hj => ?_, fun r hr j hj => ?_, fun k k1 k2 => absurd (Nat.le_trans k1 k2) (Nat.not_succ_le_zero 0), fun r hr => ?_, fun r hr i hi => hz i hi, fun r hr => ?_, fun r hr => ?_, fun r hr p hp => hz p hp, lst0 l1 (o 39 (by omega)), fun u hu => hz u hu, lst0 l2 (o 40 (by omega)), fun j hj => hz j hj⟩
  · unfold ow0
    rw [if_neg (by omega), if_neg (by omega), if_pos ha]
  · rw [z0]; exact if_pos (Or.inr rfl)
  · rw [z0]; exact z1
  · obtain ⟨t0, t1, t2, t3, t4, t5, t6, t7⟩ := tg_r r hr
    exact rg0 (rr r hr) ((q r hr 0 (by omega)).trans t1) ((q r hr 1 (by omega)).trans t2) ((q r hr 2 (by omega)).trans t3) (fun i hi => (q r hr (4 + i) (by omega)).trans (t0 i hi)) ((q r hr 15 (by omega)).trans t7)
  · obtain ⟨-, -, -, -, -, ⟨-, -, -, -, -, -, ⟨-, -, u3⟩, -⟩, -⟩ := rr r hr
    exact (u3 j hj).trans (if_pos rfl).symm
  · obtain ⟨-, -, -, -, -, -, -, -, h9⟩ := rr r hr
    exact h9.2.2 0 j
  · obtain ⟨-, -, -, -, -, -, n1, -, -⟩ := rr r hr
    exact lst0 n1 ((q r hr 13 (by omega)).trans (tg_r r hr).2.2.2.2.2.1)
  · obtain ⟨-, -, -, -, -, -, -, n1, -⟩ := rr r hr
    exact lst0 n1 ((q r hr 14 (by omega)).trans (tg_r r hr).2.2.2.2.2.2.1)
  · obtain ⟨-, -, -, -, -, ⟨-, -, -, -, -, -, -, n1, -⟩, -⟩ := rr r hr
    exact lst0 n1 ((q r hr 3 (by omega)).trans (tg_r r hr).2.2.2.2.1)
theorem pcs0 (u : Nat) : ∀ k, pcsum (fun _ => (0 : Int32)) u k = 0 := by
  intro k
  induction k with
  | zero => rfl
  | succ k ih =>
    show pcsum (fun _ => (0 : Int32)) u k + nv (0 : Int32) = 0
    rw [ih]; rfl
theorem iv_start : IV 0 sg0 := by
  have n0 : ∀ b, NB b (0 : Int32) := fun b => ⟨by decide, Nat.zero_le b⟩
  have hz : ∀ {P : Prop} (j : Nat), j < nv (0 : Int32) → P := fun j hj => absurd hj (Nat.not_lt_zero j)
  exact ⟨n0 40, fun j hj => hz j hj, n0 200, n0 20000, Nat.le_refl 0, fun k k1 k2 => absurd (Nat.le_trans k1 k2) (Nat.not_succ_le_zero 0), fun r _ => n0 40, fun r _ i hi => hz i hi, fun r _ i j _ hj => hz j hj, fun r _ k _ => n0 1, fun r _ => n0 200, Nat.le_refl 0, fun r _ i hi => hz i hi, fun r _ => n0 90, fun r _ p hp => hz p hp, fun j _ => n0 1, n0 12, fun u hu => hz u hu, fun u _ _ => ⟨rfl, fun k _ => rfl⟩, fun u _ => ⟨Nat.le_trans (Nat.le_of_eq (pcs0 u 9)) (by decide), fun k _ => ⟨n0 40, fun j hj => hz j hj⟩⟩, n0 6, fun j hj => hz j hj⟩

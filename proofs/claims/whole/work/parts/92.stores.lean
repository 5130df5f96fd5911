set_option maxRecDepth 100000
/-! the harbour, made: stores and regions -/
theorem SM.kd {S : Nat → Prop} {M M' : Mm} (k : SM S M M') {a kd : Nat} (hs : ¬ S a) (h : mK M a = kd) : mK M' a = kd := (k a hs).1.trans h
theorem SM.pt {S : Nat → Prop} {M M' : Mm} (k : SM S M M') {a c : Nat} {v : Option Nat} (hs : ¬ S a) (h : mP M c a 0 = v) : mP M' c a 0 = v := ((k a hs).2.2.2.1 c 0).trans h
theorem SM.it {S : Nat → Prop} {M M' : Mm} (k : SM S M M') {a c : Nat} {v : Int32} (hs : ¬ S a) (h : mI M c a 0 = v) : mI M' c a 0 = v := ((k a hs).2.2.1 c 0).trans h
theorem SM.ln {S : Nat → Prop} {M M' : Mm} (k : SM S M M') {a v : Nat} (hs : ¬ S a) (h : mL M a = v) : mL M' a = v := (k a hs).2.1.trans h
theorem ups (a0 u n : Nat) : ∀ (d i fu : Nat) (M : Mm), d + i = 6 → d < fu → mK M a0 = 8 → mP M 800 a0 0 = some u → mK M u = 22 → mL M u = 6 → u ≠ a0 → RES (fStore_init_l55 a0 fu (nn i) M n) (fun _ M' n' => n' = n ∧ SM (fun b => b = u) M M' ∧ mK M' u = 22 ∧ mL M' u = 6 ∧ ∀ j, mI M' 0 u j = if i ≤ j ∧ j < 6 then 1 else mI M 0 u j) := by
  intro d
  induction d with
  | zero =>
    intro i fu M hd hfu hk hp hku hlu hne
    obtain ⟨f, rfl⟩ : ∃ f, fu = f + 1 := ⟨fu - 1, by omega⟩
    show RES (fStore_init_b55 a0 (fStore_init_l55 a0 f) (nn i) M n) _
    unfold fStore_init_b55
    rw [fgR_s hk, hp, aln_s (by rw [hku]; decide) (by rw [hku]; decide), hlu, if_pos (show nn 6 ≤ nn i from (nn_le (by decide) (by omega)).mpr (by omega))]
    refine RES.fin ⟨rfl, SM.refl, hku, hlu, fun j => ?_⟩
    rw [if_neg (by omega)]
  | succ d ih =>
    intro i fu M hd hfu hk hp hku hlu hne
    obtain ⟨f, rfl⟩ : ∃ f, fu = f + 1 := ⟨fu - 1, by omega⟩
    show RES (fStore_init_b55 a0 (fStore_init_l55 a0 f) (nn i) M n) _
    unfold fStore_init_b55
    rw [fgR_s hk, hp, aln_s (by rw [hku]; decide) (by rw [hku]; decide), hlu, if_neg (show ¬ nn 6 ≤ nn i from fun h => absurd ((nn_le (by decide) (by omega)).mp h) (by omega)), fgR_s hk, hp, asZ_s hku (Or.inr rfl) (by omega) (by omega), show nn i + 1 = nn (i + 1) from nn_add i 1]
    obtain ⟨v, M', n', e, h1, h2, h3, h4, h5⟩ := ih (i + 1) f (uI M 0 u i 1) (by omega) (by omega) hk hp hku hlu hne
    refine ⟨v, M', n', e, h1, ((SM.uI 0 u i 1).then h2), h3, h4, fun j => ?_⟩
    rw [h5, mI_uI]
    by_cases hj : j = i
    · subst hj
      rw [if_neg (by omega), if_pos ⟨rfl, rfl, rfl⟩, if_pos (by omega)]
    · by_cases hj2 : i ≤ j ∧ j < 6
      · rw [if_pos (by omega), if_pos hj2]
      · rw [if_neg (by omega), if_neg (fun h => hj h.2.2), if_neg hj2]
/-- a store as it is made: all its cells behind n -/
def STO0 (M : Mm) (a0 n : Nat) : Prop := mK M a0 = 8 ∧ mP M 800 a0 0 = some n ∧ mP M 801 a0 0 = some (n + 1) ∧ mP M 802 a0 0 = some (n + 2) ∧ mP M 803 a0 0 = some (n + 5) ∧ mP M 804 a0 0 = some (n + 10) ∧
  (mK M n = 22 ∧ mL M n = 6 ∧ ∀ j, j < 6 → mI M 0 n j = 1) ∧ (mK M (n + 1) = 12 ∧ mP M 1201 (n + 1) 0 = some (mL M 0) ∧ mI M 1202 (n + 1) 0 = 0) ∧
  (mK M (n + 2) = 3 ∧ mP M 300 (n + 2) 0 = some (n + 3) ∧ mP M 301 (n + 2) 0 = some (n + 4) ∧ mI M 302 (n + 2) 0 = 0 ∧ ROW M (n + 3) 21 40 ∧ ROW M (n + 4) 21 40) ∧
  (mK M (n + 5) = 2 ∧ mP M 200 (n + 5) 0 = some (n + 6) ∧ mP M 201 (n + 5) 0 = some (n + 7) ∧ mP M 202 (n + 5) 0 = some (n + 8) ∧ mP M 203 (n + 5) 0 = some (n + 9) ∧ ROW M (n + 6) 20 6 ∧ ROW M (n + 7) 20 10 ∧ ROW M (n + 8) 21 3 ∧ ROW M (n + 9) 21 3) ∧ ROW M (n + 10) 21 90
theorem store_init (M : Mm) (n a0 : Nat) (h : mK M a0 = 8) (hn : a0 < n) (h0 : 0 < a0) : RES (fStore_init a0 M n) (fun _ M' n' => n' = n + 11 ∧ SM (NW a0 n) M M' ∧ STO0 M' a0 n) := by
  have q0 : a0 ≠ n := Nat.ne_of_lt hn
  have q1 : a0 ≠ n + 1 := by omega
  have q2 : a0 ≠ n + 1 + 1 := by omega
  have qz : ¬ (0 = n) := by omega
  unfold fStore_init
  refine RES.newA (len := 6) (by decide) (RES.putR (kn h hn) ?_)
  refine RES.newO (RES.look (kd := 12) (by simp [mK_nA]) (RES.al (by simp [mK_nA]) (RES.putR (kd := 8) (by simp [mK_nA, mK_uP, mK_uI, q0, q1, h]) ?_)))
  refine RES.newO (RES.look (kd := 3) (by simp [mK_nA]) ?_)
  generalize hMb : nA (uP (uP (uI (nA (uP (nA M n 22 6) 800 a0 0 (some n)) (n + 1) 12 0) 1200 (n + 1) 0 0) 1201 (n + 1) 0 (some (mL (nA (uP (nA M n 22 6) 800 a0 0 (some n)) (n + 1) 12 0) 0))) 801 a0 0 (some (n + 1))) (n + 1 + 1) 3 0 = Mb
  have b1 : mK Mb a0 = 8 := by subst hMb; simp [mK_nA, mK_uP, mK_uI, q0, q1, q2, h]
  have b2 : mP Mb 800 a0 0 = some n := by subst hMb; simp [mP_nA, mP_uP, mP_uI, q0, q1, q2]
  have b3 : mP Mb 801 a0 0 = some (n + 1) := by subst hMb; simp [mP_nA, mP_uP, mP_uI, q0, q1, q2]
  have b4 : ROW Mb n 22 6 := by subst hMb; simp [ROW, mK_nA, mK_uP, mK_uI, mL_nA, mL_uP, mL_uI, mI_nA, mI_uP, mI_uI]; omega
  have b5 : mK Mb (n + 1) = 12 ∧ mP Mb 1201 (n + 1) 0 = some (mL M 0) ∧ mI Mb 1202 (n + 1) 0 = 0 := by
    subst hMb
    simp [mK_nA, mK_uP, mK_uI, mP_nA, mP_uP, mP_uI, mI_nA, mI_uP, mI_uI, mL_nA, mL_uP, mL_uI, Ne.symm q1, qz]
  have b6 : mK Mb (n + 2) = 3 ∧ mI Mb 302 (n + 2) 0 = 0 := by subst hMb; simp [mK_nA, mI_nA]
  have b7 : SM (NW a0 n) M Mb := by
    subst hMb
    intro b hb
    have hb0 : b ≠ a0 := fun z => hb (Or.inl z)
    have hb1 : b < n := Nat.not_le.mp fun z => hb (Or.inr z)
    have d0 : b ≠ n := Nat.ne_of_lt hb1
    have d1 : b ≠ n + 1 := by omega
    have d2 : b ≠ n + 1 + 1 := by omega
    refine ⟨?_, ?_, fun c j => ?_, fun c j => ?_, fun j => ?_⟩
    · simp [mK_nA, mK_uP, mK_uI, d0, d1, d2]
    · simp [mL_nA, mL_uP, mL_uI, d0, d1, d2]
    · simp [mI_nA, mI_uP, mI_uI, d0, d1, d2]
    · simp [mP_nA, mP_uP, mP_uI, d0, d1, d2, hb0]
    · simp [mJ_nA, mJ_uP, mJ_uI, d0, d1, d2]
  clear hMb
  refine RES.call (cut_init' Mb (n + 3) (n + 2) b6.1 (by omega)) (fun _ _ _ hp => by rw [hp.1]; omega) (fun _ Mc nc hp => ?_)
  obtain ⟨rfl, c1, c2, c3, c4, c5, c6, c7⟩ := hp
  rw [b6.2] at c5
  have cn : ∀ b, b < n + 2 → ¬ NW (n + 2) (n + 3) b := fun b hb z => by rcases z with z | z <;> omega
  refine RES.putR (kd := 8) (c1.kd (cn a0 (by omega)) b1) ?_
  refine RES.newO (RES.look (kd := 2) (by simp [mK_nA]) ?_)
  generalize hMd : nA (uP Mc 802 a0 0 (some (n + 1 + 1))) (n + 3 + 2) 2 0 = Md
  have dS : SM (fun b => b = a0 ∨ b = n + 5) Mc Md := by
    subst hMd
    exact (SM.uP 802 a0 0 _).trans (SM.nA (n + 5) 2 0)
  have d2 : mP Md 802 a0 0 = some (n + 2) := by subst hMd; simp [mP_nA, mP_uP]; omega
  have d1 : mK Md a0 = 8 := by subst hMd; rw [mK_nA, if_neg (by omega), mK_uP]; exact c1.kd (cn a0 (by omega)) b1
  have d3 : mP Md 800 a0 0 = some n := by subst hMd; rw [mP_nA, if_neg (by omega), mP_uP, if_neg (by omega)]; exact c1.pt (cn a0 (by omega)) b2
  have d4 : mP Md 801 a0 0 = some (n + 1) := by subst hMd; rw [mP_nA, if_neg (by omega), mP_uP, if_neg (by omega)]; exact c1.pt (cn a0 (by omega)) b3
  have d5 : mK Md (n + 5) = 2 := by subst hMd; rw [mK_nA, if_pos (by omega)]
  clear hMd
  refine RES.call (code_init Md (n + 6) (n + 5) d5 (by omega)) (fun _ _ _ hp => by rw [hp.1]; omega) (fun _ Me ne hp => ?_)
  obtain ⟨rfl, e1, e2, e3, e4, e5, e6, e7, e8, e9, e10⟩ := hp
  have en : ∀ b, b < n + 5 → ¬ NW (n + 5) (n + 6) b := fun b hb z => by rcases z with z | z <;> omega
  refine RES.putR (kd := 8) (e1.kd (en a0 (by omega)) d1) ?_
  refine RES.newA (len := 90) (by decide) (RES.putR (kd := 8) (by rw [mK_nA, if_neg (by omega), mK_uP]; exact e1.kd (en a0 (by omega)) d1) ?_)
  generalize hMf : uP (nA (uP Me 803 a0 0 (some (n + 3 + 2))) (n + 6 + 4) 21 90) 804 a0 0 (some (n + 6 + 4)) = Mf
  have fS : SM (fun b => b = a0 ∨ b = n + 10) Me Mf := by
    subst hMf
    exact (((SM.uP 803 a0 0 _).trans (SM.nA (n + 10) 21 90)).trans (SM.uP 804 a0 0 _)).mono fun b z => by rcases z with (z | z) | z <;> simp [z]
  have f1 : mK Mf a0 = 8 := by subst hMf; rw [mK_uP, mK_nA, if_neg (by omega), mK_uP]; exact e1.kd (en a0 (by omega)) d1
  have f2 : mP Mf 803 a0 0 = some (n + 5) ∧ mP Mf 804 a0 0 = some (n + 10) := by
    subst hMf
    constructor
    · rw [mP_uP, if_neg (by omega), mP_nA, if_neg (by omega), mP_uP, if_pos ⟨rfl, rfl, rfl⟩]
    · rw [mP_uP, if_pos ⟨rfl, rfl, rfl⟩]
  have f3 : ∀ c v, c ≠ 803 → c ≠ 804 → mP Me c a0 0 = v → mP Mf c a0 0 = v := fun c v g1 g2 g3 => by
    subst hMf; rw [mP_uP, if_neg (fun z => g2 z.1), mP_nA, if_neg (by omega), mP_uP, if_neg (fun z => g1 z.1)]; exact g3
  have f4 : ROW Mf (n + 10) 21 90 := by subst hMf; simp [ROW, mK_nA, mK_uP, mL_nA, mL_uP, mI_nA, mI_uP]
  clear hMf
  have lift : ∀ b, b < n + 5 → b ≠ a0 → (b < n + 2 → ∀ kd len, ROW Mb b kd len → ROW Mf b kd len) ∧ (n + 2 ≤ b → ∀ kd len, ROW Mc b kd len → ROW Mf b kd len) := fun b hb hba => by
    have g2 : ¬ (b = a0 ∨ b = n + 5) := fun z => by rcases z with z | z <;> omega
    have g3 : ¬ (b = a0 ∨ b = n + 10) := fun z => by rcases z with z | z <;> omega
    exact ⟨fun hl kd len hr => (((hr.keep c1 (cn b hl)).keep dS g2).keep e1 (en b hb)).keep fS g3, fun _ kd len hr => ((hr.keep dS g2).keep e1 (en b hb)).keep fS g3⟩
  have g2 : ∀ b, b < n + 5 → b ≠ a0 → ¬ (b = a0 ∨ b = n + 5) := fun b hb hba z => by rcases z with z | z <;> omega
  have g3 : ∀ b, b < n + 10 → b ≠ a0 → ¬ (b = a0 ∨ b = n + 10) := fun b hb hba z => by rcases z with z | z <;> omega
  have up := (lift n (by omega) (Ne.symm q0)).1 (by omega) _ _ b4
  obtain ⟨v, M', n', hrun, u1, u2, u3, u4, u5⟩ := ups a0 n (n + 6 + 4 + 1) 6 0 FU Mf rfl (by rw [FU_eq]; omega) f1 (f3 800 _ (by decide) (by decide) (e1.pt (en a0 (by omega)) d3)) up.1 up.2.1 (Ne.symm q0)
  have un : ∀ b, b ≠ n → ¬ b = n := fun b hb => hb
  refine ⟨v, M', n', hrun, by omega, ?_, u2.kd q0 f1, u2.pt q0 (f3 800 _ (by decide) (by decide) (e1.pt (en a0 (by omega)) d3)), u2.pt q0 (f3 801 _ (by decide) (by decide) (e1.pt (en a0 (by omega)) d4)), u2.pt q0 (f3 802 _ (by decide) (by decide) (e1.pt (en a0 (by omega)) d2)), u2.pt q0 f2.1, u2.pt q0 f2.2, ⟨u3, u4, fun j hj => by rw [u5, if_pos (by omega)]⟩, ?_, ?_, ?_, f4.keep u2 (by omega)⟩
  · exact ((((b7.trans c1).trans dS).trans e1).trans (fS.trans u2)).mono fun b z => by
      rcases z with (((z | z) | z) | z) | z
      · exact z
      · rcases z with z | z <;> exact Or.inr (by omega)
      · rcases z with z | z
        · exact Or.inl z
        · exact Or.inr (by omega)
      · rcases z with z | z <;> exact Or.inr (by omega)
      · rcases z with (z | z) | z
        · exact Or.inl z
        · exact Or.inr (by omega)
        · exact Or.inr (by omega)
  · have z1 : mL M' 0 = mL M 0 := by
      have hz : 0 ≠ a0 := by omega
      refine u2.ln (by omega) (fS.ln (g3 0 (by omega) hz) (e1.ln (en 0 (by omega)) (dS.ln (g2 0 (by omega) hz) (c1.ln (cn 0 (by omega)) (b7.ln ?_ rfl)))))
      exact fun z => by rcases z with z | z <;> omega
    rw [z1]
    have w : n + 1 ≠ a0 := by omega
    exact ⟨u2.kd (by omega) (fS.kd (g3 _ (by omega) w) (e1.kd (en _ (by omega)) (dS.kd (g2 _ (by omega) w) (c1.kd (cn _ (by omega)) b5.1)))), u2.pt (by omega) (fS.pt (g3 _ (by omega) w) (e1.pt (en _ (by omega)) (dS.pt (g2 _ (by omega) w) (c1.pt (cn _ (by omega)) b5.2.1)))), u2.it (by omega) (fS.it (g3 _ (by omega) w) (e1.it (en _ (by omega)) (dS.it (g2 _ (by omega) w) (c1.it (cn _ (by omega)) b5.2.2))))⟩
  · have w : n + 2 ≠ a0 := by omega
    refine ⟨u2.kd (by omega) (fS.kd (g3 _ (by omega) w) (e1.kd (en _ (by omega)) (dS.kd (g2 _ (by omega) w) c2))), u2.pt (by omega) (fS.pt (g3 _ (by omega) w) (e1.pt (en _ (by omega)) (dS.pt (g2 _ (by omega) w) c3))), u2.pt (by omega) (fS.pt (g3 _ (by omega) w) (e1.pt (en _ (by omega)) (dS.pt (g2 _ (by omega) w) c4))), u2.it (by omega) (fS.it (g3 _ (by omega) w) (e1.it (en _ (by omega)) (dS.it (g2 _ (by omega) w) c5))), ?_, ?_⟩
    · exact ((lift (n + 3) (by omega) (by omega)).2 (by omega) _ _ c6).keep u2 (by omega)
    · exact ((lift (n + 4) (by omega) (by omega)).2 (by omega) _ _ c7).keep u2 (by omega)
  · have w : ∀ i, n + i ≠ a0 := fun i => by omega
    refine ⟨u2.kd (by omega) (fS.kd (g3 _ (by omega) (w 5)) e2), u2.pt (by omega) (fS.pt (g3 _ (by omega) (w 5)) e3), u2.pt (by omega) (fS.pt (g3 _ (by omega) (w 5)) e4), u2.pt (by omega) (fS.pt (g3 _ (by omega) (w 5)) e5), u2.pt (by omega) (fS.pt (g3 _ (by omega) (w 5)) e6), (e7.keep fS (g3 _ (by omega) (w 6))).keep u2 (by omega), (e8.keep fS (g3 _ (by omega) (w 7))).keep u2 (by omega), (e9.keep fS (g3 _ (by omega) (w 8))).keep u2 (by omega), (e10.keep fS (g3 _ (by omega) (w 9))).keep u2 (by omega)⟩

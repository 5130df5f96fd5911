set_option maxRecDepth 100000
/-! the harbour, made: regions -/
def NIL0 (M : Mm) (a : Nat) : Prop := mK M a = 12 ∧ mP M 1201 a 0 = some (mL M 0) ∧ mI M 1202 a 0 = 0
theorem NIL0.keep {S : Nat → Prop} {M M' : Mm} {a : Nat} (h : NIL0 M a) (k : SM S M M') (hs : ¬ S a) (hz : ¬ S 0) : NIL0 M' a := by
  obtain ⟨h1, h2, h3⟩ := h
  have z : mL M' 0 = mL M 0 := (k 0 hz).2.1
  exact ⟨k.kd hs h1, by rw [z]; exact k.pt hs h2, k.it hs h3⟩
theorem STO0.keep {S : Nat → Prop} {M M' : Mm} {a0 n : Nat} (h : STO0 M a0 n) (k : SM S M M') (ha : ¬ S a0) (hs : ∀ b, n ≤ b → b < n + 11 → ¬ S b) (hz : ¬ S 0) : STO0 M' a0 n := by
  obtain ⟨h1, h2, h3, h4, h5, h6, ⟨u1, u2, u3⟩, l, ⟨c1, c2, c3, c4, c5, c6⟩, ⟨d1, d2, d3, d4, d5, d6, d7, d8, d9⟩, t⟩ := h
  have s : ∀ i, i < 11 → ¬ S (n + i) := fun i hi => hs _ (by omega) (by omega)
  have s0 : ¬ S n := s 0 (by omega)
  exact ⟨k.kd ha h1, k.pt ha h2, k.pt ha h3, k.pt ha h4, k.pt ha h5, k.pt ha h6, ⟨k.kd s0 u1, k.ln s0 u2, fun j hj => ((k n s0).2.2.1 0 j).trans (u3 j hj)⟩, NIL0.keep l k (s 1 (by omega)) hz,
    ⟨k.kd (s 2 (by omega)) c1, k.pt (s 2 (by omega)) c2, k.pt (s 2 (by omega)) c3, k.it (s 2 (by omega)) c4, c5.keep k (s 3 (by omega)), c6.keep k (s 4 (by omega))⟩,
    ⟨k.kd (s 5 (by omega)) d1, k.pt (s 5 (by omega)) d2, k.pt (s 5 (by omega)) d3, k.pt (s 5 (by omega)) d4, k.pt (s 5 (by omega)) d5, d6.keep k (s 6 (by omega)), d7.keep k (s 7 (by omega)), d8.keep k (s 8 (by omega)), d9.keep k (s 9 (by omega))⟩, t.keep k (s 10 (by omega))⟩
def REG0 (M : Mm) (a0 n : Nat) : Prop := mK M a0 = 6 ∧ mP M 600 a0 0 = some n ∧ mP M 601 a0 0 = some (n + 12) ∧ mP M 602 a0 0 = some (n + 13) ∧ mP M 603 a0 0 = some (n + 14) ∧ STO0 M n (n + 1) ∧ NIL0 M (n + 12) ∧ NIL0 M (n + 13) ∧ ROW M (n + 14) 22 201
theorem REG0.keep {S : Nat → Prop} {M M' : Mm} {a0 n : Nat} (h : REG0 M a0 n) (k : SM S M M') (ha : ¬ S a0) (hs : ∀ b, n ≤ b → b < n + 15 → ¬ S b) (hz : ¬ S 0) : REG0 M' a0 n := by
  obtain ⟨h1, h2, h3, h4, h5, h6, h7, h8, h9⟩ := h
  exact ⟨k.kd ha h1, k.pt ha h2, k.pt ha h3, k.pt ha h4, k.pt ha h5, h6.keep k (hs n (by omega) (by omega)) (fun b g1 g2 => hs b (by omega) (by omega)) hz, h7.keep k (hs _ (by omega) (by omega)) hz, h8.keep k (hs _ (by omega) (by omega)) hz, h9.keep k (hs _ (by omega) (by omega))⟩
/-- a list is made and laid into a field -/
theorem al_step (M : Mm) (n a kd fid : Nat) (h : mK M a = kd) (hn : a < n) (h0 : 0 < n) (M1 : Mm) (e : M1 = uP (uP (uI (nA M n 12 0) 1200 n 0 0) 1201 n 0 (some (mL (nA M n 12 0) 0))) fid a 0 (some n)) : mK M1 a = kd ∧ mP M1 fid a 0 = some n ∧ (∀ c v, c ≠ fid → mP M c a 0 = v → mP M1 c a 0 = v) ∧ NIL0 M1 n ∧ SM (fun b => b = a ∨ b = n) M M1 ∧ (∀ c, mI M1 c a 0 = mI M c a 0) := by
  have q : a ≠ n := Nat.ne_of_lt hn
  subst e
  refine ⟨?_, ?_, fun c v hc hv => ?_, ?_, ?_, fun c => ?_⟩
  · simp [mK_nA, mK_uP, mK_uI, q, h]
  · simp [mP_uP]
  · simp [mP_uP, mP_uI, mP_nA, q, hc, hv]
  · refine ⟨?_, ?_, ?_⟩
    · simp [mK_nA, mK_uP, mK_uI]
    · simp [mP_uP, mL_uP, mL_uI, mL_nA, Ne.symm q]
    · simp [mI_nA, mI_uP, mI_uI]
  · exact (((SM.nA n 12 0).trans (SM.uI 1200 n 0 0)).trans ((SM.uP 1201 n 0 _).trans (SM.uP fid a 0 _))).mono fun b z => by
      rcases z with (z | z) | (z | z)
      · exact Or.inr z
      · exact Or.inr z
      · exact Or.inr z
      · exact Or.inl z
  · simp [mI_uP, mI_uI, mI_nA, q]
theorem region_init (M : Mm) (n a0 : Nat) (h : mK M a0 = 6) (hn : a0 < n) (h0 : 0 < a0) : RES (fRegion_init a0 M n) (fun _ M' n' => n' = n + 15 ∧ SM (NW a0 n) M M' ∧ REG0 M' a0 n) := by
  unfold fRegion_init
  refine RES.newO (RES.look (kd := 8) (by simp [mK_nA]) ?_)
  refine RES.call (store_init (nA M n 8 0) (n + 1) n (by simp [mK_nA]) (by omega) (by omega)) (fun _ _ _ hp => by rw [hp.1]; omega) (fun _ Ma na hp => ?_)
  obtain ⟨rfl, a1, a2⟩ := hp
  have an : ∀ b, b < n → ¬ NW n (n + 1) b := fun b hb z => by rcases z with z | z <;> omega
  have ak : mK Ma a0 = 6 := a1.kd (an a0 hn) (kn h hn)
  refine RES.putR (kd := 6) ak ?_
  have sA : SM (fun b => b = a0) Ma (uP Ma 600 a0 0 (some n)) := SM.uP 600 a0 0 _
  have pA : mP (uP Ma 600 a0 0 (some n)) 600 a0 0 = some n := by simp [mP_uP]
  have kA : mK (uP Ma 600 a0 0 (some n)) a0 = 6 := ak
  generalize uP Ma 600 a0 0 (some n) = Mb at sA pA kA ⊢
  refine RES.newO (RES.look (kd := 12) (by simp [mK_nA]) (RES.al (by simp [mK_nA]) (RES.putR (kd := 6) (by simp only [mK_uP, mK_uI]; exact kn kA (by omega)) ?_)))
  obtain ⟨b1, b2, b3, b4, b5, -⟩ := al_step Mb (n + 1 + 11) a0 6 601 kA (by omega) (by omega) _ rfl
  generalize uP (uP (uI (nA Mb (n + 1 + 11) 12 0) 1200 (n + 1 + 11) 0 0) 1201 (n + 1 + 11) 0 (some (mL (nA Mb (n + 1 + 11) 12 0) 0))) 601 a0 0 (some (n + 1 + 11)) = Mc at b1 b2 b3 b4 b5 ⊢
  refine RES.newO (RES.look (kd := 12) (by simp [mK_nA]) (RES.al (by simp [mK_nA]) (RES.putR (kd := 6) (by simp only [mK_uP, mK_uI]; exact kn b1 (by omega)) ?_)))
  obtain ⟨c1, c2, c3, c4, c5, -⟩ := al_step Mc (n + 1 + 11 + 1) a0 6 602 b1 (by omega) (by omega) _ rfl
  generalize uP (uP (uI (nA Mc (n + 1 + 11 + 1) 12 0) 1200 (n + 1 + 11 + 1) 0 0) 1201 (n + 1 + 11 + 1) 0 (some (mL (nA Mc (n + 1 + 11 + 1) 12 0) 0))) 602 a0 0 (some (n + 1 + 11 + 1)) = Md at c1 c2 c3 c4 c5 ⊢
  refine RES.newA (len := 201) (by decide) (RES.putR (kd := 6) (kn c1 (by omega)) ?_)
  have d1 : SM (fun b => b = a0 ∨ b = n + 14) Md (uP (nA Md (n + 1 + 11 + 1 + 1) 22 201) 603 a0 0 (some (n + 1 + 11 + 1 + 1))) := ((SM.nA (n + 14) 22 201).trans (SM.uP 603 a0 0 _)).mono fun b z => z.elim Or.inr Or.inl
  have d2 : mK (uP (nA Md (n + 1 + 11 + 1 + 1) 22 201) 603 a0 0 (some (n + 1 + 11 + 1 + 1))) a0 = 6 := kn c1 (by omega)
  have d3 : mP (uP (nA Md (n + 1 + 11 + 1 + 1) 22 201) 603 a0 0 (some (n + 1 + 11 + 1 + 1))) 603 a0 0 = some (n + 14) := by simp [mP_uP]
  have d4 : ∀ c v, c ≠ 603 → mP Md c a0 0 = v → mP (uP (nA Md (n + 1 + 11 + 1 + 1) 22 201) 603 a0 0 (some (n + 1 + 11 + 1 + 1))) c a0 0 = v := fun c v hc hv => by
    rw [mP_uP, if_neg (fun z => hc z.1), mP_nA, if_neg (by omega)]; exact hv
  have d5 : ROW (uP (nA Md (n + 1 + 11 + 1 + 1) 22 201) 603 a0 0 (some (n + 1 + 11 + 1 + 1))) (n + 14) 22 201 := by simp [ROW, mK_nA, mK_uP, mL_nA, mL_uP, mI_nA, mI_uP]
  generalize uP (nA Md (n + 1 + 11 + 1 + 1) 22 201) 603 a0 0 (some (n + 1 + 11 + 1 + 1)) = Me at d1 d2 d3 d4 d5 ⊢
  have sE : SM (fun b => b = a0 ∨ n + 12 ≤ b) Ma Me := ((sA.trans b5).trans (c5.trans d1)).mono fun b z => by
    rcases z with (z | z | z) | ((z | z) | z | z)
    · exact Or.inl z
    · exact Or.inl z
    · exact Or.inr (by omega)
    · exact Or.inl z
    · exact Or.inr (by omega)
    · exact Or.inl z
    · exact Or.inr (by omega)
  have w : ∀ b, b < n + 14 → b ≠ a0 → ¬ (b = a0 ∨ b = n + 14) := fun b h1 h2 z => by rcases z with z | z <;> omega
  have w2 : ∀ b, b < n + 13 → b ≠ a0 → ¬ (b = a0 ∨ b = n + 1 + 11 + 1) := fun b h1 h2 z => by rcases z with z | z <;> omega
  refine RES.fin ⟨rfl, ?_, d2, d4 600 _ (by decide) (c3 600 _ (by decide) (b3 600 _ (by decide) pA)), d4 601 _ (by decide) (c3 601 _ (by decide) b2), d4 602 _ (by decide) c2, d3, ?_, ?_, ?_, d5⟩
  · exact (((SM.nA n 8 0).trans a1).trans sE).mono fun b z => by
      rcases z with (z | z | z) | z | z
      · exact Or.inr (by omega)
      · exact Or.inr (by omega)
      · exact Or.inr (by omega)
      · exact Or.inl z
      · exact Or.inr (by omega)
  · exact a2.keep sE (fun z => by rcases z with z | z <;> omega) (fun b g1 g2 z => by rcases z with z | z <;> omega) (fun z => by rcases z with z | z <;> omega)
  · exact (b4.keep c5 (w2 _ (by omega) (by omega)) (w2 0 (by omega) (by omega))).keep d1 (w _ (by omega) (by omega)) (w 0 (by omega) (by omega))
  · exact c4.keep d1 (w _ (by omega) (by omega)) (w 0 (by omega) (by omega))

set_option maxRecDepth 100000
/-! the check, made -/
def ini (a0 : Nat) : List (Nat × Nat × Nat) → Mm → Nat → Mm × Nat
  | [], M, n => (M, n)
  | e :: l, M, n => ini a0 l (uP (nA M n e.2.1 e.2.2) (1300 + e.1) a0 0 (some n)) (n + 1)
def irun {ω : Type} (a0 : Nat) : List (Nat × Nat × Nat) → (Mm → Nat → Option ω) → Mm → Nat → Option ω
  | [], k, M, n => k M n
  | e :: l, k, M, n => nwA e.2.1 8100 (nn e.2.2) M n fun y M' n' => fpR 13 (1300 + e.1) (some a0) y M' fun M'' => irun a0 l k M'' n'
theorem irun_eq {ω : Type} {a0 : Nat} (k : Mm → Nat → Option ω) (l : List (Nat × Nat × Nat)) (hl : ∀ e ∈ l, e.2.2 ≤ 8100) : ∀ (M : Mm) (n : Nat), mK M a0 = 13 → a0 < n → irun a0 l k M n = k (ini a0 l M n).1 (ini a0 l M n).2 := by
  induction l with
  | nil => intro M n _ _; rfl
  | cons e l ih =>
    intro M n hk hn
    have he := hl e List.mem_cons_self
    show nwA e.2.1 8100 (nn e.2.2) M n _ = _
    rw [nwA_s (Nat.lt_of_le_of_lt he (by decide)) he]
    have h1 : mK (nA M n e.2.1 e.2.2) a0 = 13 := by rw [mK_nA, if_neg (Nat.ne_of_lt hn)]; exact hk
    rw [fpR_s h1]
    exact ih (fun e h => hl e (List.mem_cons_of_mem _ h)) _ _ h1 (Nat.lt_succ_of_lt hn)
theorem ini_n {a0 : Nat} (l : List (Nat × Nat × Nat)) : ∀ (M : Mm) (n : Nat), (ini a0 l M n).2 = n + l.length := by
  induction l with
  | nil => intro M n; rfl
  | cons e l ih => intro M n; show (ini a0 l _ (n + 1)).2 = _; rw [ih, List.length_cons]; omega
theorem ini_old {a0 : Nat} (l : List (Nat × Nat × Nat)) : ∀ (M : Mm) (n : Nat), a0 < n → ∀ b, b < n → mK (ini a0 l M n).1 b = mK M b ∧ mL (ini a0 l M n).1 b = mL M b ∧ (∀ c j, mI (ini a0 l M n).1 c b j = mI M c b j) ∧ (∀ j, mJ (ini a0 l M n).1 b j = mJ M b j) ∧ (∀ c j, (b = a0 → ∀ e ∈ l, c ≠ 1300 + e.1) → mP (ini a0 l M n).1 c b j = mP M c b j) := by
  induction l with
  | nil => intro M n _ b _; exact ⟨rfl, rfl, fun _ _ => rfl, fun _ => rfl, fun _ _ _ => rfl⟩
  | cons e l ih =>
    intro M n hn b hb
    obtain ⟨h1, h2, h3, h4, h5⟩ := ih (uP (nA M n e.2.1 e.2.2) (1300 + e.1) a0 0 (some n)) (n + 1) (Nat.lt_succ_of_lt hn) b (Nat.lt_succ_of_lt hb)
    have hne := Nat.ne_of_lt hb
    refine ⟨h1.trans ?_, h2.trans ?_, fun c j => (h3 c j).trans ?_, fun j => (h4 j).trans ?_, fun c j hc => (h5 c j (fun hb0 e' he' => hc hb0 e' (List.mem_cons_of_mem _ he'))).trans ?_⟩
    · rw [mK_uP, mK_nA, if_neg hne]
    · rw [mL_uP, mL_nA, if_neg hne]
    · rw [mI_uP, mI_nA, if_neg hne]
    · rw [mJ_uP, mJ_nA, if_neg hne]
    · rw [mP_uP, if_neg (fun h => hc h.2.1 e List.mem_cons_self h.1), mP_nA, if_neg hne]
theorem ini_new {a0 : Nat} (l : List (Nat × Nat × Nat)) : ∀ (M : Mm) (n : Nat), a0 < n → (l.map fun e => e.1).Nodup → ∀ (i : Nat) (e : Nat × Nat × Nat), l[i]? = some e → mP (ini a0 l M n).1 (1300 + e.1) a0 0 = some (n + i) ∧ mK (ini a0 l M n).1 (n + i) = e.2.1 ∧ mL (ini a0 l M n).1 (n + i) = e.2.2 ∧ ∀ c j, mI (ini a0 l M n).1 c (n + i) j = 0 := by
  induction l with
  | nil => intro M n _ _ i e h; cases h
  | cons e0 l ih =>
    intro M n hn hnd i e h
    have hnd' := List.nodup_cons.mp hnd
    cases i with
    | zero =>
      cases h
      obtain ⟨h1, h2, h3, h4, h5⟩ := ini_old l (uP (nA M n e0.2.1 e0.2.2) (1300 + e0.1) a0 0 (some n)) (n + 1) (Nat.lt_succ_of_lt hn) n (Nat.lt_succ_self n)
      obtain ⟨-, -, -, -, h6⟩ := ini_old l (uP (nA M n e0.2.1 e0.2.2) (1300 + e0.1) a0 0 (some n)) (n + 1) (Nat.lt_succ_of_lt hn) a0 (Nat.lt_succ_of_lt hn)
      refine ⟨(h6 (1300 + e0.1) 0 (fun _ e' he' hc => hnd'.1 (List.mem_map.mpr ⟨e', he', by show e'.1 = e0.1; omega⟩))).trans ?_, h1.trans ?_, h2.trans ?_, fun c j => (h3 c j).trans ?_⟩
      · rw [mP_uP, if_pos ⟨rfl, rfl, rfl⟩]; rfl
      · rw [mK_uP, mK_nA, if_pos rfl]
      · rw [mL_uP, mL_nA, if_pos rfl]
      · rw [mI_uP, mI_nA, if_pos rfl]
    | succ i =>
      have h' : l[i]? = some e := h
      have := ih (uP (nA M n e0.2.1 e0.2.2) (1300 + e0.1) a0 0 (some n)) (n + 1) (Nat.lt_succ_of_lt hn) hnd'.2 i e h'
      rw [show n + (i + 1) = n + 1 + i by omega]
      exact this
def mdl : List (Nat × Nat × Nat) := [(2, 21, 40), (4, 21, 40), (6, 21, 20), (7, 21, 20), (9, 21, 201), (10, 21, 8040), (12, 21, 3), (14, 21, 6), (15, 21, 6), (16, 21, 6), (17, 22, 12), (18, 21, 2), (19, 22, 180), (20, 21, 180), (21, 21, 180), (22, 21, 1080), (23, 21, 900), (24, 21, 1800), (25, 22, 900), (26, 21, 2), (27, 21, 80), (28, 21, 80), (29, 21, 80), (30, 21, 80), (31, 21, 80), (32, 21, 80), (33, 21, 80), (34, 21, 1600), (35, 22, 402), (36, 21, 2), (37, 21, 400), (38, 21, 201), (39, 21, 201), (41, 21, 12), (42, 21, 12), (43, 22, 12), (44, 21, 108), (45, 21, 4320), (46, 21, 12)]
theorem fMd_init_eq {a0 : Nat} {M : Mm} {n : Nat} (h : mK M a0 = 13) (hn : a0 < n) : fMd_init a0 M n = some (.inl (), (ini a0 mdl M n).1, (ini a0 mdl M n).2) :=
  (show fMd_init a0 M n = irun a0 mdl (fun M n => some (.inl (), M, n)) M n from rfl).trans (irun_eq _ mdl (by decide) M n h hn)
theorem mdl_at : ∀ k, k < 47 → mfl[k]? = some true → ∃ i, i < 39 ∧ mdl[i]? = some (k, (if mbool k = true then 22 else 21), mlen k) := by decide +kernel
theorem mfl_len {k : Nat} (h : mfl[k]? = some true) : k < 47 := by
  have := (List.getElem?_eq_some_iff.mp h).1
  exact this
theorem mdl_nd : (mdl.map fun e => e.1).Nodup := by decide +kernel
/-- the check made: its rows in their places -/
theorem MOK_init {a0 : Nat} {M : Mm} {n : Nat} (h : mK M a0 = 13) (hn : a0 < n) : MOK (ini a0 mdl M n).1 a0 := by
  refine ⟨(ini_old mdl M n hn a0 hn).1.trans h, fun k hk => ?_, fun k k' hk hk' he => ?_⟩
  · obtain ⟨i, -, hi⟩ := mdl_at k (mfl_len hk) hk
    obtain ⟨h1, h2, h3, -⟩ := ini_new mdl M n hn mdl_nd i _ hi
    exact ⟨n + i, h1, h2, h3⟩
  · obtain ⟨i, -, hi⟩ := mdl_at k (mfl_len hk) hk
    obtain ⟨i', -, hi'⟩ := mdl_at k' (mfl_len hk') hk'
    have e1 := (ini_new mdl M n hn mdl_nd i _ hi).1
    have e2 := (ini_new mdl M n hn mdl_nd i' _ hi').1
    have e1 : mP (ini a0 mdl M n).1 (1300 + k) a0 0 = some (n + i) := e1
    have e2 : mP (ini a0 mdl M n).1 (1300 + k') a0 0 = some (n + i') := e2
    rw [e1, e2] at he
    have hii : i = i' := by have := Option.some.inj he; omega
    subst hii
    rw [hi] at hi'
    have := Option.some.inj hi'
    exact congrArg (fun e => e.1) this

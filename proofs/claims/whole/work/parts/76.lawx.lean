set_option maxRecDepth 100000
def fLw_law_j2184 (xs : Nat → Int32) (L a1 a3 NB : Nat) (k23 : Int32 → Sg → Mm → Nat → Option Nat) (x4 : Int32) (σ : Sg) (M : Mm) (n : Nat) : Option Nat :=
  k23 (x4 + 5) σ M n
theorem wLw_law_j2184 {X : MC} {G : GE} {n0 sl b L NB : Nat} {xs : Nat → Int32} {E : Nat → Room × (State → Prop) × Nat} (hG : gH G = true) (C : CX X G RL code pLw_law 7 (some .boolean) n0) (hX : SCR X G b L xs) (hE : CE E 14 300 sl n0) (hend : LEND X G 300 sl n0 NB E) (a1 a3 : Nat) (k23 : Int32 → Sg → Mm → Nat → Option Nat) (H23 : ∀ (x4 : Int32) (σ : Sg) (M : Mm) (n : Nat), JS X G 7 300 sl n0 E (k23 x4 σ M n) (σ, M, n) 23 [(0, .inr (.inl (some b))), (1, .inr (.inl (some a1))), (2, .inr (.inl (some (gM G)))), (3, .inr (.inl (some a3))), (4, .inl x4)] []) (x4 : Int32) (σ : Sg) (M : Mm) (n : Nat) : JS X G 7 300 sl n0 E (fLw_law_j2184 xs L a1 a3 NB k23 x4 σ M n) (σ, M, n) 2184 [(0, .inr (.inl (some b))), (1, .inr (.inl (some a1))), (2, .inr (.inl (some (gM G)))), (3, .inr (.inl (some a3))), (4, .inl x4)] [] := by
  unfold fLw_law_j2184
  refine s_blk C 1381 2 [0, 1, 2, 3, 4] (pc' := 23) (lv' := [(0, .inr (.inl (some b))), (1, .inr (.inl (some a1))), (2, .inr (.inl (some (gM G)))), (3, .inr (.inl (some a3))), (4, .inl (x4 + 5))]) (st' := []) rfl ?_
  exact H23 _ _ _ _
def fLw_law_j241 (xs : Nat → Int32) (L a1 a3 NB : Nat) (k23 : Int32 → Sg → Mm → Nat → Option Nat) (x4 : Int32) (σ : Sg) (M : Mm) (n : Nat) : Option Nat :=
  fLw_law_j2184 xs L a1 a3 NB k23 x4 σ M n
theorem wLw_law_j241 {X : MC} {G : GE} {n0 sl b L NB : Nat} {xs : Nat → Int32} {E : Nat → Room × (State → Prop) × Nat} (hG : gH G = true) (C : CX X G RL code pLw_law 7 (some .boolean) n0) (hX : SCR X G b L xs) (hE : CE E 14 300 sl n0) (hend : LEND X G 300 sl n0 NB E) (a1 a3 : Nat) (k23 : Int32 → Sg → Mm → Nat → Option Nat) (H23 : ∀ (x4 : Int32) (σ : Sg) (M : Mm) (n : Nat), JS X G 7 300 sl n0 E (k23 x4 σ M n) (σ, M, n) 23 [(0, .inr (.inl (some b))), (1, .inr (.inl (some a1))), (2, .inr (.inl (some (gM G)))), (3, .inr (.inl (some a3))), (4, .inl x4)] []) (x4 : Int32) (σ : Sg) (M : Mm) (n : Nat) : JS X G 7 300 sl n0 E (fLw_law_j241 xs L a1 a3 NB k23 x4 σ M n) (σ, M, n) 241 [(0, .inr (.inl (some b))), (1, .inr (.inl (some a1))), (2, .inr (.inl (some (gM G)))), (3, .inr (.inl (some a3))), (4, .inl x4)] [] := by
  unfold fLw_law_j241
  refine s_blk C 79 1 [0, 1, 2, 3, 4] (pc' := 2184) (lv' := [(0, .inr (.inl (some b))), (1, .inr (.inl (some a1))), (2, .inr (.inl (some (gM G)))), (3, .inr (.inl (some a3))), (4, .inl x4)]) (st' := []) rfl ?_
  exact wLw_law_j2184 hG C hX hE hend a1 a3 k23 H23 _ _ _ _
def fLw_law_j334 (xs : Nat → Int32) (L a1 a3 NB : Nat) (k23 : Int32 → Sg → Mm → Nat → Option Nat) (x4 : Int32) (σ : Sg) (M : Mm) (n : Nat) : Option Nat :=
  fLw_law_j2184 xs L a1 a3 NB k23 x4 σ M n
theorem wLw_law_j334 {X : MC} {G : GE} {n0 sl b L NB : Nat} {xs : Nat → Int32} {E : Nat → Room × (State → Prop) × Nat} (hG : gH G = true) (C : CX X G RL code pLw_law 7 (some .boolean) n0) (hX : SCR X G b L xs) (hE : CE E 14 300 sl n0) (hend : LEND X G 300 sl n0 NB E) (a1 a3 : Nat) (k23 : Int32 → Sg → Mm → Nat → Option Nat) (H23 : ∀ (x4 : Int32) (σ : Sg) (M : Mm) (n : Nat), JS X G 7 300 sl n0 E (k23 x4 σ M n) (σ, M, n) 23 [(0, .inr (.inl (some b))), (1, .inr (.inl (some a1))), (2, .inr (.inl (some (gM G)))), (3, .inr (.inl (some a3))), (4, .inl x4)] []) (x4 : Int32) (σ : Sg) (M : Mm) (n : Nat) : JS X G 7 300 sl n0 E (fLw_law_j334 xs L a1 a3 NB k23 x4 σ M n) (σ, M, n) 334 [(0, .inr (.inl (some b))), (1, .inr (.inl (some a1))), (2, .inr (.inl (some (gM G)))), (3, .inr (.inl (some a3))), (4, .inl x4)] [] := by
  unfold fLw_law_j334
  refine s_blk C 141 1 [0, 1, 2, 3, 4] (pc' := 2184) (lv' := [(0, .inr (.inl (some b))), (1, .inr (.inl (some a1))), (2, .inr (.inl (some (gM G)))), (3, .inr (.inl (some a3))), (4, .inl x4)]) (st' := []) rfl ?_
  exact wLw_law_j2184 hG C hX hE hend a1 a3 k23 H23 _ _ _ _
def fLw_law_j402 (xs : Nat → Int32) (L a1 a3 NB : Nat) (k23 : Int32 → Sg → Mm → Nat → Option Nat) (x4 : Int32) (σ : Sg) (M : Mm) (n : Nat) : Option Nat :=
  fLw_law_j2184 xs L a1 a3 NB k23 x4 σ M n
theorem wLw_law_j402 {X : MC} {G : GE} {n0 sl b L NB : Nat} {xs : Nat → Int32} {E : Nat → Room × (State → Prop) × Nat} (hG : gH G = true) (C : CX X G RL code pLw_law 7 (some .boolean) n0) (hX : SCR X G b L xs) (hE : CE E 14 300 sl n0) (hend : LEND X G 300 sl n0 NB E) (a1 a3 : Nat) (k23 : Int32 → Sg → Mm → Nat → Option Nat) (H23 : ∀ (x4 : Int32) (σ : Sg) (M : Mm) (n : Nat), JS X G 7 300 sl n0 E (k23 x4 σ M n) (σ, M, n) 23 [(0, .inr (.inl (some b))), (1, .inr (.inl (some a1))), (2, .inr (.inl (some (gM G)))), (3, .inr (.inl (some a3))), (4, .inl x4)] []) (x4 : Int32) (σ : Sg) (M : Mm) (n : Nat) : JS X G 7 300 sl n0 E (fLw_law_j402 xs L a1 a3 NB k23 x4 σ M n) (σ, M, n) 402 [(0, .inr (.inl (some b))), (1, .inr (.inl (some a1))), (2, .inr (.inl (some (gM G)))), (3, .inr (.inl (some a3))), (4, .inl x4)] [] := by
  unfold fLw_law_j402
  refine s_blk C 186 1 [0, 1, 2, 3, 4] (pc' := 2184) (lv' := [(0, .inr (.inl (some b))), (1, .inr (.inl (some a1))), (2, .inr (.inl (some (gM G)))), (3, .inr (.inl (some a3))), (4, .inl x4)]) (st' := []) rfl ?_
  exact wLw_law_j2184 hG C hX hE hend a1 a3 k23 H23 _ _ _ _
def fLw_law_j482 (xs : Nat → Int32) (L a1 a3 NB : Nat) (k23 : Int32 → Sg → Mm → Nat → Option Nat) (x4 : Int32) (σ : Sg) (M : Mm) (n : Nat) : Option Nat :=
  fLw_law_j2184 xs L a1 a3 NB k23 x4 σ M n
theorem wLw_law_j482 {X : MC} {G : GE} {n0 sl b L NB : Nat} {xs : Nat → Int32} {E : Nat → Room × (State → Prop) × Nat} (hG : gH G = true) (C : CX X G RL code pLw_law 7 (some .boolean) n0) (hX : SCR X G b L xs) (hE : CE E 14 300 sl n0) (hend : LEND X G 300 sl n0 NB E) (a1 a3 : Nat) (k23 : Int32 → Sg → Mm → Nat → Option Nat) (H23 : ∀ (x4 : Int32) (σ : Sg) (M : Mm) (n : Nat), JS X G 7 300 sl n0 E (k23 x4 σ M n) (σ, M, n) 23 [(0, .inr (.inl (some b))), (1, .inr (.inl (some a1))), (2, .inr (.inl (some (gM G)))), (3, .inr (.inl (some a3))), (4, .inl x4)] []) (x4 : Int32) (σ : Sg) (M : Mm) (n : Nat) : JS X G 7 300 sl n0 E (fLw_law_j482 xs L a1 a3 NB k23 x4 σ M n) (σ, M, n) 482 [(0, .inr (.inl (some b))), (1, .inr (.inl (some a1))), (2, .inr (.inl (some (gM G)))), (3, .inr (.inl (some a3))), (4, .inl x4)] [] := by
  unfold fLw_law_j482
  refine s_blk C 241 1 [0, 1, 2, 3, 4] (pc' := 2184) (lv' := [(0, .inr (.inl (some b))), (1, .inr (.inl (some a1))), (2, .inr (.inl (some (gM G)))), (3, .inr (.inl (some a3))), (4, .inl x4)]) (st' := []) rfl ?_
  exact wLw_law_j2184 hG C hX hE hend a1 a3 k23 H23 _ _ _ _
def fLw_law_j574 (xs : Nat → Int32) (L a1 a3 NB : Nat) (k23 : Int32 → Sg → Mm → Nat → Option Nat) (x4 : Int32) (σ : Sg) (M : Mm) (n : Nat) : Option Nat :=
  fLw_law_j2184 xs L a1 a3 NB k23 x4 σ M n
theorem wLw_law_j574 {X : MC} {G : GE} {n0 sl b L NB : Nat} {xs : Nat → Int32} {E : Nat → Room × (State → Prop) × Nat} (hG : gH G = true) (C : CX X G RL code pLw_law 7 (some .boolean) n0) (hX : SCR X G b L xs) (hE : CE E 14 300 sl n0) (hend : LEND X G 300 sl n0 NB E) (a1 a3 : Nat) (k23 : Int32 → Sg → Mm → Nat → Option Nat) (H23 : ∀ (x4 : Int32) (σ : Sg) (M : Mm) (n : Nat), JS X G 7 300 sl n0 E (k23 x4 σ M n) (σ, M, n) 23 [(0, .inr (.inl (some b))), (1, .inr (.inl (some a1))), (2, .inr (.inl (some (gM G)))), (3, .inr (.inl (some a3))), (4, .inl x4)] []) (x4 : Int32) (σ : Sg) (M : Mm) (n : Nat) : JS X G 7 300 sl n0 E (fLw_law_j574 xs L a1 a3 NB k23 x4 σ M n) (σ, M, n) 574 [(0, .inr (.inl (some b))), (1, .inr (.inl (some a1))), (2, .inr (.inl (some (gM G)))), (3, .inr (.inl (some a3))), (4, .inl x4)] [] := by
  unfold fLw_law_j574
  refine s_blk C 306 1 [0, 1, 2, 3, 4] (pc' := 2184) (lv' := [(0, .inr (.inl (some b))), (1, .inr (.inl (some a1))), (2, .inr (.inl (some (gM G)))), (3, .inr (.inl (some a3))), (4, .inl x4)]) (st' := []) rfl ?_
  exact wLw_law_j2184 hG C hX hE hend a1 a3 k23 H23 _ _ _ _
def fLw_law_j666 (xs : Nat → Int32) (L a1 a3 NB : Nat) (k23 : Int32 → Sg → Mm → Nat → Option Nat) (x4 : Int32) (σ : Sg) (M : Mm) (n : Nat) : Option Nat :=
  fLw_law_j2184 xs L a1 a3 NB k23 x4 σ M n
theorem wLw_law_j666 {X : MC} {G : GE} {n0 sl b L NB : Nat} {xs : Nat → Int32} {E : Nat → Room × (State → Prop) × Nat} (hG : gH G = true) (C : CX X G RL code pLw_law 7 (some .boolean) n0) (hX : SCR X G b L xs) (hE : CE E 14 300 sl n0) (hend : LEND X G 300 sl n0 NB E) (a1 a3 : Nat) (k23 : Int32 → Sg → Mm → Nat → Option Nat) (H23 : ∀ (x4 : Int32) (σ : Sg) (M : Mm) (n : Nat), JS X G 7 300 sl n0 E (k23 x4 σ M n) (σ, M, n) 23 [(0, .inr (.inl (some b))), (1, .inr (.inl (some a1))), (2, .inr (.inl (some (gM G)))), (3, .inr (.inl (some a3))), (4, .inl x4)] []) (x4 : Int32) (σ : Sg) (M : Mm) (n : Nat) : JS X G 7 300 sl n0 E (fLw_law_j666 xs L a1 a3 NB k23 x4 σ M n) (σ, M, n) 666 [(0, .inr (.inl (some b))), (1, .inr (.inl (some a1))), (2, .inr (.inl (some (gM G)))), (3, .inr (.inl (some a3))), (4, .inl x4)] [] := by
  unfold fLw_law_j666
  refine s_blk C 371 1 [0, 1, 2, 3, 4] (pc' := 2184) (lv' := [(0, .inr (.inl (some b))), (1, .inr (.inl (some a1))), (2, .inr (.inl (some (gM G)))), (3, .inr (.inl (some a3))), (4, .inl x4)]) (st' := []) rfl ?_
  exact wLw_law_j2184 hG C hX hE hend a1 a3 k23 H23 _ _ _ _
def fLw_law_j746 (xs : Nat → Int32) (L a1 a3 NB : Nat) (k23 : Int32 → Sg → Mm → Nat → Option Nat) (x4 : Int32) (σ : Sg) (M : Mm) (n : Nat) : Option Nat :=
  fLw_law_j2184 xs L a1 a3 NB k23 x4 σ M n
theorem wLw_law_j746 {X : MC} {G : GE} {n0 sl b L NB : Nat} {xs : Nat → Int32} {E : Nat → Room × (State → Prop) × Nat} (hG : gH G = true) (C : CX X G RL code pLw_law 7 (some .boolean) n0) (hX : SCR X G b L xs) (hE : CE E 14 300 sl n0) (hend : LEND X G 300 sl n0 NB E) (a1 a3 : Nat) (k23 : Int32 → Sg → Mm → Nat → Option Nat) (H23 : ∀ (x4 : Int32) (σ : Sg) (M : Mm) (n : Nat), JS X G 7 300 sl n0 E (k23 x4 σ M n) (σ, M, n) 23 [(0, .inr (.inl (some b))), (1, .inr (.inl (some a1))), (2, .inr (.inl (some (gM G)))), (3, .inr (.inl (some a3))), (4, .inl x4)] []) (x4 : Int32) (σ : Sg) (M : Mm) (n : Nat) : JS X G 7 300 sl n0 E (fLw_law_j746 xs L a1 a3 NB k23 x4 σ M n) (σ, M, n) 746 [(0, .inr (.inl (some b))), (1, .inr (.inl (some a1))), (2, .inr (.inl (some (gM G)))), (3, .inr (.inl (some a3))), (4, .inl x4)] [] := by
  unfold fLw_law_j746
  refine s_blk C 426 1 [0, 1, 2, 3, 4] (pc' := 2184) (lv' := [(0, .inr (.inl (some b))), (1, .inr (.inl (some a1))), (2, .inr (.inl (some (gM G)))), (3, .inr (.inl (some a3))), (4, .inl x4)]) (st' := []) rfl ?_
  exact wLw_law_j2184 hG C hX hE hend a1 a3 k23 H23 _ _ _ _
def fLw_law_j814 (xs : Nat → Int32) (L a1 a3 NB : Nat) (k23 : Int32 → Sg → Mm → Nat → Option Nat) (x4 : Int32) (σ : Sg) (M : Mm) (n : Nat) : Option Nat :=
  fLw_law_j2184 xs L a1 a3 NB k23 x4 σ M n
theorem wLw_law_j814 {X : MC} {G : GE} {n0 sl b L NB : Nat} {xs : Nat → Int32} {E : Nat → Room × (State → Prop) × Nat} (hG : gH G = true) (C : CX X G RL code pLw_law 7 (some .boolean) n0) (hX : SCR X G b L xs) (hE : CE E 14 300 sl n0) (hend : LEND X G 300 sl n0 NB E) (a1 a3 : Nat) (k23 : Int32 → Sg → Mm → Nat → Option Nat) (H23 : ∀ (x4 : Int32) (σ : Sg) (M : Mm) (n : Nat), JS X G 7 300 sl n0 E (k23 x4 σ M n) (σ, M, n) 23 [(0, .inr (.inl (some b))), (1, .inr (.inl (some a1))), (2, .inr (.inl (some (gM G)))), (3, .inr (.inl (some a3))), (4, .inl x4)] []) (x4 : Int32) (σ : Sg) (M : Mm) (n : Nat) : JS X G 7 300 sl n0 E (fLw_law_j814 xs L a1 a3 NB k23 x4 σ M n) (σ, M, n) 814 [(0, .inr (.inl (some b))), (1, .inr (.inl (some a1))), (2, .inr (.inl (some (gM G)))), (3, .inr (.inl (some a3))), (4, .inl x4)] [] := by
  unfold fLw_law_j814
  refine s_blk C 471 1 [0, 1, 2, 3, 4] (pc' := 2184) (lv' := [(0, .inr (.inl (some b))), (1, .inr (.inl (some a1))), (2, .inr (.inl (some (gM G)))), (3, .inr (.inl (some a3))), (4, .inl x4)]) (st' := []) rfl ?_
  exact wLw_law_j2184 hG C hX hE hend a1 a3 k23 H23 _ _ _ _
def fLw_law_j882 (xs : Nat → Int32) (L a1 a3 NB : Nat) (k23 : Int32 → Sg → Mm → Nat → Option Nat) (x4 : Int32) (σ : Sg) (M : Mm) (n : Nat) : Option Nat :=
  fLw_law_j2184 xs L a1 a3 NB k23 x4 σ M n
theorem wLw_law_j882 {X : MC} {G : GE} {n0 sl b L NB : Nat} {xs : Nat → Int32} {E : Nat → Room × (State → Prop) × Nat} (hG : gH G = true) (C : CX X G RL code pLw_law 7 (some .boolean) n0) (hX : SCR X G b L xs) (hE : CE E 14 300 sl n0) (hend : LEND X G 300 sl n0 NB E) (a1 a3 : Nat) (k23 : Int32 → Sg → Mm → Nat → Option Nat) (H23 : ∀ (x4 : Int32) (σ : Sg) (M : Mm) (n : Nat), JS X G 7 300 sl n0 E (k23 x4 σ M n) (σ, M, n) 23 [(0, .inr (.inl (some b))), (1, .inr (.inl (some a1))), (2, .inr (.inl (some (gM G)))), (3, .inr (.inl (some a3))), (4, .inl x4)] []) (x4 : Int32) (σ : Sg) (M : Mm) (n : Nat) : JS X G 7 300 sl n0 E (fLw_law_j882 xs L a1 a3 NB k23 x4 σ M n) (σ, M, n) 882 [(0, .inr (.inl (some b))), (1, .inr (.inl (some a1))), (2, .inr (.inl (some (gM G)))), (3, .inr (.inl (some a3))), (4, .inl x4)] [] := by
  unfold fLw_law_j882
  refine s_blk C 516 1 [0, 1, 2, 3, 4] (pc' := 2184) (lv' := [(0, .inr (.inl (some b))), (1, .inr (.inl (some a1))), (2, .inr (.inl (some (gM G)))), (3, .inr (.inl (some a3))), (4, .inl x4)]) (st' := []) rfl ?_
  exact wLw_law_j2184 hG C hX hE hend a1 a3 k23 H23 _ _ _ _
def fLw_law_j966 (xs : Nat → Int32) (L a1 a3 NB : Nat) (k23 : Int32 → Sg → Mm → Nat → Option Nat) (x4 : Int32) (σ : Sg) (M : Mm) (n : Nat) : Option Nat :=
  fLw_law_j2184 xs L a1 a3 NB k23 x4 σ M n
theorem wLw_law_j966 {X : MC} {G : GE} {n0 sl b L NB : Nat} {xs : Nat → Int32} {E : Nat → Room × (State → Prop) × Nat} (hG : gH G = true) (C : CX X G RL code pLw_law 7 (some .boolean) n0) (hX : SCR X G b L xs) (hE : CE E 14 300 sl n0) (hend : LEND X G 300 sl n0 NB E) (a1 a3 : Nat) (k23 : Int32 → Sg → Mm → Nat → Option Nat) (H23 : ∀ (x4 : Int32) (σ : Sg) (M : Mm) (n : Nat), JS X G 7 300 sl n0 E (k23 x4 σ M n) (σ, M, n) 23 [(0, .inr (.inl (some b))), (1, .inr (.inl (some a1))), (2, .inr (.inl (some (gM G)))), (3, .inr (.inl (some a3))), (4, .inl x4)] []) (x4 : Int32) (σ : Sg) (M : Mm) (n : Nat) : JS X G 7 300 sl n0 E (fLw_law_j966 xs L a1 a3 NB k23 x4 σ M n) (σ, M, n) 966 [(0, .inr (.inl (some b))), (1, .inr (.inl (some a1))), (2, .inr (.inl (some (gM G)))), (3, .inr (.inl (some a3))), (4, .inl x4)] [] := by
  unfold fLw_law_j966
  refine s_blk C 569 1 [0, 1, 2, 3, 4] (pc' := 2184) (lv' := [(0, .inr (.inl (some b))), (1, .inr (.inl (some a1))), (2, .inr (.inl (some (gM G)))), (3, .inr (.inl (some a3))), (4, .inl x4)]) (st' := []) rfl ?_
  exact wLw_law_j2184 hG C hX hE hend a1 a3 k23 H23 _ _ _ _
def fLw_law_j933 (xs : Nat → Int32) (L a1 a3 NB : Nat) (k23 : Int32 → Sg → Mm → Nat → Option Nat) (x4 : Int32) (x5 : Int32) (s0 : Int32) (s1 : Int32) (σ : Sg) (M : Mm) (n : Nat) : Option Nat :=
  bdW (fMd_finish s1 s0 σ) fun v1 σ2 =>
  bdR (fMd_thrown σ2) fun v3 =>
  if v3 = x5 then
    if x5 = 0 then
      alJ (some a3) 0 M fun j4 =>
      if (lg_cmp j4 ((v1).toInt64)) = 0 then
        fLw_law_j966 xs L a1 a3 NB k23 x4 σ2 M n
      else
        none
    else
      fLw_law_j966 xs L a1 a3 NB k23 x4 σ2 M n
  else
    none
theorem wLw_law_j933 {X : MC} {G : GE} {n0 sl b L NB : Nat} {xs : Nat → Int32} {E : Nat → Room × (State → Prop) × Nat} (hG : gH G = true) (C : CX X G RL code pLw_law 7 (some .boolean) n0) (hX : SCR X G b L xs) (hE : CE E 14 300 sl n0) (hend : LEND X G 300 sl n0 NB E) (a1 a3 : Nat) (k23 : Int32 → Sg → Mm → Nat → Option Nat) (H23 : ∀ (x4 : Int32) (σ : Sg) (M : Mm) (n : Nat), JS X G 7 300 sl n0 E (k23 x4 σ M n) (σ, M, n) 23 [(0, .inr (.inl (some b))), (1, .inr (.inl (some a1))), (2, .inr (.inl (some (gM G)))), (3, .inr (.inl (some a3))), (4, .inl x4)] []) (x4 : Int32) (x5 : Int32) (s0 : Int32) (s1 : Int32) (σ : Sg) (M : Mm) (n : Nat) : JS X G 7 300 sl n0 E (fLw_law_j933 xs L a1 a3 NB k23 x4 x5 s0 s1 σ M n) (σ, M, n) 933 [(0, .inr (.inl (some b))), (1, .inr (.inl (some a1))), (2, .inr (.inl (some (gM G)))), (3, .inr (.inl (some a3))), (4, .inl x4), (5, .inl x5)] [.inl s0, .inl s1, .inr (.inl (some (gM G)))] := by
  unfold fLw_law_j933
  refine s_SI hE (st := []) (fun o ho => j_callV (As := [.inl s1, .inl s0]) (st := []) (b := gM G) C 550 rfl mf_Md_finish ml_L_149 rfl (recv_M hG C) (by decide) (by decide) (Nat.le_refl _) rfl (cMd_finish (CX_tr C) hG σ M n s1 s0 o ho)) (fun v1 σ2 => ?_)
  refine s_blk C 551 2 [0, 1, 2, 3, 4, 5, 6] (pc' := 939) (lv' := [(0, .inr (.inl (some b))), (1, .inr (.inl (some a1))), (2, .inr (.inl (some (gM G)))), (3, .inr (.inl (some a3))), (4, .inl x4), (5, .inl x5), (6, .inl v1)]) (st' := [.inr (.inl (some (gM G)))]) rfl ?_
  refine s_RI hE (st := []) (fun o ho => j_callV (As := []) (st := []) (b := gM G) C 553 rfl mf_Md_thrown ml_L_112 rfl (recv_M hG C) (by decide) (by decide) (Nat.le_refl _) rfl (cMd_thrown (CX_tr C) hG σ2 M n o ho)) (fun v3 => ?_)
  refine s_blk C 554 1 [0, 1, 2, 3, 4, 5, 6] (pc' := 944) (lv' := [(0, .inr (.inl (some b))), (1, .inr (.inl (some a1))), (2, .inr (.inl (some (gM G)))), (3, .inr (.inl (some a3))), (4, .inl x4), (5, .inl x5), (6, .inl v1)]) (st' := [.inl x5, .inl v3]) rfl ?_
  refine s_iceq C 555 rfl (fun _ => ?_) (fun _ => ?_)
  · refine s_blk C 558 1 [0, 1, 2, 3, 4, 6] (pc' := 951) (lv' := [(0, .inr (.inl (some b))), (1, .inr (.inl (some a1))), (2, .inr (.inl (some (gM G)))), (3, .inr (.inl (some a3))), (4, .inl x4), (6, .inl v1)]) (st' := [.inl x5]) rfl ?_
    refine s_ine C 559 rfl (fun _ => ?_) (fun _ => ?_)
    · refine s_blk C 560 2 [0, 1, 2, 3, 4, 6] (pc' := 956) (lv' := [(0, .inr (.inl (some b))), (1, .inr (.inl (some a1))), (2, .inr (.inl (some (gM G)))), (3, .inr (.inl (some a3))), (4, .inl x4), (6, .inl v1)]) (st' := [.inl 0, .inr (.inl (some a3))]) rfl ?_
      refine s_ldJ C 562 rfl (fun j4 => ?_)
      refine s_blk C 563 2 [0, 1, 2, 3, 4] (pc' := 960) (lv' := [(0, .inr (.inl (some b))), (1, .inr (.inl (some a1))), (2, .inr (.inl (some (gM G)))), (3, .inr (.inl (some a3))), (4, .inl x4)]) (st' := [.inr (.inr ((v1).toInt64)), .inr (.inr j4)]) rfl ?_
      refine s_lcmp C 565 rfl ?_
      refine s_ieq C 566 rfl (fun _ => ?_) (fun _ => ?_)
      · exact wLw_law_j966 hG C hX hE hend a1 a3 k23 H23 _ _ _ _
      refine s_blk C 567 1 [] (pc' := 965) (lv' := []) (st' := [.inl 0]) rfl ?_
      exact s_none
    refine s_blk C 0 0 [0, 1, 2, 3, 4] (pc' := 966) (lv' := [(0, .inr (.inl (some b))), (1, .inr (.inl (some a1))), (2, .inr (.inl (some (gM G)))), (3, .inr (.inl (some a3))), (4, .inl x4)]) (st' := []) rfl ?_
    exact wLw_law_j966 hG C hX hE hend a1 a3 k23 H23 _ _ _ _
  refine s_blk C 556 1 [] (pc' := 948) (lv' := []) (st' := [.inl 0]) rfl ?_
  exact s_none
def fLw_law_j906 (xs : Nat → Int32) (L a1 a3 NB : Nat) (k23 : Int32 → Sg → Mm → Nat → Option Nat) (x4 : Int32) (s0 : Int32) (s1 : Int32) (σ : Sg) (M : Mm) (n : Nat) : Option Nat :=
  bdL (fLw_finish (some a1) s1 s0 (some a3) M n) n fun v1 M2 n3 =>
  scl xs L (x4 + 1) fun v4 =>
  scl xs L (x4 + 2) fun v5 =>
  if v5 = 0 then
    fLw_law_j933 xs L a1 a3 NB k23 x4 v1 0 v4 σ M2 n3
  else
    fLw_law_j933 xs L a1 a3 NB k23 x4 v1 1 v4 σ M2 n3
theorem wLw_law_j906 {X : MC} {G : GE} {n0 sl b L NB : Nat} {xs : Nat → Int32} {E : Nat → Room × (State → Prop) × Nat} (hG : gH G = true) (C : CX X G RL code pLw_law 7 (some .boolean) n0) (hX : SCR X G b L xs) (hE : CE E 14 300 sl n0) (hend : LEND X G 300 sl n0 NB E) (a1 a3 : Nat) (k23 : Int32 → Sg → Mm → Nat → Option Nat) (H23 : ∀ (x4 : Int32) (σ : Sg) (M : Mm) (n : Nat), JS X G 7 300 sl n0 E (k23 x4 σ M n) (σ, M, n) 23 [(0, .inr (.inl (some b))), (1, .inr (.inl (some a1))), (2, .inr (.inl (some (gM G)))), (3, .inr (.inl (some a3))), (4, .inl x4)] []) (x4 : Int32) (s0 : Int32) (s1 : Int32) (σ : Sg) (M : Mm) (n : Nat) : JS X G 7 300 sl n0 E (fLw_law_j906 xs L a1 a3 NB k23 x4 s0 s1 σ M n) (σ, M, n) 906 [(0, .inr (.inl (some b))), (1, .inr (.inl (some a1))), (2, .inr (.inl (some (gM G)))), (3, .inr (.inl (some a3))), (4, .inl x4)] [.inl s0, .inl s1, .inr (.inl (some a1))] := by
  unfold fLw_law_j906
  refine s_blk C 532 1 [0, 1, 2, 3, 4] (pc' := 907) (lv' := [(0, .inr (.inl (some b))), (1, .inr (.inl (some a1))), (2, .inr (.inl (some (gM G)))), (3, .inr (.inl (some a3))), (4, .inl x4)]) (st' := [.inr (.inl (some a3)), .inl s0, .inl s1, .inr (.inl (some a1))]) rfl ?_
  refine s_L hE (st := []) (fun o ho => j_callSW (As := [.inr (.inl (some a1)), .inl s1, .inl s0, .inr (.inl (some a3))]) (st := []) C 533 rfl mf_Lw_finish ml_L_146 rfl (by decide) (by decide) (Nat.le_refl _) rfl (cLw_finish (CX_tr C) σ M n (some a1) s1 s0 (some a3) o ho)) (fun v1 M2 n3 _ => ?_)
  refine s_blk C 534 6 [0, 1, 2, 3, 4, 5] (pc' := 918) (lv' := [(0, .inr (.inl (some b))), (1, .inr (.inl (some a1))), (2, .inr (.inl (some (gM G)))), (3, .inr (.inl (some a3))), (4, .inl x4), (5, .inl v1)]) (st' := [.inl (x4 + 1), .inr (.inl (some b)), .inr (.inl (some (gM G)))]) rfl ?_
  refine s_sld C hX 540 rfl (fun v4 => ?_)
  refine s_blk C 541 4 [0, 1, 2, 3, 4, 5] (pc' := 924) (lv' := [(0, .inr (.inl (some b))), (1, .inr (.inl (some a1))), (2, .inr (.inl (some (gM G)))), (3, .inr (.inl (some a3))), (4, .inl x4), (5, .inl v1)]) (st' := [.inl (x4 + 2), .inr (.inl (some b)), .inl v4, .inr (.inl (some (gM G)))]) rfl ?_
  refine s_sld C hX 545 rfl (fun v5 => ?_)
  refine s_ieq C 546 rfl (fun _ => ?_) (fun _ => ?_)
  · refine s_blk C 549 1 [0, 1, 2, 3, 4, 5] (pc' := 933) (lv' := [(0, .inr (.inl (some b))), (1, .inr (.inl (some a1))), (2, .inr (.inl (some (gM G)))), (3, .inr (.inl (some a3))), (4, .inl x4), (5, .inl v1)]) (st' := [.inl 0, .inl v4, .inr (.inl (some (gM G)))]) rfl ?_
    exact wLw_law_j933 hG C hX hE hend a1 a3 k23 H23 _ _ _ _ _ _ _
  refine s_blk C 547 2 [0, 1, 2, 3, 4, 5] (pc' := 933) (lv' := [(0, .inr (.inl (some b))), (1, .inr (.inl (some a1))), (2, .inr (.inl (some (gM G)))), (3, .inr (.inl (some a3))), (4, .inl x4), (5, .inl v1)]) (st' := [.inl 1, .inl v4, .inr (.inl (some (gM G)))]) rfl ?_
  exact wLw_law_j933 hG C hX hE hend a1 a3 k23 H23 _ _ _ _ _ _ _
def fLw_law_j1058 (xs : Nat → Int32) (L a1 a3 NB : Nat) (k23 : Int32 → Sg → Mm → Nat → Option Nat) (x4 : Int32) (σ : Sg) (M : Mm) (n : Nat) : Option Nat :=
  fLw_law_j2184 xs L a1 a3 NB k23 x4 σ M n
theorem wLw_law_j1058 {X : MC} {G : GE} {n0 sl b L NB : Nat} {xs : Nat → Int32} {E : Nat → Room × (State → Prop) × Nat} (hG : gH G = true) (C : CX X G RL code pLw_law 7 (some .boolean) n0) (hX : SCR X G b L xs) (hE : CE E 14 300 sl n0) (hend : LEND X G 300 sl n0 NB E) (a1 a3 : Nat) (k23 : Int32 → Sg → Mm → Nat → Option Nat) (H23 : ∀ (x4 : Int32) (σ : Sg) (M : Mm) (n : Nat), JS X G 7 300 sl n0 E (k23 x4 σ M n) (σ, M, n) 23 [(0, .inr (.inl (some b))), (1, .inr (.inl (some a1))), (2, .inr (.inl (some (gM G)))), (3, .inr (.inl (some a3))), (4, .inl x4)] []) (x4 : Int32) (σ : Sg) (M : Mm) (n : Nat) : JS X G 7 300 sl n0 E (fLw_law_j1058 xs L a1 a3 NB k23 x4 σ M n) (σ, M, n) 1058 [(0, .inr (.inl (some b))), (1, .inr (.inl (some a1))), (2, .inr (.inl (some (gM G)))), (3, .inr (.inl (some a3))), (4, .inl x4)] [] := by
  unfold fLw_law_j1058
  refine s_blk C 634 1 [0, 1, 2, 3, 4] (pc' := 2184) (lv' := [(0, .inr (.inl (some b))), (1, .inr (.inl (some a1))), (2, .inr (.inl (some (gM G)))), (3, .inr (.inl (some a3))), (4, .inl x4)]) (st' := []) rfl ?_
  exact wLw_law_j2184 hG C hX hE hend a1 a3 k23 H23 _ _ _ _
def fLw_law_j1138 (xs : Nat → Int32) (L a1 a3 NB : Nat) (k23 : Int32 → Sg → Mm → Nat → Option Nat) (x4 : Int32) (σ : Sg) (M : Mm) (n : Nat) : Option Nat :=
  fLw_law_j2184 xs L a1 a3 NB k23 x4 σ M n
theorem wLw_law_j1138 {X : MC} {G : GE} {n0 sl b L NB : Nat} {xs : Nat → Int32} {E : Nat → Room × (State → Prop) × Nat} (hG : gH G = true) (C : CX X G RL code pLw_law 7 (some .boolean) n0) (hX : SCR X G b L xs) (hE : CE E 14 300 sl n0) (hend : LEND X G 300 sl n0 NB E) (a1 a3 : Nat) (k23 : Int32 → Sg → Mm → Nat → Option Nat) (H23 : ∀ (x4 : Int32) (σ : Sg) (M : Mm) (n : Nat), JS X G 7 300 sl n0 E (k23 x4 σ M n) (σ, M, n) 23 [(0, .inr (.inl (some b))), (1, .inr (.inl (some a1))), (2, .inr (.inl (some (gM G)))), (3, .inr (.inl (some a3))), (4, .inl x4)] []) (x4 : Int32) (σ : Sg) (M : Mm) (n : Nat) : JS X G 7 300 sl n0 E (fLw_law_j1138 xs L a1 a3 NB k23 x4 σ M n) (σ, M, n) 1138 [(0, .inr (.inl (some b))), (1, .inr (.inl (some a1))), (2, .inr (.inl (some (gM G)))), (3, .inr (.inl (some a3))), (4, .inl x4)] [] := by
  unfold fLw_law_j1138
  refine s_blk C 689 1 [0, 1, 2, 3, 4] (pc' := 2184) (lv' := [(0, .inr (.inl (some b))), (1, .inr (.inl (some a1))), (2, .inr (.inl (some (gM G)))), (3, .inr (.inl (some a3))), (4, .inl x4)]) (st' := []) rfl ?_
  exact wLw_law_j2184 hG C hX hE hend a1 a3 k23 H23 _ _ _ _
def fLw_law_j1230 (xs : Nat → Int32) (L a1 a3 NB : Nat) (k23 : Int32 → Sg → Mm → Nat → Option Nat) (x4 : Int32) (σ : Sg) (M : Mm) (n : Nat) : Option Nat :=
  fLw_law_j2184 xs L a1 a3 NB k23 x4 σ M n
theorem wLw_law_j1230 {X : MC} {G : GE} {n0 sl b L NB : Nat} {xs : Nat → Int32} {E : Nat → Room × (State → Prop) × Nat} (hG : gH G = true) (C : CX X G RL code pLw_law 7 (some .boolean) n0) (hX : SCR X G b L xs) (hE : CE E 14 300 sl n0) (hend : LEND X G 300 sl n0 NB E) (a1 a3 : Nat) (k23 : Int32 → Sg → Mm → Nat → Option Nat) (H23 : ∀ (x4 : Int32) (σ : Sg) (M : Mm) (n : Nat), JS X G 7 300 sl n0 E (k23 x4 σ M n) (σ, M, n) 23 [(0, .inr (.inl (some b))), (1, .inr (.inl (some a1))), (2, .inr (.inl (some (gM G)))), (3, .inr (.inl (some a3))), (4, .inl x4)] []) (x4 : Int32) (σ : Sg) (M : Mm) (n : Nat) : JS X G 7 300 sl n0 E (fLw_law_j1230 xs L a1 a3 NB k23 x4 σ M n) (σ, M, n) 1230 [(0, .inr (.inl (some b))), (1, .inr (.inl (some a1))), (2, .inr (.inl (some (gM G)))), (3, .inr (.inl (some a3))), (4, .inl x4)] [] := by
  unfold fLw_law_j1230
  refine s_blk C 754 1 [0, 1, 2, 3, 4] (pc' := 2184) (lv' := [(0, .inr (.inl (some b))), (1, .inr (.inl (some a1))), (2, .inr (.inl (some (gM G)))), (3, .inr (.inl (some a3))), (4, .inl x4)]) (st' := []) rfl ?_
  exact wLw_law_j2184 hG C hX hE hend a1 a3 k23 H23 _ _ _ _
def fLw_law_j1322 (xs : Nat → Int32) (L a1 a3 NB : Nat) (k23 : Int32 → Sg → Mm → Nat → Option Nat) (x4 : Int32) (σ : Sg) (M : Mm) (n : Nat) : Option Nat :=
  fLw_law_j2184 xs L a1 a3 NB k23 x4 σ M n
theorem wLw_law_j1322 {X : MC} {G : GE} {n0 sl b L NB : Nat} {xs : Nat → Int32} {E : Nat → Room × (State → Prop) × Nat} (hG : gH G = true) (C : CX X G RL code pLw_law 7 (some .boolean) n0) (hX : SCR X G b L xs) (hE : CE E 14 300 sl n0) (hend : LEND X G 300 sl n0 NB E) (a1 a3 : Nat) (k23 : Int32 → Sg → Mm → Nat → Option Nat) (H23 : ∀ (x4 : Int32) (σ : Sg) (M : Mm) (n : Nat), JS X G 7 300 sl n0 E (k23 x4 σ M n) (σ, M, n) 23 [(0, .inr (.inl (some b))), (1, .inr (.inl (some a1))), (2, .inr (.inl (some (gM G)))), (3, .inr (.inl (some a3))), (4, .inl x4)] []) (x4 : Int32) (σ : Sg) (M : Mm) (n : Nat) : JS X G 7 300 sl n0 E (fLw_law_j1322 xs L a1 a3 NB k23 x4 σ M n) (σ, M, n) 1322 [(0, .inr (.inl (some b))), (1, .inr (.inl (some a1))), (2, .inr (.inl (some (gM G)))), (3, .inr (.inl (some a3))), (4, .inl x4)] [] := by
  unfold fLw_law_j1322
  refine s_blk C 819 1 [0, 1, 2, 3, 4] (pc' := 2184) (lv' := [(0, .inr (.inl (some b))), (1, .inr (.inl (some a1))), (2, .inr (.inl (some (gM G)))), (3, .inr (.inl (some a3))), (4, .inl x4)]) (st' := []) rfl ?_
  exact wLw_law_j2184 hG C hX hE hend a1 a3 k23 H23 _ _ _ _
def fLw_law_j1402 (xs : Nat → Int32) (L a1 a3 NB : Nat) (k23 : Int32 → Sg → Mm → Nat → Option Nat) (x4 : Int32) (σ : Sg) (M : Mm) (n : Nat) : Option Nat :=
  fLw_law_j2184 xs L a1 a3 NB k23 x4 σ M n
theorem wLw_law_j1402 {X : MC} {G : GE} {n0 sl b L NB : Nat} {xs : Nat → Int32} {E : Nat → Room × (State → Prop) × Nat} (hG : gH G = true) (C : CX X G RL code pLw_law 7 (some .boolean) n0) (hX : SCR X G b L xs) (hE : CE E 14 300 sl n0) (hend : LEND X G 300 sl n0 NB E) (a1 a3 : Nat) (k23 : Int32 → Sg → Mm → Nat → Option Nat) (H23 : ∀ (x4 : Int32) (σ : Sg) (M : Mm) (n : Nat), JS X G 7 300 sl n0 E (k23 x4 σ M n) (σ, M, n) 23 [(0, .inr (.inl (some b))), (1, .inr (.inl (some a1))), (2, .inr (.inl (some (gM G)))), (3, .inr (.inl (some a3))), (4, .inl x4)] []) (x4 : Int32) (σ : Sg) (M : Mm) (n : Nat) : JS X G 7 300 sl n0 E (fLw_law_j1402 xs L a1 a3 NB k23 x4 σ M n) (σ, M, n) 1402 [(0, .inr (.inl (some b))), (1, .inr (.inl (some a1))), (2, .inr (.inl (some (gM G)))), (3, .inr (.inl (some a3))), (4, .inl x4)] [] := by
  unfold fLw_law_j1402
  refine s_blk C 874 1 [0, 1, 2, 3, 4] (pc' := 2184) (lv' := [(0, .inr (.inl (some b))), (1, .inr (.inl (some a1))), (2, .inr (.inl (some (gM G)))), (3, .inr (.inl (some a3))), (4, .inl x4)]) (st' := []) rfl ?_
  exact wLw_law_j2184 hG C hX hE hend a1 a3 k23 H23 _ _ _ _
def fLw_law_j1498 (xs : Nat → Int32) (L a1 a3 NB : Nat) (k23 : Int32 → Sg → Mm → Nat → Option Nat) (x4 : Int32) (σ : Sg) (M : Mm) (n : Nat) : Option Nat :=
  fLw_law_j2184 xs L a1 a3 NB k23 x4 σ M n
theorem wLw_law_j1498 {X : MC} {G : GE} {n0 sl b L NB : Nat} {xs : Nat → Int32} {E : Nat → Room × (State → Prop) × Nat} (hG : gH G = true) (C : CX X G RL code pLw_law 7 (some .boolean) n0) (hX : SCR X G b L xs) (hE : CE E 14 300 sl n0) (hend : LEND X G 300 sl n0 NB E) (a1 a3 : Nat) (k23 : Int32 → Sg → Mm → Nat → Option Nat) (H23 : ∀ (x4 : Int32) (σ : Sg) (M : Mm) (n : Nat), JS X G 7 300 sl n0 E (k23 x4 σ M n) (σ, M, n) 23 [(0, .inr (.inl (some b))), (1, .inr (.inl (some a1))), (2, .inr (.inl (some (gM G)))), (3, .inr (.inl (some a3))), (4, .inl x4)] []) (x4 : Int32) (σ : Sg) (M : Mm) (n : Nat) : JS X G 7 300 sl n0 E (fLw_law_j1498 xs L a1 a3 NB k23 x4 σ M n) (σ, M, n) 1498 [(0, .inr (.inl (some b))), (1, .inr (.inl (some a1))), (2, .inr (.inl (some (gM G)))), (3, .inr (.inl (some a3))), (4, .inl x4)] [] := by
  unfold fLw_law_j1498
  refine s_blk C 937 1 [0, 1, 2, 3, 4] (pc' := 2184) (lv' := [(0, .inr (.inl (some b))), (1, .inr (.inl (some a1))), (2, .inr (.inl (some (gM G)))), (3, .inr (.inl (some a3))), (4, .inl x4)]) (st' := []) rfl ?_
  exact wLw_law_j2184 hG C hX hE hend a1 a3 k23 H23 _ _ _ _
def fLw_law_j1465 (xs : Nat → Int32) (L a1 a3 NB : Nat) (k23 : Int32 → Sg → Mm → Nat → Option Nat) (x4 : Int32) (x5 : Int32) (s0 : Int32) (s1 : Int32) (s2 : Int32) (σ : Sg) (M : Mm) (n : Nat) : Option Nat :=
  bdW (fMd_node s2 s1 s0 σ) fun v1 σ2 =>
  bdR (fMd_thrown σ2) fun v3 =>
  if v3 = x5 then
    if x5 = 0 then
      alJ (some a3) 0 M fun j4 =>
      if (lg_cmp j4 ((v1).toInt64)) = 0 then
        fLw_law_j1498 xs L a1 a3 NB k23 x4 σ2 M n
      else
        none
    else
      fLw_law_j1498 xs L a1 a3 NB k23 x4 σ2 M n
  else
    none
theorem wLw_law_j1465 {X : MC} {G : GE} {n0 sl b L NB : Nat} {xs : Nat → Int32} {E : Nat → Room × (State → Prop) × Nat} (hG : gH G = true) (C : CX X G RL code pLw_law 7 (some .boolean) n0) (hX : SCR X G b L xs) (hE : CE E 14 300 sl n0) (hend : LEND X G 300 sl n0 NB E) (a1 a3 : Nat) (k23 : Int32 → Sg → Mm → Nat → Option Nat) (H23 : ∀ (x4 : Int32) (σ : Sg) (M : Mm) (n : Nat), JS X G 7 300 sl n0 E (k23 x4 σ M n) (σ, M, n) 23 [(0, .inr (.inl (some b))), (1, .inr (.inl (some a1))), (2, .inr (.inl (some (gM G)))), (3, .inr (.inl (some a3))), (4, .inl x4)] []) (x4 : Int32) (x5 : Int32) (s0 : Int32) (s1 : Int32) (s2 : Int32) (σ : Sg) (M : Mm) (n : Nat) : JS X G 7 300 sl n0 E (fLw_law_j1465 xs L a1 a3 NB k23 x4 x5 s0 s1 s2 σ M n) (σ, M, n) 1465 [(0, .inr (.inl (some b))), (1, .inr (.inl (some a1))), (2, .inr (.inl (some (gM G)))), (3, .inr (.inl (some a3))), (4, .inl x4), (5, .inl x5)] [.inl s0, .inl s1, .inl s2, .inr (.inl (some (gM G)))] := by
  unfold fLw_law_j1465
  refine s_SI hE (st := []) (fun o ho => j_callV (As := [.inl s2, .inl s1, .inl s0]) (st := []) (b := gM G) C 918 rfl mf_Md_node ml_L_168 rfl (recv_M hG C) (by decide) (by decide) (Nat.le_refl _) rfl (cMd_node (CX_tr C) hG σ M n s2 s1 s0 o ho)) (fun v1 σ2 => ?_)
  refine s_blk C 919 2 [0, 1, 2, 3, 4, 5, 6] (pc' := 1471) (lv' := [(0, .inr (.inl (some b))), (1, .inr (.inl (some a1))), (2, .inr (.inl (some (gM G)))), (3, .inr (.inl (some a3))), (4, .inl x4), (5, .inl x5), (6, .inl v1)]) (st' := [.inr (.inl (some (gM G)))]) rfl ?_
  refine s_RI hE (st := []) (fun o ho => j_callV (As := []) (st := []) (b := gM G) C 921 rfl mf_Md_thrown ml_L_112 rfl (recv_M hG C) (by decide) (by decide) (Nat.le_refl _) rfl (cMd_thrown (CX_tr C) hG σ2 M n o ho)) (fun v3 => ?_)
  refine s_blk C 922 1 [0, 1, 2, 3, 4, 5, 6] (pc' := 1476) (lv' := [(0, .inr (.inl (some b))), (1, .inr (.inl (some a1))), (2, .inr (.inl (some (gM G)))), (3, .inr (.inl (some a3))), (4, .inl x4), (5, .inl x5), (6, .inl v1)]) (st' := [.inl x5, .inl v3]) rfl ?_
  refine s_iceq C 923 rfl (fun _ => ?_) (fun _ => ?_)
  · refine s_blk C 926 1 [0, 1, 2, 3, 4, 6] (pc' := 1483) (lv' := [(0, .inr (.inl (some b))), (1, .inr (.inl (some a1))), (2, .inr (.inl (some (gM G)))), (3, .inr (.inl (some a3))), (4, .inl x4), (6, .inl v1)]) (st' := [.inl x5]) rfl ?_
    refine s_ine C 927 rfl (fun _ => ?_) (fun _ => ?_)
    · refine s_blk C 928 2 [0, 1, 2, 3, 4, 6] (pc' := 1488) (lv' := [(0, .inr (.inl (some b))), (1, .inr (.inl (some a1))), (2, .inr (.inl (some (gM G)))), (3, .inr (.inl (some a3))), (4, .inl x4), (6, .inl v1)]) (st' := [.inl 0, .inr (.inl (some a3))]) rfl ?_
      refine s_ldJ C 930 rfl (fun j4 => ?_)
      refine s_blk C 931 2 [0, 1, 2, 3, 4] (pc' := 1492) (lv' := [(0, .inr (.inl (some b))), (1, .inr (.inl (some a1))), (2, .inr (.inl (some (gM G)))), (3, .inr (.inl (some a3))), (4, .inl x4)]) (st' := [.inr (.inr ((v1).toInt64)), .inr (.inr j4)]) rfl ?_
      refine s_lcmp C 933 rfl ?_
      refine s_ieq C 934 rfl (fun _ => ?_) (fun _ => ?_)
      · exact wLw_law_j1498 hG C hX hE hend a1 a3 k23 H23 _ _ _ _
      refine s_blk C 935 1 [] (pc' := 1497) (lv' := []) (st' := [.inl 0]) rfl ?_
      exact s_none
    refine s_blk C 0 0 [0, 1, 2, 3, 4] (pc' := 1498) (lv' := [(0, .inr (.inl (some b))), (1, .inr (.inl (some a1))), (2, .inr (.inl (some (gM G)))), (3, .inr (.inl (some a3))), (4, .inl x4)]) (st' := []) rfl ?_
    exact wLw_law_j1498 hG C hX hE hend a1 a3 k23 H23 _ _ _ _
  refine s_blk C 924 1 [] (pc' := 1480) (lv' := []) (st' := [.inl 0]) rfl ?_
  exact s_none
def fLw_law_j1432 (xs : Nat → Int32) (L a1 a3 NB : Nat) (k23 : Int32 → Sg → Mm → Nat → Option Nat) (x4 : Int32) (s0 : Int32) (s1 : Int32) (s2 : Int32) (σ : Sg) (M : Mm) (n : Nat) : Option Nat :=
  bdL (fLw_node (some a1) s2 s1 s0 (some a3) M n) n fun v1 M2 n3 =>
  scl xs L (x4 + 1) fun v4 =>
  scl xs L (x4 + 2) fun v5 =>
  scl xs L (x4 + 3) fun v6 =>
  if v6 = 0 then
    fLw_law_j1465 xs L a1 a3 NB k23 x4 v1 0 v5 v4 σ M2 n3
  else
    fLw_law_j1465 xs L a1 a3 NB k23 x4 v1 1 v5 v4 σ M2 n3
theorem wLw_law_j1432 {X : MC} {G : GE} {n0 sl b L NB : Nat} {xs : Nat → Int32} {E : Nat → Room × (State → Prop) × Nat} (hG : gH G = true) (C : CX X G RL code pLw_law 7 (some .boolean) n0) (hX : SCR X G b L xs) (hE : CE E 14 300 sl n0) (hend : LEND X G 300 sl n0 NB E) (a1 a3 : Nat) (k23 : Int32 → Sg → Mm → Nat → Option Nat) (H23 : ∀ (x4 : Int32) (σ : Sg) (M : Mm) (n : Nat), JS X G 7 300 sl n0 E (k23 x4 σ M n) (σ, M, n) 23 [(0, .inr (.inl (some b))), (1, .inr (.inl (some a1))), (2, .inr (.inl (some (gM G)))), (3, .inr (.inl (some a3))), (4, .inl x4)] []) (x4 : Int32) (s0 : Int32) (s1 : Int32) (s2 : Int32) (σ : Sg) (M : Mm) (n : Nat) : JS X G 7 300 sl n0 E (fLw_law_j1432 xs L a1 a3 NB k23 x4 s0 s1 s2 σ M n) (σ, M, n) 1432 [(0, .inr (.inl (some b))), (1, .inr (.inl (some a1))), (2, .inr (.inl (some (gM G)))), (3, .inr (.inl (some a3))), (4, .inl x4)] [.inl s0, .inl s1, .inl s2, .inr (.inl (some a1))] := by
  unfold fLw_law_j1432
  refine s_blk C 895 1 [0, 1, 2, 3, 4] (pc' := 1433) (lv' := [(0, .inr (.inl (some b))), (1, .inr (.inl (some a1))), (2, .inr (.inl (some (gM G)))), (3, .inr (.inl (some a3))), (4, .inl x4)]) (st' := [.inr (.inl (some a3)), .inl s0, .inl s1, .inl s2, .inr (.inl (some a1))]) rfl ?_
  refine s_L hE (st := []) (fun o ho => j_callSW (As := [.inr (.inl (some a1)), .inl s2, .inl s1, .inl s0, .inr (.inl (some a3))]) (st := []) C 896 rfl mf_Lw_node ml_L_165 rfl (by decide) (by decide) (Nat.le_refl _) rfl (cLw_node (CX_tr C) σ M n (some a1) s2 s1 s0 (some a3) o ho)) (fun v1 M2 n3 _ => ?_)
  refine s_blk C 897 6 [0, 1, 2, 3, 4, 5] (pc' := 1444) (lv' := [(0, .inr (.inl (some b))), (1, .inr (.inl (some a1))), (2, .inr (.inl (some (gM G)))), (3, .inr (.inl (some a3))), (4, .inl x4), (5, .inl v1)]) (st' := [.inl (x4 + 1), .inr (.inl (some b)), .inr (.inl (some (gM G)))]) rfl ?_
  refine s_sld C hX 903 rfl (fun v4 => ?_)
  refine s_blk C 904 4 [0, 1, 2, 3, 4, 5] (pc' := 1450) (lv' := [(0, .inr (.inl (some b))), (1, .inr (.inl (some a1))), (2, .inr (.inl (some (gM G)))), (3, .inr (.inl (some a3))), (4, .inl x4), (5, .inl v1)]) (st' := [.inl (x4 + 2), .inr (.inl (some b)), .inl v4, .inr (.inl (some (gM G)))]) rfl ?_
  refine s_sld C hX 908 rfl (fun v5 => ?_)
  refine s_blk C 909 4 [0, 1, 2, 3, 4, 5] (pc' := 1456) (lv' := [(0, .inr (.inl (some b))), (1, .inr (.inl (some a1))), (2, .inr (.inl (some (gM G)))), (3, .inr (.inl (some a3))), (4, .inl x4), (5, .inl v1)]) (st' := [.inl (x4 + 3), .inr (.inl (some b)), .inl v5, .inl v4, .inr (.inl (some (gM G)))]) rfl ?_
  refine s_sld C hX 913 rfl (fun v6 => ?_)
  refine s_ieq C 914 rfl (fun _ => ?_) (fun _ => ?_)
  · refine s_blk C 917 1 [0, 1, 2, 3, 4, 5] (pc' := 1465) (lv' := [(0, .inr (.inl (some b))), (1, .inr (.inl (some a1))), (2, .inr (.inl (some (gM G)))), (3, .inr (.inl (some a3))), (4, .inl x4), (5, .inl v1)]) (st' := [.inl 0, .inl v5, .inl v4, .inr (.inl (some (gM G)))]) rfl ?_
    exact wLw_law_j1465 hG C hX hE hend a1 a3 k23 H23 _ _ _ _ _ _ _ _
  refine s_blk C 915 2 [0, 1, 2, 3, 4, 5] (pc' := 1465) (lv' := [(0, .inr (.inl (some b))), (1, .inr (.inl (some a1))), (2, .inr (.inl (some (gM G)))), (3, .inr (.inl (some a3))), (4, .inl x4), (5, .inl v1)]) (st' := [.inl 1, .inl v5, .inl v4, .inr (.inl (some (gM G)))]) rfl ?_
  exact wLw_law_j1465 hG C hX hE hend a1 a3 k23 H23 _ _ _ _ _ _ _ _
def fLw_law_j1585 (xs : Nat → Int32) (L a1 a3 NB : Nat) (k23 : Int32 → Sg → Mm → Nat → Option Nat) (x4 : Int32) (σ : Sg) (M : Mm) (n : Nat) : Option Nat :=
  fLw_law_j2184 xs L a1 a3 NB k23 x4 σ M n
theorem wLw_law_j1585 {X : MC} {G : GE} {n0 sl b L NB : Nat} {xs : Nat → Int32} {E : Nat → Room × (State → Prop) × Nat} (hG : gH G = true) (C : CX X G RL code pLw_law 7 (some .boolean) n0) (hX : SCR X G b L xs) (hE : CE E 14 300 sl n0) (hend : LEND X G 300 sl n0 NB E) (a1 a3 : Nat) (k23 : Int32 → Sg → Mm → Nat → Option Nat) (H23 : ∀ (x4 : Int32) (σ : Sg) (M : Mm) (n : Nat), JS X G 7 300 sl n0 E (k23 x4 σ M n) (σ, M, n) 23 [(0, .inr (.inl (some b))), (1, .inr (.inl (some a1))), (2, .inr (.inl (some (gM G)))), (3, .inr (.inl (some a3))), (4, .inl x4)] []) (x4 : Int32) (σ : Sg) (M : Mm) (n : Nat) : JS X G 7 300 sl n0 E (fLw_law_j1585 xs L a1 a3 NB k23 x4 σ M n) (σ, M, n) 1585 [(0, .inr (.inl (some b))), (1, .inr (.inl (some a1))), (2, .inr (.inl (some (gM G)))), (3, .inr (.inl (some a3))), (4, .inl x4)] [] := by
  unfold fLw_law_j1585
  refine s_blk C 995 1 [0, 1, 2, 3, 4] (pc' := 2184) (lv' := [(0, .inr (.inl (some b))), (1, .inr (.inl (some a1))), (2, .inr (.inl (some (gM G)))), (3, .inr (.inl (some a3))), (4, .inl x4)]) (st' := []) rfl ?_
  exact wLw_law_j2184 hG C hX hE hend a1 a3 k23 H23 _ _ _ _
def fLw_law_j1579 (xs : Nat → Int32) (L a1 a3 NB : Nat) (k23 : Int32 → Sg → Mm → Nat → Option Nat) (x4 : Int32) (s0 : Int64) (s1 : Int64) (σ : Sg) (M : Mm) (n : Nat) : Option Nat :=
  if (lg_cmp s1 s0) = 0 then
    fLw_law_j1585 xs L a1 a3 NB k23 x4 σ M n
  else
    none
theorem wLw_law_j1579 {X : MC} {G : GE} {n0 sl b L NB : Nat} {xs : Nat → Int32} {E : Nat → Room × (State → Prop) × Nat} (hG : gH G = true) (C : CX X G RL code pLw_law 7 (some .boolean) n0) (hX : SCR X G b L xs) (hE : CE E 14 300 sl n0) (hend : LEND X G 300 sl n0 NB E) (a1 a3 : Nat) (k23 : Int32 → Sg → Mm → Nat → Option Nat) (H23 : ∀ (x4 : Int32) (σ : Sg) (M : Mm) (n : Nat), JS X G 7 300 sl n0 E (k23 x4 σ M n) (σ, M, n) 23 [(0, .inr (.inl (some b))), (1, .inr (.inl (some a1))), (2, .inr (.inl (some (gM G)))), (3, .inr (.inl (some a3))), (4, .inl x4)] []) (x4 : Int32) (s0 : Int64) (s1 : Int64) (σ : Sg) (M : Mm) (n : Nat) : JS X G 7 300 sl n0 E (fLw_law_j1579 xs L a1 a3 NB k23 x4 s0 s1 σ M n) (σ, M, n) 1579 [(0, .inr (.inl (some b))), (1, .inr (.inl (some a1))), (2, .inr (.inl (some (gM G)))), (3, .inr (.inl (some a3))), (4, .inl x4)] [.inr (.inr s0), .inr (.inr s1)] := by
  unfold fLw_law_j1579
  refine s_lcmp C 991 rfl ?_
  refine s_ieq C 992 rfl (fun _ => ?_) (fun _ => ?_)
  · exact wLw_law_j1585 hG C hX hE hend a1 a3 k23 H23 _ _ _ _
  refine s_blk C 993 1 [] (pc' := 1584) (lv' := []) (st' := [.inl 0]) rfl ?_
  exact s_none
def fLw_law_j1653 (xs : Nat → Int32) (L a1 a3 NB : Nat) (k23 : Int32 → Sg → Mm → Nat → Option Nat) (x4 : Int32) (σ : Sg) (M : Mm) (n : Nat) : Option Nat :=
  fLw_law_j2184 xs L a1 a3 NB k23 x4 σ M n
theorem wLw_law_j1653 {X : MC} {G : GE} {n0 sl b L NB : Nat} {xs : Nat → Int32} {E : Nat → Room × (State → Prop) × Nat} (hG : gH G = true) (C : CX X G RL code pLw_law 7 (some .boolean) n0) (hX : SCR X G b L xs) (hE : CE E 14 300 sl n0) (hend : LEND X G 300 sl n0 NB E) (a1 a3 : Nat) (k23 : Int32 → Sg → Mm → Nat → Option Nat) (H23 : ∀ (x4 : Int32) (σ : Sg) (M : Mm) (n : Nat), JS X G 7 300 sl n0 E (k23 x4 σ M n) (σ, M, n) 23 [(0, .inr (.inl (some b))), (1, .inr (.inl (some a1))), (2, .inr (.inl (some (gM G)))), (3, .inr (.inl (some a3))), (4, .inl x4)] []) (x4 : Int32) (σ : Sg) (M : Mm) (n : Nat) : JS X G 7 300 sl n0 E (fLw_law_j1653 xs L a1 a3 NB k23 x4 σ M n) (σ, M, n) 1653 [(0, .inr (.inl (some b))), (1, .inr (.inl (some a1))), (2, .inr (.inl (some (gM G)))), (3, .inr (.inl (some a3))), (4, .inl x4)] [] := by
  unfold fLw_law_j1653
  refine s_blk C 1040 1 [0, 1, 2, 3, 4] (pc' := 2184) (lv' := [(0, .inr (.inl (some b))), (1, .inr (.inl (some a1))), (2, .inr (.inl (some (gM G)))), (3, .inr (.inl (some a3))), (4, .inl x4)]) (st' := []) rfl ?_
  exact wLw_law_j2184 hG C hX hE hend a1 a3 k23 H23 _ _ _ _
def fLw_law_j1721 (xs : Nat → Int32) (L a1 a3 NB : Nat) (k23 : Int32 → Sg → Mm → Nat → Option Nat) (x4 : Int32) (σ : Sg) (M : Mm) (n : Nat) : Option Nat :=
  fLw_law_j2184 xs L a1 a3 NB k23 x4 σ M n
theorem wLw_law_j1721 {X : MC} {G : GE} {n0 sl b L NB : Nat} {xs : Nat → Int32} {E : Nat → Room × (State → Prop) × Nat} (hG : gH G = true) (C : CX X G RL code pLw_law 7 (some .boolean) n0) (hX : SCR X G b L xs) (hE : CE E 14 300 sl n0) (hend : LEND X G 300 sl n0 NB E) (a1 a3 : Nat) (k23 : Int32 → Sg → Mm → Nat → Option Nat) (H23 : ∀ (x4 : Int32) (σ : Sg) (M : Mm) (n : Nat), JS X G 7 300 sl n0 E (k23 x4 σ M n) (σ, M, n) 23 [(0, .inr (.inl (some b))), (1, .inr (.inl (some a1))), (2, .inr (.inl (some (gM G)))), (3, .inr (.inl (some a3))), (4, .inl x4)] []) (x4 : Int32) (σ : Sg) (M : Mm) (n : Nat) : JS X G 7 300 sl n0 E (fLw_law_j1721 xs L a1 a3 NB k23 x4 σ M n) (σ, M, n) 1721 [(0, .inr (.inl (some b))), (1, .inr (.inl (some a1))), (2, .inr (.inl (some (gM G)))), (3, .inr (.inl (some a3))), (4, .inl x4)] [] := by
  unfold fLw_law_j1721
  refine s_blk C 1085 1 [0, 1, 2, 3, 4] (pc' := 2184) (lv' := [(0, .inr (.inl (some b))), (1, .inr (.inl (some a1))), (2, .inr (.inl (some (gM G)))), (3, .inr (.inl (some a3))), (4, .inl x4)]) (st' := []) rfl ?_
  exact wLw_law_j2184 hG C hX hE hend a1 a3 k23 H23 _ _ _ _
def fLw_law_j1801 (xs : Nat → Int32) (L a1 a3 NB : Nat) (k23 : Int32 → Sg → Mm → Nat → Option Nat) (x4 : Int32) (σ : Sg) (M : Mm) (n : Nat) : Option Nat :=
  fLw_law_j2184 xs L a1 a3 NB k23 x4 σ M n
theorem wLw_law_j1801 {X : MC} {G : GE} {n0 sl b L NB : Nat} {xs : Nat → Int32} {E : Nat → Room × (State → Prop) × Nat} (hG : gH G = true) (C : CX X G RL code pLw_law 7 (some .boolean) n0) (hX : SCR X G b L xs) (hE : CE E 14 300 sl n0) (hend : LEND X G 300 sl n0 NB E) (a1 a3 : Nat) (k23 : Int32 → Sg → Mm → Nat → Option Nat) (H23 : ∀ (x4 : Int32) (σ : Sg) (M : Mm) (n : Nat), JS X G 7 300 sl n0 E (k23 x4 σ M n) (σ, M, n) 23 [(0, .inr (.inl (some b))), (1, .inr (.inl (some a1))), (2, .inr (.inl (some (gM G)))), (3, .inr (.inl (some a3))), (4, .inl x4)] []) (x4 : Int32) (σ : Sg) (M : Mm) (n : Nat) : JS X G 7 300 sl n0 E (fLw_law_j1801 xs L a1 a3 NB k23 x4 σ M n) (σ, M, n) 1801 [(0, .inr (.inl (some b))), (1, .inr (.inl (some a1))), (2, .inr (.inl (some (gM G)))), (3, .inr (.inl (some a3))), (4, .inl x4)] [] := by
  unfold fLw_law_j1801
  refine s_blk C 1140 1 [0, 1, 2, 3, 4] (pc' := 2184) (lv' := [(0, .inr (.inl (some b))), (1, .inr (.inl (some a1))), (2, .inr (.inl (some (gM G)))), (3, .inr (.inl (some a3))), (4, .inl x4)]) (st' := []) rfl ?_
  exact wLw_law_j2184 hG C hX hE hend a1 a3 k23 H23 _ _ _ _
def fLw_law_j1857 (xs : Nat → Int32) (L a1 a3 NB : Nat) (k23 : Int32 → Sg → Mm → Nat → Option Nat) (x4 : Int32) (σ : Sg) (M : Mm) (n : Nat) : Option Nat :=
  fLw_law_j2184 xs L a1 a3 NB k23 x4 σ M n

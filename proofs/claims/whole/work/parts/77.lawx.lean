set_option maxRecDepth 100000
theorem wLw_law_j1857 {X : MC} {G : GE} {n0 sl b L NB : Nat} {xs : Nat → Int32} {E : Nat → Room × (State → Prop) × Nat} (hG : gH G = true) (C : CX X G RL code pLw_law 7 (some .boolean) n0) (hX : SCR X G b L xs) (hE : CE E 14 300 sl n0) (hend : LEND X G 300 sl n0 NB E) (a1 a3 : Nat) (k23 : Int32 → Sg → Mm → Nat → Option Nat) (H23 : ∀ (x4 : Int32) (σ : Sg) (M : Mm) (n : Nat), JS X G 7 300 sl n0 E (k23 x4 σ M n) (σ, M, n) 23 [(0, .inr (.inl (some b))), (1, .inr (.inl (some a1))), (2, .inr (.inl (some (gM G)))), (3, .inr (.inl (some a3))), (4, .inl x4)] []) (x4 : Int32) (σ : Sg) (M : Mm) (n : Nat) : JS X G 7 300 sl n0 E (fLw_law_j1857 xs L a1 a3 NB k23 x4 σ M n) (σ, M, n) 1857 [(0, .inr (.inl (some b))), (1, .inr (.inl (some a1))), (2, .inr (.inl (some (gM G)))), (3, .inr (.inl (some a3))), (4, .inl x4)] [] := by
  unfold fLw_law_j1857
  refine s_blk C 1175 1 [0, 1, 2, 3, 4] (pc' := 2184) (lv' := [(0, .inr (.inl (some b))), (1, .inr (.inl (some a1))), (2, .inr (.inl (some (gM G)))), (3, .inr (.inl (some a3))), (4, .inl x4)]) (st' := []) rfl ?_
  exact wLw_law_j2184 hG C hX hE hend a1 a3 k23 H23 _ _ _ _
def fLw_law_j1913 (xs : Nat → Int32) (L a1 a3 NB : Nat) (k23 : Int32 → Sg → Mm → Nat → Option Nat) (x4 : Int32) (σ : Sg) (M : Mm) (n : Nat) : Option Nat :=
  fLw_law_j2184 xs L a1 a3 NB k23 x4 σ M n
theorem wLw_law_j1913 {X : MC} {G : GE} {n0 sl b L NB : Nat} {xs : Nat → Int32} {E : Nat → Room × (State → Prop) × Nat} (hG : gH G = true) (C : CX X G RL code pLw_law 7 (some .boolean) n0) (hX : SCR X G b L xs) (hE : CE E 14 300 sl n0) (hend : LEND X G 300 sl n0 NB E) (a1 a3 : Nat) (k23 : Int32 → Sg → Mm → Nat → Option Nat) (H23 : ∀ (x4 : Int32) (σ : Sg) (M : Mm) (n : Nat), JS X G 7 300 sl n0 E (k23 x4 σ M n) (σ, M, n) 23 [(0, .inr (.inl (some b))), (1, .inr (.inl (some a1))), (2, .inr (.inl (some (gM G)))), (3, .inr (.inl (some a3))), (4, .inl x4)] []) (x4 : Int32) (σ : Sg) (M : Mm) (n : Nat) : JS X G 7 300 sl n0 E (fLw_law_j1913 xs L a1 a3 NB k23 x4 σ M n) (σ, M, n) 1913 [(0, .inr (.inl (some b))), (1, .inr (.inl (some a1))), (2, .inr (.inl (some (gM G)))), (3, .inr (.inl (some a3))), (4, .inl x4)] [] := by
  unfold fLw_law_j1913
  refine s_blk C 1210 1 [0, 1, 2, 3, 4] (pc' := 2184) (lv' := [(0, .inr (.inl (some b))), (1, .inr (.inl (some a1))), (2, .inr (.inl (some (gM G)))), (3, .inr (.inl (some a3))), (4, .inl x4)]) (st' := []) rfl ?_
  exact wLw_law_j2184 hG C hX hE hend a1 a3 k23 H23 _ _ _ _
def fLw_law_j1981 (xs : Nat → Int32) (L a1 a3 NB : Nat) (k23 : Int32 → Sg → Mm → Nat → Option Nat) (x4 : Int32) (σ : Sg) (M : Mm) (n : Nat) : Option Nat :=
  fLw_law_j2184 xs L a1 a3 NB k23 x4 σ M n
theorem wLw_law_j1981 {X : MC} {G : GE} {n0 sl b L NB : Nat} {xs : Nat → Int32} {E : Nat → Room × (State → Prop) × Nat} (hG : gH G = true) (C : CX X G RL code pLw_law 7 (some .boolean) n0) (hX : SCR X G b L xs) (hE : CE E 14 300 sl n0) (hend : LEND X G 300 sl n0 NB E) (a1 a3 : Nat) (k23 : Int32 → Sg → Mm → Nat → Option Nat) (H23 : ∀ (x4 : Int32) (σ : Sg) (M : Mm) (n : Nat), JS X G 7 300 sl n0 E (k23 x4 σ M n) (σ, M, n) 23 [(0, .inr (.inl (some b))), (1, .inr (.inl (some a1))), (2, .inr (.inl (some (gM G)))), (3, .inr (.inl (some a3))), (4, .inl x4)] []) (x4 : Int32) (σ : Sg) (M : Mm) (n : Nat) : JS X G 7 300 sl n0 E (fLw_law_j1981 xs L a1 a3 NB k23 x4 σ M n) (σ, M, n) 1981 [(0, .inr (.inl (some b))), (1, .inr (.inl (some a1))), (2, .inr (.inl (some (gM G)))), (3, .inr (.inl (some a3))), (4, .inl x4)] [] := by
  unfold fLw_law_j1981
  refine s_blk C 1255 1 [0, 1, 2, 3, 4] (pc' := 2184) (lv' := [(0, .inr (.inl (some b))), (1, .inr (.inl (some a1))), (2, .inr (.inl (some (gM G)))), (3, .inr (.inl (some a3))), (4, .inl x4)]) (st' := []) rfl ?_
  exact wLw_law_j2184 hG C hX hE hend a1 a3 k23 H23 _ _ _ _
def fLw_law_j2037 (xs : Nat → Int32) (L a1 a3 NB : Nat) (k23 : Int32 → Sg → Mm → Nat → Option Nat) (x4 : Int32) (σ : Sg) (M : Mm) (n : Nat) : Option Nat :=
  fLw_law_j2184 xs L a1 a3 NB k23 x4 σ M n
theorem wLw_law_j2037 {X : MC} {G : GE} {n0 sl b L NB : Nat} {xs : Nat → Int32} {E : Nat → Room × (State → Prop) × Nat} (hG : gH G = true) (C : CX X G RL code pLw_law 7 (some .boolean) n0) (hX : SCR X G b L xs) (hE : CE E 14 300 sl n0) (hend : LEND X G 300 sl n0 NB E) (a1 a3 : Nat) (k23 : Int32 → Sg → Mm → Nat → Option Nat) (H23 : ∀ (x4 : Int32) (σ : Sg) (M : Mm) (n : Nat), JS X G 7 300 sl n0 E (k23 x4 σ M n) (σ, M, n) 23 [(0, .inr (.inl (some b))), (1, .inr (.inl (some a1))), (2, .inr (.inl (some (gM G)))), (3, .inr (.inl (some a3))), (4, .inl x4)] []) (x4 : Int32) (σ : Sg) (M : Mm) (n : Nat) : JS X G 7 300 sl n0 E (fLw_law_j2037 xs L a1 a3 NB k23 x4 σ M n) (σ, M, n) 2037 [(0, .inr (.inl (some b))), (1, .inr (.inl (some a1))), (2, .inr (.inl (some (gM G)))), (3, .inr (.inl (some a3))), (4, .inl x4)] [] := by
  unfold fLw_law_j2037
  refine s_blk C 1290 1 [0, 1, 2, 3, 4] (pc' := 2184) (lv' := [(0, .inr (.inl (some b))), (1, .inr (.inl (some a1))), (2, .inr (.inl (some (gM G)))), (3, .inr (.inl (some a3))), (4, .inl x4)]) (st' := []) rfl ?_
  exact wLw_law_j2184 hG C hX hE hend a1 a3 k23 H23 _ _ _ _
def fLw_law_j2113 (xs : Nat → Int32) (L a1 a3 NB : Nat) (k23 : Int32 → Sg → Mm → Nat → Option Nat) (x4 : Int32) (σ : Sg) (M : Mm) (n : Nat) : Option Nat :=
  fLw_law_j2184 xs L a1 a3 NB k23 x4 σ M n
theorem wLw_law_j2113 {X : MC} {G : GE} {n0 sl b L NB : Nat} {xs : Nat → Int32} {E : Nat → Room × (State → Prop) × Nat} (hG : gH G = true) (C : CX X G RL code pLw_law 7 (some .boolean) n0) (hX : SCR X G b L xs) (hE : CE E 14 300 sl n0) (hend : LEND X G 300 sl n0 NB E) (a1 a3 : Nat) (k23 : Int32 → Sg → Mm → Nat → Option Nat) (H23 : ∀ (x4 : Int32) (σ : Sg) (M : Mm) (n : Nat), JS X G 7 300 sl n0 E (k23 x4 σ M n) (σ, M, n) 23 [(0, .inr (.inl (some b))), (1, .inr (.inl (some a1))), (2, .inr (.inl (some (gM G)))), (3, .inr (.inl (some a3))), (4, .inl x4)] []) (x4 : Int32) (σ : Sg) (M : Mm) (n : Nat) : JS X G 7 300 sl n0 E (fLw_law_j2113 xs L a1 a3 NB k23 x4 σ M n) (σ, M, n) 2113 [(0, .inr (.inl (some b))), (1, .inr (.inl (some a1))), (2, .inr (.inl (some (gM G)))), (3, .inr (.inl (some a3))), (4, .inl x4)] [] := by
  unfold fLw_law_j2113
  refine s_blk C 1335 1 [0, 1, 2, 3, 4] (pc' := 2184) (lv' := [(0, .inr (.inl (some b))), (1, .inr (.inl (some a1))), (2, .inr (.inl (some (gM G)))), (3, .inr (.inl (some a3))), (4, .inl x4)]) (st' := []) rfl ?_
  exact wLw_law_j2184 hG C hX hE hend a1 a3 k23 H23 _ _ _ _
def fLw_law_j2107 (xs : Nat → Int32) (L a1 a3 NB : Nat) (k23 : Int32 → Sg → Mm → Nat → Option Nat) (x4 : Int32) (s0 : Int64) (s1 : Int64) (σ : Sg) (M : Mm) (n : Nat) : Option Nat :=
  if (lg_cmp s1 s0) = 0 then
    fLw_law_j2113 xs L a1 a3 NB k23 x4 σ M n
  else
    none
theorem wLw_law_j2107 {X : MC} {G : GE} {n0 sl b L NB : Nat} {xs : Nat → Int32} {E : Nat → Room × (State → Prop) × Nat} (hG : gH G = true) (C : CX X G RL code pLw_law 7 (some .boolean) n0) (hX : SCR X G b L xs) (hE : CE E 14 300 sl n0) (hend : LEND X G 300 sl n0 NB E) (a1 a3 : Nat) (k23 : Int32 → Sg → Mm → Nat → Option Nat) (H23 : ∀ (x4 : Int32) (σ : Sg) (M : Mm) (n : Nat), JS X G 7 300 sl n0 E (k23 x4 σ M n) (σ, M, n) 23 [(0, .inr (.inl (some b))), (1, .inr (.inl (some a1))), (2, .inr (.inl (some (gM G)))), (3, .inr (.inl (some a3))), (4, .inl x4)] []) (x4 : Int32) (s0 : Int64) (s1 : Int64) (σ : Sg) (M : Mm) (n : Nat) : JS X G 7 300 sl n0 E (fLw_law_j2107 xs L a1 a3 NB k23 x4 s0 s1 σ M n) (σ, M, n) 2107 [(0, .inr (.inl (some b))), (1, .inr (.inl (some a1))), (2, .inr (.inl (some (gM G)))), (3, .inr (.inl (some a3))), (4, .inl x4)] [.inr (.inr s0), .inr (.inr s1)] := by
  unfold fLw_law_j2107
  refine s_lcmp C 1331 rfl ?_
  refine s_ieq C 1332 rfl (fun _ => ?_) (fun _ => ?_)
  · exact wLw_law_j2113 hG C hX hE hend a1 a3 k23 H23 _ _ _ _
  refine s_blk C 1333 1 [] (pc' := 2112) (lv' := []) (st' := [.inl 0]) rfl ?_
  exact s_none
def fLw_law_j2181 (xs : Nat → Int32) (L a1 a3 NB : Nat) (k23 : Int32 → Sg → Mm → Nat → Option Nat) (x4 : Int32) (σ : Sg) (M : Mm) (n : Nat) : Option Nat :=
  fLw_law_j2184 xs L a1 a3 NB k23 x4 σ M n
theorem wLw_law_j2181 {X : MC} {G : GE} {n0 sl b L NB : Nat} {xs : Nat → Int32} {E : Nat → Room × (State → Prop) × Nat} (hG : gH G = true) (C : CX X G RL code pLw_law 7 (some .boolean) n0) (hX : SCR X G b L xs) (hE : CE E 14 300 sl n0) (hend : LEND X G 300 sl n0 NB E) (a1 a3 : Nat) (k23 : Int32 → Sg → Mm → Nat → Option Nat) (H23 : ∀ (x4 : Int32) (σ : Sg) (M : Mm) (n : Nat), JS X G 7 300 sl n0 E (k23 x4 σ M n) (σ, M, n) 23 [(0, .inr (.inl (some b))), (1, .inr (.inl (some a1))), (2, .inr (.inl (some (gM G)))), (3, .inr (.inl (some a3))), (4, .inl x4)] []) (x4 : Int32) (σ : Sg) (M : Mm) (n : Nat) : JS X G 7 300 sl n0 E (fLw_law_j2181 xs L a1 a3 NB k23 x4 σ M n) (σ, M, n) 2181 [(0, .inr (.inl (some b))), (1, .inr (.inl (some a1))), (2, .inr (.inl (some (gM G)))), (3, .inr (.inl (some a3))), (4, .inl x4)] [] := by
  unfold fLw_law_j2181
  refine s_blk C 1380 1 [0, 1, 2, 3, 4] (pc' := 2184) (lv' := [(0, .inr (.inl (some b))), (1, .inr (.inl (some a1))), (2, .inr (.inl (some (gM G)))), (3, .inr (.inl (some a3))), (4, .inl x4)]) (st' := []) rfl ?_
  exact wLw_law_j2184 hG C hX hE hend a1 a3 k23 H23 _ _ _ _
def fLw_law_b23 (xs : Nat → Int32) (L a1 a3 NB : Nat) (k23 : Int32 → Sg → Mm → Nat → Option Nat) (x4 : Int32) (σ : Sg) (M : Mm) (n : Nat) : Option Nat :=
  if ((Int32.ofNat L) - 5) < x4 then
    lwE NB n
  else
    scl xs L x4 fun v1 =>
    tsw 0 27 (v1 &&& 31) (tsl [
      (scl xs L (x4 + 1) fun v2 =>
      scl xs L (x4 + 2) fun v3 =>
      scl xs L (x4 + 3) fun v4 =>
      bdL (fLw_draft (some a1) v2 v3 v4 (some a3) M n) n fun v5 M6 n7 =>
      scl xs L (x4 + 1) fun v8 =>
      scl xs L (x4 + 2) fun v9 =>
      scl xs L (x4 + 3) fun v10 =>
      bdW (fMd_draft v8 v9 v10 σ) fun v11 σ12 =>
      bdR (fMd_thrown σ12) fun v13 =>
      if v13 = v5 then
        if v5 = 0 then
          alJ (some a3) 0 M6 fun j14 =>
          if (lg_cmp j14 ((v11).toInt64)) = 0 then
            fLw_law_j241 xs L a1 a3 NB k23 x4 σ12 M6 n7
          else
            none
        else
          fLw_law_j241 xs L a1 a3 NB k23 x4 σ12 M6 n7
      else
        none),
      (rk 11 (some a1) M fun a16 =>
      bdW (fHb_clear a16 M) fun v17 M18 =>
      bdW (fMd_clear σ) fun v19 σ20 =>
      if v17 = v19 then
        fLw_law_j2184 xs L a1 a3 NB k23 x4 σ20 M18 n
      else
        none),
      (scl xs L (x4 + 1) fun v21 =>
      scl xs L (x4 + 2) fun v22 =>
      scl xs L (x4 + 3) fun v23 =>
      bdL (fLw_put (some a1) v21 v22 v23 (some a3) M n) n fun v24 M25 n26 =>
      scl xs L (x4 + 1) fun v27 =>
      scl xs L (x4 + 2) fun v28 =>
      scl xs L (x4 + 3) fun v29 =>
      bdW (fMd_put v27 v28 v29 σ) fun v30 σ31 =>
      bdR (fMd_thrown σ31) fun v32 =>
      if v32 = v24 then
        if v24 = 0 then
          alJ (some a3) 0 M25 fun j33 =>
          if (lg_cmp j33 ((v30).toInt64)) = 0 then
            fLw_law_j334 xs L a1 a3 NB k23 x4 σ31 M25 n26
          else
            none
        else
          fLw_law_j334 xs L a1 a3 NB k23 x4 σ31 M25 n26
      else
        none),
      (scl xs L (x4 + 1) fun v34 =>
      scl xs L (x4 + 2) fun v35 =>
      bdL (fLw_delete (some a1) v34 v35 (some a3) M n) n fun v36 M37 n38 =>
      scl xs L (x4 + 1) fun v39 =>
      scl xs L (x4 + 2) fun v40 =>
      bdW (fMd_delete v39 v40 σ) fun v41 σ42 =>
      bdR (fMd_thrown σ42) fun v43 =>
      if v43 = v36 then
        if v36 = 0 then
          alJ (some a3) 0 M37 fun j44 =>
          if (lg_cmp j44 ((v41).toInt64)) = 0 then
            fLw_law_j402 xs L a1 a3 NB k23 x4 σ42 M37 n38
          else
            none
        else
          fLw_law_j402 xs L a1 a3 NB k23 x4 σ42 M37 n38
      else
        none),
      (scl xs L (x4 + 1) fun v45 =>
      scl xs L (x4 + 2) fun v46 =>
      scl xs L (x4 + 3) fun v47 =>
      bdL (fLw_drop (some a1) v45 v46 v47 (some a3) M n) n fun v48 M49 n50 =>
      scl xs L (x4 + 1) fun v51 =>
      scl xs L (x4 + 2) fun v52 =>
      scl xs L (x4 + 3) fun v53 =>
      bdW (fMd_drop v51 v52 v53 σ) fun v54 σ55 =>
      bdR (fMd_thrown σ55) fun v56 =>
      if v56 = v48 then
        if v48 = 0 then
          alJ (some a3) 0 M49 fun j57 =>
          if (lg_cmp j57 ((v54).toInt64)) = 0 then
            fLw_law_j482 xs L a1 a3 NB k23 x4 σ55 M49 n50
          else
            none
        else
          fLw_law_j482 xs L a1 a3 NB k23 x4 σ55 M49 n50
      else
        none),
      (scl xs L (x4 + 1) fun v58 =>
      scl xs L (x4 + 2) fun v59 =>
      scl xs L (x4 + 3) fun v60 =>
      scl xs L (x4 + 4) fun v61 =>
      bdL (fLw_lock (some a1) v58 v59 v60 v61 (some a3) M n) n fun v62 M63 n64 =>
      scl xs L (x4 + 1) fun v65 =>
      scl xs L (x4 + 2) fun v66 =>
      scl xs L (x4 + 3) fun v67 =>
      scl xs L (x4 + 4) fun v68 =>
      bdW (fMd_lock v65 v66 v67 v68 σ) fun v69 σ70 =>
      bdR (fMd_thrown σ70) fun v71 =>
      if v71 = v62 then
        if v62 = 0 then
          alJ (some a3) 0 M63 fun j72 =>
          if (lg_cmp j72 ((v69).toInt64)) = 0 then
            fLw_law_j574 xs L a1 a3 NB k23 x4 σ70 M63 n64
          else
            none
        else
          fLw_law_j574 xs L a1 a3 NB k23 x4 σ70 M63 n64
      else
        none),
      (scl xs L (x4 + 1) fun v73 =>
      scl xs L (x4 + 2) fun v74 =>
      scl xs L (x4 + 3) fun v75 =>
      scl xs L (x4 + 4) fun v76 =>
      bdL (fLw_read (some a1) v73 v74 v75 v76 (some a3) M n) n fun v77 M78 n79 =>
      scl xs L (x4 + 1) fun v80 =>
      scl xs L (x4 + 2) fun v81 =>
      scl xs L (x4 + 3) fun v82 =>
      scl xs L (x4 + 4) fun v83 =>
      bdW (fMd_read v80 v81 v82 v83 σ) fun v84 σ85 =>
      bdR (fMd_thrown σ85) fun v86 =>
      if v86 = v77 then
        if v77 = 0 then
          alJ (some a3) 0 M78 fun j87 =>
          if (lg_cmp j87 ((v84).toInt64)) = 0 then
            fLw_law_j666 xs L a1 a3 NB k23 x4 σ85 M78 n79
          else
            none
        else
          fLw_law_j666 xs L a1 a3 NB k23 x4 σ85 M78 n79
      else
        none),
      (scl xs L (x4 + 1) fun v88 =>
      scl xs L (x4 + 2) fun v89 =>
      scl xs L (x4 + 3) fun v90 =>
      bdL (fLw_ask (some a1) v88 v89 v90 (some a3) M n) n fun v91 M92 n93 =>
      scl xs L (x4 + 1) fun v94 =>
      scl xs L (x4 + 2) fun v95 =>
      scl xs L (x4 + 3) fun v96 =>
      bdW (fMd_ask v94 v95 v96 σ) fun v97 σ98 =>
      bdR (fMd_thrown σ98) fun v99 =>
      if v99 = v91 then
        if v91 = 0 then
          alJ (some a3) 0 M92 fun j100 =>
          if (lg_cmp j100 ((v97).toInt64)) = 0 then
            fLw_law_j746 xs L a1 a3 NB k23 x4 σ98 M92 n93
          else
            none
        else
          fLw_law_j746 xs L a1 a3 NB k23 x4 σ98 M92 n93
      else
        none),
      (scl xs L (x4 + 1) fun v101 =>
      scl xs L (x4 + 2) fun v102 =>
      bdL (fLw_upload (some a1) v101 v102 (some a3) M n) n fun v103 M104 n105 =>
      scl xs L (x4 + 1) fun v106 =>
      scl xs L (x4 + 2) fun v107 =>
      bdW (fMd_upload v106 v107 σ) fun v108 σ109 =>
      bdR (fMd_thrown σ109) fun v110 =>
      if v110 = v103 then
        if v103 = 0 then
          alJ (some a3) 0 M104 fun j111 =>
          if (lg_cmp j111 ((v108).toInt64)) = 0 then
            fLw_law_j814 xs L a1 a3 NB k23 x4 σ109 M104 n105
          else
            none
        else
          fLw_law_j814 xs L a1 a3 NB k23 x4 σ109 M104 n105
      else
        none),
      (scl xs L (x4 + 1) fun v112 =>
      scl xs L (x4 + 2) fun v113 =>
      bdL (fLw_piece (some a1) v112 v113 (some a3) M n) n fun v114 M115 n116 =>
      scl xs L (x4 + 1) fun v117 =>
      scl xs L (x4 + 2) fun v118 =>
      bdW (fMd_piece v117 v118 σ) fun v119 σ120 =>
      bdR (fMd_thrown σ120) fun v121 =>
      if v121 = v114 then
        if v114 = 0 then
          alJ (some a3) 0 M115 fun j122 =>
          if (lg_cmp j122 ((v119).toInt64)) = 0 then
            fLw_law_j882 xs L a1 a3 NB k23 x4 σ120 M115 n116
          else
            none
        else
          fLw_law_j882 xs L a1 a3 NB k23 x4 σ120 M115 n116
      else
        none),
      (scl xs L (x4 + 1) fun v123 =>
      scl xs L (x4 + 2) fun v124 =>
      if v124 = 0 then
        fLw_law_j906 xs L a1 a3 NB k23 x4 0 v123 σ M n
      else
        fLw_law_j906 xs L a1 a3 NB k23 x4 1 v123 σ M n),
      (scl xs L (x4 + 1) fun v125 =>
      scl xs L (x4 + 2) fun v126 =>
      scl xs L (x4 + 3) fun v127 =>
      scl xs L (x4 + 4) fun v128 =>
      bdL (fLw_list (some a1) v125 v126 v127 v128 (some a3) M n) n fun v129 M130 n131 =>
      scl xs L (x4 + 1) fun v132 =>
      scl xs L (x4 + 2) fun v133 =>
      scl xs L (x4 + 3) fun v134 =>
      scl xs L (x4 + 4) fun v135 =>
      bdW (fMd_list v132 v133 v134 v135 σ) fun v136 σ137 =>
      bdR (fMd_thrown σ137) fun v138 =>
      if v138 = v129 then
        if v129 = 0 then
          alJ (some a3) 0 M130 fun j139 =>
          if (lg_cmp j139 ((v136).toInt64)) = 0 then
            fLw_law_j1058 xs L a1 a3 NB k23 x4 σ137 M130 n131
          else
            none
        else
          fLw_law_j1058 xs L a1 a3 NB k23 x4 σ137 M130 n131
      else
        none),
      (scl xs L (x4 + 1) fun v140 =>
      scl xs L (x4 + 2) fun v141 =>
      scl xs L (x4 + 3) fun v142 =>
      bdL (fLw_version (some a1) v140 v141 v142 (some a3) M n) n fun v143 M144 n145 =>
      scl xs L (x4 + 1) fun v146 =>
      scl xs L (x4 + 2) fun v147 =>
      scl xs L (x4 + 3) fun v148 =>
      bdW (fMd_version v146 v147 v148 σ) fun v149 σ150 =>
      bdR (fMd_thrown σ150) fun v151 =>
      if v151 = v143 then
        if v143 = 0 then
          alJ (some a3) 0 M144 fun j152 =>
          if (lg_cmp j152 ((v149).toInt64)) = 0 then
            fLw_law_j1138 xs L a1 a3 NB k23 x4 σ150 M144 n145
          else
            none
        else
          fLw_law_j1138 xs L a1 a3 NB k23 x4 σ150 M144 n145
      else
        none),
      (scl xs L (x4 + 1) fun v153 =>
      scl xs L (x4 + 2) fun v154 =>
      scl xs L (x4 + 3) fun v155 =>
      scl xs L (x4 + 4) fun v156 =>
      bdL (fLw_about (some a1) v153 v154 v155 v156 (some a3) M n) n fun v157 M158 n159 =>
      scl xs L (x4 + 1) fun v160 =>
      scl xs L (x4 + 2) fun v161 =>
      scl xs L (x4 + 3) fun v162 =>
      scl xs L (x4 + 4) fun v163 =>
      bdW (fMd_about v160 v161 v162 v163 σ) fun v164 σ165 =>
      bdR (fMd_thrown σ165) fun v166 =>
      if v166 = v157 then
        if v157 = 0 then
          alJ (some a3) 0 M158 fun j167 =>
          if (lg_cmp j167 ((v164).toInt64)) = 0 then
            fLw_law_j1230 xs L a1 a3 NB k23 x4 σ165 M158 n159
          else
            none
        else
          fLw_law_j1230 xs L a1 a3 NB k23 x4 σ165 M158 n159
      else
        none),
      (scl xs L (x4 + 1) fun v168 =>
      scl xs L (x4 + 2) fun v169 =>
      scl xs L (x4 + 3) fun v170 =>
      scl xs L (x4 + 4) fun v171 =>
      bdL (fLw_part (some a1) v168 v169 v170 v171 (some a3) M n) n fun v172 M173 n174 =>
      scl xs L (x4 + 1) fun v175 =>
      scl xs L (x4 + 2) fun v176 =>
      scl xs L (x4 + 3) fun v177 =>
      scl xs L (x4 + 4) fun v178 =>
      bdW (fMd_part v175 v176 v177 v178 σ) fun v179 σ180 =>
      bdR (fMd_thrown σ180) fun v181 =>
      if v181 = v172 then
        if v172 = 0 then
          alJ (some a3) 0 M173 fun j182 =>
          if (lg_cmp j182 ((v179).toInt64)) = 0 then
            fLw_law_j1322 xs L a1 a3 NB k23 x4 σ180 M173 n174
          else
            none
        else
          fLw_law_j1322 xs L a1 a3 NB k23 x4 σ180 M173 n174
      else
        none),
      (scl xs L (x4 + 1) fun v183 =>
      scl xs L (x4 + 2) fun v184 =>
      scl xs L (x4 + 3) fun v185 =>
      bdL (fLw_partIs (some a1) v183 v184 v185 (some a3) M n) n fun v186 M187 n188 =>
      scl xs L (x4 + 1) fun v189 =>
      scl xs L (x4 + 2) fun v190 =>
      scl xs L (x4 + 3) fun v191 =>
      bdW (fMd_partIs v189 v190 v191 σ) fun v192 σ193 =>
      bdR (fMd_thrown σ193) fun v194 =>
      if v194 = v186 then
        if v186 = 0 then
          alJ (some a3) 0 M187 fun j195 =>
          if (lg_cmp j195 ((v192).toInt64)) = 0 then
            fLw_law_j1402 xs L a1 a3 NB k23 x4 σ193 M187 n188
          else
            none
        else
          fLw_law_j1402 xs L a1 a3 NB k23 x4 σ193 M187 n188
      else
        none),
      (scl xs L (x4 + 1) fun v196 =>
      scl xs L (x4 + 2) fun v197 =>
      scl xs L (x4 + 3) fun v198 =>
      if v198 = 0 then
        fLw_law_j1432 xs L a1 a3 NB k23 x4 0 v197 v196 σ M n
      else
        fLw_law_j1432 xs L a1 a3 NB k23 x4 1 v197 v196 σ M n),
      (scl xs L (x4 + 1) fun v199 =>
      scl xs L (x4 + 2) fun v200 =>
      scl xs L (x4 + 3) fun v201 =>
      bdL (fLw_rot (some a1) v199 v200 v201 (some a3) M n) n fun v202 M203 n204 =>
      scl xs L (x4 + 1) fun v205 =>
      scl xs L (x4 + 2) fun v206 =>
      scl xs L (x4 + 3) fun v207 =>
      bdW (fMd_rot v205 v206 v207 σ) fun v208 σ209 =>
      bdR (fMd_thrown σ209) fun v210 =>
      if v210 = v202 then
        if v202 = 0 then
          alJ (some a3) 0 M203 fun j211 =>
          if v208 = 0 then
            fLw_law_j1579 xs L a1 a3 NB k23 x4 (Int64.ofNat 0) j211 σ209 M203 n204
          else
            fLw_law_j1579 xs L a1 a3 NB k23 x4 (Int64.ofNat 1) j211 σ209 M203 n204
        else
          fLw_law_j1585 xs L a1 a3 NB k23 x4 σ209 M203 n204
      else
        none),
      (scl xs L (x4 + 1) fun v212 =>
      scl xs L (x4 + 2) fun v213 =>
      bdL (fLw_mend (some a1) v212 v213 (some a3) M n) n fun v214 M215 n216 =>
      scl xs L (x4 + 1) fun v217 =>
      scl xs L (x4 + 2) fun v218 =>
      bdW (fMd_mend v217 v218 σ) fun v219 σ220 =>
      bdR (fMd_thrown σ220) fun v221 =>
      if v221 = v214 then
        if v214 = 0 then
          alJ (some a3) 0 M215 fun j222 =>
          if (lg_cmp j222 ((v219).toInt64)) = 0 then
            fLw_law_j1653 xs L a1 a3 NB k23 x4 σ220 M215 n216
          else
            none
        else
          fLw_law_j1653 xs L a1 a3 NB k23 x4 σ220 M215 n216
      else
        none),
      (scl xs L (x4 + 1) fun v223 =>
      scl xs L (x4 + 2) fun v224 =>
      bdL (fLw_sweep (some a1) v223 v224 (some a3) M n) n fun v225 M226 n227 =>
      scl xs L (x4 + 1) fun v228 =>
      scl xs L (x4 + 2) fun v229 =>
      bdW (fMd_sweep v228 v229 σ) fun v230 σ231 =>
      bdR (fMd_thrown σ231) fun v232 =>
      if v232 = v225 then
        if v225 = 0 then
          alJ (some a3) 0 M226 fun j233 =>
          if (lg_cmp j233 ((v230).toInt64)) = 0 then
            fLw_law_j1721 xs L a1 a3 NB k23 x4 σ231 M226 n227
          else
            none
        else
          fLw_law_j1721 xs L a1 a3 NB k23 x4 σ231 M226 n227
      else
        none),
      (scl xs L (x4 + 1) fun v234 =>
      scl xs L (x4 + 2) fun v235 =>
      scl xs L (x4 + 3) fun v236 =>
      bdL (fLw_rule (some a1) v234 v235 v236 (some a3) M n) n fun v237 M238 n239 =>
      scl xs L (x4 + 1) fun v240 =>
      scl xs L (x4 + 2) fun v241 =>
      scl xs L (x4 + 3) fun v242 =>
      bdW (fMd_rule v240 v241 v242 σ) fun v243 σ244 =>
      bdR (fMd_thrown σ244) fun v245 =>
      if v245 = v237 then
        if v237 = 0 then
          alJ (some a3) 0 M238 fun j246 =>
          if (lg_cmp j246 ((v243).toInt64)) = 0 then
            fLw_law_j1801 xs L a1 a3 NB k23 x4 σ244 M238 n239
          else
            none
        else
          fLw_law_j1801 xs L a1 a3 NB k23 x4 σ244 M238 n239
      else
        none),
      (scl xs L (x4 + 1) fun v247 =>
      bdL (fLw_pass (some a1) v247 (some a3) M n) n fun v248 M249 n250 =>
      scl xs L (x4 + 1) fun v251 =>
      bdW (fMd_pass v251 σ) fun v252 σ253 =>
      bdR (fMd_thrown σ253) fun v254 =>
      if v254 = v248 then
        if v248 = 0 then
          alJ (some a3) 0 M249 fun j255 =>
          if (lg_cmp j255 ((v252).toInt64)) = 0 then
            fLw_law_j1857 xs L a1 a3 NB k23 x4 σ253 M249 n250
          else
            none
        else
          fLw_law_j1857 xs L a1 a3 NB k23 x4 σ253 M249 n250
      else
        none),
      (scl xs L (x4 + 1) fun v256 =>
      bdL (fLw_cost (some a1) v256 (some a3) M n) n fun v257 M258 n259 =>
      scl xs L (x4 + 1) fun v260 =>
      bdW (fMd_cost v260 σ) fun v261 σ262 =>
      bdR (fMd_thrown σ262) fun v263 =>
      if v263 = v257 then
        if v257 = 0 then
          alJ (some a3) 0 M258 fun j264 =>
          if (lg_cmp j264 ((v261).toInt64)) = 0 then
            fLw_law_j1913 xs L a1 a3 NB k23 x4 σ262 M258 n259
          else
            none
        else
          fLw_law_j1913 xs L a1 a3 NB k23 x4 σ262 M258 n259
      else
        none),
      (scl xs L (x4 + 1) fun v265 =>
      scl xs L (x4 + 2) fun v266 =>
      bdL (fLw_follow (some a1) v265 v266 (some a3) M n) n fun v267 M268 n269 =>
      scl xs L (x4 + 1) fun v270 =>
      scl xs L (x4 + 2) fun v271 =>
      bdW (fMd_follow v270 v271 σ) fun v272 σ273 =>
      bdR (fMd_thrown σ273) fun v274 =>
      if v274 = v267 then
        if v267 = 0 then
          alJ (some a3) 0 M268 fun j275 =>
          if (lg_cmp j275 ((v272).toInt64)) = 0 then
            fLw_law_j1981 xs L a1 a3 NB k23 x4 σ273 M268 n269
          else
            none
        else
          fLw_law_j1981 xs L a1 a3 NB k23 x4 σ273 M268 n269
      else
        none),
      (scl xs L (x4 + 1) fun v276 =>
      bdL (fLw_behind (some a1) v276 (some a3) M n) n fun v277 M278 n279 =>
      scl xs L (x4 + 1) fun v280 =>
      bdW (fMd_behind v280 σ) fun v281 σ282 =>
      bdR (fMd_thrown σ282) fun v283 =>
      if v283 = v277 then
        if v277 = 0 then
          alJ (some a3) 0 M278 fun j284 =>
          if (lg_cmp j284 ((v281).toInt64)) = 0 then
            fLw_law_j2037 xs L a1 a3 NB k23 x4 σ282 M278 n279
          else
            none
        else
          fLw_law_j2037 xs L a1 a3 NB k23 x4 σ282 M278 n279
      else
        none),
      (rk 11 (some a1) M fun a286 =>
      bdR (fHb_areAlike a286 M) fun v287 =>
      bdW (fMd_areAlike σ) fun v288 σ289 =>
      if v287 = v288 then
        fLw_law_j2184 xs L a1 a3 NB k23 x4 σ289 M n
      else
        none),
      (scl xs L (x4 + 1) fun v290 =>
      bdL (fLw_agrees (some a1) v290 (some a3) M n) n fun v291 M292 n293 =>
      scl xs L (x4 + 1) fun v294 =>
      bdW (fMd_agrees v294 σ) fun v295 σ296 =>
      bdR (fMd_thrown σ296) fun v297 =>
      if v297 = v291 then
        if v291 = 0 then
          alJ (some a3) 0 M292 fun j298 =>
          if v295 = 0 then
            fLw_law_j2107 xs L a1 a3 NB k23 x4 (Int64.ofNat 0) j298 σ296 M292 n293
          else
            fLw_law_j2107 xs L a1 a3 NB k23 x4 (Int64.ofNat 1) j298 σ296 M292 n293
        else
          fLw_law_j2113 xs L a1 a3 NB k23 x4 σ296 M292 n293
      else
        none),
      (scl xs L (x4 + 1) fun v299 =>
      scl xs L (x4 + 2) fun v300 =>
      bdL (fLw_letter (some a1) v299 v300 (some a3) M n) n fun v301 M302 n303 =>
      scl xs L (x4 + 1) fun v304 =>
      scl xs L (x4 + 2) fun v305 =>
      bdW (fMd_letter v304 v305 σ) fun v306 σ307 =>
      bdR (fMd_thrown σ307) fun v308 =>
      if v308 = v301 then
        if v301 = 0 then
          alJ (some a3) 0 M302 fun j309 =>
          if (lg_cmp j309 ((v306).toInt64)) = 0 then
            fLw_law_j2181 xs L a1 a3 NB k23 x4 σ307 M302 n303
          else
            none
        else
          fLw_law_j2181 xs L a1 a3 NB k23 x4 σ307 M302 n303
      else
        none)])
      (fLw_law_j2184 xs L a1 a3 NB k23 x4 σ M n)

def pPart_setShardByte : List BR := [(0, .iload_n 1, 1, 0, 1), (1, .iconst 2, 1, 2, 2), (2, .imul, 1, 0, 3), (3, .iload_n 2, 1, 0, 4), (4, .iadd, 1, 0, 5), (5, .istore 4, 2, 0, 7), (7, .iload 4, 2, 0, 9), (9, .ifCond .lt (22), 3, 0, 31), (12, .iload 4, 2, 0, 14), (14, .aload_n 0, 1, 0, 15), (15, .getfield 15, 3, 0, 18), (18, .arraylength, 1, 0, 19), (19, .if_icmp .ge (12), 3, 0, 31), (22, .aload_n 0, 1, 0, 23), (23, .getfield 15, 3, 0, 26), (26, .iload 4, 2, 0, 28), (28, .iload_n 3, 1, 0, 29), (29, .i2b, 1, 0, 30), (30, .bastore, 1, 0, 31), (31, .return_, 1, 0, 32)]
theorem kPart_setShardByte : bOK cX5_setShardByte 5 pPart_setShardByte = true := by decide +kernel
def fPart_setShardByte (a0 : Nat) (x1 : Int32) (x2 : Int32) (x3 : Int32) (M : Mm) : Option (Unit × Mm) :=
  if ((x1 * 2) + x2) < 0 then
    some ((), M)
  else
    fgR 5 503 (some a0) M fun v1 =>
    aln v1 M fun v2 =>
    if v2 ≤ ((x1 * 2) + x2) then
      some ((), M)
    else
      fgR 5 503 (some a0) M fun v3 =>
      asB v3 ((x1 * 2) + x2) ((x3).toInt8.toInt32) M fun M4 =>
      some ((), M4)
theorem wPart_setShardByte {X : MC} {G : GE} {n0 : Nat} (C : CX X G RX5 cX5_setShardByte pPart_setShardByte 5 none n0) (htab : ∀ z ∈ X.2.2.2.2.2.2.2.2.exceptionTable.toList, False) {σ : Sg} {n : Nat} (a0 : Nat) (x1 : Int32) (x2 : Int32) (x3 : Int32) (M : Mm) : JS X G 5 300 0 n0 (EM X G n0 2 300 (eW rvU σ n)) (fPart_setShardByte a0 x1 x2 x3 M) (σ, M, n) 0 [(0, .inr (.inl (some a0))), (1, .inl x1), (2, .inl x2), (3, .inl x3)] [] := by
  unfold fPart_setShardByte
  refine s_blk C 0 7 [0, 3, 4] (pc' := 9) (lv' := [(0, .inr (.inl (some a0))), (3, .inl x3), (4, .inl ((x1 * 2) + x2))]) (st' := [.inl ((x1 * 2) + x2)]) rfl ?_
  refine s_ilt C 7 rfl (fun _ => ?_) (fun _ => ?_)
  · exact s_vret C 19 rfl rfl
  refine s_blk C 8 2 [0, 3, 4] (pc' := 15) (lv' := [(0, .inr (.inl (some a0))), (3, .inl x3), (4, .inl ((x1 * 2) + x2))]) (st' := [.inr (.inl (some a0)), .inl ((x1 * 2) + x2)]) rfl ?_
  refine s_gR C 10 rfl fl_X5_15 rfl rfl (fun v1 => ?_)
  refine s_len C 11 rfl (fun v2 => ?_)
  refine s_icge C 12 rfl (fun _ => ?_) (fun _ => ?_)
  · exact s_vret C 19 rfl rfl
  refine s_blk C 13 1 [3, 4] (pc' := 23) (lv' := [(3, .inl x3), (4, .inl ((x1 * 2) + x2))]) (st' := [.inr (.inl (some a0))]) rfl ?_
  refine s_gR C 14 rfl fl_X5_15 rfl rfl (fun v3 => ?_)
  refine s_blk C 15 3 [] (pc' := 30) (lv' := []) (st' := [.inl ((x3).toInt8.toInt32), .inl ((x1 * 2) + x2), .inr (.inl v3)]) rfl ?_
  refine s_stB C 18 rfl (fun M4 _ => ?_)
  exact s_vret C 19 rfl rfl
theorem cPart_setShardByte {l : Launch} {G : GE} (htr : l.stackTraces = false) (σ : Sg) (M : Mm) (n : Nat) (a0 : Nat) (x1 : Int32) (x2 : Int32) (x3 : Int32) : ∀ o, fPart_setShardByte a0 x1 x2 x3 M = some o → MetX l G yX5_setShardByte cX5_setShardByte 5 none 2 300 [.inr (.inl (some a0)), .inl x1, .inl x2, .inl x3] (σ, M, n) ((eW rvU σ n) o) :=
  c_ofX (by decide) kPart_setShardByte htr rfl rfl fun X _ _ C htab => wPart_setShardByte C htab a0 x1 x2 x3 _
def pPart_place : List BR := [(0, .iload_n 1, 1, 0, 1), (1, .ifCond .lt (51), 3, 0, 52), (4, .iload_n 1, 1, 0, 5), (5, .iconst 5, 1, 5, 6), (6, .if_icmp .ge (46), 3, 0, 52), (9, .aload_n 0, 1, 0, 10), (10, .getfield 18, 3, 0, 13), (13, .iload_n 1, 1, 0, 14), (14, .iload_n 2, 1, 0, 15), (15, .iastore, 1, 0, 16), (16, .aload_n 0, 1, 0, 17), (17, .getfield 22, 3, 0, 20), (20, .iload_n 1, 1, 0, 21), (21, .iconst 0, 1, 0, 22), (22, .bastore, 1, 0, 23), (23, .iconst 0, 1, 0, 24), (24, .istore 4, 2, 0, 26), (26, .iload 4, 2, 0, 28), (28, .iconst 2, 1, 2, 29), (29, .if_icmp .ge (23), 3, 0, 52), (32, .aload_n 0, 1, 0, 33), (33, .iload_n 1, 1, 0, 34), (34, .iload 4, 2, 0, 36), (36, .aload_n 3, 1, 0, 37), (37, .iload_n 1, 1, 0, 38), (38, .iload 4, 2, 0, 40), (40, .invokevirtual 56, 3, 0, 43), (43, .invokevirtual 62, 3, 0, 46), (46, .iinc 4 (1), 3, 1, 49), (49, .goto (-23), 3, 0, 26), (52, .return_, 1, 0, 53)]
theorem kPart_place : bOK cX5_place 5 pPart_place = true := by decide +kernel
def fPart_place_b26 (a0 : Nat) (k26 : Int32 → Option Nat → Int32 → Mm → Option (Unit × Mm)) (x1 : Int32) (r3 : Option Nat) (x4 : Int32) (M : Mm) : Option (Unit × Mm) :=
  if 2 ≤ x4 then
    some ((), M)
  else
    rk 2 r3 M fun a1 =>
    bdR (fCode_codedByte a1 x1 x4 M) fun v4 =>
    rk 5 (some a0) M fun _ =>
    bdW (fPart_setShardByte a0 x1 x4 v4 M) fun v6 M7 =>
    k26 x1 r3 (x4 + 1) M7
theorem wPart_place_b26 {X : MC} {G : GE} {n0 : Nat} (C : CX X G RX5 cX5_place pPart_place 5 none n0) (htab : ∀ z ∈ X.2.2.2.2.2.2.2.2.exceptionTable.toList, False) {σ : Sg} {n : Nat} (a0 : Nat) (k26 : Int32 → Option Nat → Int32 → Mm → Option (Unit × Mm)) (H26 : ∀ (x1 : Int32) (r3 : Option Nat) (x4 : Int32) (M : Mm), JS X G 5 300 0 n0 (EM X G n0 3 300 (eW rvU σ n)) (k26 x1 r3 x4 M) (σ, M, n) 26 [(0, .inr (.inl (some a0))), (1, .inl x1), (3, .inr (.inl r3)), (4, .inl x4)] []) (x1 : Int32) (r3 : Option Nat) (x4 : Int32) (M : Mm) : JS X G 5 300 0 n0 (EM X G n0 3 300 (eW rvU σ n)) (fPart_place_b26 a0 k26 x1 r3 x4 M) (σ, M, n) 26 [(0, .inr (.inl (some a0))), (1, .inl x1), (3, .inr (.inl r3)), (4, .inl x4)] [] := by
  unfold fPart_place_b26
  refine s_blk C 17 2 [0, 1, 3, 4] (pc' := 29) (lv' := [(0, .inr (.inl (some a0))), (1, .inl x1), (3, .inr (.inl r3)), (4, .inl x4)]) (st' := [.inl 2, .inl x4]) rfl ?_
  refine s_icge C 19 rfl (fun _ => ?_) (fun _ => ?_)
  · exact s_vret C 30 rfl rfl
  refine s_blk C 20 6 [0, 1, 3, 4] (pc' := 40) (lv' := [(0, .inr (.inl (some a0))), (1, .inl x1), (3, .inr (.inl r3)), (4, .inl x4)]) (st' := [.inl x4, .inl x1, .inr (.inl r3), .inl x4, .inl x1, .inr (.inl (some a0))]) rfl ?_
  refine s_rk (fun a1 ha2 hk3 => ?_)
  subst ha2
  refine s_RI (CE_EM _ _ _ _ _ _) (st := [.inl x4, .inl x1, .inr (.inl (some a0))]) (fun o ho => j_callV (As := [.inl x1, .inl x4]) (st := [.inl x4, .inl x1, .inr (.inl (some a0))]) (b := a1) C 26 rfl mf_Code_codedByte ml_X5_56 rfl (recv_K C (by decide) (by decide) rfl hk3) (by decide) (by decide) (Nat.le_refl _) rfl (cCode_codedByte (CX_tr C) σ M n a1 x1 x4 o ho)) (fun v4 => ?_)
  refine s_rks (fun hk5 => ?_)
  refine s_WU (CE_EM _ _ _ _ _ _) (st := []) (fun o ho => j_callV (As := [.inl x1, .inl x4, .inl v4]) (st := []) (b := a0) C 27 rfl mf_Part_setShardByte ml_X5_62 rfl (recv_K C (by decide) (by decide) rfl hk5) (by decide) (by decide) (Nat.le_refl _) rfl (cPart_setShardByte (CX_tr C) σ M n a0 x1 x4 v4 o ho)) (fun v6 M7 => ?_)
  refine s_blk C 28 2 [0, 1, 3, 4] (pc' := 26) (lv' := [(0, .inr (.inl (some a0))), (1, .inl x1), (3, .inr (.inl (some a1))), (4, .inl (x4 + 1))]) (st' := []) rfl ?_
  exact H26 _ _ _ _
def fPart_place_l26 (a0 : Nat) (fu : Nat) : Int32 → Option Nat → Int32 → Mm → Option (Unit × Mm) := Nat.rec (fun x1 r3 x4 M => none) (fun _ k => fPart_place_b26 a0 k) fu
theorem wPart_place_l26 {X : MC} {G : GE} {n0 : Nat} (C : CX X G RX5 cX5_place pPart_place 5 none n0) (htab : ∀ z ∈ X.2.2.2.2.2.2.2.2.exceptionTable.toList, False) {σ : Sg} {n : Nat} (a0 : Nat) : ∀ (fu : Nat) (x1 : Int32) (r3 : Option Nat) (x4 : Int32) (M : Mm), JS X G 5 300 0 n0 (EM X G n0 3 300 (eW rvU σ n)) (fPart_place_l26 a0 fu x1 r3 x4 M) (σ, M, n) 26 [(0, .inr (.inl (some a0))), (1, .inl x1), (3, .inr (.inl r3)), (4, .inl x4)] [] := by
  intro fu
  induction fu with
  | zero => intro x1 r3 x4 M; exact s_none
  | succ fu ih => intro x1 r3 x4 M; exact wPart_place_b26 C htab a0 (fPart_place_l26 a0 fu) ih _ _ _ _
def fPart_place (a0 : Nat) (x1 : Int32) (x2 : Int32) (r3 : Option Nat) (M : Mm) : Option (Unit × Mm) :=
  if x1 < 0 then
    some ((), M)
  else
    if 5 ≤ x1 then
      some ((), M)
    else
      fgR 5 504 (some a0) M fun v1 =>
      asI v1 x1 x2 M fun M2 =>
      fgR 5 505 (some a0) M2 fun v3 =>
      asZ v3 x1 0 M2 fun M4 =>
      fPart_place_l26 a0 FU x1 r3 0 M4
theorem wPart_place {X : MC} {G : GE} {n0 : Nat} (C : CX X G RX5 cX5_place pPart_place 5 none n0) (htab : ∀ z ∈ X.2.2.2.2.2.2.2.2.exceptionTable.toList, False) {σ : Sg} {n : Nat} (a0 : Nat) (x1 : Int32) (x2 : Int32) (r3 : Option Nat) (M : Mm) : JS X G 5 300 0 n0 (EM X G n0 3 300 (eW rvU σ n)) (fPart_place a0 x1 x2 r3 M) (σ, M, n) 0 [(0, .inr (.inl (some a0))), (1, .inl x1), (2, .inl x2), (3, .inr (.inl r3))] [] := by
  unfold fPart_place
  refine s_blk C 0 1 [0, 1, 2, 3] (pc' := 1) (lv' := [(0, .inr (.inl (some a0))), (1, .inl x1), (2, .inl x2), (3, .inr (.inl r3))]) (st' := [.inl x1]) rfl ?_
  refine s_ilt C 1 rfl (fun _ => ?_) (fun _ => ?_)
  · exact s_vret C 30 rfl rfl
  refine s_blk C 2 2 [0, 1, 2, 3] (pc' := 6) (lv' := [(0, .inr (.inl (some a0))), (1, .inl x1), (2, .inl x2), (3, .inr (.inl r3))]) (st' := [.inl 5, .inl x1]) rfl ?_
  refine s_icge C 4 rfl (fun _ => ?_) (fun _ => ?_)
  · exact s_vret C 30 rfl rfl
  refine s_blk C 5 1 [0, 1, 2, 3] (pc' := 10) (lv' := [(0, .inr (.inl (some a0))), (1, .inl x1), (2, .inl x2), (3, .inr (.inl r3))]) (st' := [.inr (.inl (some a0))]) rfl ?_
  refine s_gR C 6 rfl fl_X5_18 rfl rfl (fun v1 => ?_)
  refine s_blk C 7 2 [0, 1, 3] (pc' := 15) (lv' := [(0, .inr (.inl (some a0))), (1, .inl x1), (3, .inr (.inl r3))]) (st' := [.inl x2, .inl x1, .inr (.inl v1)]) rfl ?_
  refine s_stI C 9 rfl (fun M2 _ => ?_)
  refine s_blk C 10 1 [0, 1, 3] (pc' := 17) (lv' := [(0, .inr (.inl (some a0))), (1, .inl x1), (3, .inr (.inl r3))]) (st' := [.inr (.inl (some a0))]) rfl ?_
  refine s_gR C 11 rfl fl_X5_22 rfl rfl (fun v3 => ?_)
  refine s_blk C 12 2 [0, 1, 3] (pc' := 22) (lv' := [(0, .inr (.inl (some a0))), (1, .inl x1), (3, .inr (.inl r3))]) (st' := [.inl 0, .inl x1, .inr (.inl v3)]) rfl ?_
  refine s_stZ C 14 rfl (fun M4 _ => ?_)
  refine s_blk C 15 2 [0, 1, 3, 4] (pc' := 26) (lv' := [(0, .inr (.inl (some a0))), (1, .inl x1), (3, .inr (.inl r3)), (4, .inl 0)]) (st' := []) rfl ?_
  exact wPart_place_l26 C htab a0 FU _ _ _ _
theorem cPart_place {l : Launch} {G : GE} (htr : l.stackTraces = false) (σ : Sg) (M : Mm) (n : Nat) (a0 : Nat) (x1 : Int32) (x2 : Int32) (r3 : Option Nat) : ∀ o, fPart_place a0 x1 x2 r3 M = some o → MetX l G yX5_place cX5_place 5 none 3 300 [.inr (.inl (some a0)), .inl x1, .inl x2, .inr (.inl r3)] (σ, M, n) ((eW rvU σ n) o) :=
  c_ofX (by decide) kPart_place htr rfl rfl fun X _ _ C htab => wPart_place C htab a0 x1 x2 r3 _
def pStore_spread : List BR := [(0, .aload_n 1, 1, 0, 1), (1, .invokevirtual 125, 3, 0, 4), (4, .aload_n 0, 1, 0, 5), (5, .getfield 32, 3, 0, 8), (8, .aload_n 1, 1, 0, 9), (9, .invokevirtual 128, 3, 0, 12), (12, .aload_n 0, 1, 0, 13), (13, .getfield 32, 3, 0, 16), (16, .invokevirtual 131, 3, 0, 19), (19, .iconst 0, 1, 0, 20), (20, .istore_n 2, 1, 0, 21), (21, .iload_n 2, 1, 0, 22), (22, .iconst 5, 1, 5, 23), (23, .if_icmp .ge (30), 3, 0, 53), (26, .aload_n 0, 1, 0, 27), (27, .aload_n 1, 1, 0, 28), (28, .invokevirtual 134, 3, 0, 31), (31, .istore_n 3, 1, 0, 32), (32, .iload_n 3, 1, 0, 33), (33, .iconst (-1), 1, -1, 34), (34, .if_icmp .eq (13), 3, 0, 47), (37, .aload_n 1, 1, 0, 38), (38, .iload_n 2, 1, 0, 39), (39, .iload_n 3, 1, 0, 40), (40, .aload_n 0, 1, 0, 41), (41, .getfield 32, 3, 0, 44), (44, .invokevirtual 138, 3, 0, 47), (47, .iinc 2 (1), 3, 1, 50), (50, .goto (-29), 3, 0, 21), (53, .return_, 1, 0, 54)]
theorem kStore_spread : bOK cX8_spread 4 pStore_spread = true := by decide +kernel
def fStore_spread_j47 (a0 : Nat) (k21 : Option Nat → Int32 → Mm → Option (Unit × Mm)) (r1 : Option Nat) (x2 : Int32) (M : Mm) : Option (Unit × Mm) :=
  k21 r1 (x2 + 1) M
theorem wStore_spread_j47 {X : MC} {G : GE} {n0 : Nat} (C : CX X G RX8 cX8_spread pStore_spread 4 none n0) (htab : ∀ z ∈ X.2.2.2.2.2.2.2.2.exceptionTable.toList, False) {σ : Sg} {n : Nat} (a0 : Nat) (k21 : Option Nat → Int32 → Mm → Option (Unit × Mm)) (H21 : ∀ (r1 : Option Nat) (x2 : Int32) (M : Mm), JS X G 4 300 0 n0 (EM X G n0 4 300 (eW rvU σ n)) (k21 r1 x2 M) (σ, M, n) 21 [(0, .inr (.inl (some a0))), (1, .inr (.inl r1)), (2, .inl x2)] []) (r1 : Option Nat) (x2 : Int32) (M : Mm) : JS X G 4 300 0 n0 (EM X G n0 4 300 (eW rvU σ n)) (fStore_spread_j47 a0 k21 r1 x2 M) (σ, M, n) 47 [(0, .inr (.inl (some a0))), (1, .inr (.inl r1)), (2, .inl x2)] [] := by
  unfold fStore_spread_j47
  refine s_blk C 27 2 [0, 1, 2] (pc' := 21) (lv' := [(0, .inr (.inl (some a0))), (1, .inr (.inl r1)), (2, .inl (x2 + 1))]) (st' := []) rfl ?_
  exact H21 _ _ _
def fStore_spread_b21 (a0 : Nat) (k21 : Option Nat → Int32 → Mm → Option (Unit × Mm)) (r1 : Option Nat) (x2 : Int32) (M : Mm) : Option (Unit × Mm) :=
  if 5 ≤ x2 then
    some ((), M)
  else
    rk 8 (some a0) M fun _ =>
    bdR (fStore_freeNode a0 r1 M) fun v2 =>
    if v2 = (-1) then
      fStore_spread_j47 a0 k21 r1 x2 M
    else
      fgR 8 803 (some a0) M fun v3 =>
      rk 5 r1 M fun a4 =>
      bdW (fPart_place a4 x2 v2 v3 M) fun v7 M8 =>
      fStore_spread_j47 a0 k21 r1 x2 M8
theorem wStore_spread_b21 {X : MC} {G : GE} {n0 : Nat} (C : CX X G RX8 cX8_spread pStore_spread 4 none n0) (htab : ∀ z ∈ X.2.2.2.2.2.2.2.2.exceptionTable.toList, False) {σ : Sg} {n : Nat} (a0 : Nat) (k21 : Option Nat → Int32 → Mm → Option (Unit × Mm)) (H21 : ∀ (r1 : Option Nat) (x2 : Int32) (M : Mm), JS X G 4 300 0 n0 (EM X G n0 4 300 (eW rvU σ n)) (k21 r1 x2 M) (σ, M, n) 21 [(0, .inr (.inl (some a0))), (1, .inr (.inl r1)), (2, .inl x2)] []) (r1 : Option Nat) (x2 : Int32) (M : Mm) : JS X G 4 300 0 n0 (EM X G n0 4 300 (eW rvU σ n)) (fStore_spread_b21 a0 k21 r1 x2 M) (σ, M, n) 21 [(0, .inr (.inl (some a0))), (1, .inr (.inl r1)), (2, .inl x2)] [] := by
  unfold fStore_spread_b21
  refine s_blk C 11 2 [0, 1, 2] (pc' := 23) (lv' := [(0, .inr (.inl (some a0))), (1, .inr (.inl r1)), (2, .inl x2)]) (st' := [.inl 5, .inl x2]) rfl ?_
  refine s_icge C 13 rfl (fun _ => ?_) (fun _ => ?_)
  · exact s_vret C 29 rfl rfl
  refine s_blk C 14 2 [0, 1, 2] (pc' := 28) (lv' := [(0, .inr (.inl (some a0))), (1, .inr (.inl r1)), (2, .inl x2)]) (st' := [.inr (.inl r1), .inr (.inl (some a0))]) rfl ?_
  refine s_rks (fun hk1 => ?_)
  refine s_RI (CE_EM _ _ _ _ _ _) (st := []) (fun o ho => j_callV (As := [.inr (.inl r1)]) (st := []) (b := a0) C 16 rfl mf_Store_freeNode ml_X8_134 rfl (recv_K C (by decide) (by decide) rfl hk1) (by decide) (by decide) (Nat.le_refl _) rfl (cStore_freeNode (CX_tr C) σ M n a0 r1 o ho)) (fun v2 => ?_)
  refine s_blk C 17 3 [0, 1, 2, 3] (pc' := 34) (lv' := [(0, .inr (.inl (some a0))), (1, .inr (.inl r1)), (2, .inl x2), (3, .inl v2)]) (st' := [.inl (-1), .inl v2]) rfl ?_
  refine s_iceq C 20 rfl (fun _ => ?_) (fun _ => ?_)
  · refine s_blk C 0 0 [0, 1, 2] (pc' := 47) (lv' := [(0, .inr (.inl (some a0))), (1, .inr (.inl r1)), (2, .inl x2)]) (st' := []) rfl ?_
    exact wStore_spread_j47 C htab a0 k21 H21 _ _ _
  refine s_blk C 21 4 [0, 1, 2] (pc' := 41) (lv' := [(0, .inr (.inl (some a0))), (1, .inr (.inl r1)), (2, .inl x2)]) (st' := [.inr (.inl (some a0)), .inl v2, .inl x2, .inr (.inl r1)]) rfl ?_
  refine s_gR C 25 rfl fl_X8_32 rfl rfl (fun v3 => ?_)
  refine s_rk (fun a4 ha5 hk6 => ?_)
  subst ha5
  refine s_WU (CE_EM _ _ _ _ _ _) (st := []) (fun o ho => j_callV (As := [.inl x2, .inl v2, .inr (.inl v3)]) (st := []) (b := a4) C 26 rfl mf_Part_place ml_X8_138 rfl (recv_K C (by decide) (by decide) rfl hk6) (by decide) (by decide) (Nat.le_refl _) rfl (cPart_place (CX_tr C) σ M n a4 x2 v2 v3 o ho)) (fun v7 M8 => ?_)
  exact wStore_spread_j47 C htab a0 k21 H21 _ _ _
def fStore_spread_l21 (a0 : Nat) (fu : Nat) : Option Nat → Int32 → Mm → Option (Unit × Mm) := Nat.rec (fun r1 x2 M => none) (fun _ k => fStore_spread_b21 a0 k) fu
theorem wStore_spread_l21 {X : MC} {G : GE} {n0 : Nat} (C : CX X G RX8 cX8_spread pStore_spread 4 none n0) (htab : ∀ z ∈ X.2.2.2.2.2.2.2.2.exceptionTable.toList, False) {σ : Sg} {n : Nat} (a0 : Nat) : ∀ (fu : Nat) (r1 : Option Nat) (x2 : Int32) (M : Mm), JS X G 4 300 0 n0 (EM X G n0 4 300 (eW rvU σ n)) (fStore_spread_l21 a0 fu r1 x2 M) (σ, M, n) 21 [(0, .inr (.inl (some a0))), (1, .inr (.inl r1)), (2, .inl x2)] [] := by
  intro fu
  induction fu with
  | zero => intro r1 x2 M; exact s_none
  | succ fu ih => intro r1 x2 M; exact wStore_spread_b21 C htab a0 (fStore_spread_l21 a0 fu) ih _ _ _
def fStore_spread (a0 : Nat) (r1 : Option Nat) (M : Mm) : Option (Unit × Mm) :=
  rk 5 r1 M fun a1 =>
  bdW (fPart_loseAll a1 M) fun v4 M5 =>
  fgR 8 803 (some a0) M5 fun v6 =>
  rk 2 v6 M5 fun a7 =>
  bdW (fCode_takePlain a7 r1 M5) fun v10 M11 =>
  fgR 8 803 (some a0) M11 fun v12 =>
  rk 2 v12 M11 fun a13 =>
  bdW (fCode_encodePlain a13 M11) fun v16 M17 =>
  fStore_spread_l21 a0 FU r1 0 M17
theorem wStore_spread {X : MC} {G : GE} {n0 : Nat} (C : CX X G RX8 cX8_spread pStore_spread 4 none n0) (htab : ∀ z ∈ X.2.2.2.2.2.2.2.2.exceptionTable.toList, False) {σ : Sg} {n : Nat} (a0 : Nat) (r1 : Option Nat) (M : Mm) : JS X G 4 300 0 n0 (EM X G n0 4 300 (eW rvU σ n)) (fStore_spread a0 r1 M) (σ, M, n) 0 [(0, .inr (.inl (some a0))), (1, .inr (.inl r1))] [] := by
  unfold fStore_spread
  refine s_blk C 0 1 [0, 1] (pc' := 1) (lv' := [(0, .inr (.inl (some a0))), (1, .inr (.inl r1))]) (st' := [.inr (.inl r1)]) rfl ?_
  refine s_rk (fun a1 ha2 hk3 => ?_)
  subst ha2
  refine s_WU (CE_EM _ _ _ _ _ _) (st := []) (fun o ho => j_callV (As := []) (st := []) (b := a1) C 1 rfl mf_Part_loseAll ml_X8_125 rfl (recv_K C (by decide) (by decide) rfl hk3) (by decide) (by decide) (Nat.le_refl _) rfl (cPart_loseAll (CX_tr C) σ M n a1 o ho)) (fun v4 M5 => ?_)
  refine s_blk C 2 1 [0, 1] (pc' := 5) (lv' := [(0, .inr (.inl (some a0))), (1, .inr (.inl (some a1)))]) (st' := [.inr (.inl (some a0))]) rfl ?_
  refine s_gR C 3 rfl fl_X8_32 rfl rfl (fun v6 => ?_)
  refine s_blk C 4 1 [0, 1] (pc' := 9) (lv' := [(0, .inr (.inl (some a0))), (1, .inr (.inl (some a1)))]) (st' := [.inr (.inl (some a1)), .inr (.inl v6)]) rfl ?_
  refine s_rk (fun a7 ha8 hk9 => ?_)
  subst ha8
  refine s_WU (CE_EM _ _ _ _ _ _) (st := []) (fun o ho => j_callV (As := [.inr (.inl (some a1))]) (st := []) (b := a7) C 5 rfl mf_Code_takePlain ml_X8_128 rfl (recv_K C (by decide) (by decide) rfl hk9) (by decide) (by decide) (Nat.le_refl _) rfl (cCode_takePlain (CX_tr C) σ M5 n a7 (some a1) o ho)) (fun v10 M11 => ?_)
  refine s_blk C 6 1 [0, 1] (pc' := 13) (lv' := [(0, .inr (.inl (some a0))), (1, .inr (.inl (some a1)))]) (st' := [.inr (.inl (some a0))]) rfl ?_
  refine s_gR C 7 rfl fl_X8_32 rfl rfl (fun v12 => ?_)
  refine s_rk (fun a13 ha14 hk15 => ?_)
  subst ha14
  refine s_WU (CE_EM _ _ _ _ _ _) (st := []) (fun o ho => j_callV (As := []) (st := []) (b := a13) C 8 rfl mf_Code_encodePlain ml_X8_131 rfl (recv_K C (by decide) (by decide) rfl hk15) (by decide) (by decide) (Nat.le_refl _) rfl (cCode_encodePlain (CX_tr C) σ M11 n a13 o ho)) (fun v16 M17 => ?_)
  refine s_blk C 9 2 [0, 1, 2] (pc' := 21) (lv' := [(0, .inr (.inl (some a0))), (1, .inr (.inl (some a1))), (2, .inl 0)]) (st' := []) rfl ?_
  exact wStore_spread_l21 C htab a0 FU _ _ _
theorem cStore_spread {l : Launch} {G : GE} (htr : l.stackTraces = false) (σ : Sg) (M : Mm) (n : Nat) (a0 : Nat) (r1 : Option Nat) : ∀ o, fStore_spread a0 r1 M = some o → MetX l G yX8_spread cX8_spread 4 none 4 300 [.inr (.inl (some a0)), .inr (.inl r1)] (σ, M, n) ((eW rvU σ n) o) :=
  c_ofX (by decide) kStore_spread htr rfl rfl fun X _ _ C htab => wStore_spread C htab a0 r1 _
def pStore_takeIn_0 : List BR := [(0, .aload_n 0, 1, 0, 1), (1, .getfield 25, 3, 0, 4), (4, .aload_n 1, 1, 0, 5), (5, .invokevirtual 62, 3, 0, 8), (8, .aload_n 0, 1, 0, 9), (9, .getfield 25, 3, 0, 12), (12, .getfield 65, 3, 0, 15), (15, .iconst 0, 1, 0, 16), (16, .invokestatic 95, 3, 0, 19), (19, .newarray .int, 2, 0, 21), (21, .astore_n 2, 1, 0, 22), (22, .iconst 0, 1, 0, 23), (23, .istore_n 3, 1, 0, 24), (24, .iload_n 3, 1, 0, 25), (25, .aload_n 2, 1, 0, 26), (26, .arraylength, 1, 0, 27), (27, .if_icmp .ge (65), 3, 0, 92), (30, .aload_n 0, 1, 0, 31), (31, .aload_n 1, 1, 0, 32), (32, .aload_n 0, 1, 0, 33), (33, .getfield 25, 3, 0, 36), (36, .iload_n 3, 1, 0, 37), (37, .invokevirtual 69, 3, 0, 40), (40, .aload_n 0, 1, 0, 41), (41, .getfield 25, 3, 0, 44), (44, .iload_n 3, 1, 0, 45), (45, .invokevirtual 72, 3, 0, 48), (48, .invokevirtual 101, 3, 0, 51), (51, .astore 4, 2, 0, 53), (53, .aload 4, 2, 0, 55), (55, .invokevirtual 104, 3, 0, 58), (58, .ifCond .ne (9), 3, 0, 67), (61, .aload_n 0, 1, 0, 62), (62, .aload 4, 2, 0, 64), (64, .invokevirtual 108, 3, 0, 67), (67, .aload 4, 2, 0, 69), (69, .dup, 1, 0, 70), (70, .getfield 112, 3, 0, 73), (73, .iconst 1, 1, 1, 74), (74, .iadd, 1, 0, 75)]
theorem kStore_takeIn_0 : bOK cX8_takeIn 5 pStore_takeIn_0 = true := by decide +kernel
def pStore_takeIn_1 : List BR := [(75, .putfield 112, 3, 0, 78), (78, .aload_n 2, 1, 0, 79), (79, .iload_n 3, 1, 0, 80), (80, .aload 4, 2, 0, 82), (82, .getfield 115, 3, 0, 85), (85, .iastore, 1, 0, 86), (86, .iinc 3 (1), 3, 1, 89), (89, .goto (-65), 3, 0, 24), (92, .aload_n 2, 1, 0, 93), (93, .areturn, 1, 0, 94)]
theorem kStore_takeIn_1 : bOK cX8_takeIn 5 pStore_takeIn_1 = true := by decide +kernel
def pStore_takeIn : List BR := (pStore_takeIn_0 ++ pStore_takeIn_1)
theorem kStore_takeIn : bOK cX8_takeIn 5 pStore_takeIn = true := (bOK_app kStore_takeIn_0 kStore_takeIn_1)
def fStore_takeIn_j67 (a0 : Nat) (k24 : Option Nat → Option Nat → Int32 → Mm → Nat → Option ((Option Nat ⊕ Nat) × Mm × Nat)) (r1 : Option Nat) (r2 : Option Nat) (x3 : Int32) (r4 : Option Nat) (M : Mm) (n : Nat) : Option ((Option Nat ⊕ Nat) × Mm × Nat) :=
  fgI 5 506 r4 M fun v1 =>
  fpI 5 506 r4 (v1 + 1) M fun M2 =>
  fgI 5 500 r4 M2 fun v3 =>
  asI r2 x3 v3 M2 fun M4 =>
  k24 r1 r2 (x3 + 1) M4 n
theorem wStore_takeIn_j67 {X : MC} {G : GE} {n0 : Nat} (C : CX X G RX8 cX8_takeIn pStore_takeIn 5 (some (.array .int)) n0) (htab : ∀ z ∈ X.2.2.2.2.2.2.2.2.exceptionTable.toList, False) {σ : Sg} (a0 : Nat) (k24 : Option Nat → Option Nat → Int32 → Mm → Nat → Option ((Option Nat ⊕ Nat) × Mm × Nat)) (H24 : ∀ (r1 : Option Nat) (r2 : Option Nat) (x3 : Int32) (M : Mm) (n : Nat), JS X G 5 300 0 n0 (EM X G n0 9 300 (eC rvR σ)) (k24 r1 r2 x3 M n) (σ, M, n) 24 [(0, .inr (.inl (some a0))), (1, .inr (.inl r1)), (2, .inr (.inl r2)), (3, .inl x3)] []) (r1 : Option Nat) (r2 : Option Nat) (x3 : Int32) (r4 : Option Nat) (M : Mm) (n : Nat) : JS X G 5 300 0 n0 (EM X G n0 9 300 (eC rvR σ)) (fStore_takeIn_j67 a0 k24 r1 r2 x3 r4 M n) (σ, M, n) 67 [(0, .inr (.inl (some a0))), (1, .inr (.inl r1)), (2, .inr (.inl r2)), (3, .inl x3), (4, .inr (.inl r4))] [] := by
  unfold fStore_takeIn_j67
  refine s_blk C 35 2 [0, 1, 2, 3, 4] (pc' := 70) (lv' := [(0, .inr (.inl (some a0))), (1, .inr (.inl r1)), (2, .inr (.inl r2)), (3, .inl x3), (4, .inr (.inl r4))]) (st' := [.inr (.inl r4), .inr (.inl r4)]) rfl ?_
  refine s_gI C 37 rfl fl_X8_112 rfl rfl (fun v1 => ?_)
  refine s_blk C 38 2 [0, 1, 2, 3, 4] (pc' := 75) (lv' := [(0, .inr (.inl (some a0))), (1, .inr (.inl r1)), (2, .inr (.inl r2)), (3, .inl x3), (4, .inr (.inl r4))]) (st' := [.inl (v1 + 1), .inr (.inl r4)]) rfl ?_
  refine s_pI C 40 rfl fl_X8_112 fp_X8_5_6 (fun h => Bool.noConfusion h) rfl rfl (fun M2 _ => ?_)
  refine s_blk C 41 3 [0, 1, 2, 3] (pc' := 82) (lv' := [(0, .inr (.inl (some a0))), (1, .inr (.inl r1)), (2, .inr (.inl r2)), (3, .inl x3)]) (st' := [.inr (.inl r4), .inl x3, .inr (.inl r2)]) rfl ?_
  refine s_gI C 44 rfl fl_X8_115 rfl rfl (fun v3 => ?_)
  refine s_stI C 45 rfl (fun M4 _ => ?_)
  refine s_blk C 46 2 [0, 1, 2, 3] (pc' := 24) (lv' := [(0, .inr (.inl (some a0))), (1, .inr (.inl r1)), (2, .inr (.inl r2)), (3, .inl (x3 + 1))]) (st' := []) rfl ?_
  exact H24 _ _ _ _ _
def fStore_takeIn_b24 (a0 : Nat) (k24 : Option Nat → Option Nat → Int32 → Mm → Nat → Option ((Option Nat ⊕ Nat) × Mm × Nat)) (r1 : Option Nat) (r2 : Option Nat) (x3 : Int32) (M : Mm) (n : Nat) : Option ((Option Nat ⊕ Nat) × Mm × Nat) :=
  aln r2 M fun v1 =>
  if v1 ≤ x3 then
    some (.inl r2, M, n)
  else
    fgR 8 802 (some a0) M fun v2 =>
    rk 3 v2 M fun a3 =>
    bdR (fCut_startOf a3 x3 M) fun v6 =>
    fgR 8 802 (some a0) M fun v7 =>
    rk 3 v7 M fun a8 =>
    bdR (fCut_endOf a8 x3 M) fun v11 =>
    rk 8 (some a0) M fun _ =>
    bdC (fStore_findOrAdd a0 r1 v6 v11 M n) n fun v13 M14 n15 =>
    rk 5 v13 M14 fun a16 =>
    bdR (fPart_canBeRead a16 M14) fun v19 =>
    if v19 = 0 then
      rk 8 (some a0) M14 fun _ =>
      bdW (fStore_spread a0 v13 M14) fun v21 M22 =>
      fStore_takeIn_j67 a0 k24 r1 r2 x3 v13 M22 n15
    else
      fStore_takeIn_j67 a0 k24 r1 r2 x3 v13 M14 n15
theorem wStore_takeIn_b24 {X : MC} {G : GE} {n0 : Nat} (C : CX X G RX8 cX8_takeIn pStore_takeIn 5 (some (.array .int)) n0) (htab : ∀ z ∈ X.2.2.2.2.2.2.2.2.exceptionTable.toList, False) {σ : Sg} (a0 : Nat) (k24 : Option Nat → Option Nat → Int32 → Mm → Nat → Option ((Option Nat ⊕ Nat) × Mm × Nat)) (H24 : ∀ (r1 : Option Nat) (r2 : Option Nat) (x3 : Int32) (M : Mm) (n : Nat), JS X G 5 300 0 n0 (EM X G n0 9 300 (eC rvR σ)) (k24 r1 r2 x3 M n) (σ, M, n) 24 [(0, .inr (.inl (some a0))), (1, .inr (.inl r1)), (2, .inr (.inl r2)), (3, .inl x3)] []) (r1 : Option Nat) (r2 : Option Nat) (x3 : Int32) (M : Mm) (n : Nat) : JS X G 5 300 0 n0 (EM X G n0 9 300 (eC rvR σ)) (fStore_takeIn_b24 a0 k24 r1 r2 x3 M n) (σ, M, n) 24 [(0, .inr (.inl (some a0))), (1, .inr (.inl r1)), (2, .inr (.inl r2)), (3, .inl x3)] [] := by
  unfold fStore_takeIn_b24
  refine s_blk C 13 2 [0, 1, 2, 3] (pc' := 26) (lv' := [(0, .inr (.inl (some a0))), (1, .inr (.inl r1)), (2, .inr (.inl r2)), (3, .inl x3)]) (st' := [.inr (.inl r2), .inl x3]) rfl ?_
  refine s_len C 15 rfl (fun v1 => ?_)
  refine s_icge C 16 rfl (fun _ => ?_) (fun _ => ?_)
  · refine s_blk C 48 1 [] (pc' := 93) (lv' := []) (st' := [.inr (.inl r2)]) rfl ?_
    exact s_aret (Or.inr ⟨_, rfl⟩) C 49 rfl rfl
  refine s_blk C 17 3 [0, 1, 2, 3] (pc' := 33) (lv' := [(0, .inr (.inl (some a0))), (1, .inr (.inl r1)), (2, .inr (.inl r2)), (3, .inl x3)]) (st' := [.inr (.inl (some a0)), .inr (.inl r1), .inr (.inl (some a0))]) rfl ?_
  refine s_gR C 20 rfl fl_X8_25 rfl rfl (fun v2 => ?_)
  refine s_blk C 21 1 [0, 1, 2, 3] (pc' := 37) (lv' := [(0, .inr (.inl (some a0))), (1, .inr (.inl r1)), (2, .inr (.inl r2)), (3, .inl x3)]) (st' := [.inl x3, .inr (.inl v2), .inr (.inl r1), .inr (.inl (some a0))]) rfl ?_
  refine s_rk (fun a3 ha4 hk5 => ?_)
  subst ha4
  refine s_RI (CE_EM _ _ _ _ _ _) (st := [.inr (.inl r1), .inr (.inl (some a0))]) (fun o ho => j_callV (As := [.inl x3]) (st := [.inr (.inl r1), .inr (.inl (some a0))]) (b := a3) C 22 rfl mf_Cut_startOf ml_X8_69 rfl (recv_K C (by decide) (by decide) rfl hk5) (by decide) (by decide) (Nat.le_refl _) rfl (cCut_startOf (CX_tr C) σ M n a3 x3 o ho)) (fun v6 => ?_)
  refine s_blk C 23 1 [0, 1, 2, 3] (pc' := 41) (lv' := [(0, .inr (.inl (some a0))), (1, .inr (.inl r1)), (2, .inr (.inl r2)), (3, .inl x3)]) (st' := [.inr (.inl (some a0)), .inl v6, .inr (.inl r1), .inr (.inl (some a0))]) rfl ?_
  refine s_gR C 24 rfl fl_X8_25 rfl rfl (fun v7 => ?_)
  refine s_blk C 25 1 [0, 1, 2, 3] (pc' := 45) (lv' := [(0, .inr (.inl (some a0))), (1, .inr (.inl r1)), (2, .inr (.inl r2)), (3, .inl x3)]) (st' := [.inl x3, .inr (.inl v7), .inl v6, .inr (.inl r1), .inr (.inl (some a0))]) rfl ?_
  refine s_rk (fun a8 ha9 hk10 => ?_)
  subst ha9
  refine s_RI (CE_EM _ _ _ _ _ _) (st := [.inl v6, .inr (.inl r1), .inr (.inl (some a0))]) (fun o ho => j_callV (As := [.inl x3]) (st := [.inl v6, .inr (.inl r1), .inr (.inl (some a0))]) (b := a8) C 26 rfl mf_Cut_endOf ml_X8_72 rfl (recv_K C (by decide) (by decide) rfl hk10) (by decide) (by decide) (Nat.le_refl _) rfl (cCut_endOf (CX_tr C) σ M n a8 x3 o ho)) (fun v11 => ?_)
  refine s_rks (fun hk12 => ?_)
  refine s_CR C htab (st := []) (fun o ho => j_callV (As := [.inr (.inl r1), .inl v6, .inl v11]) (st := []) (b := a0) C 27 rfl mf_Store_findOrAdd ml_X8_101 rfl (recv_K C (by decide) (by decide) rfl hk12) (by decide) (by decide) (Nat.le_refl _) rfl (cStore_findOrAdd (CX_tr C) σ M n a0 r1 v6 v11 o ho)) (fun v13 M14 n15 _ => ?_)
  refine s_blk C 28 2 [0, 1, 2, 3, 4] (pc' := 55) (lv' := [(0, .inr (.inl (some a0))), (1, .inr (.inl r1)), (2, .inr (.inl r2)), (3, .inl x3), (4, .inr (.inl v13))]) (st' := [.inr (.inl v13)]) rfl ?_
  refine s_rk (fun a16 ha17 hk18 => ?_)
  subst ha17
  refine s_RI (CE_EM _ _ _ _ _ _) (st := []) (fun o ho => j_callV (As := []) (st := []) (b := a16) C 30 rfl mf_Part_canBeRead ml_X8_104 rfl (recv_K C (by decide) (by decide) rfl hk18) (by decide) (by decide) (Nat.le_refl _) rfl (cPart_canBeRead (CX_tr C) σ M14 n15 a16 o ho)) (fun v19 => ?_)
  refine s_ine C 31 rfl (fun _ => ?_) (fun _ => ?_)
  · refine s_blk C 32 2 [0, 1, 2, 3, 4] (pc' := 64) (lv' := [(0, .inr (.inl (some a0))), (1, .inr (.inl r1)), (2, .inr (.inl r2)), (3, .inl x3), (4, .inr (.inl (some a16)))]) (st' := [.inr (.inl (some a16)), .inr (.inl (some a0))]) rfl ?_
    refine s_rks (fun hk20 => ?_)
    refine s_WU (CE_EM _ _ _ _ _ _) (st := []) (fun o ho => j_callV (As := [.inr (.inl (some a16))]) (st := []) (b := a0) C 34 rfl mf_Store_spread ml_X8_108 rfl (recv_K C (by decide) (by decide) rfl hk20) (by decide) (by decide) (Nat.le_refl _) rfl (cStore_spread (CX_tr C) σ M14 n15 a0 (some a16) o ho)) (fun v21 M22 => ?_)
    exact wStore_takeIn_j67 C htab a0 k24 H24 _ _ _ _ _ _
  exact wStore_takeIn_j67 C htab a0 k24 H24 _ _ _ _ _ _
def fStore_takeIn_l24 (a0 : Nat) (fu : Nat) : Option Nat → Option Nat → Int32 → Mm → Nat → Option ((Option Nat ⊕ Nat) × Mm × Nat) := Nat.rec (fun r1 r2 x3 M n => none) (fun _ k => fStore_takeIn_b24 a0 k) fu
theorem wStore_takeIn_l24 {X : MC} {G : GE} {n0 : Nat} (C : CX X G RX8 cX8_takeIn pStore_takeIn 5 (some (.array .int)) n0) (htab : ∀ z ∈ X.2.2.2.2.2.2.2.2.exceptionTable.toList, False) {σ : Sg} (a0 : Nat) : ∀ (fu : Nat) (r1 : Option Nat) (r2 : Option Nat) (x3 : Int32) (M : Mm) (n : Nat), JS X G 5 300 0 n0 (EM X G n0 9 300 (eC rvR σ)) (fStore_takeIn_l24 a0 fu r1 r2 x3 M n) (σ, M, n) 24 [(0, .inr (.inl (some a0))), (1, .inr (.inl r1)), (2, .inr (.inl r2)), (3, .inl x3)] [] := by
  intro fu
  induction fu with
  | zero => intro r1 r2 x3 M n; exact s_none
  | succ fu ih => intro r1 r2 x3 M n; exact wStore_takeIn_b24 C htab a0 (fStore_takeIn_l24 a0 fu) ih _ _ _ _ _
def fStore_takeIn (a0 : Nat) (r1 : Option Nat) (M : Mm) (n : Nat) : Option ((Option Nat ⊕ Nat) × Mm × Nat) :=
  fgR 8 802 (some a0) M fun v1 =>
  rk 3 v1 M fun a2 =>
  bdW (fCut_cut a2 r1 M) fun v5 M6 =>
  fgR 8 802 (some a0) M6 fun v7 =>
  fgI 3 302 v7 M6 fun v8 =>
  nwA 21 300 (if v8 < 0 then 0 else v8) M6 n fun y9 M10 n11 =>
  fStore_takeIn_l24 a0 FU r1 y9 0 M10 n11
theorem wStore_takeIn {X : MC} {G : GE} {n0 : Nat} (C : CX X G RX8 cX8_takeIn pStore_takeIn 5 (some (.array .int)) n0) (htab : ∀ z ∈ X.2.2.2.2.2.2.2.2.exceptionTable.toList, False) {σ : Sg} (a0 : Nat) (r1 : Option Nat) (M : Mm) (n : Nat) : JS X G 5 300 0 n0 (EM X G n0 9 300 (eC rvR σ)) (fStore_takeIn a0 r1 M n) (σ, M, n) 0 [(0, .inr (.inl (some a0))), (1, .inr (.inl r1))] [] := by
  unfold fStore_takeIn
  refine s_blk C 0 1 [0, 1] (pc' := 1) (lv' := [(0, .inr (.inl (some a0))), (1, .inr (.inl r1))]) (st' := [.inr (.inl (some a0))]) rfl ?_
  refine s_gR C 1 rfl fl_X8_25 rfl rfl (fun v1 => ?_)
  refine s_blk C 2 1 [0, 1] (pc' := 5) (lv' := [(0, .inr (.inl (some a0))), (1, .inr (.inl r1))]) (st' := [.inr (.inl r1), .inr (.inl v1)]) rfl ?_
  refine s_rk (fun a2 ha3 hk4 => ?_)
  subst ha3
  refine s_WU (CE_EM _ _ _ _ _ _) (st := []) (fun o ho => j_callV (As := [.inr (.inl r1)]) (st := []) (b := a2) C 3 rfl mf_Cut_cut ml_X8_62 rfl (recv_K C (by decide) (by decide) rfl hk4) (by decide) (by decide) (Nat.le_refl _) rfl (cCut_cut (CX_tr C) σ M n a2 r1 o ho)) (fun v5 M6 => ?_)
  refine s_blk C 4 1 [0, 1] (pc' := 9) (lv' := [(0, .inr (.inl (some a0))), (1, .inr (.inl r1))]) (st' := [.inr (.inl (some a0))]) rfl ?_
  refine s_gR C 5 rfl fl_X8_25 rfl rfl (fun v7 => ?_)
  refine s_gI C 6 rfl fl_X8_65 rfl rfl (fun v8 => ?_)
  refine s_blk C 7 1 [0, 1] (pc' := 16) (lv' := [(0, .inr (.inl (some a0))), (1, .inr (.inl r1))]) (st' := [.inl 0, .inl v8]) rfl ?_
  refine s_max C (CE_EM _ _ _ _ _ _) 8 rfl ml_X8_95 (by decide) rfl ?_
  refine s_newI C (CE_EM _ _ _ _ _ _) 9 rfl (by decide) (by decide) (fun y9 M10 n11 _ _ => ?_)
  refine s_blk C 10 3 [0, 1, 2, 3] (pc' := 24) (lv' := [(0, .inr (.inl (some a0))), (1, .inr (.inl r1)), (2, .inr (.inl y9)), (3, .inl 0)]) (st' := []) rfl ?_
  exact wStore_takeIn_l24 C htab a0 FU _ _ _ _ _
theorem cStore_takeIn {l : Launch} {G : GE} (htr : l.stackTraces = false) (σ : Sg) (M : Mm) (n : Nat) (a0 : Nat) (r1 : Option Nat) : ∀ o, fStore_takeIn a0 r1 M n = some o → MetX l G yX8_takeIn cX8_takeIn 5 (some (.array .int)) 9 300 [.inr (.inl (some a0)), .inr (.inl r1)] (σ, M, n) ((eC rvR σ) o) :=
  c_ofX (by decide) kStore_takeIn htr rfl rfl fun X _ _ C htab => wStore_takeIn C htab a0 r1 _ _
def pVersion_init : List BR := [(0, .aload_n 0, 1, 0, 1), (1, .invokespecial 3, 3, 0, 4), (4, .aload_n 0, 1, 0, 5), (5, .iconst (-1), 1, -1, 6), (6, .putfield 9, 3, 0, 9), (9, .aload_n 0, 1, 0, 10), (10, .iconst (-1), 1, -1, 11), (11, .putfield 15, 3, 0, 14), (14, .aload_n 0, 1, 0, 15), (15, .aload_n 1, 1, 0, 16), (16, .putfield 18, 3, 0, 19), (19, .aload_n 0, 1, 0, 20), (20, .aload_n 2, 1, 0, 21), (21, .putfield 22, 3, 0, 24), (24, .return_, 1, 0, 25)]
theorem kVersion_init : bOK cX10_init 3 pVersion_init = true := by decide +kernel
def fVersion_init (a0 : Nat) (r1 : Option Nat) (r2 : Option Nat) (M : Mm) : Option (Unit × Mm) :=
  fpI 10 1003 (some a0) (-1) M fun M1 =>
  fpI 10 1004 (some a0) (-1) M1 fun M2 =>
  fpR 10 1000 (some a0) r1 M2 fun M3 =>
  fpR 10 1001 (some a0) r2 M3 fun M4 =>
  some ((), M4)
theorem wVersion_init {X : MC} {G : GE} {n0 : Nat} (C : CX X G RX10 cX10_init pVersion_init 3 none n0) (htab : ∀ z ∈ X.2.2.2.2.2.2.2.2.exceptionTable.toList, False) (hin : X.2.2.2.2.2.2.2.1.name = "<init>") {σ : Sg} {n : Nat} (a0 : Nat) (r1 : Option Nat) (r2 : Option Nat) (M : Mm) : JS X G 3 300 0 n0 (EM X G n0 2 300 (eW rvU σ n)) (fVersion_init a0 r1 r2 M) (σ, M, n) 0 [(0, .inr (.inl (some a0))), (1, .inr (.inl r1)), (2, .inr (.inl r2))] [] := by
  unfold fVersion_init
  refine s_blk C 0 1 [0, 1, 2] (pc' := 1) (lv' := [(0, .inr (.inl (some a0))), (1, .inr (.inl r1)), (2, .inr (.inl r2))]) (st' := [.inr (.inl (some a0))]) rfl ?_
  refine s_sup C (CE_EM _ _ _ _ _ _) 1 rfl ml_X10_3 (by decide) rfl ?_
  refine s_blk C 2 2 [0, 1, 2] (pc' := 6) (lv' := [(0, .inr (.inl (some a0))), (1, .inr (.inl r1)), (2, .inr (.inl r2))]) (st' := [.inl (-1), .inr (.inl (some a0))]) rfl ?_
  refine s_pI C 4 rfl fl_X10_9 fp_X10_10_3 (fun h => Bool.noConfusion h) rfl rfl (fun M1 _ => ?_)
  refine s_blk C 5 2 [0, 1, 2] (pc' := 11) (lv' := [(0, .inr (.inl (some a0))), (1, .inr (.inl r1)), (2, .inr (.inl r2))]) (st' := [.inl (-1), .inr (.inl (some a0))]) rfl ?_
  refine s_pI C 7 rfl fl_X10_15 fp_X10_10_4 (fun h => Bool.noConfusion h) rfl rfl (fun M2 _ => ?_)
  refine s_blk C 8 2 [0, 2] (pc' := 16) (lv' := [(0, .inr (.inl (some a0))), (2, .inr (.inl r2))]) (st' := [.inr (.inl r1), .inr (.inl (some a0))]) rfl ?_
  refine s_pR C 10 rfl fl_X10_18 fp_X10_10_0 (fun _ => hin) rfl rfl rfl (fun M3 _ => ?_)
  refine s_blk C 11 2 [] (pc' := 21) (lv' := []) (st' := [.inr (.inl r2), .inr (.inl (some a0))]) rfl ?_
  refine s_pR C 13 rfl fl_X10_22 fp_X10_10_1 (fun _ => hin) rfl rfl rfl (fun M4 _ => ?_)
  exact s_vret C 14 rfl rfl
theorem cVersion_init {l : Launch} {G : GE} (htr : l.stackTraces = false) (σ : Sg) (M : Mm) (n : Nat) (a0 : Nat) (r1 : Option Nat) (r2 : Option Nat) : ∀ o, fVersion_init a0 r1 r2 M = some o → MetX l G yX10_init cX10_init 3 none 2 300 [.inr (.inl (some a0)), .inr (.inl r1), .inr (.inl r2)] (σ, M, n) ((eW rvU σ n) o) :=
  c_ofX (by decide) kVersion_init htr rfl rfl fun X _ hin C htab => wVersion_init C htab hin a0 r1 r2 _
def pAl_rangeCheckForAdd : List BR := [(0, .iload_n 1, 1, 0, 1), (1, .aload_n 0, 1, 0, 2), (2, .getfield 48, 3, 0, 5), (5, .if_icmp .gt (7), 3, 0, 12), (8, .iload_n 1, 1, 0, 9), (9, .ifCond .ge (16), 3, 0, 25), (12, .new 187, 3, 0, 15), (15, .dup, 1, 0, 16), (16, .aload_n 0, 1, 0, 17), (17, .iload_n 1, 1, 0, 18), (18, .invokevirtual 198, 3, 0, 21), (21, .invokespecial 193, 3, 0, 24), (24, .athrow, 1, 0, 25), (25, .return_, 1, 0, 26)]
theorem kAl_rangeCheckForAdd : bOK cJx4a65c_rangeCheckForAdd_d00df 2 pAl_rangeCheckForAdd = true := by decide +kernel
def fAl_rangeCheckForAdd_j12 (a0 : Nat) (x1 : Int32) (M : Mm) : Option (Unit) :=
  none
theorem wAl_rangeCheckForAdd_j12 {X : MC} {G : GE} {n0 : Nat} (C : CX X G RJx4a65c cJx4a65c_rangeCheckForAdd_d00df pAl_rangeCheckForAdd 2 none n0) (htab : ∀ z ∈ X.2.2.2.2.2.2.2.2.exceptionTable.toList, False) {σ : Sg} {M : Mm} {n : Nat} (a0 : Nat) (x1 : Int32) : JS X G 2 300 0 n0 (EM X G n0 2 300 (eR rvU σ M n)) (fAl_rangeCheckForAdd_j12 a0 x1 M) (σ, M, n) 12 [(0, .inr (.inl (some a0))), (1, .inl x1)] [] := by
  unfold fAl_rangeCheckForAdd_j12
  exact s_none
def fAl_rangeCheckForAdd (a0 : Nat) (x1 : Int32) (M : Mm) : Option (Unit) :=
  fgI 12 1202 (some a0) M fun v1 =>
  if v1 < x1 then
    fAl_rangeCheckForAdd_j12 a0 x1 M
  else
    if 0 ≤ x1 then
      some ()
    else
      fAl_rangeCheckForAdd_j12 a0 x1 M
theorem wAl_rangeCheckForAdd {X : MC} {G : GE} {n0 : Nat} (C : CX X G RJx4a65c cJx4a65c_rangeCheckForAdd_d00df pAl_rangeCheckForAdd 2 none n0) (htab : ∀ z ∈ X.2.2.2.2.2.2.2.2.exceptionTable.toList, False) {σ : Sg} {M : Mm} {n : Nat} (a0 : Nat) (x1 : Int32) : JS X G 2 300 0 n0 (EM X G n0 2 300 (eR rvU σ M n)) (fAl_rangeCheckForAdd a0 x1 M) (σ, M, n) 0 [(0, .inr (.inl (some a0))), (1, .inl x1)] [] := by
  unfold fAl_rangeCheckForAdd
  refine s_blk C 0 2 [0, 1] (pc' := 2) (lv' := [(0, .inr (.inl (some a0))), (1, .inl x1)]) (st' := [.inr (.inl (some a0)), .inl x1]) rfl ?_
  refine s_gI C 2 rfl fl_Jx4a65c_48 rfl rfl (fun v1 => ?_)
  refine s_icgt C 3 rfl (fun _ => ?_) (fun _ => ?_)
  · exact wAl_rangeCheckForAdd_j12 C htab a0 _
  refine s_blk C 4 1 [0, 1] (pc' := 9) (lv' := [(0, .inr (.inl (some a0))), (1, .inl x1)]) (st' := [.inl x1]) rfl ?_
  refine s_ige C 5 rfl (fun _ => ?_) (fun _ => ?_)
  · exact s_vret C 13 rfl rfl
  exact wAl_rangeCheckForAdd_j12 C htab a0 _
theorem cAl_rangeCheckForAdd {l : Launch} {G : GE} (htr : l.stackTraces = false) (σ : Sg) (M : Mm) (n : Nat) (a0 : Nat) (x1 : Int32) : ∀ o, fAl_rangeCheckForAdd a0 x1 M = some o → MetX l G yJx4a65c_rangeCheckForAdd_d00df cJx4a65c_rangeCheckForAdd_d00df 2 none 2 300 [.inr (.inl (some a0)), .inl x1] (σ, M, n) ((eR rvU σ M n) o) :=
  c_ofX (by decide) kAl_rangeCheckForAdd htr rfl rfl fun X _ _ C htab => wAl_rangeCheckForAdd C htab a0 x1

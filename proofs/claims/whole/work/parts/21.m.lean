def pPc_checkIndex : List BR := [(0, .iload_n 0, 1, 0, 1), (1, .ifCond .lt (8), 3, 0, 9), (4, .iload_n 0, 1, 0, 5), (5, .iload_n 1, 1, 0, 6), (6, .if_icmp .lt (10), 3, 0, 16), (9, .aload_n 2, 1, 0, 10), (10, .iload_n 0, 1, 0, 11), (11, .iload_n 1, 1, 0, 12), (12, .invokestatic 95, 3, 0, 15), (15, .athrow, 1, 0, 16), (16, .iload_n 0, 1, 0, 17), (17, .ireturn, 1, 0, 18)]
theorem kPc_checkIndex : bOK cJ3_checkIndex_8e157 3 pPc_checkIndex = true := by decide +kernel
def fPc_checkIndex_j9 (x0 : Int32) (x1 : Int32) (r2 : Option Nat) : Option (Int32) :=
  none
theorem wPc_checkIndex_j9 {X : MC} {G : GE} {n0 : Nat} (C : CX X G RJ3 cJ3_checkIndex_8e157 pPc_checkIndex 3 (some .int) n0) (htab : ∀ z ∈ X.2.2.2.2.2.2.2.2.exceptionTable.toList, False) {σ : Sg} {M : Mm} {n : Nat} (x0 : Int32) (x1 : Int32) (r2 : Option Nat) : JS X G 3 300 0 n0 (EM X G n0 2 300 (eR rvI σ M n)) (fPc_checkIndex_j9 x0 x1 r2) (σ, M, n) 9 [(0, .inl x0), (1, .inl x1), (2, .inr (.inl r2))] [] := by
  unfold fPc_checkIndex_j9
  refine s_blk C 5 3 [] (pc' := 12) (lv' := []) (st' := [.inl x1, .inl x0, .inr (.inl r2)]) rfl ?_
  exact s_none
def fPc_checkIndex (x0 : Int32) (x1 : Int32) (r2 : Option Nat) : Option (Int32) :=
  if x0 < 0 then
    fPc_checkIndex_j9 x0 x1 r2
  else
    if x0 < x1 then
      some x0
    else
      fPc_checkIndex_j9 x0 x1 r2
theorem wPc_checkIndex {X : MC} {G : GE} {n0 : Nat} (C : CX X G RJ3 cJ3_checkIndex_8e157 pPc_checkIndex 3 (some .int) n0) (htab : ∀ z ∈ X.2.2.2.2.2.2.2.2.exceptionTable.toList, False) {σ : Sg} {M : Mm} {n : Nat} (x0 : Int32) (x1 : Int32) (r2 : Option Nat) : JS X G 3 300 0 n0 (EM X G n0 2 300 (eR rvI σ M n)) (fPc_checkIndex x0 x1 r2) (σ, M, n) 0 [(0, .inl x0), (1, .inl x1), (2, .inr (.inl r2))] [] := by
  unfold fPc_checkIndex
  refine s_blk C 0 1 [0, 1, 2] (pc' := 1) (lv' := [(0, .inl x0), (1, .inl x1), (2, .inr (.inl r2))]) (st' := [.inl x0]) rfl ?_
  refine s_ilt C 1 rfl (fun _ => ?_) (fun _ => ?_)
  · exact wPc_checkIndex_j9 C htab _ _ _
  refine s_blk C 2 2 [0, 1, 2] (pc' := 6) (lv' := [(0, .inl x0), (1, .inl x1), (2, .inr (.inl r2))]) (st' := [.inl x1, .inl x0]) rfl ?_
  refine s_iclt C 4 rfl (fun _ => ?_) (fun _ => ?_)
  · refine s_blk C 10 1 [] (pc' := 17) (lv' := []) (st' := [.inl x0]) rfl ?_
    exact s_iret C 11 rfl rfl
  exact wPc_checkIndex_j9 C htab _ _ _
theorem cPc_checkIndex {l : Launch} {G : GE} (htr : l.stackTraces = false) (σ : Sg) (M : Mm) (n : Nat) (x0 : Int32) (x1 : Int32) (r2 : Option Nat) : ∀ o, fPc_checkIndex x0 x1 r2 = some o → MetX l G yJ3_checkIndex_8e157 cJ3_checkIndex_8e157 3 (some .int) 2 300 [.inl x0, .inl x1, .inr (.inl r2)] (σ, M, n) ((eR rvI σ M n) o) :=
  c_ofX (by decide) kPc_checkIndex htr rfl rfl fun X _ _ C htab => wPc_checkIndex C htab x0 x1 r2
def pOb_checkIndex : List BR := [(0, .iload_n 0, 1, 0, 1), (1, .iload_n 1, 1, 0, 2), (2, .aconst_null, 1, 0, 3), (3, .invokestatic 105, 3, 0, 6), (6, .ireturn, 1, 0, 7)]
theorem kOb_checkIndex : bOK cJ15_checkIndex_7cf53 2 pOb_checkIndex = true := by decide +kernel
def fOb_checkIndex (x0 : Int32) (x1 : Int32) : Option (Int32) :=
  bdR (fPc_checkIndex x0 x1 none) fun v1 =>
  some v1
theorem wOb_checkIndex {X : MC} {G : GE} {n0 : Nat} (C : CX X G RJ15 cJ15_checkIndex_7cf53 pOb_checkIndex 2 (some .int) n0) (htab : ∀ z ∈ X.2.2.2.2.2.2.2.2.exceptionTable.toList, False) {σ : Sg} {M : Mm} {n : Nat} (x0 : Int32) (x1 : Int32) : JS X G 2 300 0 n0 (EM X G n0 3 300 (eR rvI σ M n)) (fOb_checkIndex x0 x1) (σ, M, n) 0 [(0, .inl x0), (1, .inl x1)] [] := by
  unfold fOb_checkIndex
  refine s_blk C 0 3 [] (pc' := 3) (lv' := []) (st' := [.inr (.inl none), .inl x1, .inl x0]) rfl ?_
  refine s_RI (CE_EM _ _ _ _ _ _) (st := []) (fun o ho => j_callS (As := [.inl x0, .inl x1, .inr (.inl none)]) (st := []) C 3 rfl mf_Pc_checkIndex ml_J15_105 rfl (by decide) (by decide) (Nat.le_refl _) rfl (cPc_checkIndex (CX_tr C) σ M n x0 x1 none o ho)) (fun v1 => ?_)
  exact s_iret C 4 rfl rfl
theorem cOb_checkIndex {l : Launch} {G : GE} (htr : l.stackTraces = false) (σ : Sg) (M : Mm) (n : Nat) (x0 : Int32) (x1 : Int32) : ∀ o, fOb_checkIndex x0 x1 = some o → MetX l G yJ15_checkIndex_7cf53 cJ15_checkIndex_7cf53 2 (some .int) 3 300 [.inl x0, .inl x1] (σ, M, n) ((eR rvI σ M n) o) :=
  c_ofX (by decide) kOb_checkIndex htr rfl rfl fun X _ _ C htab => wOb_checkIndex C htab x0 x1
def pAl_elementData : List BR := [(0, .aload_n 0, 1, 0, 1), (1, .getfield 9, 3, 0, 4), (4, .iload_n 1, 1, 0, 5), (5, .aaload, 1, 0, 6), (6, .areturn, 1, 0, 7)]
theorem kAl_elementData : bOK cJx4a65c_elementData_915e3 2 pAl_elementData = true := by decide +kernel
def fAl_elementData (a0 : Nat) (x1 : Int32) (M : Mm) : Option (Option Nat) :=
  fgR 12 1201 (some a0) M fun v1 =>
  alP 23 v1 x1 M fun v2 =>
  some v2
theorem wAl_elementData {X : MC} {G : GE} {n0 : Nat} (C : CX X G RJx4a65c cJx4a65c_elementData_915e3 pAl_elementData 2 (some (.object "java/lang/Object")) n0) (htab : ∀ z ∈ X.2.2.2.2.2.2.2.2.exceptionTable.toList, False) {σ : Sg} {M : Mm} {n : Nat} (a0 : Nat) (x1 : Int32) : JS X G 2 300 0 n0 (EM X G n0 2 300 (eR rvR σ M n)) (fAl_elementData a0 x1 M) (σ, M, n) 0 [(0, .inr (.inl (some a0))), (1, .inl x1)] [] := by
  unfold fAl_elementData
  refine s_blk C 0 1 [1] (pc' := 1) (lv' := [(1, .inl x1)]) (st' := [.inr (.inl (some a0))]) rfl ?_
  refine s_gR C 1 rfl fl_Jx4a65c_9 rfl rfl (fun v1 => ?_)
  refine s_blk C 2 1 [] (pc' := 5) (lv' := []) (st' := [.inl x1, .inr (.inl v1)]) rfl ?_
  refine s_ldO C 3 rfl (fun v2 => ?_)
  exact s_aret (Or.inl ⟨_, rfl⟩) C 4 rfl rfl
theorem cAl_elementData {l : Launch} {G : GE} (htr : l.stackTraces = false) (σ : Sg) (M : Mm) (n : Nat) (a0 : Nat) (x1 : Int32) : ∀ o, fAl_elementData a0 x1 M = some o → MetX l G yJx4a65c_elementData_915e3 cJx4a65c_elementData_915e3 2 (some (.object "java/lang/Object")) 2 300 [.inr (.inl (some a0)), .inl x1] (σ, M, n) ((eR rvR σ M n) o) :=
  c_ofX (by decide) kAl_elementData htr rfl rfl fun X _ _ C htab => wAl_elementData C htab a0 x1
def pAl_get : List BR := [(0, .iload_n 1, 1, 0, 1), (1, .aload_n 0, 1, 0, 2), (2, .getfield 48, 3, 0, 5), (5, .invokestatic 118, 3, 0, 8), (8, .pop, 1, 0, 9), (9, .aload_n 0, 1, 0, 10), (10, .iload_n 1, 1, 0, 11), (11, .invokevirtual 123, 3, 0, 14), (14, .areturn, 1, 0, 15)]
theorem kAl_get : bOK cJx4a65c_get_915e3 2 pAl_get = true := by decide +kernel
def fAl_get (a0 : Nat) (x1 : Int32) (M : Mm) : Option (Option Nat) :=
  fgI 12 1202 (some a0) M fun v1 =>
  bdR (fOb_checkIndex x1 v1) fun v2 =>
  rk 12 (some a0) M fun _ =>
  bdR (fAl_elementData a0 x1 M) fun v4 =>
  some v4
theorem wAl_get {X : MC} {G : GE} {n0 : Nat} (C : CX X G RJx4a65c cJx4a65c_get_915e3 pAl_get 2 (some (.object "java/lang/Object")) n0) (htab : ∀ z ∈ X.2.2.2.2.2.2.2.2.exceptionTable.toList, False) {σ : Sg} {M : Mm} {n : Nat} (a0 : Nat) (x1 : Int32) : JS X G 2 300 0 n0 (EM X G n0 4 300 (eR rvR σ M n)) (fAl_get a0 x1 M) (σ, M, n) 0 [(0, .inr (.inl (some a0))), (1, .inl x1)] [] := by
  unfold fAl_get
  refine s_blk C 0 2 [0, 1] (pc' := 2) (lv' := [(0, .inr (.inl (some a0))), (1, .inl x1)]) (st' := [.inr (.inl (some a0)), .inl x1]) rfl ?_
  refine s_gI C 2 rfl fl_Jx4a65c_48 rfl rfl (fun v1 => ?_)
  refine s_RI (CE_EM _ _ _ _ _ _) (st := []) (fun o ho => j_callS (As := [.inl x1, .inl v1]) (st := []) C 3 rfl mf_Ob_checkIndex ml_Jx4a65c_118 rfl (by decide) (by decide) (Nat.le_refl _) rfl (cOb_checkIndex (CX_tr C) σ M n x1 v1 o ho)) (fun v2 => ?_)
  refine s_blk C 4 3 [] (pc' := 11) (lv' := []) (st' := [.inl x1, .inr (.inl (some a0))]) rfl ?_
  refine s_rks (fun hk3 => ?_)
  refine s_RR (CE_EM _ _ _ _ _ _) (st := []) (fun o ho => j_callV (As := [.inl x1]) (st := []) (b := a0) C 7 rfl mf_Al_elementData ml_Jx4a65c_123 rfl (recv_K C (by decide) (by decide) rfl hk3) (by decide) (by decide) (Nat.le_refl _) rfl (cAl_elementData (CX_tr C) σ M n a0 x1 o ho)) (fun v4 => ?_)
  exact s_aret (Or.inl ⟨_, rfl⟩) C 8 rfl rfl
theorem cAl_get {l : Launch} {G : GE} (htr : l.stackTraces = false) (σ : Sg) (M : Mm) (n : Nat) (a0 : Nat) (x1 : Int32) : ∀ o, fAl_get a0 x1 M = some o → MetX l G yJx4a65c_get_915e3 cJx4a65c_get_915e3 2 (some (.object "java/lang/Object")) 4 300 [.inr (.inl (some a0)), .inl x1] (σ, M, n) ((eR rvR σ M n) o) :=
  c_ofX (by decide) kAl_get htr rfl rfl fun X _ _ C htab => wAl_get C htab a0 x1
def pRegion_find : List BR := [(0, .iconst 0, 1, 0, 1), (1, .istore_n 3, 1, 0, 2), (2, .iload_n 3, 1, 0, 3), (3, .aload_n 0, 1, 0, 4), (4, .getfield 21, 3, 0, 7), (7, .invokevirtual 32, 3, 0, 10), (10, .if_icmp .ge (55), 3, 0, 65), (13, .aload_n 0, 1, 0, 14), (14, .getfield 21, 3, 0, 17), (17, .iload_n 3, 1, 0, 18), (18, .invokevirtual 36, 3, 0, 21), (21, .checkcast 40, 3, 0, 24), (24, .getfield 42, 3, 0, 27), (27, .astore 4, 2, 0, 29), (29, .aload 4, 2, 0, 31), (31, .getfield 46, 3, 0, 34), (34, .iload_n 1, 1, 0, 35), (35, .if_icmp .ne (24), 3, 0, 59), (38, .aload 4, 2, 0, 40), (40, .getfield 52, 3, 0, 43), (43, .iload_n 2, 1, 0, 44), (44, .if_icmp .ne (15), 3, 0, 59), (47, .aload_n 0, 1, 0, 48), (48, .getfield 21, 3, 0, 51), (51, .iload_n 3, 1, 0, 52), (52, .invokevirtual 36, 3, 0, 55), (55, .checkcast 40, 3, 0, 58), (58, .areturn, 1, 0, 59), (59, .iinc 3 (1), 3, 1, 62), (62, .goto (-60), 3, 0, 2), (65, .aconst_null, 1, 0, 66), (66, .areturn, 1, 0, 67)]
theorem kRegion_find : bOK cX6_find 5 pRegion_find = true := by decide +kernel
def fRegion_find_j59 (a0 : Nat) (k2 : Int32 → Int32 → Int32 → Mm → Option (Option Nat)) (x1 : Int32) (x2 : Int32) (x3 : Int32) (M : Mm) : Option (Option Nat) :=
  k2 x1 x2 (x3 + 1) M
theorem wRegion_find_j59 {X : MC} {G : GE} {n0 : Nat} (C : CX X G RX6 cX6_find pRegion_find 5 (some (.object "BlobHarbor$Version")) n0) (htab : ∀ z ∈ X.2.2.2.2.2.2.2.2.exceptionTable.toList, False) {σ : Sg} {M : Mm} {n : Nat} (a0 : Nat) (k2 : Int32 → Int32 → Int32 → Mm → Option (Option Nat)) (H2 : ∀ (x1 : Int32) (x2 : Int32) (x3 : Int32), JS X G 5 300 0 n0 (EM X G n0 5 300 (eR rvR σ M n)) (k2 x1 x2 x3 M) (σ, M, n) 2 [(0, .inr (.inl (some a0))), (1, .inl x1), (2, .inl x2), (3, .inl x3)] []) (x1 : Int32) (x2 : Int32) (x3 : Int32) : JS X G 5 300 0 n0 (EM X G n0 5 300 (eR rvR σ M n)) (fRegion_find_j59 a0 k2 x1 x2 x3 M) (σ, M, n) 59 [(0, .inr (.inl (some a0))), (1, .inl x1), (2, .inl x2), (3, .inl x3)] [] := by
  unfold fRegion_find_j59
  refine s_blk C 28 2 [0, 1, 2, 3] (pc' := 2) (lv' := [(0, .inr (.inl (some a0))), (1, .inl x1), (2, .inl x2), (3, .inl (x3 + 1))]) (st' := []) rfl ?_
  exact H2 _ _ _
def fRegion_find_b2 (a0 : Nat) (k2 : Int32 → Int32 → Int32 → Mm → Option (Option Nat)) (x1 : Int32) (x2 : Int32) (x3 : Int32) (M : Mm) : Option (Option Nat) :=
  fgR 6 601 (some a0) M fun v1 =>
  rk 12 v1 M fun a2 =>
  bdR (fAl_size a2 M) fun v5 =>
  if v5 ≤ x3 then
    some none
  else
    fgR 6 601 (some a0) M fun v6 =>
    rk 12 v6 M fun a7 =>
    bdR (fAl_get a7 x3 M) fun v10 =>
    fca 10 v10 M fun v11 =>
    fgR 10 1000 v11 M fun v12 =>
    fgI 4 400 v12 M fun v13 =>
    if v13 = x1 then
      fgI 4 401 v12 M fun v14 =>
      if v14 = x2 then
        fgR 6 601 (some a0) M fun v15 =>
        rk 12 v15 M fun a16 =>
        bdR (fAl_get a16 x3 M) fun v19 =>
        fca 10 v19 M fun v20 =>
        some v20
      else
        fRegion_find_j59 a0 k2 x1 x2 x3 M
    else
      fRegion_find_j59 a0 k2 x1 x2 x3 M
theorem wRegion_find_b2 {X : MC} {G : GE} {n0 : Nat} (C : CX X G RX6 cX6_find pRegion_find 5 (some (.object "BlobHarbor$Version")) n0) (htab : ∀ z ∈ X.2.2.2.2.2.2.2.2.exceptionTable.toList, False) {σ : Sg} {M : Mm} {n : Nat} (a0 : Nat) (k2 : Int32 → Int32 → Int32 → Mm → Option (Option Nat)) (H2 : ∀ (x1 : Int32) (x2 : Int32) (x3 : Int32), JS X G 5 300 0 n0 (EM X G n0 5 300 (eR rvR σ M n)) (k2 x1 x2 x3 M) (σ, M, n) 2 [(0, .inr (.inl (some a0))), (1, .inl x1), (2, .inl x2), (3, .inl x3)] []) (x1 : Int32) (x2 : Int32) (x3 : Int32) : JS X G 5 300 0 n0 (EM X G n0 5 300 (eR rvR σ M n)) (fRegion_find_b2 a0 k2 x1 x2 x3 M) (σ, M, n) 2 [(0, .inr (.inl (some a0))), (1, .inl x1), (2, .inl x2), (3, .inl x3)] [] := by
  unfold fRegion_find_b2
  refine s_blk C 2 2 [0, 1, 2, 3] (pc' := 4) (lv' := [(0, .inr (.inl (some a0))), (1, .inl x1), (2, .inl x2), (3, .inl x3)]) (st' := [.inr (.inl (some a0)), .inl x3]) rfl ?_
  refine s_gR C 4 rfl fl_X6_21 rfl rfl (fun v1 => ?_)
  refine s_rk (fun a2 ha3 hk4 => ?_)
  subst ha3
  refine s_RI (CE_EM _ _ _ _ _ _) (st := [.inl x3]) (fun o ho => j_callV (As := []) (st := [.inl x3]) (b := a2) C 5 rfl mf_Al_size ml_X6_32 rfl (recv_K C (by decide) (by decide) rfl hk4) (by decide) (by decide) (Nat.le_refl _) rfl (cAl_size (CX_tr C) σ M n a2 o ho)) (fun v5 => ?_)
  refine s_icge C 6 rfl (fun _ => ?_) (fun _ => ?_)
  · refine s_blk C 30 1 [] (pc' := 66) (lv' := []) (st' := [.inr (.inl none)]) rfl ?_
    exact s_aret (Or.inl ⟨_, rfl⟩) C 31 rfl rfl
  refine s_blk C 7 1 [0, 1, 2, 3] (pc' := 14) (lv' := [(0, .inr (.inl (some a0))), (1, .inl x1), (2, .inl x2), (3, .inl x3)]) (st' := [.inr (.inl (some a0))]) rfl ?_
  refine s_gR C 8 rfl fl_X6_21 rfl rfl (fun v6 => ?_)
  refine s_blk C 9 1 [0, 1, 2, 3] (pc' := 18) (lv' := [(0, .inr (.inl (some a0))), (1, .inl x1), (2, .inl x2), (3, .inl x3)]) (st' := [.inl x3, .inr (.inl v6)]) rfl ?_
  refine s_rk (fun a7 ha8 hk9 => ?_)
  subst ha8
  refine s_RR (CE_EM _ _ _ _ _ _) (st := []) (fun o ho => j_callV (As := [.inl x3]) (st := []) (b := a7) C 10 rfl mf_Al_get ml_X6_36 rfl (recv_K C (by decide) (by decide) rfl hk9) (by decide) (by decide) (Nat.le_refl _) rfl (cAl_get (CX_tr C) σ M n a7 x3 o ho)) (fun v10 => ?_)
  refine s_cast C 11 rfl rfl (by decide) (by decide) cw_X6_40 (fun v11 => ?_)
  refine s_gR C 12 rfl fl_X6_42 rfl rfl (fun v12 => ?_)
  refine s_blk C 13 2 [0, 1, 2, 3, 4] (pc' := 31) (lv' := [(0, .inr (.inl (some a0))), (1, .inl x1), (2, .inl x2), (3, .inl x3), (4, .inr (.inl v12))]) (st' := [.inr (.inl v12)]) rfl ?_
  refine s_gI C 15 rfl fl_X6_46 rfl rfl (fun v13 => ?_)
  refine s_blk C 16 1 [0, 1, 2, 3, 4] (pc' := 35) (lv' := [(0, .inr (.inl (some a0))), (1, .inl x1), (2, .inl x2), (3, .inl x3), (4, .inr (.inl v12))]) (st' := [.inl x1, .inl v13]) rfl ?_
  refine s_icne C 17 rfl (fun _ => ?_) (fun _ => ?_)
  · refine s_blk C 18 1 [0, 1, 2, 3] (pc' := 40) (lv' := [(0, .inr (.inl (some a0))), (1, .inl x1), (2, .inl x2), (3, .inl x3)]) (st' := [.inr (.inl v12)]) rfl ?_
    refine s_gI C 19 rfl fl_X6_52 rfl rfl (fun v14 => ?_)
    refine s_blk C 20 1 [0, 1, 2, 3] (pc' := 44) (lv' := [(0, .inr (.inl (some a0))), (1, .inl x1), (2, .inl x2), (3, .inl x3)]) (st' := [.inl x2, .inl v14]) rfl ?_
    refine s_icne C 21 rfl (fun _ => ?_) (fun _ => ?_)
    · refine s_blk C 22 1 [3] (pc' := 48) (lv' := [(3, .inl x3)]) (st' := [.inr (.inl (some a0))]) rfl ?_
      refine s_gR C 23 rfl fl_X6_21 rfl rfl (fun v15 => ?_)
      refine s_blk C 24 1 [] (pc' := 52) (lv' := []) (st' := [.inl x3, .inr (.inl v15)]) rfl ?_
      refine s_rk (fun a16 ha17 hk18 => ?_)
      subst ha17
      refine s_RR (CE_EM _ _ _ _ _ _) (st := []) (fun o ho => j_callV (As := [.inl x3]) (st := []) (b := a16) C 25 rfl mf_Al_get ml_X6_36 rfl (recv_K C (by decide) (by decide) rfl hk18) (by decide) (by decide) (Nat.le_refl _) rfl (cAl_get (CX_tr C) σ M n a16 x3 o ho)) (fun v19 => ?_)
      refine s_cast C 26 rfl rfl (by decide) (by decide) cw_X6_40 (fun v20 => ?_)
      exact s_aret (Or.inl ⟨_, rfl⟩) C 27 rfl rfl
    exact wRegion_find_j59 C htab a0 k2 H2 _ _ _
  refine s_blk C 0 0 [0, 1, 2, 3] (pc' := 59) (lv' := [(0, .inr (.inl (some a0))), (1, .inl x1), (2, .inl x2), (3, .inl x3)]) (st' := []) rfl ?_
  exact wRegion_find_j59 C htab a0 k2 H2 _ _ _
def fRegion_find_l2 (a0 : Nat) (fu : Nat) : Int32 → Int32 → Int32 → Mm → Option (Option Nat) := Nat.rec (fun x1 x2 x3 M => none) (fun _ k => fRegion_find_b2 a0 k) fu
theorem wRegion_find_l2 {X : MC} {G : GE} {n0 : Nat} (C : CX X G RX6 cX6_find pRegion_find 5 (some (.object "BlobHarbor$Version")) n0) (htab : ∀ z ∈ X.2.2.2.2.2.2.2.2.exceptionTable.toList, False) {σ : Sg} {M : Mm} {n : Nat} (a0 : Nat) : ∀ (fu : Nat) (x1 : Int32) (x2 : Int32) (x3 : Int32), JS X G 5 300 0 n0 (EM X G n0 5 300 (eR rvR σ M n)) (fRegion_find_l2 a0 fu x1 x2 x3 M) (σ, M, n) 2 [(0, .inr (.inl (some a0))), (1, .inl x1), (2, .inl x2), (3, .inl x3)] [] := by
  intro fu
  induction fu with
  | zero => intro x1 x2 x3; exact s_none
  | succ fu ih => intro x1 x2 x3; exact wRegion_find_b2 C htab a0 (fRegion_find_l2 a0 fu) ih _ _ _
def fRegion_find (a0 : Nat) (x1 : Int32) (x2 : Int32) (M : Mm) : Option (Option Nat) :=
  fRegion_find_l2 a0 FU x1 x2 0 M
theorem wRegion_find {X : MC} {G : GE} {n0 : Nat} (C : CX X G RX6 cX6_find pRegion_find 5 (some (.object "BlobHarbor$Version")) n0) (htab : ∀ z ∈ X.2.2.2.2.2.2.2.2.exceptionTable.toList, False) {σ : Sg} {M : Mm} {n : Nat} (a0 : Nat) (x1 : Int32) (x2 : Int32) : JS X G 5 300 0 n0 (EM X G n0 5 300 (eR rvR σ M n)) (fRegion_find a0 x1 x2 M) (σ, M, n) 0 [(0, .inr (.inl (some a0))), (1, .inl x1), (2, .inl x2)] [] := by
  unfold fRegion_find
  refine s_blk C 0 2 [0, 1, 2, 3] (pc' := 2) (lv' := [(0, .inr (.inl (some a0))), (1, .inl x1), (2, .inl x2), (3, .inl 0)]) (st' := []) rfl ?_
  exact wRegion_find_l2 C htab a0 FU _ _ _
theorem cRegion_find {l : Launch} {G : GE} (htr : l.stackTraces = false) (σ : Sg) (M : Mm) (n : Nat) (a0 : Nat) (x1 : Int32) (x2 : Int32) : ∀ o, fRegion_find a0 x1 x2 M = some o → MetX l G yX6_find cX6_find 5 (some (.object "BlobHarbor$Version")) 5 300 [.inr (.inl (some a0)), .inl x1, .inl x2] (σ, M, n) ((eR rvR σ M n) o) :=
  c_ofX (by decide) kRegion_find htr rfl rfl fun X _ _ C htab => wRegion_find C htab a0 x1 x2
def pHb_versionOf : List BR := [(0, .aload_n 0, 1, 0, 1), (1, .iload_n 1, 1, 0, 2), (2, .iload_n 2, 1, 0, 3), (3, .invokevirtual 303, 3, 0, 6), (6, .astore_n 3, 1, 0, 7), (7, .aload_n 3, 1, 0, 8), (8, .ifnonnull (14), 3, 0, 22), (11, .new 286, 3, 0, 14), (14, .dup, 1, 0, 15), (15, .ldc_w 307, 3, 0, 18), (18, .invokespecial 290, 3, 0, 21), (21, .athrow, 1, 0, 22), (22, .aload_n 3, 1, 0, 23), (23, .areturn, 1, 0, 24)]
theorem kHb_versionOf : bOK cX11_versionOf 4 pHb_versionOf = true := by decide +kernel
def fHb_versionOf (r0 : Option Nat) (x1 : Int32) (x2 : Int32) (M : Mm) (n : Nat) : Option ((Option Nat ⊕ Nat) × Mm × Nat) :=
  rk 6 r0 M fun a1 =>
  bdR (fRegion_find a1 x1 x2 M) fun v4 =>
  ifN v4
    (some (.inr 0, M, n + 1))
    (some (.inl v4, M, n))
theorem wHb_versionOf {X : MC} {G : GE} {n0 : Nat} (C : CX X G RX11 cX11_versionOf pHb_versionOf 4 (some (.object "BlobHarbor$Version")) n0) (htab : ∀ z ∈ X.2.2.2.2.2.2.2.2.exceptionTable.toList, False) {σ : Sg} (r0 : Option Nat) (x1 : Int32) (x2 : Int32) (M : Mm) (n : Nat) : JS X G 4 300 0 n0 (EM X G n0 6 300 (eC rvR σ)) (fHb_versionOf r0 x1 x2 M n) (σ, M, n) 0 [(0, .inr (.inl r0)), (1, .inl x1), (2, .inl x2)] [] := by
  unfold fHb_versionOf
  refine s_blk C 0 3 [] (pc' := 3) (lv' := []) (st' := [.inl x2, .inl x1, .inr (.inl r0)]) rfl ?_
  refine s_rk (fun a1 ha2 hk3 => ?_)
  subst ha2
  refine s_RR (CE_EM _ _ _ _ _ _) (st := []) (fun o ho => j_callV (As := [.inl x1, .inl x2]) (st := []) (b := a1) C 3 rfl mf_Region_find ml_X11_303 rfl (recv_K C (by decide) (by decide) rfl hk3) (by decide) (by decide) (Nat.le_refl _) rfl (cRegion_find (CX_tr C) σ M n a1 x1 x2 o ho)) (fun v4 => ?_)
  refine s_blk C 4 2 [3] (pc' := 8) (lv' := [(3, .inr (.inl v4))]) (st' := [.inr (.inl v4)]) rfl ?_
  refine s_nonnull C 6 rfl ?_ ?_
  · exact s_thr C htab th_307 7 rfl rfl rfl rfl rfl (by decide) (by decide) rfl
  refine s_blk C 12 1 [] (pc' := 23) (lv' := []) (st' := [.inr (.inl v4)]) rfl ?_
  exact s_aret (Or.inl ⟨_, rfl⟩) C 13 rfl rfl
theorem cHb_versionOf {l : Launch} {G : GE} (htr : l.stackTraces = false) (σ : Sg) (M : Mm) (n : Nat) (r0 : Option Nat) (x1 : Int32) (x2 : Int32) : ∀ o, fHb_versionOf r0 x1 x2 M n = some o → MetX l G yX11_versionOf cX11_versionOf 4 (some (.object "BlobHarbor$Version")) 6 300 [.inr (.inl r0), .inl x1, .inl x2] (σ, M, n) ((eC rvR σ) o) :=
  c_ofX (by decide) kHb_versionOf htr rfl rfl fun X _ _ C htab => wHb_versionOf C htab r0 x1 x2 _ _
def pHb_checkArgument : List BR := [(0, .iload_n 0, 1, 0, 1), (1, .ifCond .ne (14), 3, 0, 15), (4, .new 293, 3, 0, 7), (7, .dup, 1, 0, 8), (8, .ldc_w 295, 3, 0, 11), (11, .invokespecial 297, 3, 0, 14), (14, .athrow, 1, 0, 15), (15, .return_, 1, 0, 16)]
theorem kHb_checkArgument : bOK cX11_checkArgument 1 pHb_checkArgument = true := by decide +kernel
def fHb_checkArgument (x0 : Int32) (M : Mm) (n : Nat) : Option ((Unit ⊕ Nat) × Mm × Nat) :=
  if x0 = 0 then
    some (.inr 1, M, n + 1)
  else
    some (.inl (), M, n)
theorem wHb_checkArgument {X : MC} {G : GE} {n0 : Nat} (C : CX X G RX11 cX11_checkArgument pHb_checkArgument 1 none n0) (htab : ∀ z ∈ X.2.2.2.2.2.2.2.2.exceptionTable.toList, False) {σ : Sg} (x0 : Int32) (M : Mm) (n : Nat) : JS X G 1 300 0 n0 (EM X G n0 6 300 (eC rvU σ)) (fHb_checkArgument x0 M n) (σ, M, n) 0 [(0, .inl x0)] [] := by
  unfold fHb_checkArgument
  refine s_blk C 0 1 [] (pc' := 1) (lv' := []) (st' := [.inl x0]) rfl ?_
  refine s_ine C 1 rfl (fun _ => ?_) (fun _ => ?_)
  · exact s_thr C htab th_295 2 rfl rfl rfl rfl rfl (by decide) (by decide) rfl
  exact s_vret C 7 rfl rfl
theorem cHb_checkArgument {l : Launch} {G : GE} (htr : l.stackTraces = false) (σ : Sg) (M : Mm) (n : Nat) (x0 : Int32) : ∀ o, fHb_checkArgument x0 M n = some o → MetX l G yX11_checkArgument cX11_checkArgument 1 none 6 300 [.inl x0] (σ, M, n) ((eC rvU σ) o) :=
  c_ofX (by decide) kHb_checkArgument htr rfl rfl fun X _ _ C htab => wHb_checkArgument C htab x0 _ _
def pHb_checkRange : List BR := [(0, .iload_n 0, 1, 0, 1), (1, .iload_n 1, 1, 0, 2), (2, .if_icmp .lt (12), 3, 0, 14), (5, .iload_n 0, 1, 0, 6), (6, .iload_n 2, 1, 0, 7), (7, .if_icmp .gt (7), 3, 0, 14), (10, .iconst 1, 1, 1, 11), (11, .goto (4), 3, 0, 15), (14, .iconst 0, 1, 0, 15), (15, .invokestatic 72, 3, 0, 18), (18, .return_, 1, 0, 19)]
theorem kHb_checkRange : bOK cX11_checkRange 3 pHb_checkRange = true := by decide +kernel
def fHb_checkRange_j15 (s0 : Int32) (M : Mm) (n : Nat) : Option ((Unit ⊕ Nat) × Mm × Nat) :=
  bdC (fHb_checkArgument s0 M n) n fun v1 M2 n3 =>
  some (.inl (), M2, n3)
theorem wHb_checkRange_j15 {X : MC} {G : GE} {n0 : Nat} (C : CX X G RX11 cX11_checkRange pHb_checkRange 3 none n0) (htab : ∀ z ∈ X.2.2.2.2.2.2.2.2.exceptionTable.toList, False) {σ : Sg} (s0 : Int32) (M : Mm) (n : Nat) : JS X G 3 300 0 n0 (EM X G n0 7 300 (eC rvU σ)) (fHb_checkRange_j15 s0 M n) (σ, M, n) 15 [] [.inl s0] := by
  unfold fHb_checkRange_j15
  refine s_CU C htab (st := []) (fun o ho => j_callS (As := [.inl s0]) (st := []) C 9 rfl mf_Hb_checkArgument ml_X11_72 rfl (by decide) (by decide) (Nat.le_refl _) rfl (cHb_checkArgument (CX_tr C) σ M n s0 o ho)) (fun v1 M2 n3 _ => ?_)
  exact s_vret C 10 rfl rfl
def fHb_checkRange_j14 (M : Mm) (n : Nat) : Option ((Unit ⊕ Nat) × Mm × Nat) :=
  fHb_checkRange_j15 0 M n
theorem wHb_checkRange_j14 {X : MC} {G : GE} {n0 : Nat} (C : CX X G RX11 cX11_checkRange pHb_checkRange 3 none n0) (htab : ∀ z ∈ X.2.2.2.2.2.2.2.2.exceptionTable.toList, False) {σ : Sg} (M : Mm) (n : Nat) : JS X G 3 300 0 n0 (EM X G n0 7 300 (eC rvU σ)) (fHb_checkRange_j14 M n) (σ, M, n) 14 [] [] := by
  unfold fHb_checkRange_j14
  refine s_blk C 8 1 [] (pc' := 15) (lv' := []) (st' := [.inl 0]) rfl ?_
  exact wHb_checkRange_j15 C htab _ _ _
def fHb_checkRange (x0 : Int32) (x1 : Int32) (x2 : Int32) (M : Mm) (n : Nat) : Option ((Unit ⊕ Nat) × Mm × Nat) :=
  if x0 < x1 then
    fHb_checkRange_j14 M n
  else
    if x2 < x0 then
      fHb_checkRange_j14 M n
    else
      fHb_checkRange_j15 1 M n
theorem wHb_checkRange {X : MC} {G : GE} {n0 : Nat} (C : CX X G RX11 cX11_checkRange pHb_checkRange 3 none n0) (htab : ∀ z ∈ X.2.2.2.2.2.2.2.2.exceptionTable.toList, False) {σ : Sg} (x0 : Int32) (x1 : Int32) (x2 : Int32) (M : Mm) (n : Nat) : JS X G 3 300 0 n0 (EM X G n0 7 300 (eC rvU σ)) (fHb_checkRange x0 x1 x2 M n) (σ, M, n) 0 [(0, .inl x0), (1, .inl x1), (2, .inl x2)] [] := by
  unfold fHb_checkRange
  refine s_blk C 0 2 [0, 2] (pc' := 2) (lv' := [(0, .inl x0), (2, .inl x2)]) (st' := [.inl x1, .inl x0]) rfl ?_
  refine s_iclt C 2 rfl (fun _ => ?_) (fun _ => ?_)
  · refine s_blk C 0 0 [] (pc' := 14) (lv' := []) (st' := []) rfl ?_
    exact wHb_checkRange_j14 C htab _ _
  refine s_blk C 3 2 [] (pc' := 7) (lv' := []) (st' := [.inl x2, .inl x0]) rfl ?_
  refine s_icgt C 5 rfl (fun _ => ?_) (fun _ => ?_)
  · exact wHb_checkRange_j14 C htab _ _
  refine s_blk C 6 2 [] (pc' := 15) (lv' := []) (st' := [.inl 1]) rfl ?_
  exact wHb_checkRange_j15 C htab _ _ _
theorem cHb_checkRange {l : Launch} {G : GE} (htr : l.stackTraces = false) (σ : Sg) (M : Mm) (n : Nat) (x0 : Int32) (x1 : Int32) (x2 : Int32) : ∀ o, fHb_checkRange x0 x1 x2 M n = some o → MetX l G yX11_checkRange cX11_checkRange 3 none 7 300 [.inl x0, .inl x1, .inl x2] (σ, M, n) ((eC rvU σ) o) :=
  c_ofX (by decide) kHb_checkRange htr rfl rfl fun X _ _ C htab => wHb_checkRange C htab x0 x1 x2 _ _
def pEntry_isMark : List BR := [(0, .aload_n 0, 1, 0, 1), (1, .getfield 10, 3, 0, 4), (4, .getfield 26, 3, 0, 7), (7, .ifCond .ne (7), 3, 0, 14), (10, .iconst 1, 1, 1, 11), (11, .goto (4), 3, 0, 15), (14, .iconst 0, 1, 0, 15), (15, .ireturn, 1, 0, 16)]
theorem kEntry_isMark : bOK cX3_isMark 1 pEntry_isMark = true := by decide +kernel
def fEntry_isMark (a0 : Nat) (M : Mm) : Option (Int32) :=
  fgR 4 403 (some a0) M fun v1 =>
  fgI 1 101 v1 M fun v2 =>
  if v2 = 0 then
    rZ 1 (some 1)
  else
    rZ 0 (some 0)
theorem wEntry_isMark {X : MC} {G : GE} {n0 : Nat} (C : CX X G RX3 cX3_isMark pEntry_isMark 1 (some .boolean) n0) (htab : ∀ z ∈ X.2.2.2.2.2.2.2.2.exceptionTable.toList, False) {σ : Sg} {M : Mm} {n : Nat} (a0 : Nat) : JS X G 1 300 0 n0 (EM X G n0 2 300 (eR rvI σ M n)) (fEntry_isMark a0 M) (σ, M, n) 0 [(0, .inr (.inl (some a0)))] [] := by
  unfold fEntry_isMark
  refine s_blk C 0 1 [] (pc' := 1) (lv' := []) (st' := [.inr (.inl (some a0))]) rfl ?_
  refine s_gR C 1 rfl fl_X3_10 rfl rfl (fun v1 => ?_)
  refine s_gI C 2 rfl fl_X3_26 rfl rfl (fun v2 => ?_)
  refine s_ine C 3 rfl (fun _ => ?_) (fun _ => ?_)
  · refine s_blk C 4 2 [] (pc' := 15) (lv' := []) (st' := [.inl 1]) rfl ?_
    exact s_zret C 7 rfl rfl
  refine s_blk C 6 1 [] (pc' := 15) (lv' := []) (st' := [.inl 0]) rfl ?_
  exact s_zret C 7 rfl rfl
theorem cEntry_isMark {l : Launch} {G : GE} (htr : l.stackTraces = false) (σ : Sg) (M : Mm) (n : Nat) (a0 : Nat) : ∀ o, fEntry_isMark a0 M = some o → MetX l G yX3_isMark cX3_isMark 1 (some .boolean) 2 300 [.inr (.inl (some a0))] (σ, M, n) ((eR rvI σ M n) o) :=
  c_ofX (by decide) kEntry_isMark htr rfl rfl fun X _ _ C htab => wEntry_isMark C htab a0
def pHb_about : List BR := [(0, .aload_n 0, 1, 0, 1), (1, .iload_n 1, 1, 0, 2), (2, .invokevirtual 65, 3, 0, 5), (5, .iload_n 2, 1, 0, 6), (6, .iload_n 3, 1, 0, 7), (7, .invokestatic 91, 3, 0, 10), (10, .astore 5, 2, 0, 12), (12, .iload 4, 2, 0, 14), (14, .iconst 0, 1, 0, 15), (15, .iconst 5, 1, 5, 16), (16, .invokestatic 46, 3, 0, 19), (19, .iload 4, 2, 0, 21), (21, .tableswitch (75) (0) (4) #[(35), (47), (54), (60), (69)], 35, 0, 56), (56, .aload 5, 2, 0, 58), (58, .getfield 196, 3, 0, 61), (61, .getfield 200, 3, 0, 64), (64, .getfield 50, 3, 0, 67), (67, .ireturn, 1, 0, 68), (68, .aload 5, 2, 0, 70), (70, .getfield 205, 3, 0, 73), (73, .arraylength, 1, 0, 74), (74, .ireturn, 1, 0, 75), (75, .aload 5, 2, 0, 77), (77, .getfield 208, 3, 0, 80), (80, .ireturn, 1, 0, 81), (81, .aload 5, 2, 0, 83), (83, .getfield 196, 3, 0, 86), (86, .getfield 211, 3, 0, 89), (89, .ireturn, 1, 0, 90), (90, .aload 5, 2, 0, 92), (92, .getfield 112, 3, 0, 95), (95, .ireturn, 1, 0, 96), (96, .aload 5, 2, 0, 98), (98, .getfield 196, 3, 0, 101), (101, .invokevirtual 212, 3, 0, 104), (104, .ifCond .eq (7), 3, 0, 111), (107, .iconst 1, 1, 1, 108), (108, .goto (4), 3, 0, 112), (111, .iconst 0, 1, 0, 112), (112, .ireturn, 1, 0, 113)]
theorem kHb_about : bOK cX11_about 6 pHb_about = true := by decide +kernel
def fHb_about (a0 : Nat) (x1 : Int32) (x2 : Int32) (x3 : Int32) (x4 : Int32) (M : Mm) (n : Nat) : Option ((Int32 ⊕ Nat) × Mm × Nat) :=
  rk 11 (some a0) M fun _ =>
  bdC (fHb_regionOf a0 x1 M n) n fun v2 M3 n4 =>
  bdC (fHb_versionOf v2 x2 x3 M3 n4) n4 fun v5 M6 n7 =>
  bdC (fHb_checkRange x4 0 5 M6 n7) n7 fun v8 M9 n10 =>
  tsw 0 4 x4 (tsl [
    (fgR 10 1000 v5 M9 fun v16 =>
    fgR 4 403 v16 M9 fun v17 =>
    fgI 1 101 v17 M9 fun v18 =>
    some (.inl v18, M9, n10)),
    (fgR 10 1001 v5 M9 fun v19 =>
    aln v19 M9 fun v20 =>
    some (.inl v20, M9, n10)),
    (fgI 10 1002 v5 M9 fun v21 =>
    some (.inl v21, M9, n10)),
    (fgR 10 1000 v5 M9 fun v22 =>
    fgI 4 402 v22 M9 fun v23 =>
    some (.inl v23, M9, n10)),
    (fgI 10 1003 v5 M9 fun v24 =>
    some (.inl v24, M9, n10))])
    (fgR 10 1000 v5 M9 fun v11 =>
    rk 4 v11 M9 fun a12 =>
    bdR (fEntry_isMark a12 M9) fun v15 =>
    if v15 = 0 then
      some (.inl 0, M9, n10)
    else
      some (.inl 1, M9, n10))
theorem wHb_about {X : MC} {G : GE} {n0 : Nat} (C : CX X G RX11 cX11_about pHb_about 6 (some .int) n0) (htab : ∀ z ∈ X.2.2.2.2.2.2.2.2.exceptionTable.toList, False) {σ : Sg} (a0 : Nat) (x1 : Int32) (x2 : Int32) (x3 : Int32) (x4 : Int32) (M : Mm) (n : Nat) : JS X G 6 300 0 n0 (EM X G n0 8 300 (eC rvI σ)) (fHb_about a0 x1 x2 x3 x4 M n) (σ, M, n) 0 [(0, .inr (.inl (some a0))), (1, .inl x1), (2, .inl x2), (3, .inl x3), (4, .inl x4)] [] := by
  unfold fHb_about
  refine s_blk C 0 2 [2, 3, 4] (pc' := 2) (lv' := [(2, .inl x2), (3, .inl x3), (4, .inl x4)]) (st' := [.inl x1, .inr (.inl (some a0))]) rfl ?_
  refine s_rks (fun hk1 => ?_)
  refine s_CR C htab (st := []) (fun o ho => j_callV (As := [.inl x1]) (st := []) (b := a0) C 2 rfl mf_Hb_regionOf ml_X11_65 rfl (recv_K C (by decide) (by decide) rfl hk1) (by decide) (by decide) (Nat.le_refl _) rfl (cHb_regionOf (CX_tr C) σ M n a0 x1 o ho)) (fun v2 M3 n4 _ => ?_)
  refine s_blk C 3 2 [4] (pc' := 7) (lv' := [(4, .inl x4)]) (st' := [.inl x3, .inl x2, .inr (.inl v2)]) rfl ?_
  refine s_CR C htab (st := []) (fun o ho => j_callS (As := [.inr (.inl v2), .inl x2, .inl x3]) (st := []) C 5 rfl mf_Hb_versionOf ml_X11_91 rfl (by decide) (by decide) (Nat.le_refl _) rfl (cHb_versionOf (CX_tr C) σ M3 n4 v2 x2 x3 o ho)) (fun v5 M6 n7 _ => ?_)
  refine s_blk C 6 4 [4, 5] (pc' := 16) (lv' := [(4, .inl x4), (5, .inr (.inl v5))]) (st' := [.inl 5, .inl 0, .inl x4]) rfl ?_
  refine s_CU C htab (st := []) (fun o ho => j_callS (As := [.inl x4, .inl 0, .inl 5]) (st := []) C 10 rfl mf_Hb_checkRange ml_X11_46 rfl (by decide) (by decide) (Nat.le_refl _) rfl (cHb_checkRange (CX_tr C) σ M6 n7 x4 0 5 o ho)) (fun v8 M9 n10 _ => ?_)
  refine s_blk C 11 1 [5] (pc' := 21) (lv' := [(5, .inr (.inl v5))]) (st' := [.inl x4]) rfl ?_
  refine s_tsw C 12 (tg := 96) rfl (by decide) (by decide) ?_ (fun j off hj => ?_)
  · refine s_blk C 32 1 [] (pc' := 98) (lv' := []) (st' := [.inr (.inl v5)]) rfl ?_
    refine s_gR C 33 rfl fl_X11_196 rfl rfl (fun v11 => ?_)
    refine s_rk (fun a12 ha13 hk14 => ?_)
    subst ha13
    refine s_RI (CE_EM _ _ _ _ _ _) (st := []) (fun o ho => j_callV (As := []) (st := []) (b := a12) C 34 rfl mf_Entry_isMark ml_X11_212 rfl (recv_K C (by decide) (by decide) rfl hk14) (by decide) (by decide) (Nat.le_refl _) rfl (cEntry_isMark (CX_tr C) σ M9 n10 a12 o ho)) (fun v15 => ?_)
    refine s_ieq C 35 rfl (fun _ => ?_) (fun _ => ?_)
    · refine s_blk C 38 1 [] (pc' := 112) (lv' := []) (st' := [.inl 0]) rfl ?_
      exact s_iret C 39 rfl rfl
    refine s_blk C 36 2 [] (pc' := 112) (lv' := []) (st' := [.inl 1]) rfl ?_
    exact s_iret C 39 rfl rfl
  rcases j with _ | _ | _ | _ | _ | j
  · obtain rfl : (35 : Int) = off := Option.some.inj hj
    refine ⟨56, by decide, ?_⟩
    dsimp only [tsl]
    refine s_blk C 13 1 [] (pc' := 58) (lv' := []) (st' := [.inr (.inl v5)]) rfl ?_
    refine s_gR C 14 rfl fl_X11_196 rfl rfl (fun v16 => ?_)
    refine s_gR C 15 rfl fl_X11_200 rfl rfl (fun v17 => ?_)
    refine s_gI C 16 rfl fl_X11_50 rfl rfl (fun v18 => ?_)
    exact s_iret C 17 rfl rfl
  · obtain rfl : (47 : Int) = off := Option.some.inj hj
    refine ⟨68, by decide, ?_⟩
    dsimp only [tsl]
    refine s_blk C 18 1 [] (pc' := 70) (lv' := []) (st' := [.inr (.inl v5)]) rfl ?_
    refine s_gR C 19 rfl fl_X11_205 rfl rfl (fun v19 => ?_)
    refine s_len C 20 rfl (fun v20 => ?_)
    exact s_iret C 21 rfl rfl
  · obtain rfl : (54 : Int) = off := Option.some.inj hj
    refine ⟨75, by decide, ?_⟩
    dsimp only [tsl]
    refine s_blk C 22 1 [] (pc' := 77) (lv' := []) (st' := [.inr (.inl v5)]) rfl ?_
    refine s_gI C 23 rfl fl_X11_208 rfl rfl (fun v21 => ?_)
    exact s_iret C 24 rfl rfl
  · obtain rfl : (60 : Int) = off := Option.some.inj hj
    refine ⟨81, by decide, ?_⟩
    dsimp only [tsl]
    refine s_blk C 25 1 [] (pc' := 83) (lv' := []) (st' := [.inr (.inl v5)]) rfl ?_
    refine s_gR C 26 rfl fl_X11_196 rfl rfl (fun v22 => ?_)
    refine s_gI C 27 rfl fl_X11_211 rfl rfl (fun v23 => ?_)
    exact s_iret C 28 rfl rfl
  · obtain rfl : (69 : Int) = off := Option.some.inj hj
    refine ⟨90, by decide, ?_⟩
    dsimp only [tsl]
    refine s_blk C 29 1 [] (pc' := 92) (lv' := []) (st' := [.inr (.inl v5)]) rfl ?_
    refine s_gI C 30 rfl fl_X11_112 rfl rfl (fun v24 => ?_)
    exact s_iret C 31 rfl rfl
  exact absurd (Array.getElem?_eq_some_iff.mp hj).1 (Nat.not_lt.mpr (Nat.le_add_left 5 j))
theorem cHb_about {l : Launch} {G : GE} (htr : l.stackTraces = false) (σ : Sg) (M : Mm) (n : Nat) (a0 : Nat) (x1 : Int32) (x2 : Int32) (x3 : Int32) (x4 : Int32) : ∀ o, fHb_about a0 x1 x2 x3 x4 M n = some o → MetX l G yX11_about cX11_about 6 (some .int) 8 300 [.inr (.inl (some a0)), .inl x1, .inl x2, .inl x3, .inl x4] (σ, M, n) ((eC rvI σ) o) :=
  c_ofX (by decide) kHb_about htr rfl rfl fun X _ _ C htab => wHb_about C htab a0 x1 x2 x3 x4 _ _
def pAr_fill : List BR := [(0, .iconst 0, 1, 0, 1), (1, .istore_n 2, 1, 0, 2), (2, .aload_n 0, 1, 0, 3), (3, .arraylength, 1, 0, 4), (4, .istore_n 3, 1, 0, 5), (5, .iload_n 2, 1, 0, 6), (6, .iload_n 3, 1, 0, 7), (7, .if_icmp .ge (13), 3, 0, 20), (10, .aload_n 0, 1, 0, 11), (11, .iload_n 2, 1, 0, 12), (12, .iload_n 1, 1, 0, 13), (13, .iastore, 1, 0, 14), (14, .iinc 2 (1), 3, 1, 17), (17, .goto (-12), 3, 0, 5), (20, .return_, 1, 0, 21)]
theorem kAr_fill : bOK cJ7_fill_53178 4 pAr_fill = true := by decide +kernel
def fAr_fill_b5 (k5 : Option Nat → Int32 → Int32 → Int32 → Mm → Option (Unit × Mm)) (r0 : Option Nat) (x1 : Int32) (x2 : Int32) (x3 : Int32) (M : Mm) : Option (Unit × Mm) :=
  if x3 ≤ x2 then
    some ((), M)
  else
    asI r0 x2 x1 M fun M1 =>
    k5 r0 x1 (x2 + 1) x3 M1
theorem wAr_fill_b5 {X : MC} {G : GE} {n0 : Nat} (C : CX X G RJ7 cJ7_fill_53178 pAr_fill 4 none n0) (htab : ∀ z ∈ X.2.2.2.2.2.2.2.2.exceptionTable.toList, False) {σ : Sg} {n : Nat} (k5 : Option Nat → Int32 → Int32 → Int32 → Mm → Option (Unit × Mm)) (H5 : ∀ (r0 : Option Nat) (x1 : Int32) (x2 : Int32) (x3 : Int32) (M : Mm), JS X G 4 300 0 n0 (EM X G n0 2 300 (eW rvU σ n)) (k5 r0 x1 x2 x3 M) (σ, M, n) 5 [(0, .inr (.inl r0)), (1, .inl x1), (2, .inl x2), (3, .inl x3)] []) (r0 : Option Nat) (x1 : Int32) (x2 : Int32) (x3 : Int32) (M : Mm) : JS X G 4 300 0 n0 (EM X G n0 2 300 (eW rvU σ n)) (fAr_fill_b5 k5 r0 x1 x2 x3 M) (σ, M, n) 5 [(0, .inr (.inl r0)), (1, .inl x1), (2, .inl x2), (3, .inl x3)] [] := by
  unfold fAr_fill_b5
  refine s_blk C 5 2 [0, 1, 2, 3] (pc' := 7) (lv' := [(0, .inr (.inl r0)), (1, .inl x1), (2, .inl x2), (3, .inl x3)]) (st' := [.inl x3, .inl x2]) rfl ?_
  refine s_icge C 7 rfl (fun _ => ?_) (fun _ => ?_)
  · exact s_vret C 14 rfl rfl
  refine s_blk C 8 3 [0, 1, 2, 3] (pc' := 13) (lv' := [(0, .inr (.inl r0)), (1, .inl x1), (2, .inl x2), (3, .inl x3)]) (st' := [.inl x1, .inl x2, .inr (.inl r0)]) rfl ?_
  refine s_stI C 11 rfl (fun M1 _ => ?_)
  refine s_blk C 12 2 [0, 1, 2, 3] (pc' := 5) (lv' := [(0, .inr (.inl r0)), (1, .inl x1), (2, .inl (x2 + 1)), (3, .inl x3)]) (st' := []) rfl ?_
  exact H5 _ _ _ _ _
def fAr_fill_l5 (fu : Nat) : Option Nat → Int32 → Int32 → Int32 → Mm → Option (Unit × Mm) := Nat.rec (fun r0 x1 x2 x3 M => none) (fun _ k => fAr_fill_b5 k) fu
theorem wAr_fill_l5 {X : MC} {G : GE} {n0 : Nat} (C : CX X G RJ7 cJ7_fill_53178 pAr_fill 4 none n0) (htab : ∀ z ∈ X.2.2.2.2.2.2.2.2.exceptionTable.toList, False) {σ : Sg} {n : Nat} : ∀ (fu : Nat) (r0 : Option Nat) (x1 : Int32) (x2 : Int32) (x3 : Int32) (M : Mm), JS X G 4 300 0 n0 (EM X G n0 2 300 (eW rvU σ n)) (fAr_fill_l5 fu r0 x1 x2 x3 M) (σ, M, n) 5 [(0, .inr (.inl r0)), (1, .inl x1), (2, .inl x2), (3, .inl x3)] [] := by
  intro fu
  induction fu with
  | zero => intro r0 x1 x2 x3 M; exact s_none
  | succ fu ih => intro r0 x1 x2 x3 M; exact wAr_fill_b5 C htab (fAr_fill_l5 fu) ih _ _ _ _ _
def fAr_fill (r0 : Option Nat) (x1 : Int32) (M : Mm) : Option (Unit × Mm) :=
  aln r0 M fun v1 =>
  fAr_fill_l5 FU r0 x1 0 v1 M
theorem wAr_fill {X : MC} {G : GE} {n0 : Nat} (C : CX X G RJ7 cJ7_fill_53178 pAr_fill 4 none n0) (htab : ∀ z ∈ X.2.2.2.2.2.2.2.2.exceptionTable.toList, False) {σ : Sg} {n : Nat} (r0 : Option Nat) (x1 : Int32) (M : Mm) : JS X G 4 300 0 n0 (EM X G n0 2 300 (eW rvU σ n)) (fAr_fill r0 x1 M) (σ, M, n) 0 [(0, .inr (.inl r0)), (1, .inl x1)] [] := by
  unfold fAr_fill
  refine s_blk C 0 3 [0, 1, 2] (pc' := 3) (lv' := [(0, .inr (.inl r0)), (1, .inl x1), (2, .inl 0)]) (st' := [.inr (.inl r0)]) rfl ?_
  refine s_len C 3 rfl (fun v1 => ?_)
  refine s_blk C 4 1 [0, 1, 2, 3] (pc' := 5) (lv' := [(0, .inr (.inl r0)), (1, .inl x1), (2, .inl 0), (3, .inl v1)]) (st' := []) rfl ?_
  exact wAr_fill_l5 C htab FU _ _ _ _ _
theorem cAr_fill {l : Launch} {G : GE} (htr : l.stackTraces = false) (σ : Sg) (M : Mm) (n : Nat) (r0 : Option Nat) (x1 : Int32) : ∀ o, fAr_fill r0 x1 M = some o → MetX l G yJ7_fill_53178 cJ7_fill_53178 4 none 2 300 [.inr (.inl r0), .inl x1] (σ, M, n) ((eW rvU σ n) o) :=
  c_ofX (by decide) kAr_fill htr rfl rfl fun X _ _ C htab => wAr_fill C htab r0 x1 _
def pStore_beginTally : List BR := [(0, .aload_n 0, 1, 0, 1), (1, .getfield 36, 3, 0, 4), (4, .iconst 0, 1, 0, 5), (5, .invokestatic 184, 3, 0, 8), (8, .return_, 1, 0, 9)]
theorem kStore_beginTally : bOK cX8_beginTally 1 pStore_beginTally = true := by decide +kernel
def fStore_beginTally (a0 : Nat) (M : Mm) : Option (Unit × Mm) :=
  fgR 8 804 (some a0) M fun v1 =>
  bdW (fAr_fill v1 0 M) fun v2 M3 =>
  some ((), M3)
theorem wStore_beginTally {X : MC} {G : GE} {n0 : Nat} (C : CX X G RX8 cX8_beginTally pStore_beginTally 1 none n0) (htab : ∀ z ∈ X.2.2.2.2.2.2.2.2.exceptionTable.toList, False) {σ : Sg} {n : Nat} (a0 : Nat) (M : Mm) : JS X G 1 300 0 n0 (EM X G n0 3 300 (eW rvU σ n)) (fStore_beginTally a0 M) (σ, M, n) 0 [(0, .inr (.inl (some a0)))] [] := by
  unfold fStore_beginTally
  refine s_blk C 0 1 [] (pc' := 1) (lv' := []) (st' := [.inr (.inl (some a0))]) rfl ?_
  refine s_gR C 1 rfl fl_X8_36 rfl rfl (fun v1 => ?_)
  refine s_blk C 2 1 [] (pc' := 5) (lv' := []) (st' := [.inl 0, .inr (.inl v1)]) rfl ?_
  refine s_WU (CE_EM _ _ _ _ _ _) (st := []) (fun o ho => j_callS (As := [.inr (.inl v1), .inl 0]) (st := []) C 3 rfl mf_Ar_fill ml_X8_184 rfl (by decide) (by decide) (Nat.le_refl _) rfl (cAr_fill (CX_tr C) σ M n v1 0 o ho)) (fun v2 M3 => ?_)
  exact s_vret C 4 rfl rfl
theorem cStore_beginTally {l : Launch} {G : GE} (htr : l.stackTraces = false) (σ : Sg) (M : Mm) (n : Nat) (a0 : Nat) : ∀ o, fStore_beginTally a0 M = some o → MetX l G yX8_beginTally cX8_beginTally 1 none 3 300 [.inr (.inl (some a0))] (σ, M, n) ((eW rvU σ n) o) :=
  c_ofX (by decide) kStore_beginTally htr rfl rfl fun X _ _ C htab => wStore_beginTally C htab a0 _
def pStore_partAt : List BR := [(0, .iload_n 1, 1, 0, 1), (1, .ifCond .lt (31), 3, 0, 32), (4, .iload_n 1, 1, 0, 5), (5, .aload_n 0, 1, 0, 6), (6, .getfield 18, 3, 0, 9), (9, .invokevirtual 40, 3, 0, 12), (12, .if_icmp .ge (20), 3, 0, 32), (15, .aload_n 0, 1, 0, 16), (16, .getfield 18, 3, 0, 19), (19, .iload_n 1, 1, 0, 20), (20, .invokevirtual 44, 3, 0, 23), (23, .checkcast 48, 3, 0, 26), (26, .getfield 54, 3, 0, 29), (29, .ifCond .eq (5), 3, 0, 34), (32, .aconst_null, 1, 0, 33), (33, .areturn, 1, 0, 34), (34, .aload_n 0, 1, 0, 35), (35, .getfield 18, 3, 0, 38), (38, .iload_n 1, 1, 0, 39), (39, .invokevirtual 44, 3, 0, 42), (42, .checkcast 48, 3, 0, 45), (45, .areturn, 1, 0, 46)]
theorem kStore_partAt : bOK cX8_partAt 2 pStore_partAt = true := by decide +kernel
def fStore_partAt (a0 : Nat) (x1 : Int32) (M : Mm) : Option (Option Nat) :=
  if x1 < 0 then
    some none
  else
    fgR 8 801 (some a0) M fun v1 =>
    rk 12 v1 M fun a2 =>
    bdR (fAl_size a2 M) fun v5 =>
    if v5 ≤ x1 then
      some none
    else
      fgR 8 801 (some a0) M fun v6 =>
      rk 12 v6 M fun a7 =>
      bdR (fAl_get a7 x1 M) fun v10 =>
      fca 5 v10 M fun v11 =>
      fgI 5 507 v11 M fun v12 =>
      if v12 = 0 then
        fgR 8 801 (some a0) M fun v13 =>
        rk 12 v13 M fun a14 =>
        bdR (fAl_get a14 x1 M) fun v17 =>
        fca 5 v17 M fun v18 =>
        some v18
      else
        some none
theorem wStore_partAt {X : MC} {G : GE} {n0 : Nat} (C : CX X G RX8 cX8_partAt pStore_partAt 2 (some (.object "BlobHarbor$Part")) n0) (htab : ∀ z ∈ X.2.2.2.2.2.2.2.2.exceptionTable.toList, False) {σ : Sg} {M : Mm} {n : Nat} (a0 : Nat) (x1 : Int32) : JS X G 2 300 0 n0 (EM X G n0 5 300 (eR rvR σ M n)) (fStore_partAt a0 x1 M) (σ, M, n) 0 [(0, .inr (.inl (some a0))), (1, .inl x1)] [] := by
  unfold fStore_partAt
  refine s_blk C 0 1 [0, 1] (pc' := 1) (lv' := [(0, .inr (.inl (some a0))), (1, .inl x1)]) (st' := [.inl x1]) rfl ?_
  refine s_ilt C 1 rfl (fun _ => ?_) (fun _ => ?_)
  · refine s_blk C 14 1 [] (pc' := 33) (lv' := []) (st' := [.inr (.inl none)]) rfl ?_
    exact s_aret (Or.inl ⟨_, rfl⟩) C 15 rfl rfl
  refine s_blk C 2 2 [0, 1] (pc' := 6) (lv' := [(0, .inr (.inl (some a0))), (1, .inl x1)]) (st' := [.inr (.inl (some a0)), .inl x1]) rfl ?_
  refine s_gR C 4 rfl fl_X8_18 rfl rfl (fun v1 => ?_)
  refine s_rk (fun a2 ha3 hk4 => ?_)
  subst ha3
  refine s_RI (CE_EM _ _ _ _ _ _) (st := [.inl x1]) (fun o ho => j_callV (As := []) (st := [.inl x1]) (b := a2) C 5 rfl mf_Al_size ml_X8_40 rfl (recv_K C (by decide) (by decide) rfl hk4) (by decide) (by decide) (Nat.le_refl _) rfl (cAl_size (CX_tr C) σ M n a2 o ho)) (fun v5 => ?_)
  refine s_icge C 6 rfl (fun _ => ?_) (fun _ => ?_)
  · refine s_blk C 14 1 [] (pc' := 33) (lv' := []) (st' := [.inr (.inl none)]) rfl ?_
    exact s_aret (Or.inl ⟨_, rfl⟩) C 15 rfl rfl
  refine s_blk C 7 1 [0, 1] (pc' := 16) (lv' := [(0, .inr (.inl (some a0))), (1, .inl x1)]) (st' := [.inr (.inl (some a0))]) rfl ?_
  refine s_gR C 8 rfl fl_X8_18 rfl rfl (fun v6 => ?_)
  refine s_blk C 9 1 [0, 1] (pc' := 20) (lv' := [(0, .inr (.inl (some a0))), (1, .inl x1)]) (st' := [.inl x1, .inr (.inl v6)]) rfl ?_
  refine s_rk (fun a7 ha8 hk9 => ?_)
  subst ha8
  refine s_RR (CE_EM _ _ _ _ _ _) (st := []) (fun o ho => j_callV (As := [.inl x1]) (st := []) (b := a7) C 10 rfl mf_Al_get ml_X8_44 rfl (recv_K C (by decide) (by decide) rfl hk9) (by decide) (by decide) (Nat.le_refl _) rfl (cAl_get (CX_tr C) σ M n a7 x1 o ho)) (fun v10 => ?_)
  refine s_cast C 11 rfl rfl (by decide) (by decide) cw_X8_48 (fun v11 => ?_)
  refine s_gI C 12 rfl fl_X8_54 rfl rfl (fun v12 => ?_)
  refine s_ieq C 13 rfl (fun _ => ?_) (fun _ => ?_)
  · refine s_blk C 16 1 [1] (pc' := 35) (lv' := [(1, .inl x1)]) (st' := [.inr (.inl (some a0))]) rfl ?_
    refine s_gR C 17 rfl fl_X8_18 rfl rfl (fun v13 => ?_)
    refine s_blk C 18 1 [] (pc' := 39) (lv' := []) (st' := [.inl x1, .inr (.inl v13)]) rfl ?_
    refine s_rk (fun a14 ha15 hk16 => ?_)
    subst ha15
    refine s_RR (CE_EM _ _ _ _ _ _) (st := []) (fun o ho => j_callV (As := [.inl x1]) (st := []) (b := a14) C 19 rfl mf_Al_get ml_X8_44 rfl (recv_K C (by decide) (by decide) rfl hk16) (by decide) (by decide) (Nat.le_refl _) rfl (cAl_get (CX_tr C) σ M n a14 x1 o ho)) (fun v17 => ?_)
    refine s_cast C 20 rfl rfl (by decide) (by decide) cw_X8_48 (fun v18 => ?_)
    exact s_aret (Or.inl ⟨_, rfl⟩) C 21 rfl rfl
  refine s_blk C 14 1 [] (pc' := 33) (lv' := []) (st' := [.inr (.inl none)]) rfl ?_
  exact s_aret (Or.inl ⟨_, rfl⟩) C 15 rfl rfl
theorem cStore_partAt {l : Launch} {G : GE} (htr : l.stackTraces = false) (σ : Sg) (M : Mm) (n : Nat) (a0 : Nat) (x1 : Int32) : ∀ o, fStore_partAt a0 x1 M = some o → MetX l G yX8_partAt cX8_partAt 2 (some (.object "BlobHarbor$Part")) 5 300 [.inr (.inl (some a0)), .inl x1] (σ, M, n) ((eR rvR σ M n) o) :=
  c_ofX (by decide) kStore_partAt htr rfl rfl fun X _ _ C htab => wStore_partAt C htab a0 x1

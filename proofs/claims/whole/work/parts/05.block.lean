theorem ck1 {a b : Nat} {len nx pc : Nat} (h : (Nat.beq nx (pc + len) && Nat.beq len a) = true) : len = a ∧ nx = pc + a := by
  rw [Bool.and_eq_true, Nat.beq_eq, Nat.beq_eq] at h
  exact ⟨h.2, by rw [h.1, h.2]⟩
theorem ck2 {a k nL len nx pc : Nat} (h : (Nat.beq nx (pc + len) && Nat.beq len a && Nat.ble (k + 1) nL) = true) : len = a ∧ nx = pc + a ∧ k < nL := by
  rw [Bool.and_eq_true, Bool.and_eq_true, Nat.beq_eq, Nat.beq_eq] at h
  exact ⟨h.1.2, by rw [h.1.1, h.1.2], Nat.le_of_ble_eq_true h.2⟩
theorem ck3 {p : Prop} {d : Decidable p} {a len nx pc : Nat} (h : (decide p && Nat.beq nx (pc + len) && Nat.beq len a) = true) : p ∧ len = a ∧ nx = pc + a := by
  rw [Bool.and_eq_true, Bool.and_eq_true, Nat.beq_eq, Nat.beq_eq] at h
  exact ⟨of_decide_eq_true h.1.1, h.2, by rw [h.1.2, h.2]⟩
theorem ck4 {p : Prop} {d : Decidable p} {a k nL len nx pc : Nat} (h : (decide p && Nat.beq nx (pc + len) && Nat.beq len a && Nat.ble (k + 1) nL) = true) : p ∧ len = a ∧ nx = pc + a ∧ k < nL := by
  rw [Bool.and_eq_true] at h
  obtain ⟨h1, h2⟩ := h
  obtain ⟨a1, a2, a3⟩ := ck3 h1
  exact ⟨a1, a2, a3, Nat.le_of_ble_eq_true h2⟩
theorem ck5 {p : Prop} {d : Decidable p} {len : Nat} (h : (decide p && Nat.beq len 3) = true) : p ∧ len = 3 := by
  rw [Bool.and_eq_true, Nat.beq_eq] at h
  exact ⟨of_decide_eq_true h.1, h.2⟩
section SX
variable {p : Program} {l : Launch} {e : Env} {R : Room} {s : State} {m : MethodId} {args : Array Value} {below : List Frame} {meth : Method} {c : Code} {H : Heap} {locs : List Loc} {cells slots : Nat} {Q : State → Prop} {cc : ByteArray}
theorem sx_store {nL i : Nat} {ls : Array Slot} {lv : LV} {v : AV} {pc n : Nat} {st : List AV} (hl : lv_has ls nL (lvv lv)) (kk : ∀ ls', lv_has ls' nL (lvv (stl lv i v)) → W p l e R s m args below meth c H locs cells slots Q (F0 m (pc + n) ls' (st.map vv))) :
    ∀ ls', lv_has ls' nL ((i, vv v) :: (lvv lv).filter (fun q => !(q.1 == i) && !(q.1 + 1 == i && q.2.category == 2))) → W p l e R s m args below meth c H locs cells slots Q (F0 m (pc + n) ls' (st.map vv)) :=
  fun ls' h => kk ls' (lv_less h (stl_in lv i v))
set_option maxHeartbeats 2000000 in
theorem sx1_ok (hx : p.tables.exec = Jvm.exec) (hb : c.code = cc) {nL pc : Nat} {i : Instr} {len nx : Nat} {k : Int32} (hd : decode cc pc = .ok (i, len)) (hc : cOK nL pc i len k nx = true) {lv lv' : LV} {st st' : List AV} (h : sx1 (pc, i, len, k, nx) lv st = some (lv', st')) {ls : Array Slot} (hl : lv_has ls nL (lvv lv))
    (kk : ∀ ls', lv_has ls' nL (lvv lv') → W p l e R s m args below meth c H locs cells slots Q (F0 m nx ls' (st'.map vv))) : W p l e R s m args below meth c H locs cells slots Q (F0 m pc ls (st.map vv)) := by
  cases i with
  | iload_n k =>
    obtain ⟨rfl, rfl⟩ := ck1 (b := 0) hc
    simp only [sx1] at h
    split at h
    · next x hq => cases h; exact lv_iload_n hx hb hd rfl (lv_lk hl hq) (kk ls hl)
    · cases h
  | iload k =>
    obtain ⟨rfl, rfl⟩ := ck1 (b := 0) hc
    simp only [sx1] at h
    split at h
    · next x hq => cases h; exact lv_iload hx hb hd (lv_lk hl hq) (kk ls hl)
    · cases h
  | aload_n k =>
    obtain ⟨rfl, rfl⟩ := ck1 (b := 0) hc
    simp only [sx1] at h
    split at h
    · next x hq =>
      cases h
      cases x with
      | none => exact lv_aload_nN hx hb hd rfl (lv_lk hl hq) (kk ls hl)
      | some a => exact lv_aload_n hx hb hd rfl (lv_lk hl hq) (kk ls hl)
    · cases h
  | aload k =>
    obtain ⟨rfl, rfl⟩ := ck1 (b := 0) hc
    simp only [sx1] at h
    split at h
    · next x hq =>
      cases h
      cases x with
      | none => exact lv_aloadN hx hb hd (lv_lk hl hq) (kk ls hl)
      | some a => exact lv_aload hx hb hd (lv_lk hl hq) (kk ls hl)
    · cases h
  | istore_n k =>
    obtain ⟨rfl, rfl, hn⟩ := ck2 hc
    rcases st with _ | ⟨y | y, st⟩
    · cases h
    · cases h; exact lv_istore_n hx hb hd rfl hl hn rfl (sx_store hl kk)
    · cases h
  | istore k =>
    obtain ⟨rfl, rfl, hn⟩ := ck2 hc
    rcases st with _ | ⟨y | y, st⟩
    · cases h
    · cases h; exact lv_istore hx hb hd hl hn rfl (sx_store hl kk)
    · cases h
  | astore_n k =>
    obtain ⟨rfl, rfl, hn⟩ := ck2 hc
    rcases st with _ | ⟨y | y | y, st⟩
    · cases h
    · cases h
    · cases h
      cases y with
      | none => exact lv_astore_nN hx hb hd rfl hl hn rfl (sx_store hl kk)
      | some a => exact lv_astore_n hx hb hd rfl hl hn rfl (sx_store hl kk)
    · cases h
  | astore k =>
    obtain ⟨rfl, rfl, hn⟩ := ck2 hc
    rcases st with _ | ⟨y | y | y, st⟩
    · cases h
    · cases h
    · cases h
      cases y with
      | none => exact lv_astoreN hx hb hd hl hn rfl (sx_store hl kk)
      | some a => exact lv_astore hx hb hd hl hn rfl (sx_store hl kk)
    · cases h
  | iconst n => obtain ⟨h0, rfl, rfl⟩ := ck3 hc; cases h; exact lv_iconst hx hb hd h0 (kk ls hl)
  | bipush n => obtain ⟨h0, rfl, rfl⟩ := ck3 hc; cases h; exact lv_bipush hx hb hd h0 (kk ls hl)
  | sipush n => obtain ⟨h0, rfl, rfl⟩ := ck3 hc; cases h; exact lv_sipush hx hb hd h0 (kk ls hl)
  | iinc j n =>
    obtain ⟨h0, rfl, rfl, hn⟩ := ck4 hc
    simp only [sx1] at h
    split at h
    · next x hq =>
      cases h
      obtain ⟨w, hw⟩ := List.getElem?_of_mem (List.mem_map.mpr ⟨(j, (.inl x : AV)), lk_mem hq, rfl⟩ : (j, vv (.inl x)) ∈ lvv lv)
      exact lv_iinc (v := x + k) hx hb hd hl hw (by rw [h0]) hn rfl (sx_store (v := .inl (x + k)) hl kk)
    · cases h
  | iadd => obtain ⟨rfl, rfl⟩ := ck1 (b := 0) hc; rcases st with _ | ⟨y | y, _ | ⟨x | x, st⟩⟩ <;> cases h; exact lv_iadd hx hb hd (kk ls hl)
  | isub => obtain ⟨rfl, rfl⟩ := ck1 (b := 0) hc; rcases st with _ | ⟨y | y, _ | ⟨x | x, st⟩⟩ <;> cases h; exact lv_isub hx hb hd (kk ls hl)
  | imul => obtain ⟨rfl, rfl⟩ := ck1 (b := 0) hc; rcases st with _ | ⟨y | y, _ | ⟨x | x, st⟩⟩ <;> cases h; exact lv_imul hx hb hd (kk ls hl)
  | iand => obtain ⟨rfl, rfl⟩ := ck1 (b := 0) hc; rcases st with _ | ⟨y | y, _ | ⟨x | x, st⟩⟩ <;> cases h; exact lv_iand hx hb hd (kk ls hl)
  | ixor => obtain ⟨rfl, rfl⟩ := ck1 (b := 0) hc; rcases st with _ | ⟨y | y, _ | ⟨x | x, st⟩⟩ <;> cases h; exact lv_ixor hx hb hd (kk ls hl)
  | ishl => obtain ⟨rfl, rfl⟩ := ck1 (b := 0) hc; rcases st with _ | ⟨y | y, _ | ⟨x | x, st⟩⟩ <;> cases h; exact lv_ishl hx hb hd (kk ls hl)
  | ishr => obtain ⟨rfl, rfl⟩ := ck1 (b := 0) hc; rcases st with _ | ⟨y | y, _ | ⟨x | x, st⟩⟩ <;> cases h; exact lv_ishr hx hb hd (kk ls hl)
  | i2b => obtain ⟨rfl, rfl⟩ := ck1 (b := 0) hc; rcases st with _ | ⟨y | y, st⟩ <;> cases h; exact lv_i2b hx hb hd rfl (kk ls hl)
  | i2c => obtain ⟨rfl, rfl⟩ := ck1 (b := 0) hc; rcases st with _ | ⟨y | y, st⟩ <;> cases h; exact lv_i2c hx hb hd rfl (kk ls hl)
  | i2l => obtain ⟨rfl, rfl⟩ := ck1 (b := 0) hc; rcases st with _ | ⟨y | y, st⟩ <;> cases h; exact lv_i2l hx hb hd rfl (kk ls hl)
  | lconst n => obtain ⟨rfl, rfl⟩ := ck1 (b := 0) hc; cases h; exact lv_lconst hx hb hd rfl (kk ls hl)
  | aconst_null => obtain ⟨rfl, rfl⟩ := ck1 (b := 0) hc; cases h; exact lv_null hx hb hd (kk ls hl)
  | goto off => obtain ⟨h0, rfl⟩ := ck5 hc; cases h; exact lv_goto hx hb hd h0 (kk ls hl)
  | dup =>
    obtain ⟨rfl, rfl⟩ := ck1 (b := 0) hc
    rcases st with _ | ⟨y, st⟩
    · cases h
    · simp only [sx1] at h
      split at h
      · cases h
      · next hy => cases h; exact lv_dup hx hb hd (vv_cat1 hy) (kk ls hl)
  | pop =>
    obtain ⟨rfl, rfl⟩ := ck1 (b := 0) hc
    rcases st with _ | ⟨y, st⟩
    · cases h
    · simp only [sx1] at h
      split at h
      · cases h
      · next hy => cases h; exact lv_pop hx hb hd (vv_cat1 hy) (kk ls hl)
  | dup2 =>
    obtain ⟨rfl, rfl⟩ := ck1 (b := 0) hc
    rcases st with _ | ⟨y, _ | ⟨x, st⟩⟩
    · cases h
    · cases h
    · simp only [sx1] at h
      split at h
      · next hy hz => cases h; exact lv_dup2_11 hx hb hd (vv_cat1 hy) (vv_cat1 hz) (kk ls hl)
      · cases h
  | dup_x1 =>
    obtain ⟨rfl, rfl⟩ := ck1 (b := 0) hc
    rcases st with _ | ⟨y, _ | ⟨x, st⟩⟩
    · cases h
    · cases h
    · simp only [sx1] at h
      split at h
      · next hy hz => cases h; exact lv_dup_x1 hx hb hd (vv_cat1 hy) (vv_cat1 hz) (kk ls hl)
      · cases h
  | _ => cases h
theorem bx_ok (hx : p.tables.exec = Jvm.exec) (hb : c.code = cc) {nL : Nat} (bl : List BR) (hbl : bOK cc nL bl = true) : ∀ {pc pc' : Nat} {lv lv' : LV} {st st' : List AV} (_ : bx bl pc lv st = some (pc', lv', st')) {ls : Array Slot} (_ : lv_has ls nL (lvv lv))
    (_ : ∀ ls', lv_has ls' nL (lvv lv') → W p l e R s m args below meth c H locs cells slots Q (F0 m pc' ls' (st'.map vv))), W p l e R s m args below meth c H locs cells slots Q (F0 m pc ls (st.map vv)) := by
  induction bl with
  | nil => intro pc pc' lv lv' st st' h ls hl kk; cases h; exact kk ls hl
  | cons r bl ih =>
    intro pc pc' lv lv' st st' h ls hl kk
    have hr := bOK_at hbl (r := r) 0 rfl
    have hbl' : bOK cc nL bl = true := by
      unfold bOK at hbl ⊢
      rw [List.all_cons, Bool.and_eq_true] at hbl
      exact hbl.2
    unfold bx at h
    split at h
    · cases h
    · next hpc =>
      have hpc := Nat.eq_of_beq_eq_true hpc
      subst hpc
      split at h
      · cases h
      · next q hq =>
        obtain ⟨rpc, i, len, k, nx⟩ := r
        exact sx1_ok hx hb hr.1 hr.2 hq hl (fun ls' hl' => ih hbl' h hl' kk)
end SX

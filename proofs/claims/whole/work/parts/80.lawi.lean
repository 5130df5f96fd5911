set_option maxRecDepth 100000
theorem cl_L_8 : CLK RL 8 11 := ⟨_, tyX11, rfl, by decide, by decide, rfl, inK_11, tyX11_ok, by decide +kernel, by decide, tb_mem 36 (by decide +kernel) (by decide +kernel), tb_mem 37 (by decide +kernel) (by decide +kernel), tb_mem 1 (by decide +kernel) (by decide +kernel)⟩
theorem cl_L_103 : CLK RL 103 13 := ⟨_, tyX12, rfl, by decide, by decide, rfl, inK_13, tyX12_ok, by decide +kernel, by decide, tb_mem 1406 (by decide +kernel) (by decide +kernel), tb_mem 1407 (by decide +kernel) (by decide +kernel), tb_mem 10 (by decide +kernel) (by decide +kernel)⟩
theorem ml_L_102 : Cond.methodLink RL 102 yX11_init ∈ TBG := tb_mem 38 (by decide +kernel) (by decide +kernel)
theorem ml_L_105 : Cond.methodLink RL 105 yX12_init ∈ TBG := tb_mem 1408 (by decide +kernel) (by decide +kernel)
theorem mf_Hb_init : MFI yX11_init cX11_init 1 0 := ⟨tb_mem 40 (by decide +kernel) (by decide +kernel), tb_mem 39 (by decide +kernel) (by decide +kernel), rfl, tb_mem 1 (by decide +kernel) (by decide +kernel), ⟨by decide, by decide⟩, by decide +kernel⟩
theorem mf_Md_init : MFI yX12_init cX12_init 1 0 := ⟨tb_mem 1410 (by decide +kernel) (by decide +kernel), tb_mem 1409 (by decide +kernel) (by decide +kernel), rfl, tb_mem 10 (by decide +kernel) (by decide +kernel), ⟨by decide, by decide⟩, by decide +kernel⟩
/-! the law's beginning: the two are made -/
def bdM {ω : Type} (x : Option ((Unit ⊕ Nat) × Mm × Nat)) (n : Nat) (f : Mm → Nat → Option ω) : Option ω := match x with
  | some (.inl _, M, n') => if n ≤ n' then f M n' else none
  | _ => none
def fLw_A {ω : Type} (M : Mm) (n : Nat) (k : Nat → Nat → Nat → Mm → Nat → Option ω) : Option ω :=
  nwO 11 M n fun y1 M1 n1 =>
  rk 11 y1 M1 fun a1 =>
  bdM (fHb_init a1 M1 n1) n1 fun M2 n2 =>
  nwO 13 M2 n2 fun y2 M3 n3 =>
  rk 13 y2 M3 fun a2 =>
  bdM (fMd_init a2 M3 n3) n3 fun M4 n4 =>
  nwA 25 8100 1 M4 n4 fun y3 M5 n5 =>
  rk 25 y3 M5 fun a3 => k a1 a2 a3 M5 n5
section LA
variable {X : MC} {G : GE} {own : String} {cc : ByteArray} {P : List BR} {nL : Nat} {ret : Option FieldType} {n0 q sl d : Nat} {pc : Nat} {lv : LV} {st stk : List AV} {ω : Type} {E : ω → Room × (State → Prop) × Nat} {σ : Sg} {M : Mm} {n : Nat}
theorem s_M (hE : CE E d q sl n0) {x : Option ((Unit ⊕ Nat) × Mm × Nat)} {f : Mm → Nat → Option ω} (h : ∀ v M1 n1, x = some (.inl v, M1, n1) → CJ X G nL q sl n0 d pc stk st (σ, M, n) (eC rvU σ (.inl v, M1, n1))) (kk : ∀ M1 n1, n ≤ n1 → JS X G nL q sl n0 E (f M1 n1) (σ, M1, n1) (pc + 3) lv st) : JS X G nL q sl n0 E (bdM x n f) (σ, M, n) pc lv stk := by
  intro o ho
  obtain ⟨e1, e2, e3, e4⟩ := hE o
  cases x with
  | none => cases ho
  | some r =>
    obtain ⟨r | r, M1, n1⟩ := r
    · have ho : (if n ≤ n1 then f M1 n1 else none) = some o := ho
      by_cases hn : n ≤ n1
      · rw [if_pos hn] at ho
        obtain ⟨k1, k2⟩ := kk M1 n1 hn o ho
        exact ⟨Nat.le_trans hn k1, h _ _ _ rfl lv _ _ e1 e2 hn (Nat.le_trans (Nat.sub_le_sub_right k1 n0) e3) (Nat.le_trans (Nat.add_le_add_left (Nat.mul_le_mul_left q (Nat.sub_le_sub_right k1 n0)) sl) e4) (fun rv hrv => by cases hrv; exact k2) (fun z hz => by cases hz)⟩
      · rw [if_neg hn] at ho; cases ho
    · cases ho
end LA
theorem wLw_A {X : MC} {G : GE} {n0 sl b : Nat} {ω : Type} {E : ω → Room × (State → Prop) × Nat} {σ : Sg} (C : CX X G RL code pLw_law 7 (some .boolean) n0) (hE : CE E 14 8100 sl n0) {k : Nat → Nat → Nat → Mm → Nat → Option ω}
    (H : ∀ a1 a2 a3 M n, JS X G 7 8100 sl n0 E (k a1 a2 a3 M n) (σ, M, n) 23 [(0, .inr (.inl (some b))), (1, .inr (.inl (some a1))), (2, .inr (.inl (some a2))), (3, .inr (.inl (some a3))), (4, .inl 0)] []) (M : Mm) (n : Nat) : JS X G 7 8100 sl n0 E (fLw_A M n k) (σ, M, n) 0 [(0, .inr (.inl (some b)))] [] := by
  unfold fLw_A
  refine s_new C hE 0 rfl cl_L_8 (by decide) (fun y1 M1 n1 _ _ => ?_)
  refine s_blk C 1 1 [0] (pc' := 4) (lv' := [(0, .inr (.inl (some b)))]) (st' := [.inr (.inl y1), .inr (.inl y1)]) rfl ?_
  refine s_rk (fun a1 ha hk => ?_)
  subst ha
  refine s_M hE (st := [.inr (.inl (some a1))]) (fun v M' n' ho => j_callI (As := []) (st := [.inr (.inl (some a1))]) (b := a1) C 2 rfl mf_Hb_init (Or.inl ml_L_102) rfl (by decide) (by decide) (by decide) rfl (cHb_init (CX_tr C) σ M1 n1 a1 _ ho) rfl) (fun M2 n2 _ => ?_)
  refine s_blk C 3 1 [0, 1] (pc' := 8) (lv' := [(0, .inr (.inl (some b))), (1, .inr (.inl (some a1)))]) (st' := []) rfl ?_
  refine s_new C hE 4 rfl cl_L_103 (by decide) (fun y2 M3 n3 _ _ => ?_)
  refine s_blk C 5 1 [0, 1] (pc' := 12) (lv' := [(0, .inr (.inl (some b))), (1, .inr (.inl (some a1)))]) (st' := [.inr (.inl y2), .inr (.inl y2)]) rfl ?_
  refine s_rk (fun a2 ha hk2 => ?_)
  subst ha
  refine s_M hE (st := [.inr (.inl (some a2))]) (fun v M' n' ho => j_callI (As := []) (st := [.inr (.inl (some a2))]) (b := a2) C 6 rfl mf_Md_init (Or.inl ml_L_105) rfl (by decide) (by decide) (by decide) rfl (cMd_init (CX_tr C) σ M3 n3 a2 _ ho) rfl) (fun M4 n4 _ => ?_)
  refine s_blk C 7 2 [0, 1, 2] (pc' := 17) (lv' := [(0, .inr (.inl (some b))), (1, .inr (.inl (some a1))), (2, .inr (.inl (some a2)))]) (st' := [.inl 1]) rfl ?_
  refine s_newJ C hE 9 rfl (by decide) (by decide) (fun y3 M5 n5 _ _ => ?_)
  refine s_rk (fun a3 ha hk3 => ?_)
  subst ha
  refine s_blk C 10 3 [0, 1, 2, 3, 4] (pc' := 23) (lv' := [(0, .inr (.inl (some b))), (1, .inr (.inl (some a1))), (2, .inr (.inl (some a2))), (3, .inr (.inl (some a3))), (4, .inl 0)]) (st' := []) rfl ?_
  exact H a1 a2 a3 M5 n5
/-! the check changes its shape: from a cell of the class's memory to σ -/
def G1 (G : GE) (M : Mm) (a2 : Nat) : GE := (G.1, G.2.1, G.2.2.1, true, a2, (fun k => (mP M (1300 + k) a2 0).getD 0), G.2.2.2.2.2.2)
def σ1 (M : Mm) (a2 : Nat) : Sg := fun k j => if mfl[k]? = some true then mI M 0 ((mP M (1300 + k) a2 0).getD 0) j else mI M (1300 + k) a2 0
def PR (M : Mm) (a2 a : Nat) : Prop := a = a2 ∨ ∃ k, mfl[k]? = some true ∧ a = (mP M (1300 + k) a2 0).getD 0
noncomputable def M1 (M : Mm) (a2 : Nat) : Mm := (M.1, M.2.1, M.2.2.1, (fun a => @ite Nat (PR M a2 a) (Classical.propDecidable _) 0 (mK M a)), M.2.2.2.2)
theorem mK_pos {M : Mm} {a2 a : Nat} (h : PR M a2 a) : mK (M1 M a2) a = 0 := @if_pos (PR M a2 a) (Classical.propDecidable _) h Nat 0 (mK M a)
theorem mK_neg {M : Mm} {a2 a : Nat} (h : ¬ PR M a2 a) : mK (M1 M a2) a = mK M a := @if_neg (PR M a2 a) (Classical.propDecidable _) h Nat 0 (mK M a)
def MOK (M : Mm) (a2 : Nat) : Prop := mK M a2 = 13 ∧ (∀ k, mfl[k]? = some true → ∃ a, mP M (1300 + k) a2 0 = some a ∧ mK M a = (if mbool k = true then 22 else 21) ∧ mL M a = mlen k) ∧ (∀ k k', mfl[k]? = some true → mfl[k']? = some true → mP M (1300 + k) a2 0 = mP M (1300 + k') a2 0 → k = k')
theorem fl_mv {G : GE} {M : Mm} {a2 : Nat} (ok : MOK M a2) (l : List Bool) : ∀ k, (∀ i, l[i]? = mfl[k + i]?) → flds M a2 13 k l = mvals (G1 G M a2) (σ1 M a2) k l := by
  induction l with
  | nil => intro k _; rfl
  | cons b l ih =>
    intro k h
    have h0 : some b = mfl[k]? := h 0
    have h1 := ih (k + 1) (fun i => by rw [show k + 1 + i = k + (i + 1) by omega, ← h (i + 1)]; rfl)
    show _ :: flds M a2 13 (k + 1) l = _ :: mvals (G1 G M a2) (σ1 M a2) (k + 1) l
    rw [h1]
    cases b with
    | true =>
      obtain ⟨a, e, -, -⟩ := ok.2.1 k h0.symm
      have e2 : gA (G1 G M a2) k = a := by show (mP M (1300 + k) a2 0).getD 0 = a; rw [e]; rfl
      show va_rf (mP M (1300 + k) a2 0) :: _ = Value.ref (gA (G1 G M a2) k) :: _
      rw [e, e2]; rfl
    | false =>
      have e : σ1 M a2 k 0 = mI M (1300 + k) a2 0 := if_neg (by rw [← h0]; decide)
      show Value.int (mI M (1300 + k) a2 0) :: _ = Value.int (σ1 M a2 k 0) :: _
      rw [e]
theorem mK_M1 {M : Mm} {a2 a : Nat} (h : mK (M1 M a2) a ≠ 0) : mK (M1 M a2) a = mK M a := by
  by_cases c : PR M a2 a
  · rw [mK_pos c] at h; exact absurd rfl h
  · exact mK_neg c
theorem WDh.flip {G : GE} {σ : Sg} {M : Mm} {n a2 : Nat} {H : Heap} (h : WDh G (σ, M, n) H) (ok : MOK M a2) : WDh (G1 G M a2) (σ1 M a2, M1 M a2, n) H := by
  obtain ⟨h1, h2, h3, -, h5, h6⟩ := h
  have h6 : mK M (gE G) = 26 := h6
  have hk : ∀ k, mfl[k]? = some true → ∀ a, mP M (1300 + k) a2 0 = some a → mK M a ≠ 26 := fun k hk a ha => by
    obtain ⟨a', e1, e2, -⟩ := ok.2.1 k hk
    rw [e1] at ha; cases ha
    rw [e2]; split <;> decide
  refine ⟨h1, fun a x hx => ?_, fun a ha => ?_, fun _ => ⟨⟨?_, fun k hk1 => ?_⟩, ?_, fun k hk1 => ?_⟩, h5, ?_⟩
  · have hne : mK (M1 M a2) a ≠ 0 := by
      intro h0
      have : ent (G1 G M a2) (M1 M a2) a = none := by unfold ent; rw [h0]; rfl
      have hx : ent (G1 G M a2) (M1 M a2) a = some x := hx
      rw [this] at hx; cases hx
    have e : ent G (M1 M a2) a = ent G M a := ent_congr (fun _ _ => rfl) (fun _ _ => rfl) (fun _ => rfl) (mK_M1 hne) rfl
    have hx : ent G (M1 M a2) a = some x := hx
    rw [e] at hx
    exact h2 a x hx
  · have ha : mK (M1 M a2) a ≠ 0 := ha
    have e := mK_M1 ha
    rw [e] at ha
    rcases h3 a ha with g | g
    · exact Or.inl g
    · refine Or.inr ⟨g.1, ?_, g.2.2⟩
      show mK (M1 M a2) a = 26
      rw [e]; exact g.2.1
  · have g := h2 a2 _ (ent_obj (kd := 13) (by decide) (by decide) ok.1)
    rw [fl_mv (G := G) ok (kfl 13) 0 (fun i => by rw [Nat.zero_add]; rfl)] at g
    exact g
  · obtain ⟨a, e1, e2, e3⟩ := ok.2.1 k hk1
    have ea : gA (G1 G M a2) k = a := by show (mP M (1300 + k) a2 0).getD 0 = a; rw [e1]; rfl
    have es : σ1 M a2 k = mI M 0 a := funext fun j => by
      show (if mfl[k]? = some true then mI M 0 ((mP M (1300 + k) a2 0).getD 0) j else _) = _
      rw [if_pos hk1, e1]; rfl
    show H[gA (G1 G M a2) k]? = some (vp_cell (gC G (if mbool k = true then 2 else 1)) (mlen k, .inl (σ1 M a2 k)))
    rw [ea, es, ← e3]
    by_cases hb : mbool k = true
    · rw [if_pos hb] at e2 ⊢
      exact h2 a _ (ent_arr.2.2.1 e2)
    · rw [if_neg hb] at e2 ⊢
      exact h2 a _ (ent_arr.2.1 e2)
  · show mK (M1 M a2) a2 = 0
    exact mK_pos (Or.inl rfl)
  · show mK (M1 M a2) (gA (G1 G M a2) k) = 0
    exact mK_pos (Or.inr ⟨k, hk1, rfl⟩)
  · show mK (M1 M a2) (gE G) = 26
    refine (mK_neg ?_).trans h6
    rintro (h | ⟨k, hk1, h⟩)
    · have := ok.1; rw [← h, h6] at this; cases this
    · obtain ⟨a, e1, -, -⟩ := ok.2.1 k hk1
      rw [e1] at h
      exact hk k hk1 a e1 (by rw [← show gE G = a from h]; exact h6)
theorem AAh.flip {G : GE} {σ : Sg} {M : Mm} {n a2 : Nat} {H : Heap} (h : WDh G (σ, M, n) H) (ok : MOK M a2) : AAh (G1 G M a2) := by
  intro _
  have hz : ∀ a, mK M a ≠ 0 → mK M a ≠ 26 → gZ G ≤ a := fun a h0 h1 => by
    rcases h.2.2.1 a h0 with g | g
    · exact g.1
    · exact absurd g.2.1 h1
  refine ⟨hz a2 (by rw [ok.1]; decide) (by rw [ok.1]; decide), fun k hk => ?_, fun k k' hk hk' he => ?_⟩
  · obtain ⟨a, e1, e2, -⟩ := ok.2.1 k hk
    have ea : gA (G1 G M a2) k = a := by show (mP M (1300 + k) a2 0).getD 0 = a; rw [e1]; rfl
    rw [ea]
    refine ⟨hz a (by rw [e2]; split <;> decide) (by rw [e2]; split <;> decide), ?_⟩
    intro h0
    have h0 : a = a2 := h0
    rw [h0, ok.1] at e2
    split at e2 <;> cases e2
  · obtain ⟨a, e1, -, -⟩ := ok.2.1 k hk
    obtain ⟨a', e1', -, -⟩ := ok.2.1 k' hk'
    have he : (mP M (1300 + k) a2 0).getD 0 = (mP M (1300 + k') a2 0).getD 0 := he
    rw [e1, e1'] at he
    have he : a = a' := he
    exact ok.2.2 k k' hk hk' (by rw [e1, e1', he])
theorem CX.flip {X : MC} {G : GE} {own : String} {cc : ByteArray} {P : List BR} {nL : Nat} {ret : Option FieldType} {n0 : Nat} (C : CX X G own cc P nL ret n0) {σ : Sg} {M : Mm} {n a2 : Nat} {H : Heap} (h : WDh G (σ, M, n) H) (ok : MOK M a2) : CX X (G1 G M a2) own cc P nL ret n0 := by
  obtain ⟨hx, hb, hml, hown, hts, hK, hlk', hrt, hST, hZ, hn0, hAA, hP, htr⟩ := C
  exact ⟨hx, hb, hml, hown, hts, hK, hlk', hrt, hST, hZ, hn0, AAh.flip h ok, hP, htr⟩
/-- from the two made to the loop -/
theorem j_flip {X : MC} {G : GE} {n0 : Nat} {R : Room} {Q : State → Prop} {σ : Sg} {M : Mm} {n a2 pc : Nat} {lv : LV} {st : List AV} (ok : MOK M a2) (k : ∀ H : Heap, WDh G (σ, M, n) H → J X (G1 G M a2) 7 300 (7800 * (n - n0)) n0 R Q (σ1 M a2, M1 M a2, n) pc lv st) : J X G 7 8100 0 n0 R Q (σ, M, n) pc lv st := by
  intro H locs hW hS ls hl
  have k1 := k H hW H locs (hW.flip ok) hS ls hl
  refine W.cs (cells' := n - n0) (slots' := 7800 * (n - n0) + 300 * (n - n0)) rfl ?_ k1
  show 0 + 8100 * (n - n0) = _
  omega

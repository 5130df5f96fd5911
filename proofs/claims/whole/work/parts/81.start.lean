set_option maxRecDepth 100000
/-! the start: what the Statement gives -/
theorem start_K {s : State} {args : Array Value} (hts : ∀ w ∈ lw_tbl, w.before args s = true) : ∃ (D : va_G) (c : Nat → ClassId), va_K D kcl [(c 0, .byte), (c 1, .int), (c 2, .boolean), (c 3, .object "java/lang/Object"), (c 4, .object "BlobHarbor$Bytes"), (c 5, .long)] s := by
  have htb : ∀ w ∈ TBG, w.before args s = true := fun w hw => hts w (tb_in w hw)
  have hk : ∀ k : Nat, ∃ (ci : ClassId × (Nat → Nat)), ∀ q : vw_C, kcl[k]? = some q → u_Kn s q.1 q.2.1 q.2.2 ci.1 ci.2 := by
    intro k
    match k with
    | 0 =>
      obtain ⟨c, i, h⟩ := u_known (C := RX0) (T := TX0) (N := 2) (n := 2) htb inK_1 (htb (.instantiable RX0 2) (tb_mem 155 (by decide +kernel) (by decide +kernel)))
      exact ⟨(c, i), fun q hq => by cases hq; exact h⟩
    | 1 =>
      obtain ⟨c, i, h⟩ := u_known (C := RX1) (T := TX1) (N := 4) (n := 4) htb inK_2 (htb (.instantiable RX1 4) (tb_mem 102 (by decide +kernel) (by decide +kernel)))
      exact ⟨(c, i), fun q hq => by cases hq; exact h⟩
    | 2 =>
      obtain ⟨c, i, h⟩ := u_known (C := RX2) (T := TX2) (N := 3) (n := 3) htb inK_3 (htb (.instantiable RX2 3) (tb_mem 84 (by decide +kernel) (by decide +kernel)))
      exact ⟨(c, i), fun q hq => by cases hq; exact h⟩
    | 3 =>
      obtain ⟨c, i, h⟩ := u_known (C := RX3) (T := TX3) (N := 4) (n := 4) htb inK_4 (htb (.instantiable RX3 4) (tb_mem 463 (by decide +kernel) (by decide +kernel)))
      exact ⟨(c, i), fun q hq => by cases hq; exact h⟩
    | 4 =>
      obtain ⟨c, i, h⟩ := u_known (C := RX5) (T := TX5) (N := 8) (n := 8) htb inK_5 (htb (.instantiable RX5 8) (tb_mem 513 (by decide +kernel) (by decide +kernel)))
      exact ⟨(c, i), fun q hq => by cases hq; exact h⟩
    | 5 =>
      obtain ⟨c, i, h⟩ := u_known (C := RX6) (T := TX6) (N := 4) (n := 4) htb inK_6 (htb (.instantiable RX6 4) (tb_mem 45 (by decide +kernel) (by decide +kernel)))
      exact ⟨(c, i), fun q hq => by cases hq; exact h⟩
    | 6 =>
      obtain ⟨c, i, h⟩ := u_known (C := RX7) (T := TX7) (N := 3) (n := 3) htb inK_7 (htb (.instantiable RX7 3) (tb_mem 1285 (by decide +kernel) (by decide +kernel)))
      exact ⟨(c, i), fun q hq => by cases hq; exact h⟩
    | 7 =>
      obtain ⟨c, i, h⟩ := u_known (C := RX8) (T := TX8) (N := 5) (n := 5) htb inK_8 (htb (.instantiable RX8 5) (tb_mem 51 (by decide +kernel) (by decide +kernel)))
      exact ⟨(c, i), fun q hq => by cases hq; exact h⟩
    | 8 =>
      obtain ⟨c, i, h⟩ := u_known (C := RX9) (T := TX9) (N := 4) (n := 4) htb inK_9 (htb (.instantiable RX9 4) (tb_mem 1090 (by decide +kernel) (by decide +kernel)))
      exact ⟨(c, i), fun q hq => by cases hq; exact h⟩
    | 9 =>
      obtain ⟨c, i, h⟩ := u_known (C := RX10) (T := TX10) (N := 5) (n := 5) htb inK_10 (htb (.instantiable RX10 5) (tb_mem 501 (by decide +kernel) (by decide +kernel)))
      exact ⟨(c, i), fun q hq => by cases hq; exact h⟩
    | 10 =>
      obtain ⟨c, i, h⟩ := u_known (C := RX11) (T := TX11) (N := 10) (n := 10) htb inK_11 (htb (.instantiable RX11 10) (tb_mem 37 (by decide +kernel) (by decide +kernel)))
      exact ⟨(c, i), fun q hq => by cases hq; exact h⟩
    | 11 =>
      obtain ⟨c, i, h⟩ := u_known (C := RJx4a65c) (T := TJx4a65c) (N := 3) (n := 3) htb inK_12 (htb (.instantiable RJx4a65c 3) (tb_mem 57 (by decide +kernel) (by decide +kernel)))
      exact ⟨(c, i), fun q hq => by cases hq; exact h⟩
    | 12 =>
      obtain ⟨c, i, h⟩ := u_known (C := RX12) (T := TX12) (N := 47) (n := 47) htb inK_13 (htb (.instantiable RX12 47) (tb_mem 1407 (by decide +kernel) (by decide +kernel)))
      exact ⟨(c, i), fun q hq => by cases hq; exact h⟩
    | k + 13 => exact ⟨(0, fun _ => 0), fun q hq => by cases hq⟩
  obtain ⟨f, hf⟩ := Classical.axiomOfChoice hk
  obtain ⟨a0, b0, d0, e0, e1, e2⟩ := Cond.arrayClass_spec (htb _ w_abyte)
  obtain ⟨a1, b1, d1, f0, f1, f2⟩ := Cond.arrayClass_spec (htb _ w_aint)
  obtain ⟨a2, b2, d2, g0, g1, g2⟩ := Cond.arrayClass_spec (htb _ w_aboolean)
  obtain ⟨a5, b5, d5, h0, h1, h2⟩ := Cond.arrayClass_spec (htb _ w_along)
  obtain ⟨x3, c3, k3, i0, -, i1, i2, i3⟩ := Cond.arrayOver_spec (hts (.arrayOver (.object "java/lang/Object")) (by decide +kernel))
  obtain ⟨x4, c4, k4, j0, -, j1, j2, j3⟩ := Cond.arrayOver_spec (hts (.arrayOver (.object "BlobHarbor$Bytes")) (by decide +kernel))
  refine ⟨(fun k => (f k).1, fun k => (f k).2), (fun k => match k with | 0 => a0 | 1 => a1 | 2 => a2 | 3 => c3 | 4 => c4 | _ => a5), fun k q hq => hf k q hq, fun k q hq => ?_⟩
  match k, hq with
  | 0, hq => cases hq; exact ⟨fun n z => ⟨(fun k h => by cases h), b0, e1, d0, e2⟩, e0⟩
  | 1, hq => cases hq; exact ⟨fun n z => ⟨(fun k h => by cases h), b1, f1, d1, f2⟩, f0⟩
  | 2, hq => cases hq; exact ⟨fun n z => ⟨(fun k h => by cases h), b2, g1, d2, g2⟩, g0⟩
  | 3, hq => cases hq; exact ⟨fun n z => ⟨(fun k h => by cases h), k3, i1, x3, i2⟩, k3, x3, i1, i2, i0, i3⟩
  | 4, hq => cases hq; exact ⟨fun n z => ⟨(fun k h => by cases h), k4, j1, x4, j2⟩, k4, x4, j1, j2, j0, j3⟩
  | 5, hq => cases hq; exact ⟨fun n z => ⟨(fun k h => by cases h), b5, h1, d5, h2⟩, h0⟩
  | k + 6, hq => cases hq
theorem nest_on {w : Cond} (h : isNest w = true) : w.onTables = true := by
  cases w with
  | fieldLinkNest a i b n d h0 => rfl
  | methodLinkNest a i x h0 => rfl
  | castable a b => rfl
  | declares x => rfl
  | _ => cases h
theorem ev_eq {args : Array Value} {s : State} {t : Term} {v : Int32} (h : (Cond.eq t (.int v)).before args s = true) : t.eval args s none [] s = some (.int v) := by
  obtain ⟨w, h1, h2⟩ := Cond.eq_one h
  cases h2
  exact h1
def g3 (e f o : Nat) : Nat → Nat := fun k => match k with
  | 0 => e
  | 1 => f
  | _ => o
def tF : Term := .static RX1 "FACTORS" "[I"
def tE : Term := .static RJx4a65c "DEFAULTCAPACITY_EMPTY_ELEMENTDATA" "[Ljava/lang/Object;"
def gve : Cond := Jvm.Cond.and given_1 narrow_1
theorem start_ST {s : State} {args : Array Value} (hts : ∀ w ∈ lw_tbl, w.before args s = true) (hgv : gve.before args s = true) (D : va_G) (c : Nat → ClassId) : ∃ e0 f0 o0 : Nat, e0 < s.heap.size ∧ ST (D, c, s.heap.size, false, 0, (fun _ => 0), g3 e0 f0 o0) s := by
  have hs := flat_of_before _ hgv
  have hA : ∀ a : Nat, a < s.heap.size → ¬ s.heap.size ≤ a := fun a h => Nat.not_le.mpr h
  obtain ⟨f0, hf0, hf1⟩ := va_Tof (tm := tF) (ty := .int) (N := 15) (f := fun j => .int (facs j)) (A := fun q => s.heap.size ≤ q) (by decide) (hs _ (by decide +kernel)) (ev_eq (hs (.eq (.length tF) (.int 15)) (by decide +kernel)))
    (fun j hj => ev_eq (hs _ ((by decide +kernel : ∀ j : Nat, j < 15 → Cond.eq (.elem tF (.int (Int32.ofNat j))) (.int (facs j)) ∈ flatC gve) j hj))) hA
  obtain ⟨e0, he0, he1⟩ := va_Tof (tm := tE) (ty := .object "java/lang/Object") (N := 0) (f := fun _ => .null) (A := fun q => s.heap.size ≤ q) (by decide) (hs _ (by decide +kernel)) (ev_eq (hs (.eq (.length tE) (.int 0)) (by decide +kernel))) (fun j hj => absurd hj (Nat.not_lt_zero j)) hA
  obtain ⟨o0, ho0⟩ := va_Mi.of (C := "[Ljava/lang/Object;") (hs _ (by decide +kernel))
  refine ⟨e0, f0, o0, Nat.not_le.mp he1.out, va_Zref (hts _ (by decide +kernel)) (hts _ (by decide +kernel)) hf0 hA, hf1, va_Zref (hts _ (by decide +kernel)) (hts _ (by decide +kernel)) he0 hA, vx_Zqof (hts _ (by decide +kernel)) (hts _ (by decide +kernel)) (hs _ (by decide +kernel)) hA, vx_Zqof (hts _ (by decide +kernel)) (hts _ (by decide +kernel)) (hs _ (by decide +kernel)) hA, ho0, ⟨va_Dc.of (hts _ (by decide +kernel)), he1⟩, fun w hw => ?_, fun q hq => ?_, va_AO.of (hts _ (by decide +kernel)), va_AO.of (hts _ (by decide +kernel)), fun q hq => va_Nc.of (hs _ ((by decide +kernel : ∀ q ∈ xprs, Cond.not (.castable q.1 q.2) ∈ flatC gve) q hq))⟩
  · obtain ⟨h1, h2⟩ := List.mem_filter.mp hw
    exact va_Nw.of (nest_on h2) (hts w (List.mem_append_right _ h1))
  · have e1 := hts _ ((by decide +kernel : ∀ q ∈ txts, Cond.stringRef RX11 q.1 q.2 ∈ lw_tbl) q hq)
    obtain ⟨a, -, -, -, h1, -⟩ := Cond.exactly_spec (hs _ ((by decide +kernel : ∀ q ∈ txts, Cond.exactly (.string RX11 q.1) "java/lang/String" ∈ flatC gve) q hq))
    exact ⟨a, vk_R.of e1 h1⟩
/-- the class's memory at the start -/
def M00 (e0 : Nat) : Mm := (fun _ _ _ => 0, fun _ _ _ => none, fun _ _ => 0, fun a => if a = e0 then 26 else 0, fun a => if a = 0 then e0 else 0)
def GOODL (n0 L : Nat) (xs : Nat → Int32) (a1 a2 a3 : Nat) (M : Mm) (n : Nat) : Prop := n ≤ n0 + 100 ∧ MOK M a2 ∧ ∃ nE, fLw_law xs L a1 a3 (n0 + 21000) (σ1 M a2) (M1 M a2) n = some nE
noncomputable def kG (n0 L : Nat) (xs : Nat → Int32) (a1 a2 a3 : Nat) (M : Mm) (n : Nat) : Option (Nat × Nat × Nat × Mm × Nat) := @ite _ (GOODL n0 L xs a1 a2 a3 M n) (Classical.propDecidable _) (some (a1, a2, a3, M, n)) none
/-- WHAT IS LEFT: the two answer alike, over the pure functions -/
def PURE : Prop := ∀ (n0 e0 L : Nat) (xs : Nat → Int32), e0 < n0 → L ≤ 2560 → ∃ r, fLw_A (M00 e0) n0 (kG n0 L xs) = some r

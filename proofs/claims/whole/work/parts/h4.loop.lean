set_option maxRecDepth 100000
/-! the law's loop: both answer alike, call after call -/
def OKL (o : Option Nat) : Prop := ∃ nE, o = some nE
def ecb (v : Int32) : Int64 := if v = 0 then Int64.ofNat 0 else Int64.ofNat 1
theorem lg_self (x : Int64) : lg_cmp x x = 0 := by
  unfold lg_cmp
  rw [if_neg Int64.lt_irrefl, if_pos rfl]
theorem k3c (k : Nat) : k = 0 ∨ k = 1 ∨ k = 2 ∨ 2 < k := by omega
theorem cdf_big {a b d k : Nat} (h : 2 < k) : cdf a b d k = i3 0 := by
  unfold cdf
  rw [if_neg (by omega), if_neg (by omega), if_neg (by omega)]
theorem tsl_nil_ok : ∀ j, j < ([] : List (Option Nat)).length → OKL (tsl [] j) := fun j hj => absurd hj (Nat.not_lt_zero j)
theorem tsl_cons_ok {a : Option Nat} {l : List (Option Nat)} (ha : OKL a) (t : ∀ j, j < l.length → OKL (tsl l j)) : ∀ j, j < (a :: l).length → OKL (tsl (a :: l) j)
  | 0, _ => ha
  | j + 1, hj => t j (Nat.lt_of_succ_lt_succ hj)
theorem tsw_ok {x : Int32} {l : List (Option Nat)} {g : Option Nat} (hl : l.length = 28) (hg : OKL g) (t : ∀ j, j < l.length → OKL (tsl l j)) : OKL (tsw 0 27 x (tsl l) g) := by
  unfold tsw
  by_cases z : x.toInt < 0 ∨ 27 < x.toInt
  · rw [if_pos z]; exact hg
  · rw [if_neg z]
    exact t _ (by rw [hl]; omega)
section LP
variable {h c n L : Nat} {σ : Sg} {M : Mm} {xs : Nat → Int32}
theorem scl_ok {i k : Nat} {y : Int32} {f : Int32 → Option Nat} (e : y = i3 (i + k)) (hk : i + k < L) (hL : L ≤ 2560) (z : OKL (f (xs (i + k)))) : OKL (scl xs L y f) := by
  have e1 : (i3 (i + k)).toNatClampNeg = i + k := nv_i (by omega)
  have e2 : ¬ (i3 (i + k) < 0) := fun q => absurd ((i3_lt (b := 0) (by omega) (by omega)).mp q) (Nat.not_lt_zero _)
  subst e
  unfold scl
  rw [if_neg (fun q => q.elim e2 (fun q => by rw [e1] at q; omega)), e1]
  exact z
theorem asJ_s {ω : Type} {a : Nat} {v : Int64} {f : Mm → Option ω} (hk : mK M a = 25) (hl : mL M a = 1) : asJ (some a) 0 v M f = f (uJ M a 0 v) := by
  show (if mK M a = 25 then (if (0 : Int32) < 0 ∨ mL M a ≤ (0 : Int32).toNatClampNeg then none else f (uJ M a (0 : Int32).toNatClampNeg v)) else none) = _
  rw [if_pos hk, hl, if_neg (by decide)]
  rfl
theorem alJ_s {ω : Type} {a : Nat} {f : Int64 → Option ω} (hk : mK M a = 25) (hl : mL M a = 1) : alJ (some a) 0 M f = f (mJ M a 0) := by
  show (if mK M a = 25 then (if (0 : Int32) < 0 ∨ mL M a ≤ (0 : Int32).toNatClampNeg then none else f (mJ M a (0 : Int32).toNatClampNeg)) else none) = _
  rw [if_pos hk, hl, if_neg (by decide)]
  rfl
theorem INV.uj {σ' : Sg} {M' : Mm} {d m : Nat} (hI : INV h d σ' M' m) (v : Int64) : INV h d σ' (uJ M' (h + 82) 0 v) m := by
  obtain ⟨own, B, R, I⟩ := hI
  exact ⟨own, B, R.scr (T := fun _ => False) (fun a _ => ⟨rfl, fun _ => ⟨rfl, rfl, fun _ _ => rfl, fun _ _ => rfl⟩, fun _ => ⟨rfl, rfl, fun _ _ => rfl⟩⟩) (fun _ z => z.elim), I⟩
theorem call_ok {X : Option ((Int32 ⊕ Nat) × Mm × Nat)} {Y : Option (Int32 × Sg)} {cd : Nat → Int32} {Z : Option (Int32 × Mm × Nat)} {W : Int32 → Mm → Nat → Option (Int32 × Mm × Nat)} {cat : Nat → Mm → Nat → Option (Int32 × Mm × Nat)} {F : Int32 → Mm → Nat → Option Nat} (ecd : Int32 → Int64)
    (hO : OPR h c σ n X Y cd) (hZ : Z = bdT X n W cat) (hW : ∀ v M1 n1, W v M1 n1 = asJ (some (h + 82)) 0 (ecd v) M1 fun M2 => some (0, M2, n1)) (hc : ∀ k M1 n1, cd k ≠ i3 0 → cat k M1 n1 = some (cd k, M1, n1))
    (kk : ∀ u M6 n7 v σ', Y = some (v, σ') → σ' 0 0 = u → (u = 0 → mK M6 (h + 82) = 25 ∧ mL M6 (h + 82) = 1 ∧ mJ M6 (h + 82) 0 = ecd v) → INV h (c + 1) σ' M6 n7 → POT σ n σ' n7 → OKL (F u M6 n7)) : OKL (bdL Z n F) := by
  obtain ⟨o, M', n', v, σ', hX, hY, hA, hn, hP, hI⟩ := hO
  rw [hZ, hX]
  cases o with
  | inl w =>
    have hA : σ' 0 0 = i3 0 ∧ w = v := hA
    obtain ⟨a1, a2⟩ := hA
    have hB := hI
    obtain ⟨own, B, R, -⟩ := hB
    have e : bdT (some ((Sum.inl w : Int32 ⊕ Nat), M', n')) n W cat = some (0, uJ M' (h + 82) 0 (ecd v), n') := by
      show (if n ≤ n' then W w M' n' else none) = _
      rw [if_pos hn, hW, asJ_s R.hb.jk R.hb.jl, a2]
    rw [e]
    show OKL (if n ≤ n' then F 0 (uJ M' (h + 82) 0 (ecd v)) n' else none)
    rw [if_pos hn]
    exact kk 0 _ _ v σ' hY a1 (fun _ => ⟨R.hb.jk, R.hb.jl, by rw [mJ_uJ, if_pos ⟨rfl, rfl⟩]⟩) (hI.uj _) hP
  | inr k =>
    have hA : σ' 0 0 = cd k ∧ σ' 0 0 ≠ i3 0 := hA
    obtain ⟨a1, a2⟩ := hA
    have e : bdT (some ((Sum.inr k : Int32 ⊕ Nat), M', n')) n W cat = some (cd k, M', n') := by
      show (if n ≤ n' then cat k M' n' else none) = _
      rw [if_pos hn, hc k M' n' (by rw [← a1]; exact a2)]
    rw [e]
    show OKL (if n ≤ n' then F (cd k) M' n' else none)
    rw [if_pos hn]
    exact kk (cd k) _ _ v σ' hY a1 (fun z => absurd (a1.trans z) a2) hI hP
theorem rest_ok2 {Y : Option (Int32 × Sg)} {v : Int32} {σ' : Sg} {u : Int32} {M6 : Mm} {a3 : Nat} {e : Int64} {D : Int32 → Sg → Int64 → Option Nat} {G : Sg → Option Nat} (hy : Y = some (v, σ')) (ht : σ' 0 0 = u) (hj : u = 0 → mK M6 a3 = 25 ∧ mL M6 a3 = 1 ∧ mJ M6 a3 0 = e) (hD : OKL (D v σ' e)) (z : OKL (G σ')) : OKL (bdW Y fun v1 σ2 => bdR (fMd_thrown σ2) fun v3 => if v3 = u then (if u = 0 then alJ (some a3) 0 M6 fun j4 => D v1 σ2 j4 else G σ2) else none) := by
  rw [hy]
  show OKL (if σ' 0 0 = u then (if u = 0 then alJ (some a3) 0 M6 (fun j4 => D v σ' j4) else G σ') else none)
  rw [if_pos ht]
  by_cases hu : u = 0
  · obtain ⟨k1, k2, k3⟩ := hj hu
    rw [if_pos hu, alJ_s k1 k2, k3]
    exact hD
  · rw [if_neg hu]; exact z
theorem rest_ok {Y : Option (Int32 × Sg)} {v : Int32} {σ' : Sg} {u : Int32} {M6 : Mm} {a3 : Nat} (G : Sg → Option Nat) (hy : Y = some (v, σ')) (ht : σ' 0 0 = u) (hj : u = 0 → mK M6 a3 = 25 ∧ mL M6 a3 = 1 ∧ mJ M6 a3 0 = v.toInt64) (z : OKL (G σ')) : OKL (bdW Y fun v1 σ2 => bdR (fMd_thrown σ2) fun v3 => if v3 = u then (if u = 0 then alJ (some a3) 0 M6 fun j4 => if lg_cmp j4 v1.toInt64 = 0 then G σ2 else none else G σ2) else none) :=
  rest_ok2 (D := fun v1 σ2 j4 => if lg_cmp j4 v1.toInt64 = 0 then G σ2 else none) hy ht hj (by
    show OKL (if lg_cmp v.toInt64 v.toInt64 = 0 then G σ' else none)
    rw [lg_self, if_pos rfl]; exact z) z
theorem law_step {k : Int32 → Sg → Mm → Nat → Option Nat} (hL : L ≤ 2560) (hI : INV h c σ M n) (hn : n ≤ h + 21000) (K : 5 * c + 5 ≤ L → ∀ σ' M' n', INV h (c + 1) σ' M' n' → POT σ n σ' n' → OKL (k (i3 (5 * c) + 5) σ' M' n')) (hcL : 5 * c ≤ L) : OKL (fLw_law_b23 xs L h (h + 82) (h + 21000) k (i3 (5 * c)) σ M n) := by
  unfold fLw_law_b23
  by_cases hz : Int32.ofNat L - 5 < i3 (5 * c)
  · rw [if_pos hz]
    exact ⟨n, if_pos hn⟩
  rw [if_neg hz]
  have hb : 5 * c + 5 ≤ L := by
    refine Nat.not_lt.mp fun q => hz ?_
    by_cases h5 : 5 ≤ L
    · have e : Int32.ofNat L - 5 = i3 (L - 5) := i3_sub h5
      rw [e]
      exact (i3_lt (by omega) (by omega)).mpr (by omega)
    · have h2 : ∀ l, l < 5 → Int32.ofNat l - 5 < i3 0 := by decide
      exact Int32.lt_of_lt_of_le (h2 L (by omega)) ((i3_le (by omega) (by omega)).mpr (Nat.zero_le _))
  have K := K hb
  have hc6 : c ≤ 600 := by omega
  obtain ⟨own, B, R, I⟩ := hI
  have e0 : i3 (5 * c) = i3 (5 * c + 0) := rfl
  have e1 : i3 (5 * c) + 1 = i3 (5 * c + 1) := i3_add _ 1
  have e2 : i3 (5 * c) + 2 = i3 (5 * c + 2) := i3_add _ 2
  have e3 : i3 (5 * c) + 3 = i3 (5 * c + 3) := i3_add _ 3
  have e4 : i3 (5 * c) + 4 = i3 (5 * c + 4) := i3_add _ 4
  refine scl_ok e0 (by omega) hL ?_
  refine tsw_ok rfl ?_ (tsl_cons_ok ?_ (tsl_cons_ok ?_ (tsl_cons_ok ?_ (tsl_cons_ok ?_ (tsl_cons_ok ?_ (tsl_cons_ok ?_ (tsl_cons_ok ?_ (tsl_cons_ok ?_ (tsl_cons_ok ?_ (tsl_cons_ok ?_ (tsl_cons_ok ?_ (tsl_cons_ok ?_ (tsl_cons_ok ?_ (tsl_cons_ok ?_ (tsl_cons_ok ?_ (tsl_cons_ok ?_ (tsl_cons_ok ?_ (tsl_cons_ok ?_ (tsl_cons_ok ?_ (tsl_cons_ok ?_ (tsl_cons_ok ?_ (tsl_cons_ok ?_ (tsl_cons_ok ?_ (tsl_cons_ok ?_ (tsl_cons_ok ?_ (tsl_cons_ok ?_ (tsl_cons_ok ?_ (tsl_cons_ok ?_ tsl_nil_ok))))))))))))))))))))))))))))
  · exact K σ M n ⟨own, B, R, I.up0⟩ (show n + 4 * kpt σ + ppt σ ≤ n + 4 * kpt σ + ppt σ + 25 by omega)
  · exact (scl_ok e1 (by omega) hL (scl_ok e2 (by omega) hL (scl_ok e3 (by omega) hL (call_ok (fun v => v.toInt64) (op_draft R I _ _ _) (rk_s R.hb.k) (fun _ _ _ => rfl) (by
        intro k1 M1 n1 hk
        rcases k3c k1 with q | q | q | q
        · subst q; first | rfl | exact absurd rfl hk
        · subst q; first | rfl | exact absurd rfl hk
        · subst q; first | rfl | exact absurd rfl hk
        · exact absurd (cdf_big q) hk) (fun u M6 n7 v σ' hy ht hj hI hP => (scl_ok e1 (by omega) hL (scl_ok e2 (by omega) hL (scl_ok e3 (by omega) hL (rest_ok _ hy ht hj (K σ' M6 n7 hI hP))))))))))
  · obtain ⟨v, M', σ', q1, q2, q3, q4⟩ := op_clear R I
    rw [rk_s R.hb.k, q1, q2]
    show OKL (if v = v then _ else none)
    rw [if_pos rfl]
    exact K σ' M' n q4 q3
  · exact (scl_ok e1 (by omega) hL (scl_ok e2 (by omega) hL (scl_ok e3 (by omega) hL (call_ok (fun v => v.toInt64) (op_put R I _ _ _) (rk_s R.hb.k) (fun _ _ _ => rfl) (by
        intro k1 M1 n1 hk
        rcases k3c k1 with q | q | q | q
        · subst q; first | rfl | exact absurd rfl hk
        · subst q; first | rfl | exact absurd rfl hk
        · subst q; first | rfl | exact absurd rfl hk
        · exact absurd (cdf_big q) hk) (fun u M6 n7 v σ' hy ht hj hI hP => (scl_ok e1 (by omega) hL (scl_ok e2 (by omega) hL (scl_ok e3 (by omega) hL (rest_ok _ hy ht hj (K σ' M6 n7 hI hP))))))))))
  · exact (scl_ok e1 (by omega) hL (scl_ok e2 (by omega) hL (call_ok (fun v => v.toInt64) (op_delete R I _ _) (rk_s R.hb.k) (fun _ _ _ => rfl) (by
        intro k1 M1 n1 hk
        rcases k3c k1 with q | q | q | q
        · subst q; first | rfl | exact absurd rfl hk
        · subst q; first | rfl | exact absurd rfl hk
        · subst q; first | rfl | exact absurd rfl hk
        · exact absurd (cdf_big q) hk) (fun u M6 n7 v σ' hy ht hj hI hP => (scl_ok e1 (by omega) hL (scl_ok e2 (by omega) hL (rest_ok _ hy ht hj (K σ' M6 n7 hI hP))))))))
  · exact (scl_ok e1 (by omega) hL (scl_ok e2 (by omega) hL (scl_ok e3 (by omega) hL (call_ok (fun v => v.toInt64) (op_drop R I _ _ _) (rk_s R.hb.k) (fun _ _ _ => rfl) (by
        intro k1 M1 n1 hk
        rcases k3c k1 with q | q | q | q
        · subst q; first | rfl | exact absurd rfl hk
        · subst q; first | rfl | exact absurd rfl hk
        · subst q; first | rfl | exact absurd rfl hk
        · exact absurd (cdf_big q) hk) (fun u M6 n7 v σ' hy ht hj hI hP => (scl_ok e1 (by omega) hL (scl_ok e2 (by omega) hL (scl_ok e3 (by omega) hL (rest_ok _ hy ht hj (K σ' M6 n7 hI hP))))))))))
  · exact (scl_ok e1 (by omega) hL (scl_ok e2 (by omega) hL (scl_ok e3 (by omega) hL (scl_ok e4 (by omega) hL (call_ok (fun v => v.toInt64) (op_lock R I _ _ _ _) (rk_s R.hb.k) (fun _ _ _ => rfl) (by
        intro k1 M1 n1 hk
        rcases k3c k1 with q | q | q | q
        · subst q; first | rfl | exact absurd rfl hk
        · subst q; first | rfl | exact absurd rfl hk
        · subst q; first | rfl | exact absurd rfl hk
        · exact absurd (cdf_big q) hk) (fun u M6 n7 v σ' hy ht hj hI hP => (scl_ok e1 (by omega) hL (scl_ok e2 (by omega) hL (scl_ok e3 (by omega) hL (scl_ok e4 (by omega) hL (rest_ok _ hy ht hj (K σ' M6 n7 hI hP))))))))))))
  · exact (scl_ok e1 (by omega) hL (scl_ok e2 (by omega) hL (scl_ok e3 (by omega) hL (scl_ok e4 (by omega) hL (call_ok (fun v => v.toInt64) (op_read R I _ _ _ _) (rk_s R.hb.k) (fun _ _ _ => rfl) (by
        intro k1 M1 n1 hk
        rcases k3c k1 with q | q | q | q
        · subst q; first | rfl | exact absurd rfl hk
        · subst q; first | rfl | exact absurd rfl hk
        · subst q; first | rfl | exact absurd rfl hk
        · exact absurd (cdf_big q) hk) (fun u M6 n7 v σ' hy ht hj hI hP => (scl_ok e1 (by omega) hL (scl_ok e2 (by omega) hL (scl_ok e3 (by omega) hL (scl_ok e4 (by omega) hL (rest_ok _ hy ht hj (K σ' M6 n7 hI hP))))))))))))
  · exact (scl_ok e1 (by omega) hL (scl_ok e2 (by omega) hL (scl_ok e3 (by omega) hL (call_ok (fun v => v.toInt64) (op_ask R I _ _ _) (rk_s R.hb.k) (fun _ _ _ => rfl) (by
        intro k1 M1 n1 hk
        rcases k3c k1 with q | q | q | q
        · subst q; first | rfl | exact absurd rfl hk
        · subst q; first | rfl | exact absurd rfl hk
        · subst q; first | rfl | exact absurd rfl hk
        · exact absurd (cdf_big q) hk) (fun u M6 n7 v σ' hy ht hj hI hP => (scl_ok e1 (by omega) hL (scl_ok e2 (by omega) hL (scl_ok e3 (by omega) hL (rest_ok _ hy ht hj (K σ' M6 n7 hI hP))))))))))
  · exact (scl_ok e1 (by omega) hL (scl_ok e2 (by omega) hL (call_ok (fun v => v.toInt64) (op_upload R I _ _) (rk_s R.hb.k) (fun _ _ _ => rfl) (by
        intro k1 M1 n1 hk
        rcases k3c k1 with q | q | q | q
        · subst q; first | rfl | exact absurd rfl hk
        · subst q; first | rfl | exact absurd rfl hk
        · subst q; first | rfl | exact absurd rfl hk
        · exact absurd (cdf_big q) hk) (fun u M6 n7 v σ' hy ht hj hI hP => (scl_ok e1 (by omega) hL (scl_ok e2 (by omega) hL (rest_ok _ hy ht hj (K σ' M6 n7 hI hP))))))))
  · exact (scl_ok e1 (by omega) hL (scl_ok e2 (by omega) hL (call_ok (fun v => v.toInt64) (op_piece R I _ _) (rk_s R.hb.k) (fun _ _ _ => rfl) (by
        intro k1 M1 n1 hk
        rcases k3c k1 with q | q | q | q
        · subst q; first | rfl | exact absurd rfl hk
        · subst q; first | rfl | exact absurd rfl hk
        · subst q; first | rfl | exact absurd rfl hk
        · exact absurd (cdf_big q) hk) (fun u M6 n7 v σ' hy ht hj hI hP => (scl_ok e1 (by omega) hL (scl_ok e2 (by omega) hL (rest_ok _ hy ht hj (K σ' M6 n7 hI hP))))))))
  · refine (scl_ok e1 (by omega) hL (scl_ok e2 (by omega) hL ?_))
    by_cases hz : xs (5 * c + 2) = 0
    · rw [if_pos hz]
      unfold fLw_law_j906
      exact call_ok (fun v => v.toInt64) (op_finish R I _ (v := 0) (by omega)) (rk_s R.hb.k) (fun _ _ _ => rfl) (by
        intro k1 M1 n1 hk
        rcases k3c k1 with q | q | q | q
        · subst q; first | rfl | exact absurd rfl hk
        · subst q; first | rfl | exact absurd rfl hk
        · subst q; first | rfl | exact absurd rfl hk
        · exact absurd (cdf_big q) hk) (fun u M6 n7 v σ' hy ht hj hI hP => (scl_ok e1 (by omega) hL (scl_ok e2 (by omega) hL (by rw [if_pos hz]; unfold fLw_law_j933; exact rest_ok _ hy ht hj (K σ' M6 n7 hI hP)))))
    · rw [if_neg hz]
      unfold fLw_law_j906
      exact call_ok (fun v => v.toInt64) (op_finish R I _ (v := 1) (by omega)) (rk_s R.hb.k) (fun _ _ _ => rfl) (by
        intro k1 M1 n1 hk
        rcases k3c k1 with q | q | q | q
        · subst q; first | rfl | exact absurd rfl hk
        · subst q; first | rfl | exact absurd rfl hk
        · subst q; first | rfl | exact absurd rfl hk
        · exact absurd (cdf_big q) hk) (fun u M6 n7 v σ' hy ht hj hI hP => (scl_ok e1 (by omega) hL (scl_ok e2 (by omega) hL (by rw [if_neg hz]; unfold fLw_law_j933; exact rest_ok _ hy ht hj (K σ' M6 n7 hI hP)))))
  · exact (scl_ok e1 (by omega) hL (scl_ok e2 (by omega) hL (scl_ok e3 (by omega) hL (scl_ok e4 (by omega) hL (call_ok (fun v => v.toInt64) (op_list R I _ _ _ _) (rk_s R.hb.k) (fun _ _ _ => rfl) (by
        intro k1 M1 n1 hk
        rcases k3c k1 with q | q | q | q
        · subst q; first | rfl | exact absurd rfl hk
        · subst q; first | rfl | exact absurd rfl hk
        · subst q; first | rfl | exact absurd rfl hk
        · exact absurd (cdf_big q) hk) (fun u M6 n7 v σ' hy ht hj hI hP => (scl_ok e1 (by omega) hL (scl_ok e2 (by omega) hL (scl_ok e3 (by omega) hL (scl_ok e4 (by omega) hL (rest_ok _ hy ht hj (K σ' M6 n7 hI hP))))))))))))
  · exact (scl_ok e1 (by omega) hL (scl_ok e2 (by omega) hL (scl_ok e3 (by omega) hL (call_ok (fun v => v.toInt64) (op_version R I _ _ _) (rk_s R.hb.k) (fun _ _ _ => rfl) (by
        intro k1 M1 n1 hk
        rcases k3c k1 with q | q | q | q
        · subst q; first | rfl | exact absurd rfl hk
        · subst q; first | rfl | exact absurd rfl hk
        · subst q; first | rfl | exact absurd rfl hk
        · exact absurd (cdf_big q) hk) (fun u M6 n7 v σ' hy ht hj hI hP => (scl_ok e1 (by omega) hL (scl_ok e2 (by omega) hL (scl_ok e3 (by omega) hL (rest_ok _ hy ht hj (K σ' M6 n7 hI hP))))))))))
  · exact (scl_ok e1 (by omega) hL (scl_ok e2 (by omega) hL (scl_ok e3 (by omega) hL (scl_ok e4 (by omega) hL (call_ok (fun v => v.toInt64) (op_about R I _ _ _ _) (rk_s R.hb.k) (fun _ _ _ => rfl) (by
        intro k1 M1 n1 hk
        rcases k3c k1 with q | q | q | q
        · subst q; first | rfl | exact absurd rfl hk
        · subst q; first | rfl | exact absurd rfl hk
        · subst q; first | rfl | exact absurd rfl hk
        · exact absurd (cdf_big q) hk) (fun u M6 n7 v σ' hy ht hj hI hP => (scl_ok e1 (by omega) hL (scl_ok e2 (by omega) hL (scl_ok e3 (by omega) hL (scl_ok e4 (by omega) hL (rest_ok _ hy ht hj (K σ' M6 n7 hI hP))))))))))))
  · exact (scl_ok e1 (by omega) hL (scl_ok e2 (by omega) hL (scl_ok e3 (by omega) hL (scl_ok e4 (by omega) hL (call_ok (fun v => v.toInt64) (op_part R I _ _ _ _) (rk_s R.hb.k) (fun _ _ _ => rfl) (by
        intro k1 M1 n1 hk
        rcases k3c k1 with q | q | q | q
        · subst q; first | rfl | exact absurd rfl hk
        · subst q; first | rfl | exact absurd rfl hk
        · subst q; first | rfl | exact absurd rfl hk
        · exact absurd (cdf_big q) hk) (fun u M6 n7 v σ' hy ht hj hI hP => (scl_ok e1 (by omega) hL (scl_ok e2 (by omega) hL (scl_ok e3 (by omega) hL (scl_ok e4 (by omega) hL (rest_ok _ hy ht hj (K σ' M6 n7 hI hP))))))))))))
  · exact (scl_ok e1 (by omega) hL (scl_ok e2 (by omega) hL (scl_ok e3 (by omega) hL (call_ok (fun v => v.toInt64) (op_partIs R I _ _ _) (rk_s R.hb.k) (fun _ _ _ => rfl) (by
        intro k1 M1 n1 hk
        rcases k3c k1 with q | q | q | q
        · subst q; first | rfl | exact absurd rfl hk
        · subst q; first | rfl | exact absurd rfl hk
        · subst q; first | rfl | exact absurd rfl hk
        · exact absurd (cdf_big q) hk) (fun u M6 n7 v σ' hy ht hj hI hP => (scl_ok e1 (by omega) hL (scl_ok e2 (by omega) hL (scl_ok e3 (by omega) hL (rest_ok _ hy ht hj (K σ' M6 n7 hI hP))))))))))
  · refine (scl_ok e1 (by omega) hL (scl_ok e2 (by omega) hL (scl_ok e3 (by omega) hL ?_)))
    by_cases hz : xs (5 * c + 3) = 0
    · rw [if_pos hz]
      unfold fLw_law_j1432
      exact call_ok (fun v => v.toInt64) (op_node R I _ _ (v := 0) (by omega)) (rk_s R.hb.k) (fun _ _ _ => rfl) (by
        intro k1 M1 n1 hk
        rcases k3c k1 with q | q | q | q
        · subst q; first | rfl | exact absurd rfl hk
        · subst q; first | rfl | exact absurd rfl hk
        · subst q; first | rfl | exact absurd rfl hk
        · exact absurd (cdf_big q) hk) (fun u M6 n7 v σ' hy ht hj hI hP => (scl_ok e1 (by omega) hL (scl_ok e2 (by omega) hL (scl_ok e3 (by omega) hL (by rw [if_pos hz]; unfold fLw_law_j1465; exact rest_ok _ hy ht hj (K σ' M6 n7 hI hP))))))
    · rw [if_neg hz]
      unfold fLw_law_j1432
      exact call_ok (fun v => v.toInt64) (op_node R I _ _ (v := 1) (by omega)) (rk_s R.hb.k) (fun _ _ _ => rfl) (by
        intro k1 M1 n1 hk
        rcases k3c k1 with q | q | q | q
        · subst q; first | rfl | exact absurd rfl hk
        · subst q; first | rfl | exact absurd rfl hk
        · subst q; first | rfl | exact absurd rfl hk
        · exact absurd (cdf_big q) hk) (fun u M6 n7 v σ' hy ht hj hI hP => (scl_ok e1 (by omega) hL (scl_ok e2 (by omega) hL (scl_ok e3 (by omega) hL (by rw [if_neg hz]; unfold fLw_law_j1465; exact rest_ok _ hy ht hj (K σ' M6 n7 hI hP))))))
  · exact (scl_ok e1 (by omega) hL (scl_ok e2 (by omega) hL (scl_ok e3 (by omega) hL (call_ok ecb (op_rot R I _ _ _) (rk_s R.hb.k) (by
        intro v M1 n1
        show (if v = 0 then _ else _) = _
        by_cases q : v = 0
        · rw [if_pos q, show ecb v = Int64.ofNat 0 from if_pos q]
        · rw [if_neg q, show ecb v = Int64.ofNat 1 from if_neg q]) (by
        intro k1 M1 n1 hk
        rcases k3c k1 with q | q | q | q
        · subst q; first | rfl | exact absurd rfl hk
        · subst q; first | rfl | exact absurd rfl hk
        · subst q; first | rfl | exact absurd rfl hk
        · exact absurd (cdf_big q) hk) (fun u M6 n7 v σ' hy ht hj hI hP => (scl_ok e1 (by omega) hL (scl_ok e2 (by omega) hL (scl_ok e3 (by omega) hL (rest_ok2 (G := fun s => k (i3 (5 * c) + 5) s M6 n7) (e := ecb v) hy ht hj (by
        by_cases q : v = 0
        · rw [show ecb v = Int64.ofNat 0 from if_pos q]
          show OKL (if v = 0 then (if lg_cmp (Int64.ofNat 0) (Int64.ofNat 0) = 0 then _ else none) else _)
          rw [if_pos q, lg_self, if_pos rfl]
          exact K σ' M6 n7 hI hP
        · rw [show ecb v = Int64.ofNat 1 from if_neg q]
          show OKL (if v = 0 then _ else (if lg_cmp (Int64.ofNat 1) (Int64.ofNat 1) = 0 then _ else none))
          rw [if_neg q, lg_self, if_pos rfl]
          exact K σ' M6 n7 hI hP) (K σ' M6 n7 hI hP))))))))))
  · exact (scl_ok e1 (by omega) hL (scl_ok e2 (by omega) hL (call_ok (fun v => v.toInt64) (op_mend R I _ _) (rk_s R.hb.k) (fun _ _ _ => rfl) (by
        intro k1 M1 n1 hk
        rcases k3c k1 with q | q | q | q
        · subst q; first | rfl | exact absurd rfl hk
        · subst q; first | rfl | exact absurd rfl hk
        · subst q; first | rfl | exact absurd rfl hk
        · exact absurd (cdf_big q) hk) (fun u M6 n7 v σ' hy ht hj hI hP => (scl_ok e1 (by omega) hL (scl_ok e2 (by omega) hL (rest_ok _ hy ht hj (K σ' M6 n7 hI hP))))))))
  · exact (scl_ok e1 (by omega) hL (scl_ok e2 (by omega) hL (call_ok (fun v => v.toInt64) (op_sweep R I _ _) (rk_s R.hb.k) (fun _ _ _ => rfl) (by
        intro k1 M1 n1 hk
        rcases k3c k1 with q | q | q | q
        · subst q; first | rfl | exact absurd rfl hk
        · subst q; first | rfl | exact absurd rfl hk
        · subst q; first | rfl | exact absurd rfl hk
        · exact absurd (cdf_big q) hk) (fun u M6 n7 v σ' hy ht hj hI hP => (scl_ok e1 (by omega) hL (scl_ok e2 (by omega) hL (rest_ok _ hy ht hj (K σ' M6 n7 hI hP))))))))
  · exact (scl_ok e1 (by omega) hL (scl_ok e2 (by omega) hL (scl_ok e3 (by omega) hL (call_ok (fun v => v.toInt64) (op_rule R I _ _ _) (rk_s R.hb.k) (fun _ _ _ => rfl) (by
        intro k1 M1 n1 hk
        rcases k3c k1 with q | q | q | q
        · subst q; first | rfl | exact absurd rfl hk
        · subst q; first | rfl | exact absurd rfl hk
        · subst q; first | rfl | exact absurd rfl hk
        · exact absurd (cdf_big q) hk) (fun u M6 n7 v σ' hy ht hj hI hP => (scl_ok e1 (by omega) hL (scl_ok e2 (by omega) hL (scl_ok e3 (by omega) hL (rest_ok _ hy ht hj (K σ' M6 n7 hI hP))))))))))
  · exact (scl_ok e1 (by omega) hL (call_ok (fun v => v.toInt64) (op_pass R I hc6 _) (rk_s R.hb.k) (fun _ _ _ => rfl) (by
        intro k1 M1 n1 hk
        rcases k3c k1 with q | q | q | q
        · subst q; first | rfl | exact absurd rfl hk
        · subst q; first | rfl | exact absurd rfl hk
        · subst q; first | rfl | exact absurd rfl hk
        · exact absurd (cdf_big q) hk) (fun u M6 n7 v σ' hy ht hj hI hP => (scl_ok e1 (by omega) hL (rest_ok _ hy ht hj (K σ' M6 n7 hI hP))))))
  · exact (scl_ok e1 (by omega) hL (call_ok (fun v => v.toInt64) (op_cost R I _) (rk_s R.hb.k) (fun _ _ _ => rfl) (by
        intro k1 M1 n1 hk
        rcases k3c k1 with q | q | q | q
        · subst q; first | rfl | exact absurd rfl hk
        · subst q; first | rfl | exact absurd rfl hk
        · subst q; first | rfl | exact absurd rfl hk
        · exact absurd (cdf_big q) hk) (fun u M6 n7 v σ' hy ht hj hI hP => (scl_ok e1 (by omega) hL (rest_ok _ hy ht hj (K σ' M6 n7 hI hP))))))
  · exact (scl_ok e1 (by omega) hL (scl_ok e2 (by omega) hL (call_ok (fun v => v.toInt64) (op_follow R I _ _) (rk_s R.hb.k) (fun _ _ _ => rfl) (by
        intro k1 M1 n1 hk
        rcases k3c k1 with q | q | q | q
        · subst q; first | rfl | exact absurd rfl hk
        · subst q; first | rfl | exact absurd rfl hk
        · subst q; first | rfl | exact absurd rfl hk
        · exact absurd (cdf_big q) hk) (fun u M6 n7 v σ' hy ht hj hI hP => (scl_ok e1 (by omega) hL (scl_ok e2 (by omega) hL (rest_ok _ hy ht hj (K σ' M6 n7 hI hP))))))))
  · exact (scl_ok e1 (by omega) hL (call_ok (fun v => v.toInt64) (op_behind R I _) (rk_s R.hb.k) (fun _ _ _ => rfl) (by
        intro k1 M1 n1 hk
        rcases k3c k1 with q | q | q | q
        · subst q; first | rfl | exact absurd rfl hk
        · subst q; first | rfl | exact absurd rfl hk
        · subst q; first | rfl | exact absurd rfl hk
        · exact absurd (cdf_big q) hk) (fun u M6 n7 v σ' hy ht hj hI hP => (scl_ok e1 (by omega) hL (rest_ok _ hy ht hj (K σ' M6 n7 hI hP))))))
  · obtain ⟨q1, q2⟩ := both_alike R I
    rw [rk_s R.hb.k, q1, q2]
    show OKL (if (bI (allF (fun k => alk σ (i3 k)) 1 124)) = (bI (allF (fun k => alk σ (i3 k)) 1 124)) then _ else none)
    rw [if_pos rfl]
    obtain ⟨o, M', n', v, σ', z1, z2, -, -, z3, z4⟩ := OPR.ok0 R I (x := some (.inl (i3 0), M, n)) (y := some (i3 0, uS σ 0 0 (i3 0))) (cd := cdf 0 0 0) rfl rfl
    cases z1
    cases z2
    exact K _ _ _ z4 z3
  · exact (scl_ok e1 (by omega) hL (call_ok ecb (op_agrees R I _) (rk_s R.hb.k) (by
        intro v M1 n1
        show (if v = 0 then _ else _) = _
        by_cases q : v = 0
        · rw [if_pos q, show ecb v = Int64.ofNat 0 from if_pos q]
        · rw [if_neg q, show ecb v = Int64.ofNat 1 from if_neg q]) (by
        intro k1 M1 n1 hk
        rcases k3c k1 with q | q | q | q
        · subst q; first | rfl | exact absurd rfl hk
        · subst q; first | rfl | exact absurd rfl hk
        · subst q; first | rfl | exact absurd rfl hk
        · exact absurd (cdf_big q) hk) (fun u M6 n7 v σ' hy ht hj hI hP => (scl_ok e1 (by omega) hL (rest_ok2 (G := fun s => k (i3 (5 * c) + 5) s M6 n7) (e := ecb v) hy ht hj (by
        by_cases q : v = 0
        · rw [show ecb v = Int64.ofNat 0 from if_pos q]
          show OKL (if v = 0 then (if lg_cmp (Int64.ofNat 0) (Int64.ofNat 0) = 0 then _ else none) else _)
          rw [if_pos q, lg_self, if_pos rfl]
          exact K σ' M6 n7 hI hP
        · rw [show ecb v = Int64.ofNat 1 from if_neg q]
          show OKL (if v = 0 then _ else (if lg_cmp (Int64.ofNat 1) (Int64.ofNat 1) = 0 then _ else none))
          rw [if_neg q, lg_self, if_pos rfl]
          exact K σ' M6 n7 hI hP) (K σ' M6 n7 hI hP))))))
  · exact (scl_ok e1 (by omega) hL (scl_ok e2 (by omega) hL (call_ok (fun v => v.toInt64) (op_letter R I _ _) (rk_s R.hb.k) (fun _ _ _ => rfl) (by
        intro k1 M1 n1 hk
        rcases k3c k1 with q | q | q | q
        · subst q; first | rfl | exact absurd rfl hk
        · subst q; first | rfl | exact absurd rfl hk
        · subst q; first | rfl | exact absurd rfl hk
        · exact absurd (cdf_big q) hk) (fun u M6 n7 v σ' hy ht hj hI hP => (scl_ok e1 (by omega) hL (scl_ok e2 (by omega) hL (rest_ok _ hy ht hj (K σ' M6 n7 hI hP))))))))
theorem law_loop (hL : L ≤ 2560) : ∀ d c fu (σ : Sg) (M : Mm) n, d + c = 513 → d < fu → 5 * c ≤ L → INV h c σ M n → n + 4 * kpt σ ≤ h + 83 + 25 * c + ppt σ → OKL (fLw_law_l23 xs L h (h + 82) (h + 21000) fu (i3 (5 * c)) σ M n) := by
  intro d
  induction d with
  | zero => intro c fu σ M n h1 h2 h3 _ _; omega
  | succ d ih =>
    intro c fu σ M n h1 h2 h3 hI hp
    obtain ⟨fu, rfl⟩ : ∃ g, fu = g + 1 := ⟨fu - 1, by omega⟩
    have hb : ppt σ ≤ 3480 := by
      obtain ⟨own, B, R, I⟩ := hI
      have a1 := (I.pn 0 (by omega)).2
      have a2 := (I.pn 1 (by omega)).2
      have a3 := I.ev.2
      unfold ppt
      omega
    show OKL (fLw_law_b23 xs L h (h + 82) (h + 21000) (fLw_law_l23 xs L h (h + 82) (h + 21000) fu) (i3 (5 * c)) σ M n)
    refine law_step hL hI (by omega) (fun h5 σ' M' n' hI' hP => ?_) h3
    have hP : n' + 4 * kpt σ' + ppt σ ≤ n + 4 * kpt σ + ppt σ' + 25 := hP
    have e : i3 (5 * c) + 5 = i3 (5 * (c + 1)) := by
      rw [show 5 * (c + 1) = 5 * c + 5 from by omega]
      exact i3_add _ 5
    rw [e]
    exact ih (c + 1) fu σ' M' n' (by omega) (by omega) (by omega) hI' (by omega)
end LP

set_option maxRecDepth 100000
/-! one part laid anew; rot -/
section PS
variable {h c n r : Nat} {own : Nat → Nat} {B : BK} {σ σ' : Sg} {M M' : Mm}
theorem pa_apart (R : RR h own B σ M n) {r r' p p' : Nat} (hr : r < 2) (hr' : r' < 2) (hp : p < nv (σ 18 r)) (hp' : p' < nv (σ 18 r')) (h90 : p < 90) (h90' : p' < 90) (hne : r' ≠ r ∨ p' ≠ p) : ∀ i j, i ≤ 4 → j ≤ 4 → pa B r' p' + i ≠ pa B r p + j := by
  intro i j hi hj e
  have A := R.po r hr p hp
  have A' := R.po r' hr' p' hp'
  have own_of : ∀ k, k ≤ 4 → own (pa B r p + k) = 26 + r := fun k hk => by
    rcases (by omega : k = 0 ∨ k = 1 ∨ k = 2 ∨ k = 3 ∨ k = 4) with rfl | rfl | rfl | rfl | rfl
    · exact A.b.o
    · exact A.b.o1
    · exact A.b.o2
    · exact A.b.o3
    · exact A.b.o4
  have own_of' : ∀ k, k ≤ 4 → own (pa B r' p' + k) = 26 + r' := fun k hk => by
    rcases (by omega : k = 0 ∨ k = 1 ∨ k = 2 ∨ k = 3 ∨ k = 4) with rfl | rfl | rfl | rfl | rfl
    · exact A'.b.o
    · exact A'.b.o1
    · exact A'.b.o2
    · exact A'.b.o3
    · exact A'.b.o4
  have k_of : ∀ k, 1 ≤ k → k ≤ 4 → mK M (pa B r p + k) ≠ 5 := fun k h1 hk => by
    rcases (by omega : k = 1 ∨ k = 2 ∨ k = 3 ∨ k = 4) with rfl | rfl | rfl | rfl
    · rw [A.b.k1]; decide
    · rw [A.b.k2]; decide
    · rw [A.b.k3]; decide
    · rw [A.b.k4]; decide
  have k_of' : ∀ k, 1 ≤ k → k ≤ 4 → mK M (pa B r' p' + k) ≠ 5 := fun k h1 hk => by
    rcases (by omega : k = 1 ∨ k = 2 ∨ k = 3 ∨ k = 4) with rfl | rfl | rfl | rfl
    · rw [A'.b.k1]; decide
    · rw [A'.b.k2]; decide
    · rw [A'.b.k3]; decide
    · rw [A'.b.k4]; decide
  have o1 := own_of j hj
  have o2 := own_of' i hi
  rw [e] at o2
  have er : r' = r := by omega
  subst er
  rcases Nat.lt_trichotomy i j with z | z | z
  · have e2 : pa B r' p' = pa B r' p + (j - i) := by omega
    exact k_of (j - i) (by omega) (by omega) (by rw [← e2]; exact A'.b.k)
  · subst z
    have e2 : pa B r' p' = pa B r' p := by omega
    have x := A.nu
    have y := A'.nu
    rw [e2, x] at y
    have := (i3_inj (by omega) (by omega)).mp y
    omega
  · have e2 : pa B r' p = pa B r' p' + (i - j) := by omega
    exact k_of' (i - j) (by omega) (by omega) (by rw [← e2]; exact A.b.k)
/-- the rows that speak of parts -/
def PTF (k : Nat) : Prop := k = 19 ∨ k = 20 ∨ k = 23 ∨ k = 24 ∨ k = 25
theorem RR.setp (R : RR h own B σ M n) (hr : r < 2) {p : Nat} (hp : p < nv (σ 18 r)) (h90 : ∀ r, r < 2 → nv (σ 18 r) ≤ 90) (f : IOS (fun _ x => pa B r p ≤ x ∧ x ≤ pa B r p + 4) M M') (e : ∀ k, ¬ PTF k → σ' k = σ k) (e2 : ∀ a, a ≠ 90 * r + p → σ' 19 a = σ 19 a ∧ σ' 20 a = σ 20 a ∧ (∀ s, s < 5 → σ' 23 (5 * a + s) = σ 23 (5 * a + s) ∧ σ' 25 (5 * a + s) = σ 25 (5 * a + s)) ∧ ∀ j, j < 10 → σ' 24 (10 * a + j) = σ 24 (10 * a + j)) (new : PAC own M' (pa B r p) r p (σ' 20 (90 * r + p)) (σ' 21 (90 * r + p)) (σ' 19 (90 * r + p)) (fun j => σ' 22 (6 * (90 * r + p) + j)) (fun s => σ' 23 (5 * (90 * r + p) + s)) (fun s => σ' 25 (5 * (90 * r + p) + s)) (fun j => σ' 24 (10 * (90 * r + p) + j))) : RR h own B σ' M' n := by
  have A := R.po r hr p hp
  have fm : FRM (fun t => t = 26 + r) own M own M' := f.frm fun cc a z _ => by
    have z1 := z.1
    have z2 := z.2
    rcases (by omega : a = pa B r p ∨ a = pa B r p + 1 ∨ a = pa B r p + 2 ∨ a = pa B r p + 3 ∨ a = pa B r p + 4) with rfl | rfl | rfl | rfl | rfl
    · exact A.b.o
    · exact A.b.o1
    · exact A.b.o2
    · exact A.b.o3
    · exact A.b.o4
  have e1 := e 1 (by unfold PTF; omega)
  have e2' := e 2 (by unfold PTF; omega)
  have e8 := e 8 (by unfold PTF; omega)
  have e9 := e 9 (by unfold PTF; omega)
  have e10 := e 10 (by unfold PTF; omega)
  have e11 := e 11 (by unfold PTF; omega)
  have e12 := e 12 (by unfold PTF; omega)
  have e13 := e 13 (by unfold PTF; omega)
  have e14 := e 14 (by unfold PTF; omega)
  have e15 := e 15 (by unfold PTF; omega)
  have e16 := e 16 (by unfold PTF; omega)
  have e17 := e 17 (by unfold PTF; omega)
  have e18 := e 18 (by unfold PTF; omega)
  have e21 := e 21 (by unfold PTF; omega)
  have e22 := e 22 (by unfold PTF; omega)
  have e26 := e 26 (by unfold PTF; omega)
  have e27 := e 27 (by unfold PTF; omega)
  have e30 := e 30 (by unfold PTF; omega)
  have e31 := e 31 (by unfold PTF; omega)
  have e32 := e 32 (by unfold PTF; omega)
  have e33 := e 33 (by unfold PTF; omega)
  have e34 := e 34 (by unfold PTF; omega)
  have e35 := e 35 (by unfold PTF; omega)
  have e36 := e 36 (by unfold PTF; omega)
  have e37 := e 37 (by unfold PTF; omega)
  have e38 := e 38 (by unfold PTF; omega)
  have e39 := e 39 (by unfold PTF; omega)
  have e40 := e 40 (by unfold PTF; omega)
  have e41 := e 41 (by unfold PTF; omega)
  have e42 := e 42 (by unfold PTF; omega)
  have e43 := e 43 (by unfold PTF; omega)
  have e44 := e 44 (by unfold PTF; omega)
  have e45 := e 45 (by unfold PTF; omega)
  have hpo : ∀ r0, r0 < 2 → ∀ p0, p0 < nv (σ 18 r0) → PAC own M' (pa B r0 p0) r0 p0 (σ' 20 (90 * r0 + p0)) (σ 21 (90 * r0 + p0)) (σ' 19 (90 * r0 + p0)) (fun j => σ 22 (6 * (90 * r0 + p0) + j)) (fun s => σ' 23 (5 * (90 * r0 + p0) + s)) (fun s => σ' 25 (5 * (90 * r0 + p0) + s)) (fun j => σ' 24 (10 * (90 * r0 + p0) + j)) := fun r0 hr0 p0 hp0 => by
    by_cases z : r0 = r ∧ p0 = p
    · obtain ⟨rfl, rfl⟩ := z
      rw [e21, e22] at new
      exact new
    · have hp90 : p < 90 := Nat.lt_of_lt_of_le hp (h90 r hr)
      have hp90' : p0 < 90 := Nat.lt_of_lt_of_le hp0 (h90 r0 hr0)
      have ap := pa_apart R hr hr0 hp hp0 hp90 hp90' (by omega)
      have X := R.po r0 hr0 p0 hp0
      obtain ⟨x1, x2, x3, x4⟩ := e2 (90 * r0 + p0) (by omega)
      have same : ∀ i, i ≤ 4 → ∀ cc j, mI M' cc (pa B r0 p0 + i) j = mI M cc (pa B r0 p0 + i) j := fun i hi cc j => f.2 cc _ j fun w => by
        have := ap i (pa B r0 p0 + i - pa B r p) hi (by omega)
        omega
      have s0 := same 0 (by omega)
      rw [Nat.add_zero] at s0
      have b' : PRT own M' (pa B r0 p0) r0 := X.b.keep (fun a o => ⟨rfl, f.K a, f.L a, fun cc j => f.P cc a j⟩)
      refine ⟨b', (s0 _ _).trans X.nu, (s0 _ _).trans X.lo, ?_, ?_, fun j hj => (same 1 (by omega) _ _).trans (X.by j hj), fun s hs => ?_, fun s hs w1 w2 => ?_, fun s hs w1 w2 w3 k hk => ?_⟩
      · rw [x2]; exact (s0 _ _).trans X.ct
      · rw [x1]; exact (s0 _ _).trans X.sw
      · show _ = if σ' 19 (90 * r0 + p0) = i3 0 then σ' 23 (5 * (90 * r0 + p0) + s) else m1
        rw [x1, (x3 s hs).1]; exact (same 3 (by omega) _ _).trans (X.nd s hs)
      · have w2 : σ' 23 (5 * (90 * r0 + p0) + s) ≠ m1 := w2
        rw [x1] at w1
        rw [(x3 s hs).1] at w2
        show _ = σ' 25 (5 * (90 * r0 + p0) + s)
        rw [(x3 s hs).2]
        exact (same 4 (by omega) _ _).trans (X.ro s hs w1 w2)
      · have w2 : σ' 23 (5 * (90 * r0 + p0) + s) ≠ m1 := w2
        have w3 : σ' 25 (5 * (90 * r0 + p0) + s) = i3 0 := w3
        rw [x1] at w1
        rw [(x3 s hs).1] at w2
        rw [(x3 s hs).2] at w3
        show _ = σ' 24 (10 * (90 * r0 + p0) + (2 * s + k))
        rw [x4 _ (by omega)]
        exact (same 2 (by omega) _ _).trans (X.sb s hs w1 w2 w3 k hk)
  have RZ : RR h own B (fun k => if k = 19 ∨ k = 20 ∨ k = 23 ∨ k = 24 ∨ k = 25 then σ' k else σ k) M' n := ⟨R.fr, R.k_em fm, R.k_hb fm, R.k_rg fm, R.k_nm fm (by first | omega | (intro z; dsimp only at z; omega)), R.k_dy fm (by first | omega | (intro z; dsimp only at z; omega)), R.k_dm fm (by first | omega | (intro z; dsimp only at z; omega)), R.k_db fm (by first | omega | (intro z; dsimp only at z; omega)), R.k_nb fm (by first | omega | (intro z; dsimp only at z; omega)), R.k_co fm (by first | omega | (intro z; dsimp only at z; omega)), fun r0 hr0 => R.k_up fm hr0 (by first | omega | (intro z; dsimp only at z; omega)), fun r0 hr0 => R.k_hd fm hr0 (by first | omega | (intro z; dsimp only at z; omega)), R.k_en fm (by first | omega | (intro z; dsimp only at z; omega)), fun r0 hr0 => R.k_vl fm hr0 (by first | omega | (intro z; dsimp only at z; omega)), fun r0 hr0 => R.k_vo fm hr0 (by first | omega | (intro z; dsimp only at z; omega)), fun r0 hr0 => R.k_kl fm hr0 (by first | omega | (intro z; dsimp only at z; omega)), fun r0 hr0 => R.k_pl fm hr0 (by first | omega | (intro z; dsimp only at z; omega)), hpo, R.k_us fm (by first | omega | (intro z; dsimp only at z; omega)), fun u0 hu0 => R.k_uo fm hu0 (by first | omega | (intro z; dsimp only at z; omega)), R.k_rs fm (by first | omega | (intro z; dsimp only at z; omega)), R.k_ro fm (by first | omega | (intro z; dsimp only at z; omega))⟩
  have es : (fun k => if k = 19 ∨ k = 20 ∨ k = 23 ∨ k = 24 ∨ k = 25 then σ' k else σ k) = σ' := funext fun k => by
    by_cases z : k = 19 ∨ k = 20 ∨ k = 23 ∨ k = 24 ∨ k = 25
    · rw [if_pos z]
    · rw [if_neg z]; exact (e k z).symm
  rw [es] at RZ
  exact RZ
end PS

set_option maxRecDepth 100000
/-! both answer alike, on every script -/
theorem pure_all : PURE := by
  intro n0 e0 L xs he hL
  obtain ⟨Mz, hok, hs, hH, q1, q2, q3, q4, hrun⟩ := start_run n0 e0 he
  have hI : INV n0 0 sg0 (M1 Mz (n0 + 42)) (n0 + 83) := ⟨ow0 e0 n0, bk0, rr_start he hH q1 q2 q3 q4, iv_start⟩
  have hk : kpt sg0 = 0 := rfl
  obtain ⟨nE, hE⟩ := law_loop (xs := xs) hL 513 0 FU sg0 (M1 Mz (n0 + 42)) (n0 + 83) rfl (by decide) (Nat.zero_le _) hI (by rw [hk]; omega)
  have hg : GOODL n0 L xs n0 (n0 + 42) (n0 + 82) Mz (n0 + 83) := ⟨by omega, hok, nE, by rw [hs]; exact hE⟩
  refine ⟨(n0, n0 + 42, n0 + 82, Mz, n0 + 83), ?_⟩
  rw [hrun]
  exact @if_pos _ (Classical.propDecidable _) hg _ _ _

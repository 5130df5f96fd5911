set_option maxRecDepth 100000
/-! what constructors make -/
section MK
variable {M : Mm} {n a0 : Nat}
theorem bdN_l {α β : Type} {v : α} {M1 : Mm} {n1 : Nat} {f : α → Mm → Nat → Option ((β ⊕ Nat) × Mm × Nat)} (h : n ≤ n1) : bdN (some (.inl v, M1, n1)) n f = f v M1 n1 := if_pos h
theorem kn {kd len b k : Nat} (h : mK M b = k) (hb : b < n) : mK (nA M n kd len) b = k := by rw [mK_nA, if_neg (Nat.ne_of_lt hb)]; exact h
theorem al_init (h : mK M a0 = 12) : fAl_init a0 M = some ((), uP (uI M 1200 a0 0 0) 1201 a0 0 (some (mL M 0))) := by
  have e : fAbl_init a0 M = some ((), uI M 1200 a0 0 0) := by
    show fpI 12 1200 (some a0) 0 M (fun M2 => some ((), M2)) = _
    exact fpI_s h
  unfold fAl_init
  rw [e]
  show fpR 12 1201 (some a0) (some (mL (uI M 1200 a0 0 0) 0)) (uI M 1200 a0 0 0) (fun M3 => some ((), M3)) = _
  exact fpR_s (M := uI M 1200 a0 0 0) h
theorem bytes_init (h : mK M a0 = 1) (hn : a0 < n) : fBytes_init a0 M n = some (.inl (), uP (nA M n 20 40) 100 a0 0 (some n), n + 1) := by
  have e := nwA_s (kd := 20) (bd := 300) (M := M) (n := n) (j := 40) (f := fun y1 M2 n3 => fpR 1 100 (some a0) y1 M2 fun M4 => (some (.inl (), M4, n3) : Option ((Unit ⊕ Nat) × Mm × Nat))) (by decide) (by decide)
  exact e.trans (fpR_s (kn h hn))
theorem cut_init (h : mK M a0 = 3) (hn : a0 < n) : fCut_init a0 M n = some (.inl (), uP (nA (uP (nA M n 21 40) 300 a0 0 (some n)) (n + 1) 21 40) 301 a0 0 (some (n + 1)), n + 1 + 1) := by
  have h1 : mK (uP (nA M n 21 40) 300 a0 0 (some n)) a0 = 3 := kn h hn
  refine (nwA_s (kd := 21) (bd := 300) (j := 40) (by decide) (by decide)).trans ((fpR_s (kn h hn)).trans ((nwA_s (kd := 21) (bd := 300) (j := 40) (by decide) (by decide)).trans (fpR_s (kn h1 (Nat.lt_succ_of_lt hn)))))
end MK

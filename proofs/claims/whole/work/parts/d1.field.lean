set_option maxRecDepth 100000
/-! the field by great numbers; what three shards tell -/
def tmB : Nat := 116196760129267793630862849262464326346044543732748708940920453221664288556434379745879494961270582141731748813355742142288220638766218855867759359510984593843506004200114943278699875244065120512813025380665946106619127097398772031257643617143689515450995722003729973585221105779229319991106539050771048038400
def ivB : Nat := 9460475325918865680
def tmb (a b : Nat) : Nat := (tmB >>> (4 * (16 * a + b))) % 16
def ivb (a : Nat) : Nat := (ivB >>> (4 * a)) % 16
theorem tmb_c : ((List.range 16).all fun a => (List.range 16).all fun b => decide (tmb a b = tm a b)) = true := by decide +kernel
theorem tmb_e {a b : Nat} (ha : a < 16) (hb : b < 16) : tm a b = tmb a b := (of_decide_eq_true (List.all_eq_true.mp (List.all_eq_true.mp tmb_c a (List.mem_range.mpr ha)) b (List.mem_range.mpr hb))).symm
theorem ivb_c : ((List.range 16).all fun a => decide (ivb a = inv a)) = true := by decide +kernel
theorem ivb_e {a : Nat} (ha : a < 16) : inv a = ivb a := (of_decide_eq_true (List.all_eq_true.mp ivb_c a (List.mem_range.mpr ha))).symm
theorem tm_lt {a b : Nat} (ha : a < 16) (hb : b < 16) : tm a b < 16 := by rw [tmb_e ha hb]; exact Nat.mod_lt _ (by decide)
theorem x_lt {a b : Nat} (ha : a < 16) (hb : b < 16) : a ^^^ b < 16 := (xor16 ha hb).2
theorem i3_xor {a b : Nat} (ha : a < 16) (hb : b < 16) : i3 a ^^^ i3 b = i3 (a ^^^ b) := (xor16 ha hb).1
theorem m_times {a b : Nat} (ha : a < 16) (hb : b < 16) : fMd_times (i3 a) (i3 b) = some (i3 (tm a b)) := by
  have := (tm_at ha hb).2.1
  rw [tm_tm ha hb] at this; exact this
theorem c_times {a b : Nat} (ha : a < 16) (hb : b < 16) : fCode_times (i3 a) (i3 b) = some (i3 (tm a b)) := by
  have := (tm_at ha hb).1
  rw [tm_tm ha hb] at this; exact this
theorem tm_x {a b d : Nat} (ha : a < 16) (hb : b < 16) (hd : d < 16) : tm a (b ^^^ d) = tm a b ^^^ tm a d := (tm_laws ha hb hd).1
theorem tm_co {a b : Nat} (ha : a < 16) (hb : b < 16) : tm a b = tm b a := (tm_laws ha hb (by omega : 0 < 16)).2.1
theorem tm_as {a b d : Nat} (ha : a < 16) (hb : b < 16) (hd : d < 16) : tm a (tm b d) = tm (tm a b) d := (tm_laws ha hb hd).2.2
theorem tm_xl {a b d : Nat} (ha : a < 16) (hb : b < 16) (hd : d < 16) : tm (a ^^^ b) d = tm a d ^^^ tm b d := by
  rw [tm_co (x_lt ha hb) hd, tm_x hd ha hb, tm_co hd ha, tm_co hd hb]
theorem wgt_lt {s d : Nat} (hd : d < 3) : wgt s d < 16 := by
  unfold wgt
  split
  · split <;> decide
  · split
    · decide
    · rcases (by omega : d = 0 ∨ d = 1 ∨ d = 2) with rfl | rfl | rfl <;> decide
/-- one shard's byte out of the three of data -/
def rh (w0 w1 w2 d0 d1 d2 : Nat) : Nat := tm w0 d0 ^^^ tm w1 d1 ^^^ tm w2 d2
theorem rh_lt {w0 w1 w2 d0 d1 d2 : Nat} (h0 : w0 < 16) (h1 : w1 < 16) (h2 : w2 < 16) (k0 : d0 < 16) (k1 : d1 < 16) (k2 : d2 < 16) : rh w0 w1 w2 d0 d1 d2 < 16 := x_lt (x_lt (tm_lt h0 k0) (tm_lt h1 k1)) (tm_lt h2 k2)
theorem rh_mul {b w0 w1 w2 d0 d1 d2 : Nat} (hb : b < 16) (h0 : w0 < 16) (h1 : w1 < 16) (h2 : w2 < 16) (k0 : d0 < 16) (k1 : d1 < 16) (k2 : d2 < 16) : tm b (rh w0 w1 w2 d0 d1 d2) = rh (tm b w0) (tm b w1) (tm b w2) d0 d1 d2 := by
  unfold rh
  rw [tm_x hb (x_lt (tm_lt h0 k0) (tm_lt h1 k1)) (tm_lt h2 k2), tm_x hb (tm_lt h0 k0) (tm_lt h1 k1), tm_as hb h0 k0, tm_as hb h1 k1, tm_as hb h2 k2]
theorem xor6 (a b d e f g : Nat) : (a ^^^ b ^^^ d) ^^^ (e ^^^ f ^^^ g) = (a ^^^ e) ^^^ (b ^^^ f) ^^^ (d ^^^ g) := by
  apply Nat.eq_of_testBit_eq
  intro i
  simp only [Nat.testBit_xor]
  cases a.testBit i <;> cases b.testBit i <;> cases d.testBit i <;> cases e.testBit i <;> cases f.testBit i <;> cases g.testBit i <;> rfl
theorem rh_add {w0 w1 w2 v0 v1 v2 d0 d1 d2 : Nat} (h0 : w0 < 16) (h1 : w1 < 16) (h2 : w2 < 16) (j0 : v0 < 16) (j1 : v1 < 16) (j2 : v2 < 16) (k0 : d0 < 16) (k1 : d1 < 16) (k2 : d2 < 16) : rh w0 w1 w2 d0 d1 d2 ^^^ rh v0 v1 v2 d0 d1 d2 = rh (w0 ^^^ v0) (w1 ^^^ v1) (w2 ^^^ v2) d0 d1 d2 := by
  unfold rh
  rw [tm_xl h0 j0 k0, tm_xl h1 j1 k1, tm_xl h2 j2 k2, xor6]
theorem dat_lt {lo : Nat} {g : Nat → Int32} {j : Nat} (hg : ∀ j, j < lo → NB 15 (g j)) : dat lo g j < 16 := by
  unfold dat
  by_cases z : j < lo
  · rw [if_pos z]; have := (hg j z).2; omega
  · rw [if_neg z]; omega
theorem mde_rh {lo : Nat} {g : Nat → Int32} {s k : Nat} : mde lo g s k = rh (wgt s 0) (wgt s 1) (wgt s 2) (dat lo g k) (dat lo g (2 + k)) (dat lo g (4 + k)) := rfl
theorem mde_lt {lo : Nat} {g : Nat → Int32} (hg : ∀ j, j < lo → NB 15 (g j)) {s k : Nat} : mde lo g s k < 16 := rh_lt (wgt_lt (by omega)) (wgt_lt (by omega)) (wgt_lt (by omega)) (dat_lt hg) (dat_lt hg) (dat_lt hg)
/-! Cramer's rule, checked whole -/
def cl3 (s v : Nat → Nat) (q i k : Nat) : Nat := if k = q then v i else wgt (s i) k
def dt3 (s v : Nat → Nat) (q : Nat) : Nat := (tm (cl3 s v q 0 0) (tm (cl3 s v q 1 1) (cl3 s v q 2 2) ^^^ tm (cl3 s v q 2 1) (cl3 s v q 1 2))) ^^^ (tm (cl3 s v q 1 0) (tm (cl3 s v q 2 1) (cl3 s v q 0 2) ^^^ tm (cl3 s v q 0 1) (cl3 s v q 2 2))) ^^^ (tm (cl3 s v q 2 0) (tm (cl3 s v q 0 1) (cl3 s v q 1 2) ^^^ tm (cl3 s v q 1 1) (cl3 s v q 0 2)))
/-- the same by great numbers: rows' weights a b d, values x y z, the column replaced -/
def dt9 (a0 a1 a2 b0 b1 b2 d0 d1 d2 : Nat) : Nat := (tmb a0 (tmb b1 d2 ^^^ tmb d1 b2)) ^^^ (tmb b0 (tmb d1 a2 ^^^ tmb a1 d2)) ^^^ (tmb d0 (tmb a1 b2 ^^^ tmb b1 a2))
def rhb (w0 w1 w2 d0 d1 d2 : Nat) : Nat := tmb w0 d0 ^^^ tmb w1 d1 ^^^ tmb w2 d2
def crc (s0 s1 s2 q e0 e1 e2 : Nat) : Bool :=
  let x := rhb (wgt s0 0) (wgt s0 1) (wgt s0 2) e0 e1 e2
  let y := rhb (wgt s1 0) (wgt s1 1) (wgt s1 2) e0 e1 e2
  let z := rhb (wgt s2 0) (wgt s2 1) (wgt s2 2) e0 e1 e2
  let dn := dt9 (wgt s0 0) (wgt s0 1) (wgt s0 2) (wgt s1 0) (wgt s1 1) (wgt s1 2) (wgt s2 0) (wgt s2 1) (wgt s2 2)
  let dq := match q with
    | 0 => dt9 x (wgt s0 1) (wgt s0 2) y (wgt s1 1) (wgt s1 2) z (wgt s2 1) (wgt s2 2)
    | 1 => dt9 (wgt s0 0) x (wgt s0 2) (wgt s1 0) y (wgt s1 2) (wgt s2 0) z (wgt s2 2)
    | _ => dt9 (wgt s0 0) (wgt s0 1) x (wgt s1 0) (wgt s1 1) y (wgt s2 0) (wgt s2 1) z
  Nat.beq (tmb dq (ivb dn)) (match q with
    | 0 => e0
    | 1 => e1
    | _ => e2) && !(Nat.beq dn 0)
theorem crc_0 : ((List.range 16).all fun a => (List.range 16).all fun b => (List.range 16).all fun d => crc 0 1 3 2 a b d) = true := by decide +kernel
theorem crc_1 : ((List.range 16).all fun a => (List.range 16).all fun b => (List.range 16).all fun d => crc 0 1 4 2 a b d) = true := by decide +kernel
theorem crc_2 : ((List.range 16).all fun a => (List.range 16).all fun b => (List.range 16).all fun d => crc 0 2 3 1 a b d) = true := by decide +kernel
theorem crc_3 : ((List.range 16).all fun a => (List.range 16).all fun b => (List.range 16).all fun d => crc 0 2 4 1 a b d) = true := by decide +kernel
theorem crc_4 : ((List.range 16).all fun a => (List.range 16).all fun b => (List.range 16).all fun d => crc 0 3 4 1 a b d) = true := by decide +kernel
theorem crc_5 : ((List.range 16).all fun a => (List.range 16).all fun b => (List.range 16).all fun d => crc 0 3 4 2 a b d) = true := by decide +kernel
theorem crc_6 : ((List.range 16).all fun a => (List.range 16).all fun b => (List.range 16).all fun d => crc 1 2 3 0 a b d) = true := by decide +kernel
theorem crc_7 : ((List.range 16).all fun a => (List.range 16).all fun b => (List.range 16).all fun d => crc 1 2 4 0 a b d) = true := by decide +kernel
theorem crc_8 : ((List.range 16).all fun a => (List.range 16).all fun b => (List.range 16).all fun d => crc 1 3 4 0 a b d) = true := by decide +kernel
theorem crc_9 : ((List.range 16).all fun a => (List.range 16).all fun b => (List.range 16).all fun d => crc 1 3 4 2 a b d) = true := by decide +kernel
theorem crc_10 : ((List.range 16).all fun a => (List.range 16).all fun b => (List.range 16).all fun d => crc 2 3 4 0 a b d) = true := by decide +kernel
theorem crc_11 : ((List.range 16).all fun a => (List.range 16).all fun b => (List.range 16).all fun d => crc 2 3 4 1 a b d) = true := by decide +kernel

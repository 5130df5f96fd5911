set_option maxRecDepth 100000
/-! the class's memory beside the check's rows -/
abbrev BK : Type := (Nat → Nat → Nat) × (Nat → Nat) × (Nat → Nat → Nat) × (Nat → Nat) × (Nat → Nat)
def ve (B : BK) (r i : Nat) : Nat := B.1 r i
def en (B : BK) (k : Nat) : Nat := B.2.1 k
def pa (B : BK) (r p : Nat) : Nat := B.2.2.1 r p
def ul (B : BK) (u : Nat) : Nat := B.2.2.2.1 u
def rl (B : BK) (j : Nat) : Nat := B.2.2.2.2 j
def nv (x : Int32) : Nat := x.toNatClampNeg
def NB (b : Nat) (x : Int32) : Prop := x = i3 (nv x) ∧ nv x ≤ b
def gr (h r : Nat) : Nat := h + 1 + 16 * r
def ISK (x : Int32) : Prop := fKeys_isKey x = some (i3 1)
def ENC (own : Nat → Nat) (M : Mm) (e k : Nat) (key day m : Int32) (g : Nat → Int32) : Prop := (ENT own M e) ∧
  (mI M 400 e 0 = key) ∧
  (mI M 401 e 0 = i3 k) ∧
  (mI M 402 e 0 = day) ∧
  (mI M 101 (e + 1) 0 = m) ∧
  (∀ j, j < nv m → mI M 0 (e + 2) j = g j)
theorem ENC.b {own : Nat → Nat} {M : Mm} {e k : Nat} {key day m : Int32} {g : Nat → Int32} (Z : ENC own M e k key day m g) : ENT own M e := Z.1
theorem ENC.ke {own : Nat → Nat} {M : Mm} {e k : Nat} {key day m : Int32} {g : Nat → Int32} (Z : ENC own M e k key day m g) : mI M 400 e 0 = key := Z.2.1
theorem ENC.nu {own : Nat → Nat} {M : Mm} {e k : Nat} {key day m : Int32} {g : Nat → Int32} (Z : ENC own M e k key day m g) : mI M 401 e 0 = i3 k := Z.2.2.1
theorem ENC.da {own : Nat → Nat} {M : Mm} {e k : Nat} {key day m : Int32} {g : Nat → Int32} (Z : ENC own M e k key day m g) : mI M 402 e 0 = day := Z.2.2.2.1
theorem ENC.ma {own : Nat → Nat} {M : Mm} {e k : Nat} {key day m : Int32} {g : Nat → Int32} (Z : ENC own M e k key day m g) : mI M 101 (e + 1) 0 = m := Z.2.2.2.2.1
theorem ENC.by {own : Nat → Nat} {M : Mm} {e k : Nat} {key day m : Int32} {g : Nat → Int32} (Z : ENC own M e k key day m g) : ∀ j, j < nv m → mI M 0 (e + 2) j = g j := Z.2.2.2.2.2
def VEC (own : Nat → Nat) (M : Mm) (v r e c : Nat) (lv lk ak : Int32) (g : Nat → Int32) : Prop := (VER own M v r e c) ∧
  (mI M 1002 v 0 = lv) ∧
  (mI M 1003 v 0 = lk) ∧
  (mI M 1004 v 0 = ak) ∧
  (∀ q, q < c → mI M 0 (v + 1) q = g q)
theorem VEC.b {own : Nat → Nat} {M : Mm} {v r e c : Nat} {lv lk ak : Int32} {g : Nat → Int32} (Z : VEC own M v r e c lv lk ak g) : VER own M v r e c := Z.1
theorem VEC.lv {own : Nat → Nat} {M : Mm} {v r e c : Nat} {lv lk ak : Int32} {g : Nat → Int32} (Z : VEC own M v r e c lv lk ak g) : mI M 1002 v 0 = lv := Z.2.1
theorem VEC.lk {own : Nat → Nat} {M : Mm} {v r e c : Nat} {lv lk ak : Int32} {g : Nat → Int32} (Z : VEC own M v r e c lv lk ak g) : mI M 1003 v 0 = lk := Z.2.2.1
theorem VEC.ak {own : Nat → Nat} {M : Mm} {v r e c : Nat} {lv lk ak : Int32} {g : Nat → Int32} (Z : VEC own M v r e c lv lk ak g) : mI M 1004 v 0 = ak := Z.2.2.2.1
theorem VEC.pt {own : Nat → Nat} {M : Mm} {v r e c : Nat} {lv lk ak : Int32} {g : Nat → Int32} (Z : VEC own M v r e c lv lk ak g) : ∀ q, q < c → mI M 0 (v + 1) q = g q := Z.2.2.2.2
def PAC (own : Nat → Nat) (M : Mm) (a r p : Nat) (cnt lo sw : Int32) (bb : Nat → Int32) (nd : Nat → Int32) (ro : Nat → Int32) (sb : Nat → Int32) : Prop := (PRT own M a r) ∧
  (mI M 500 a 0 = i3 p) ∧
  (mI M 501 a 0 = lo) ∧
  (mI M 506 a 0 = cnt) ∧
  (mI M 507 a 0 = sw) ∧
  (∀ j, j < 6 → mI M 0 (a + 1) j = if j < nv lo then bb j else i3 0) ∧
  (∀ s, s < 5 → mI M 0 (a + 3) s = if sw = i3 0 then nd s else m1) ∧
  (∀ s, s < 5 → sw = i3 0 → nd s ≠ m1 → mI M 0 (a + 4) s = ro s) ∧
  (∀ s, s < 5 → sw = i3 0 → nd s ≠ m1 → ro s = i3 0 → ∀ k, k < 2 → mI M 0 (a + 2) (2 * s + k) = sb (2 * s + k))
theorem PAC.b {own : Nat → Nat} {M : Mm} {a r p : Nat} {cnt lo sw : Int32} {bb : Nat → Int32} {nd : Nat → Int32} {ro : Nat → Int32} {sb : Nat → Int32} (Z : PAC own M a r p cnt lo sw bb nd ro sb) : PRT own M a r := Z.1
theorem PAC.nu {own : Nat → Nat} {M : Mm} {a r p : Nat} {cnt lo sw : Int32} {bb : Nat → Int32} {nd : Nat → Int32} {ro : Nat → Int32} {sb : Nat → Int32} (Z : PAC own M a r p cnt lo sw bb nd ro sb) : mI M 500 a 0 = i3 p := Z.2.1
theorem PAC.lo {own : Nat → Nat} {M : Mm} {a r p : Nat} {cnt lo sw : Int32} {bb : Nat → Int32} {nd : Nat → Int32} {ro : Nat → Int32} {sb : Nat → Int32} (Z : PAC own M a r p cnt lo sw bb nd ro sb) : mI M 501 a 0 = lo := Z.2.2.1
theorem PAC.ct {own : Nat → Nat} {M : Mm} {a r p : Nat} {cnt lo sw : Int32} {bb : Nat → Int32} {nd : Nat → Int32} {ro : Nat → Int32} {sb : Nat → Int32} (Z : PAC own M a r p cnt lo sw bb nd ro sb) : mI M 506 a 0 = cnt := Z.2.2.2.1
theorem PAC.sw {own : Nat → Nat} {M : Mm} {a r p : Nat} {cnt lo sw : Int32} {bb : Nat → Int32} {nd : Nat → Int32} {ro : Nat → Int32} {sb : Nat → Int32} (Z : PAC own M a r p cnt lo sw bb nd ro sb) : mI M 507 a 0 = sw := Z.2.2.2.2.1
theorem PAC.by {own : Nat → Nat} {M : Mm} {a r p : Nat} {cnt lo sw : Int32} {bb : Nat → Int32} {nd : Nat → Int32} {ro : Nat → Int32} {sb : Nat → Int32} (Z : PAC own M a r p cnt lo sw bb nd ro sb) : ∀ j, j < 6 → mI M 0 (a + 1) j = if j < nv lo then bb j else i3 0 := Z.2.2.2.2.2.1
theorem PAC.nd {own : Nat → Nat} {M : Mm} {a r p : Nat} {cnt lo sw : Int32} {bb : Nat → Int32} {nd : Nat → Int32} {ro : Nat → Int32} {sb : Nat → Int32} (Z : PAC own M a r p cnt lo sw bb nd ro sb) : ∀ s, s < 5 → mI M 0 (a + 3) s = if sw = i3 0 then nd s else m1 := Z.2.2.2.2.2.2.1
theorem PAC.ro {own : Nat → Nat} {M : Mm} {a r p : Nat} {cnt lo sw : Int32} {bb : Nat → Int32} {nd : Nat → Int32} {ro : Nat → Int32} {sb : Nat → Int32} (Z : PAC own M a r p cnt lo sw bb nd ro sb) : ∀ s, s < 5 → sw = i3 0 → nd s ≠ m1 → mI M 0 (a + 4) s = ro s := Z.2.2.2.2.2.2.2.1
theorem PAC.sb {own : Nat → Nat} {M : Mm} {a r p : Nat} {cnt lo sw : Int32} {bb : Nat → Int32} {nd : Nat → Int32} {ro : Nat → Int32} {sb : Nat → Int32} (Z : PAC own M a r p cnt lo sw bb nd ro sb) : ∀ s, s < 5 → sw = i3 0 → nd s ≠ m1 → ro s = i3 0 → ∀ k, k < 2 → mI M 0 (a + 2) (2 * s + k) = sb (2 * s + k) := Z.2.2.2.2.2.2.2.2
def UPC (own : Nat → Nat) (M : Mm) (u t g : Nat) (key ov : Int32) (pm : Nat → Int32) (pb : Nat → Nat → Int32) : Prop := (UPS own M u t g) ∧
  (mI M 901 u 0 = key) ∧
  (mI M 903 u 0 = ov) ∧
  (∀ k, k < 9 → mP M 0 (u + 1) k = some (u + 2 + 2 * k) ∧ BYT own M (u + 2 + 2 * k) t ∧ mI M 101 (u + 2 + 2 * k) 0 = pm k ∧ ∀ j, j < nv (pm k) → mI M 0 (u + 2 + 2 * k + 1) j = pb k j)
theorem UPC.b {own : Nat → Nat} {M : Mm} {u t g : Nat} {key ov : Int32} {pm : Nat → Int32} {pb : Nat → Nat → Int32} (Z : UPC own M u t g key ov pm pb) : UPS own M u t g := Z.1
theorem UPC.ke {own : Nat → Nat} {M : Mm} {u t g : Nat} {key ov : Int32} {pm : Nat → Int32} {pb : Nat → Nat → Int32} (Z : UPC own M u t g key ov pm pb) : mI M 901 u 0 = key := Z.2.1
theorem UPC.ov {own : Nat → Nat} {M : Mm} {u t g : Nat} {key ov : Int32} {pm : Nat → Int32} {pb : Nat → Nat → Int32} (Z : UPC own M u t g key ov pm pb) : mI M 903 u 0 = ov := Z.2.2.1
theorem UPC.pc {own : Nat → Nat} {M : Mm} {u t g : Nat} {key ov : Int32} {pm : Nat → Int32} {pb : Nat → Nat → Int32} (Z : UPC own M u t g key ov pm pb) : ∀ k, k < 9 → mP M 0 (u + 1) k = some (u + 2 + 2 * k) ∧ BYT own M (u + 2 + 2 * k) t ∧ mI M 101 (u + 2 + 2 * k) 0 = pm k ∧ ∀ j, j < nv (pm k) → mI M 0 (u + 2 + 2 * k + 1) j = pb k j := Z.2.2.2
def RUC (own : Nat → Nat) (M : Mm) (x : Nat) (be da to : Int32) : Prop := (RUL own M x) ∧
  (mI M 700 x 0 = be) ∧
  (mI M 701 x 0 = da) ∧
  (mI M 702 x 0 = to)
theorem RUC.b {own : Nat → Nat} {M : Mm} {x : Nat} {be da to : Int32} (Z : RUC own M x be da to) : RUL own M x := Z.1
theorem RUC.be {own : Nat → Nat} {M : Mm} {x : Nat} {be da to : Int32} (Z : RUC own M x be da to) : mI M 700 x 0 = be := Z.2.1
theorem RUC.da {own : Nat → Nat} {M : Mm} {x : Nat} {be da to : Int32} (Z : RUC own M x be da to) : mI M 701 x 0 = da := Z.2.2.1
theorem RUC.to {own : Nat → Nat} {M : Mm} {x : Nat} {be da to : Int32} (Z : RUC own M x be da to) : mI M 702 x 0 = to := Z.2.2.2
def RR (h : Nat) (own : Nat → Nat) (B : BK) (σ : Sg) (M : Mm) (n : Nat) : Prop := (FRS own n) ∧
  (EMP own M) ∧
  (HB own M h) ∧
  (∀ r, r < 2 → RG own M (gr h r) r) ∧
  (mI M 1108 h 0 = σ 8 0) ∧
  (mI M 1109 h 0 = σ 11 0) ∧
  (mI M 101 (h + 33) 0 = σ 1 0) ∧
  (∀ j, j < nv (σ 1 0) → mI M 0 (h + 34) j = σ 2 j) ∧
  (mI M 101 (h + 37) 0 = i3 0) ∧
  (∀ j, j < 3 → mI M 0 (h + 41) j = σ 12 j) ∧
  (∀ r, r < 2 → ∀ j, j < 6 → mI M 0 (gr h r + 2) j = (if σ 17 (6 * r + j) = i3 0 then i3 1 else i3 0)) ∧
  (∀ r, r < 2 → ∀ j, j < 201 → mI M 0 (gr h r + 15) j = σ 35 (201 * r + j)) ∧
  (∀ k, 1 ≤ k → k ≤ nv (σ 8 0) → ENC own M (en B k) k (σ 38 k) (σ 39 k) (σ 9 k) (fun j => σ 10 (40 * k + j))) ∧
  (∀ r, r < 2 → LST own M (gr h r + 13) (14 + r) (nv (σ 26 r)) (ve B r)) ∧
  (∀ r, r < 2 → ∀ i, i < nv (σ 26 r) → VEC own M (ve B r i) r (en B (nv (σ 27 (40 * r + i)))) (nv (σ 33 (40 * r + i))) (σ 30 (40 * r + i)) (σ 31 (40 * r + i)) (σ 32 (40 * r + i)) (fun q => σ 34 (20 * (40 * r + i) + q))) ∧
  (∀ r, r < 2 → LST own M (gr h r + 14) (16 + r) (nv (σ 36 r)) (fun i => en B (nv (σ 37 (200 * r + i))))) ∧
  (∀ r, r < 2 → LST own M (gr h r + 3) (20 + r) (nv (σ 18 r)) (pa B r)) ∧
  (∀ r, r < 2 → ∀ p, p < nv (σ 18 r) → PAC own M (pa B r p) r p (σ 20 (90 * r + p)) (σ 21 (90 * r + p)) (σ 19 (90 * r + p)) (fun j => σ 22 (6 * (90 * r + p) + j)) (fun s => σ 23 (5 * (90 * r + p) + s)) (fun s => σ 25 (5 * (90 * r + p) + s)) (fun j => σ 24 (10 * (90 * r + p) + j))) ∧
  (LST own M (h + 39) 22 (nv (σ 40 0)) (ul B)) ∧
  (∀ u, u < nv (σ 40 0) → UPC own M (ul B u) (30 + u) (gr h (nv (σ 41 u))) (σ 42 u) (σ 43 u) (fun k => σ 44 (9 * u + k)) (fun k j => σ 45 (40 * (9 * u + k) + j))) ∧
  (LST own M (h + 40) 23 (nv (σ 13 0)) (rl B)) ∧
  (∀ j, j < nv (σ 13 0) → RUC own M (rl B j) (σ 14 j) (σ 15 j) (σ 16 j))
theorem RR.fr {h : Nat} {own : Nat → Nat} {B : BK} {σ : Sg} {M : Mm} {n : Nat} (Z : RR h own B σ M n) : FRS own n := Z.1
theorem RR.em {h : Nat} {own : Nat → Nat} {B : BK} {σ : Sg} {M : Mm} {n : Nat} (Z : RR h own B σ M n) : EMP own M := Z.2.1
theorem RR.hb {h : Nat} {own : Nat → Nat} {B : BK} {σ : Sg} {M : Mm} {n : Nat} (Z : RR h own B σ M n) : HB own M h := Z.2.2.1
theorem RR.rg {h : Nat} {own : Nat → Nat} {B : BK} {σ : Sg} {M : Mm} {n : Nat} (Z : RR h own B σ M n) : ∀ r, r < 2 → RG own M (gr h r) r := Z.2.2.2.1
theorem RR.nm {h : Nat} {own : Nat → Nat} {B : BK} {σ : Sg} {M : Mm} {n : Nat} (Z : RR h own B σ M n) : mI M 1108 h 0 = σ 8 0 := Z.2.2.2.2.1
theorem RR.dy {h : Nat} {own : Nat → Nat} {B : BK} {σ : Sg} {M : Mm} {n : Nat} (Z : RR h own B σ M n) : mI M 1109 h 0 = σ 11 0 := Z.2.2.2.2.2.1
theorem RR.dm {h : Nat} {own : Nat → Nat} {B : BK} {σ : Sg} {M : Mm} {n : Nat} (Z : RR h own B σ M n) : mI M 101 (h + 33) 0 = σ 1 0 := Z.2.2.2.2.2.2.1
theorem RR.db {h : Nat} {own : Nat → Nat} {B : BK} {σ : Sg} {M : Mm} {n : Nat} (Z : RR h own B σ M n) : ∀ j, j < nv (σ 1 0) → mI M 0 (h + 34) j = σ 2 j := Z.2.2.2.2.2.2.2.1
theorem RR.nb {h : Nat} {own : Nat → Nat} {B : BK} {σ : Sg} {M : Mm} {n : Nat} (Z : RR h own B σ M n) : mI M 101 (h + 37) 0 = i3 0 := Z.2.2.2.2.2.2.2.2.1
theorem RR.co {h : Nat} {own : Nat → Nat} {B : BK} {σ : Sg} {M : Mm} {n : Nat} (Z : RR h own B σ M n) : ∀ j, j < 3 → mI M 0 (h + 41) j = σ 12 j := Z.2.2.2.2.2.2.2.2.2.1
theorem RR.up {h : Nat} {own : Nat → Nat} {B : BK} {σ : Sg} {M : Mm} {n : Nat} (Z : RR h own B σ M n) : ∀ r, r < 2 → ∀ j, j < 6 → mI M 0 (gr h r + 2) j = (if σ 17 (6 * r + j) = i3 0 then i3 1 else i3 0) := Z.2.2.2.2.2.2.2.2.2.2.1
theorem RR.hd {h : Nat} {own : Nat → Nat} {B : BK} {σ : Sg} {M : Mm} {n : Nat} (Z : RR h own B σ M n) : ∀ r, r < 2 → ∀ j, j < 201 → mI M 0 (gr h r + 15) j = σ 35 (201 * r + j) := Z.2.2.2.2.2.2.2.2.2.2.2.1
theorem RR.et {h : Nat} {own : Nat → Nat} {B : BK} {σ : Sg} {M : Mm} {n : Nat} (Z : RR h own B σ M n) : ∀ k, 1 ≤ k → k ≤ nv (σ 8 0) → ENC own M (en B k) k (σ 38 k) (σ 39 k) (σ 9 k) (fun j => σ 10 (40 * k + j)) := Z.2.2.2.2.2.2.2.2.2.2.2.2.1
theorem RR.vl {h : Nat} {own : Nat → Nat} {B : BK} {σ : Sg} {M : Mm} {n : Nat} (Z : RR h own B σ M n) : ∀ r, r < 2 → LST own M (gr h r + 13) (14 + r) (nv (σ 26 r)) (ve B r) := Z.2.2.2.2.2.2.2.2.2.2.2.2.2.1
theorem RR.vo {h : Nat} {own : Nat → Nat} {B : BK} {σ : Sg} {M : Mm} {n : Nat} (Z : RR h own B σ M n) : ∀ r, r < 2 → ∀ i, i < nv (σ 26 r) → VEC own M (ve B r i) r (en B (nv (σ 27 (40 * r + i)))) (nv (σ 33 (40 * r + i))) (σ 30 (40 * r + i)) (σ 31 (40 * r + i)) (σ 32 (40 * r + i)) (fun q => σ 34 (20 * (40 * r + i) + q)) := Z.2.2.2.2.2.2.2.2.2.2.2.2.2.2.1
theorem RR.kl {h : Nat} {own : Nat → Nat} {B : BK} {σ : Sg} {M : Mm} {n : Nat} (Z : RR h own B σ M n) : ∀ r, r < 2 → LST own M (gr h r + 14) (16 + r) (nv (σ 36 r)) (fun i => en B (nv (σ 37 (200 * r + i)))) := Z.2.2.2.2.2.2.2.2.2.2.2.2.2.2.2.1
theorem RR.pl {h : Nat} {own : Nat → Nat} {B : BK} {σ : Sg} {M : Mm} {n : Nat} (Z : RR h own B σ M n) : ∀ r, r < 2 → LST own M (gr h r + 3) (20 + r) (nv (σ 18 r)) (pa B r) := Z.2.2.2.2.2.2.2.2.2.2.2.2.2.2.2.2.1
theorem RR.po {h : Nat} {own : Nat → Nat} {B : BK} {σ : Sg} {M : Mm} {n : Nat} (Z : RR h own B σ M n) : ∀ r, r < 2 → ∀ p, p < nv (σ 18 r) → PAC own M (pa B r p) r p (σ 20 (90 * r + p)) (σ 21 (90 * r + p)) (σ 19 (90 * r + p)) (fun j => σ 22 (6 * (90 * r + p) + j)) (fun s => σ 23 (5 * (90 * r + p) + s)) (fun s => σ 25 (5 * (90 * r + p) + s)) (fun j => σ 24 (10 * (90 * r + p) + j)) := Z.2.2.2.2.2.2.2.2.2.2.2.2.2.2.2.2.2.1
theorem RR.us {h : Nat} {own : Nat → Nat} {B : BK} {σ : Sg} {M : Mm} {n : Nat} (Z : RR h own B σ M n) : LST own M (h + 39) 22 (nv (σ 40 0)) (ul B) := Z.2.2.2.2.2.2.2.2.2.2.2.2.2.2.2.2.2.2.1
theorem RR.uo {h : Nat} {own : Nat → Nat} {B : BK} {σ : Sg} {M : Mm} {n : Nat} (Z : RR h own B σ M n) : ∀ u, u < nv (σ 40 0) → UPC own M (ul B u) (30 + u) (gr h (nv (σ 41 u))) (σ 42 u) (σ 43 u) (fun k => σ 44 (9 * u + k)) (fun k j => σ 45 (40 * (9 * u + k) + j)) := Z.2.2.2.2.2.2.2.2.2.2.2.2.2.2.2.2.2.2.2.1
theorem RR.rs {h : Nat} {own : Nat → Nat} {B : BK} {σ : Sg} {M : Mm} {n : Nat} (Z : RR h own B σ M n) : LST own M (h + 40) 23 (nv (σ 13 0)) (rl B) := Z.2.2.2.2.2.2.2.2.2.2.2.2.2.2.2.2.2.2.2.2.1
theorem RR.ro {h : Nat} {own : Nat → Nat} {B : BK} {σ : Sg} {M : Mm} {n : Nat} (Z : RR h own B σ M n) : ∀ j, j < nv (σ 13 0) → RUC own M (rl B j) (σ 14 j) (σ 15 j) (σ 16 j) := Z.2.2.2.2.2.2.2.2.2.2.2.2.2.2.2.2.2.2.2.2.2
section KE
variable {own own' : Nat → Nat} {M M' : Mm}
theorem ENC.keep {e k : Nat} {key day m : Int32} {g : Nat → Int32} (h : ENC own M e k key day m g) (q : KPT own M own' M' 24) (qi : KPI own M M' 24) : ENC own' M' e k key day m g :=
  ⟨h.b.keep q, (qi _ h.b.o _ _).trans h.ke, (qi _ h.b.o _ _).trans h.nu, (qi _ h.b.o _ _).trans h.da, (qi _ h.b.b.o _ _).trans h.ma, fun j hj => (qi _ h.b.b.ro _ _).trans (h.by j hj)⟩
theorem VEC.keep {v r e c : Nat} {lv lk ak : Int32} {g : Nat → Int32} (h : VEC own M v r e c lv lk ak g) (q : KPT own M own' M' (18 + r)) (qi : KPI own M M' (18 + r)) : VEC own' M' v r e c lv lk ak g :=
  ⟨h.b.keep q, (qi _ h.b.o _ _).trans h.lv, (qi _ h.b.o _ _).trans h.lk, (qi _ h.b.o _ _).trans h.ak, fun j hj => (qi _ h.b.ro _ _).trans (h.pt j hj)⟩
theorem PAC.keep {a r p : Nat} {cnt lo sw : Int32} {bb nd ro sb : Nat → Int32} (h : PAC own M a r p cnt lo sw bb nd ro sb) (q : KPT own M own' M' (26 + r)) (qi : KPI own M M' (26 + r)) : PAC own' M' a r p cnt lo sw bb nd ro sb :=
  ⟨h.b.keep q, (qi _ h.b.o _ _).trans h.nu, (qi _ h.b.o _ _).trans h.lo, (qi _ h.b.o _ _).trans h.ct, (qi _ h.b.o _ _).trans h.sw, fun j hj => (qi _ h.b.o1 _ _).trans (h.by j hj), fun j hj => (qi _ h.b.o3 _ _).trans (h.nd j hj), fun s hs h1 h2 => (qi _ h.b.o4 _ _).trans (h.ro s hs h1 h2), fun s hs h1 h2 h3 k hk => (qi _ h.b.o2 _ _).trans (h.sb s hs h1 h2 h3 k hk)⟩
theorem UPC.keep {u t g : Nat} {key ov : Int32} {pm : Nat → Int32} {pb : Nat → Nat → Int32} (h : UPC own M u t g key ov pm pb) (q : KPT own M own' M' t) (qi : KPI own M M' t) : UPC own' M' u t g key ov pm pb :=
  ⟨h.b.keep q, (qi _ h.b.o _ _).trans h.ke, (qi _ h.b.o _ _).trans h.ov, fun k hk => by
    obtain ⟨p1, p2, p3, p4⟩ := h.pc k hk
    exact ⟨((q _ h.b.ro).2.2.2 _ _).trans p1, p2.keep q, (qi _ p2.o _ _).trans p3, fun j hj => (qi _ p2.ro _ _).trans (p4 j hj)⟩⟩
theorem RUC.keep {x : Nat} {be da to : Int32} (h : RUC own M x be da to) (q : KPT own M own' M' 29) (qi : KPI own M M' 29) : RUC own' M' x be da to :=
  ⟨h.b.keep q, (qi _ h.b.o _ _).trans h.be, (qi _ h.b.o _ _).trans h.da, (qi _ h.b.o _ _).trans h.to⟩
variable {T : Nat → Prop} {h n r : Nat} {B : BK} {σ : Sg}
theorem RR.zz (R : RR h own B σ M n) (f : FRM T own M own' M') : mL M' 0 = mL M 0 := f.stL R.em.1 (by omega) (by omega)
theorem RR.k_em (R : RR h own B σ M n) (f : FRM T own M own' M') : EMP own' M' := R.em.keep (f.st 1 (by omega) (by omega))
theorem RR.k_hb (R : RR h own B σ M n) (f : FRM T own M own' M') : HB own' M' h := R.hb.keep (f.st 1 (by omega) (by omega)) (f.st 5 (by omega) (by omega)) (f.st 2 (by omega) (by omega)) (f.st 3 (by omega) (by omega)) (f.st 4 (by omega) (by omega))
theorem RR.k_rg (R : RR h own B σ M n) (f : FRM T own M own' M') : ∀ r, r < 2 → RG own' M' (gr h r) r := fun r hr => (R.rg r hr).keep (f.st 1 (by omega) (by omega)) (f.st (6 + r) (by omega) (by omega)) (f.st (10 + r) (by omega) (by omega)) (f.st (8 + r) (by omega) (by omega))
theorem RR.k_nm (R : RR h own B σ M n) (f : FRM T own M own' M') (t : ¬ T 1) : mI M' 1108 h 0 = σ 8 0 := (f.dyI R.hb.o (by omega) t _ _).trans R.nm
theorem RR.k_dy (R : RR h own B σ M n) (f : FRM T own M own' M') (t : ¬ T 1) : mI M' 1109 h 0 = σ 11 0 := (f.dyI R.hb.o (by omega) t _ _).trans R.dy
theorem RR.k_dm (R : RR h own B σ M n) (f : FRM T own M own' M') (t : ¬ T 2) : mI M' 101 (h + 33) 0 = σ 1 0 := (f.dyI R.hb.dr.o (by omega) t _ _).trans R.dm
theorem RR.k_db (R : RR h own B σ M n) (f : FRM T own M own' M') (t : ¬ T 2) : ∀ j, j < nv (σ 1 0) → mI M' 0 (h + 34) j = σ 2 j := fun j hj => (f.dyI R.hb.dr.ro (by omega) t _ _).trans (R.db j hj)
theorem RR.k_nb (R : RR h own B σ M n) (f : FRM T own M own' M') (t : ¬ T 4) : mI M' 101 (h + 37) 0 = i3 0 := (f.dyI R.hb.nb.o (by omega) t _ _).trans R.nb
theorem RR.k_co (R : RR h own B σ M n) (f : FRM T own M own' M') (t : ¬ T 5) : ∀ j, j < 3 → mI M' 0 (h + 41) j = σ 12 j := fun j hj => (f.dyI R.hb.oc (by omega) t _ _).trans (R.co j hj)
theorem RR.k_up (R : RR h own B σ M n) (f : FRM T own M own' M') (hr : r < 2) (t : ¬ T (6 + r)) : ∀ j, j < 6 → mI M' 0 (gr h r + 2) j = (if σ 17 (6 * r + j) = i3 0 then i3 1 else i3 0) := fun j hj => (f.dyI (R.rg r hr).o2 (by omega) t _ _).trans (R.up r hr j hj)
theorem RR.k_hd (R : RR h own B σ M n) (f : FRM T own M own' M') (hr : r < 2) (t : ¬ T (8 + r)) : ∀ j, j < 201 → mI M' 0 (gr h r + 15) j = σ 35 (201 * r + j) := fun j hj => (f.dyI (R.rg r hr).o15 (by omega) t _ _).trans (R.hd r hr j hj)
theorem RR.k_en (R : RR h own B σ M n) (f : FRM T own M own' M') (t : ¬ T 24) : ∀ k, 1 ≤ k → k ≤ nv (σ 8 0) → ENC own' M' (en B k) k (σ 38 k) (σ 39 k) (σ 9 k) (fun j => σ 10 (40 * k + j)) := fun k h1 h2 => (R.et k h1 h2).keep (f.dy 24 (by omega) t) (f.di 24 (by omega) t)
theorem RR.k_vl (R : RR h own B σ M n) (f : FRM T own M own' M') (hr : r < 2) (t : ¬ T (14 + r)) : LST own' M' (gr h r + 13) (14 + r) (nv (σ 26 r)) (ve B r) := (R.vl r hr).keep (f.dy _ (by omega) t) (f.di _ (by omega) t) (R.zz f)
theorem RR.k_vo (R : RR h own B σ M n) (f : FRM T own M own' M') (hr : r < 2) (t : ¬ T (18 + r)) : ∀ i, i < nv (σ 26 r) → VEC own' M' (ve B r i) r (en B (nv (σ 27 (40 * r + i)))) (nv (σ 33 (40 * r + i))) (σ 30 (40 * r + i)) (σ 31 (40 * r + i)) (σ 32 (40 * r + i)) (fun q => σ 34 (20 * (40 * r + i) + q)) := fun i hi => (R.vo r hr i hi).keep (f.dy _ (by omega) t) (f.di _ (by omega) t)
theorem RR.k_kl (R : RR h own B σ M n) (f : FRM T own M own' M') (hr : r < 2) (t : ¬ T (16 + r)) : LST own' M' (gr h r + 14) (16 + r) (nv (σ 36 r)) (fun i => en B (nv (σ 37 (200 * r + i)))) := (R.kl r hr).keep (f.dy _ (by omega) t) (f.di _ (by omega) t) (R.zz f)
theorem RR.k_pl (R : RR h own B σ M n) (f : FRM T own M own' M') (hr : r < 2) (t : ¬ T (20 + r)) : LST own' M' (gr h r + 3) (20 + r) (nv (σ 18 r)) (pa B r) := (R.pl r hr).keep (f.dy _ (by omega) t) (f.di _ (by omega) t) (R.zz f)
theorem RR.k_po (R : RR h own B σ M n) (f : FRM T own M own' M') (hr : r < 2) (t : ¬ T (26 + r)) : ∀ p, p < nv (σ 18 r) → PAC own' M' (pa B r p) r p (σ 20 (90 * r + p)) (σ 21 (90 * r + p)) (σ 19 (90 * r + p)) (fun j => σ 22 (6 * (90 * r + p) + j)) (fun s => σ 23 (5 * (90 * r + p) + s)) (fun s => σ 25 (5 * (90 * r + p) + s)) (fun j => σ 24 (10 * (90 * r + p) + j)) := fun i hi => (R.po r hr i hi).keep (f.dy _ (by omega) t) (f.di _ (by omega) t)
theorem RR.k_us (R : RR h own B σ M n) (f : FRM T own M own' M') (t : ¬ T 22) : LST own' M' (h + 39) 22 (nv (σ 40 0)) (ul B) := R.us.keep (f.dy _ (by omega) t) (f.di _ (by omega) t) (R.zz f)
theorem RR.k_uo (R : RR h own B σ M n) (f : FRM T own M own' M') {u : Nat} (hu : u < nv (σ 40 0)) (t : ¬ T (30 + u)) : UPC own' M' (ul B u) (30 + u) (gr h (nv (σ 41 u))) (σ 42 u) (σ 43 u) (fun k => σ 44 (9 * u + k)) (fun k j => σ 45 (40 * (9 * u + k) + j)) := (R.uo u hu).keep (f.dy _ (by omega) t) (f.di _ (by omega) t)
theorem RR.k_rs (R : RR h own B σ M n) (f : FRM T own M own' M') (t : ¬ T 23) : LST own' M' (h + 40) 23 (nv (σ 13 0)) (rl B) := R.rs.keep (f.dy _ (by omega) t) (f.di _ (by omega) t) (R.zz f)
theorem RR.k_ro (R : RR h own B σ M n) (f : FRM T own M own' M') (t : ¬ T 29) : ∀ j, j < nv (σ 13 0) → RUC own' M' (rl B j) (σ 14 j) (σ 15 j) (σ 16 j) := fun j hj => (R.ro j hj).keep (f.dy _ (by omega) t) (f.di _ (by omega) t)
/-- where only owners of scratch change -/
theorem RR.scr (R : RR h own B σ M n) (f : FRM T own M own M') (t : ∀ x, T x → x = 3 ∨ x = 10 ∨ x = 11) : RR h own B σ M' n := by
  have z : ∀ x, x ≠ 3 → x ≠ 10 → x ≠ 11 → ¬ T x := fun x h1 h2 h3 hx => by rcases t x hx with h | h | h <;> omega
  exact ⟨R.fr, R.k_em f, R.k_hb f, R.k_rg f, R.k_nm f (z _ (by omega) (by omega) (by omega)), R.k_dy f (z _ (by omega) (by omega) (by omega)), R.k_dm f (z _ (by omega) (by omega) (by omega)), R.k_db f (z _ (by omega) (by omega) (by omega)), R.k_nb f (z _ (by omega) (by omega) (by omega)), R.k_co f (z _ (by omega) (by omega) (by omega)), fun r hr => R.k_up f hr (z _ (by omega) (by omega) (by omega)), fun r hr => R.k_hd f hr (z _ (by omega) (by omega) (by omega)), R.k_en f (z _ (by omega) (by omega) (by omega)), fun r hr => R.k_vl f hr (z _ (by omega) (by omega) (by omega)), fun r hr => R.k_vo f hr (z _ (by omega) (by omega) (by omega)), fun r hr => R.k_kl f hr (z _ (by omega) (by omega) (by omega)), fun r hr => R.k_pl f hr (z _ (by omega) (by omega) (by omega)), fun r hr => R.k_po f hr (z _ (by omega) (by omega) (by omega)), R.k_us f (z _ (by omega) (by omega) (by omega)), fun u hu => R.k_uo f hu (z _ (by omega) (by omega) (by omega)), R.k_rs f (z _ (by omega) (by omega) (by omega)), R.k_ro f (z _ (by omega) (by omega) (by omega))⟩
end KE

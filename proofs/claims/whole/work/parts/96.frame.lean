set_option maxRecDepth 100000
/-! what stays: frames by owners -/
def SAP (M M' : Mm) (a : Nat) : Prop := mK M' a = mK M a ∧ mL M' a = mL M a ∧ ∀ c j, mP M' c a j = mP M c a j
def SAM (M M' : Mm) (a : Nat) : Prop := mK M' a = mK M a ∧ mL M' a = mL M a ∧ (∀ c j, mP M' c a j = mP M c a j) ∧ ∀ c j, mI M' c a j = mI M c a j
def FRM (T : Nat → Prop) (own : Nat → Nat) (M : Mm) (own' : Nat → Nat) (M' : Mm) : Prop := ∀ a, own a ≠ 0 → own' a = own a ∧ (¬ T (own a) → SAM M M' a) ∧ (own a ≤ 12 → SAP M M' a)
section FR
variable {T U : Nat → Prop} {own own' own2 : Nat → Nat} {M M' M2 : Mm} {a t : Nat}
theorem SAP.rfl' : SAP M M a := ⟨rfl, rfl, fun _ _ => rfl⟩
theorem SAM.rfl' : SAM M M a := ⟨rfl, rfl, fun _ _ => rfl, fun _ _ => rfl⟩
theorem SAP.trans (h : SAP M M' a) (k : SAP M' M2 a) : SAP M M2 a := ⟨k.1.trans h.1, k.2.1.trans h.2.1, fun c j => (k.2.2 c j).trans (h.2.2 c j)⟩
theorem SAM.trans (h : SAM M M' a) (k : SAM M' M2 a) : SAM M M2 a := ⟨k.1.trans h.1, k.2.1.trans h.2.1, fun c j => (k.2.2.1 c j).trans (h.2.2.1 c j), fun c j => (k.2.2.2 c j).trans (h.2.2.2 c j)⟩
theorem SAM.sap (h : SAM M M' a) : SAP M M' a := ⟨h.1, h.2.1, h.2.2.1⟩
theorem FRM.refl : FRM T own M own M := fun a _ => ⟨rfl, fun _ => SAM.rfl', fun _ => SAP.rfl'⟩
theorem FRM.trans (f : FRM T own M own' M') (g : FRM U own' M' own2 M2) : FRM (fun t => T t ∨ U t) own M own2 M2 := fun a h => by
  obtain ⟨f1, f2, f3⟩ := f a h
  obtain ⟨g1, g2, g3⟩ := g a (by rw [f1]; exact h)
  rw [f1] at g1 g2 g3
  exact ⟨g1, fun z => (f2 fun w => z (Or.inl w)).trans (g2 fun w => z (Or.inr w)), fun z => (f3 z).trans (g3 z)⟩
theorem FRM.mono (f : FRM T own M own' M') (k : ∀ t, T t → U t) : FRM U own M own' M' := fun a h => by
  obtain ⟨f1, f2, f3⟩ := f a h
  exact ⟨f1, fun z => f2 fun w => z (k _ w), f3⟩
theorem FRM.then (f : FRM T own M own' M') (g : FRM T own' M' own2 M2) : FRM T own M own2 M2 := (f.trans g).mono fun _ z => z.elim id id
theorem FRM.stO (f : FRM T own M own' M') (o : own a = t) (h0 : t ≠ 0) (_ : t ≤ 12) : own' a = own a := (f a (by rw [o]; exact h0)).1
theorem FRM.stP' (f : FRM T own M own' M') (o : own a = t) (h0 : t ≠ 0) (h1 : t ≤ 12) : SAP M M' a := (f a (by rw [o]; exact h0)).2.2 (by rw [o]; exact h1)
theorem FRM.stK (f : FRM T own M own' M') (o : own a = t) (h0 : t ≠ 0) (h1 : t ≤ 12) : mK M' a = mK M a := (f.stP' o h0 h1).1
theorem FRM.stL (f : FRM T own M own' M') (o : own a = t) (h0 : t ≠ 0) (h1 : t ≤ 12) : mL M' a = mL M a := (f.stP' o h0 h1).2.1
theorem FRM.stP (f : FRM T own M own' M') (o : own a = t) (h0 : t ≠ 0) (h1 : t ≤ 12) (c j : Nat) : mP M' c a j = mP M c a j := (f.stP' o h0 h1).2.2 c j
theorem FRM.dyO (f : FRM T own M own' M') (o : own a = t) (h0 : t ≠ 0) (_ : ¬ T t) : own' a = own a := (f a (by rw [o]; exact h0)).1
theorem FRM.dyM (f : FRM T own M own' M') (o : own a = t) (h0 : t ≠ 0) (h1 : ¬ T t) : SAM M M' a := (f a (by rw [o]; exact h0)).2.1 (by rw [o]; exact h1)
theorem FRM.dyK (f : FRM T own M own' M') (o : own a = t) (h0 : t ≠ 0) (h1 : ¬ T t) : mK M' a = mK M a := (f.dyM o h0 h1).1
theorem FRM.dyL (f : FRM T own M own' M') (o : own a = t) (h0 : t ≠ 0) (h1 : ¬ T t) : mL M' a = mL M a := (f.dyM o h0 h1).2.1
theorem FRM.dyP (f : FRM T own M own' M') (o : own a = t) (h0 : t ≠ 0) (h1 : ¬ T t) (c j : Nat) : mP M' c a j = mP M c a j := (f.dyM o h0 h1).2.2.1 c j
theorem FRM.dyI (f : FRM T own M own' M') (o : own a = t) (h0 : t ≠ 0) (h1 : ¬ T t) (c j : Nat) : mI M' c a j = mI M c a j := (f.dyM o h0 h1).2.2.2 c j
/-- numbers alone change, at places of S -/
def IOS (S : Nat → Nat → Prop) (M M' : Mm) : Prop := M'.2 = M.2 ∧ ∀ c a j, ¬ S c a → mI M' c a j = mI M c a j
theorem IOS.refl {S : Nat → Nat → Prop} : IOS S M M := ⟨rfl, fun _ _ _ _ => rfl⟩
theorem IOS.trans {S S' : Nat → Nat → Prop} (h : IOS S M M') (k : IOS S' M' M2) : IOS (fun c a => S c a ∨ S' c a) M M2 := ⟨k.1.trans h.1, fun c a j z => (k.2 c a j fun w => z (Or.inr w)).trans (h.2 c a j fun w => z (Or.inl w))⟩
theorem IOS.mono {S S' : Nat → Nat → Prop} (h : IOS S M M') (k : ∀ c a, S c a → S' c a) : IOS S' M M' := ⟨h.1, fun c a j z => h.2 c a j fun w => z (k c a w)⟩
theorem IOS.then {S : Nat → Nat → Prop} (h : IOS S M M') (k : IOS S M' M2) : IOS S M M2 := (h.trans k).mono fun _ _ z => z.elim id id
theorem IOS.uI (c a j : Nat) (v : Int32) : IOS (fun c' a' => c' = c ∧ a' = a) M (uI M c a j v) := ⟨rfl, fun c' a' j' z => by rw [mI_uI, if_neg fun w => z ⟨w.1, w.2.1⟩]⟩
theorem IOS.wI (c a : Nat) (g : Nat → Int32) : IOS (fun c' a' => c' = c ∧ a' = a) M (wI M c a g) := ⟨rfl, fun c' a' j' z => by rw [mI_wI, if_neg z]⟩
theorem IOS.K {S : Nat → Nat → Prop} (h : IOS S M M') (b : Nat) : mK M' b = mK M b := by show M'.2.2.2.1 b = M.2.2.2.1 b; rw [h.1]
theorem IOS.L {S : Nat → Nat → Prop} (h : IOS S M M') (b : Nat) : mL M' b = mL M b := by show M'.2.2.2.2 b = M.2.2.2.2 b; rw [h.1]
theorem IOS.P {S : Nat → Nat → Prop} (h : IOS S M M') (c b j : Nat) : mP M' c b j = mP M c b j := by show M'.2.1 c b j = M.2.1 c b j; rw [h.1]
theorem IOS.frm {S : Nat → Nat → Prop} (h : IOS S M M') (k : ∀ c a, S c a → own a ≠ 0 → T (own a)) : FRM T own M own M' := fun a h0 => ⟨rfl, fun z => ⟨h.K a, h.L a, fun c j => h.P c a j, fun c j => h.2 c a j fun w => z (k c a w h0)⟩, fun _ => ⟨h.K a, h.L a, fun c j => h.P c a j⟩⟩
end FR
/-- what has the owner t keeps its shape; its numbers too -/
def KPT (own : Nat → Nat) (M : Mm) (own' : Nat → Nat) (M' : Mm) (t : Nat) : Prop := ∀ a, own a = t → own' a = own a ∧ SAP M M' a
def KPI (own : Nat → Nat) (M M' : Mm) (t : Nat) : Prop := ∀ a, own a = t → ∀ c j, mI M' c a j = mI M c a j
theorem FRM.st {T : Nat → Prop} {own own' : Nat → Nat} {M M' : Mm} (f : FRM T own M own' M') (t : Nat) (h0 : t ≠ 0) (h1 : t ≤ 12) : KPT own M own' M' t := fun a o => ⟨f.stO o h0 h1, f.stP' o h0 h1⟩
theorem FRM.dy {T : Nat → Prop} {own own' : Nat → Nat} {M M' : Mm} (f : FRM T own M own' M') (t : Nat) (h0 : t ≠ 0) (h1 : ¬ T t) : KPT own M own' M' t := fun a o => ⟨f.dyO o h0 h1, (f.dyM o h0 h1).sap⟩
theorem FRM.di {T : Nat → Prop} {own own' : Nat → Nat} {M M' : Mm} (f : FRM T own M own' M') (t : Nat) (h0 : t ≠ 0) (h1 : ¬ T t) : KPI own M M' t := fun a o => (f.dyM o h0 h1).2.2.2
/-! bundles of facts: what is laid where -/
def BYT (own : Nat → Nat) (M : Mm) (b t : Nat) : Prop := (mK M b = 1) ∧ (mP M 100 b 0 = some (b + 1)) ∧ (mK M (b + 1) = 20) ∧ (mL M (b + 1) = 40) ∧ (own b = t) ∧ (own (b + 1) = t)
theorem BYT.k {own : Nat → Nat} {M : Mm} {b t : Nat} (Z : BYT own M b t) : mK M b = 1 := Z.1
theorem BYT.p {own : Nat → Nat} {M : Mm} {b t : Nat} (Z : BYT own M b t) : mP M 100 b 0 = some (b + 1) := Z.2.1
theorem BYT.rk {own : Nat → Nat} {M : Mm} {b t : Nat} (Z : BYT own M b t) : mK M (b + 1) = 20 := Z.2.2.1
theorem BYT.rl {own : Nat → Nat} {M : Mm} {b t : Nat} (Z : BYT own M b t) : mL M (b + 1) = 40 := Z.2.2.2.1
theorem BYT.o {own : Nat → Nat} {M : Mm} {b t : Nat} (Z : BYT own M b t) : own b = t := Z.2.2.2.2.1
theorem BYT.ro {own : Nat → Nat} {M : Mm} {b t : Nat} (Z : BYT own M b t) : own (b + 1) = t := Z.2.2.2.2.2
theorem BYT.keep {own' : Nat → Nat} {M' : Mm} {own : Nat → Nat} {M : Mm} {b t : Nat} (Z : BYT own M b t) (q0 : KPT own M own' M' t) : BYT own' M' b t := ⟨(q0 _ Z.o).2.1.trans Z.k, ((q0 _ Z.o).2.2.2 100 0).trans Z.p, (q0 _ Z.ro).2.1.trans Z.rk, (q0 _ Z.ro).2.2.1.trans Z.rl, (q0 _ Z.o).1.trans Z.o, (q0 _ Z.ro).1.trans Z.ro⟩
def ENT (own : Nat → Nat) (M : Mm) (e : Nat) : Prop := (mK M e = 4) ∧ (mP M 403 e 0 = some (e + 1)) ∧ (own e = 24) ∧ (BYT own M (e + 1) 24)
theorem ENT.k {own : Nat → Nat} {M : Mm} {e : Nat} (Z : ENT own M e) : mK M e = 4 := Z.1
theorem ENT.p {own : Nat → Nat} {M : Mm} {e : Nat} (Z : ENT own M e) : mP M 403 e 0 = some (e + 1) := Z.2.1
theorem ENT.o {own : Nat → Nat} {M : Mm} {e : Nat} (Z : ENT own M e) : own e = 24 := Z.2.2.1
theorem ENT.b {own : Nat → Nat} {M : Mm} {e : Nat} (Z : ENT own M e) : BYT own M (e + 1) 24 := Z.2.2.2
theorem ENT.keep {own' : Nat → Nat} {M' : Mm} {own : Nat → Nat} {M : Mm} {e : Nat} (Z : ENT own M e) (q0 : KPT own M own' M' 24) : ENT own' M' e := ⟨(q0 _ Z.o).2.1.trans Z.k, ((q0 _ Z.o).2.2.2 403 0).trans Z.p, (q0 _ Z.o).1.trans Z.o, Z.b.keep q0⟩
def VER (own : Nat → Nat) (M : Mm) (v r e c : Nat) : Prop := (mK M v = 10) ∧ (mP M 1000 v 0 = some e) ∧ (mP M 1001 v 0 = some (v + 1)) ∧ (own v = (18 + r)) ∧ (mK M (v + 1) = 21) ∧ (mL M (v + 1) = c) ∧ (own (v + 1) = (18 + r))
theorem VER.k {own : Nat → Nat} {M : Mm} {v r e c : Nat} (Z : VER own M v r e c) : mK M v = 10 := Z.1
theorem VER.p0 {own : Nat → Nat} {M : Mm} {v r e c : Nat} (Z : VER own M v r e c) : mP M 1000 v 0 = some e := Z.2.1
theorem VER.p1 {own : Nat → Nat} {M : Mm} {v r e c : Nat} (Z : VER own M v r e c) : mP M 1001 v 0 = some (v + 1) := Z.2.2.1
theorem VER.o {own : Nat → Nat} {M : Mm} {v r e c : Nat} (Z : VER own M v r e c) : own v = (18 + r) := Z.2.2.2.1
theorem VER.rk {own : Nat → Nat} {M : Mm} {v r e c : Nat} (Z : VER own M v r e c) : mK M (v + 1) = 21 := Z.2.2.2.2.1
theorem VER.rl {own : Nat → Nat} {M : Mm} {v r e c : Nat} (Z : VER own M v r e c) : mL M (v + 1) = c := Z.2.2.2.2.2.1
theorem VER.ro {own : Nat → Nat} {M : Mm} {v r e c : Nat} (Z : VER own M v r e c) : own (v + 1) = (18 + r) := Z.2.2.2.2.2.2
theorem VER.keep {own' : Nat → Nat} {M' : Mm} {own : Nat → Nat} {M : Mm} {v r e c : Nat} (Z : VER own M v r e c) (q0 : KPT own M own' M' (18 + r)) : VER own' M' v r e c := ⟨(q0 _ Z.o).2.1.trans Z.k, ((q0 _ Z.o).2.2.2 1000 0).trans Z.p0, ((q0 _ Z.o).2.2.2 1001 0).trans Z.p1, (q0 _ Z.o).1.trans Z.o, (q0 _ Z.ro).2.1.trans Z.rk, (q0 _ Z.ro).2.2.1.trans Z.rl, (q0 _ Z.ro).1.trans Z.ro⟩
def PRT (own : Nat → Nat) (M : Mm) (p r : Nat) : Prop := (mK M p = 5) ∧ (mP M 502 p 0 = some (p + 1)) ∧ (mP M 503 p 0 = some (p + 2)) ∧ (mP M 504 p 0 = some (p + 3)) ∧ (mP M 505 p 0 = some (p + 4)) ∧ (own p = (26 + r)) ∧ (mK M (p + 1) = 20) ∧ (mL M (p + 1) = 6) ∧ (own (p + 1) = (26 + r)) ∧ (mK M (p + 2) = 20) ∧ (mL M (p + 2) = 10) ∧ (own (p + 2) = (26 + r)) ∧ (mK M (p + 3) = 21) ∧ (mL M (p + 3) = 5) ∧ (own (p + 3) = (26 + r)) ∧ (mK M (p + 4) = 22) ∧ (mL M (p + 4) = 5) ∧ (own (p + 4) = (26 + r))
theorem PRT.k {own : Nat → Nat} {M : Mm} {p r : Nat} (Z : PRT own M p r) : mK M p = 5 := Z.1
theorem PRT.p2 {own : Nat → Nat} {M : Mm} {p r : Nat} (Z : PRT own M p r) : mP M 502 p 0 = some (p + 1) := Z.2.1
theorem PRT.p3 {own : Nat → Nat} {M : Mm} {p r : Nat} (Z : PRT own M p r) : mP M 503 p 0 = some (p + 2) := Z.2.2.1
theorem PRT.p4 {own : Nat → Nat} {M : Mm} {p r : Nat} (Z : PRT own M p r) : mP M 504 p 0 = some (p + 3) := Z.2.2.2.1
theorem PRT.p5 {own : Nat → Nat} {M : Mm} {p r : Nat} (Z : PRT own M p r) : mP M 505 p 0 = some (p + 4) := Z.2.2.2.2.1
theorem PRT.o {own : Nat → Nat} {M : Mm} {p r : Nat} (Z : PRT own M p r) : own p = (26 + r) := Z.2.2.2.2.2.1
theorem PRT.k1 {own : Nat → Nat} {M : Mm} {p r : Nat} (Z : PRT own M p r) : mK M (p + 1) = 20 := Z.2.2.2.2.2.2.1
theorem PRT.l1 {own : Nat → Nat} {M : Mm} {p r : Nat} (Z : PRT own M p r) : mL M (p + 1) = 6 := Z.2.2.2.2.2.2.2.1
theorem PRT.o1 {own : Nat → Nat} {M : Mm} {p r : Nat} (Z : PRT own M p r) : own (p + 1) = (26 + r) := Z.2.2.2.2.2.2.2.2.1
theorem PRT.k2 {own : Nat → Nat} {M : Mm} {p r : Nat} (Z : PRT own M p r) : mK M (p + 2) = 20 := Z.2.2.2.2.2.2.2.2.2.1
theorem PRT.l2 {own : Nat → Nat} {M : Mm} {p r : Nat} (Z : PRT own M p r) : mL M (p + 2) = 10 := Z.2.2.2.2.2.2.2.2.2.2.1
theorem PRT.o2 {own : Nat → Nat} {M : Mm} {p r : Nat} (Z : PRT own M p r) : own (p + 2) = (26 + r) := Z.2.2.2.2.2.2.2.2.2.2.2.1
theorem PRT.k3 {own : Nat → Nat} {M : Mm} {p r : Nat} (Z : PRT own M p r) : mK M (p + 3) = 21 := Z.2.2.2.2.2.2.2.2.2.2.2.2.1
theorem PRT.l3 {own : Nat → Nat} {M : Mm} {p r : Nat} (Z : PRT own M p r) : mL M (p + 3) = 5 := Z.2.2.2.2.2.2.2.2.2.2.2.2.2.1
theorem PRT.o3 {own : Nat → Nat} {M : Mm} {p r : Nat} (Z : PRT own M p r) : own (p + 3) = (26 + r) := Z.2.2.2.2.2.2.2.2.2.2.2.2.2.2.1
theorem PRT.k4 {own : Nat → Nat} {M : Mm} {p r : Nat} (Z : PRT own M p r) : mK M (p + 4) = 22 := Z.2.2.2.2.2.2.2.2.2.2.2.2.2.2.2.1
theorem PRT.l4 {own : Nat → Nat} {M : Mm} {p r : Nat} (Z : PRT own M p r) : mL M (p + 4) = 5 := Z.2.2.2.2.2.2.2.2.2.2.2.2.2.2.2.2.1
theorem PRT.o4 {own : Nat → Nat} {M : Mm} {p r : Nat} (Z : PRT own M p r) : own (p + 4) = (26 + r) := Z.2.2.2.2.2.2.2.2.2.2.2.2.2.2.2.2.2
theorem PRT.keep {own' : Nat → Nat} {M' : Mm} {own : Nat → Nat} {M : Mm} {p r : Nat} (Z : PRT own M p r) (q0 : KPT own M own' M' (26 + r)) : PRT own' M' p r := ⟨(q0 _ Z.o).2.1.trans Z.k, ((q0 _ Z.o).2.2.2 502 0).trans Z.p2, ((q0 _ Z.o).2.2.2 503 0).trans Z.p3, ((q0 _ Z.o).2.2.2 504 0).trans Z.p4, ((q0 _ Z.o).2.2.2 505 0).trans Z.p5, (q0 _ Z.o).1.trans Z.o, (q0 _ Z.o1).2.1.trans Z.k1, (q0 _ Z.o1).2.2.1.trans Z.l1, (q0 _ Z.o1).1.trans Z.o1, (q0 _ Z.o2).2.1.trans Z.k2, (q0 _ Z.o2).2.2.1.trans Z.l2, (q0 _ Z.o2).1.trans Z.o2, (q0 _ Z.o3).2.1.trans Z.k3, (q0 _ Z.o3).2.2.1.trans Z.l3, (q0 _ Z.o3).1.trans Z.o3, (q0 _ Z.o4).2.1.trans Z.k4, (q0 _ Z.o4).2.2.1.trans Z.l4, (q0 _ Z.o4).1.trans Z.o4⟩
def UPS (own : Nat → Nat) (M : Mm) (u t g : Nat) : Prop := (mK M u = 9) ∧ (mP M 900 u 0 = some g) ∧ (mP M 902 u 0 = some (u + 1)) ∧ (own u = t) ∧ (mK M (u + 1) = 24) ∧ (mL M (u + 1) = 9) ∧ (own (u + 1) = t)
theorem UPS.k {own : Nat → Nat} {M : Mm} {u t g : Nat} (Z : UPS own M u t g) : mK M u = 9 := Z.1
theorem UPS.p0 {own : Nat → Nat} {M : Mm} {u t g : Nat} (Z : UPS own M u t g) : mP M 900 u 0 = some g := Z.2.1
theorem UPS.p2 {own : Nat → Nat} {M : Mm} {u t g : Nat} (Z : UPS own M u t g) : mP M 902 u 0 = some (u + 1) := Z.2.2.1
theorem UPS.o {own : Nat → Nat} {M : Mm} {u t g : Nat} (Z : UPS own M u t g) : own u = t := Z.2.2.2.1
theorem UPS.rk {own : Nat → Nat} {M : Mm} {u t g : Nat} (Z : UPS own M u t g) : mK M (u + 1) = 24 := Z.2.2.2.2.1
theorem UPS.rl {own : Nat → Nat} {M : Mm} {u t g : Nat} (Z : UPS own M u t g) : mL M (u + 1) = 9 := Z.2.2.2.2.2.1
theorem UPS.ro {own : Nat → Nat} {M : Mm} {u t g : Nat} (Z : UPS own M u t g) : own (u + 1) = t := Z.2.2.2.2.2.2
theorem UPS.keep {own' : Nat → Nat} {M' : Mm} {own : Nat → Nat} {M : Mm} {u t g : Nat} (Z : UPS own M u t g) (q0 : KPT own M own' M' t) : UPS own' M' u t g := ⟨(q0 _ Z.o).2.1.trans Z.k, ((q0 _ Z.o).2.2.2 900 0).trans Z.p0, ((q0 _ Z.o).2.2.2 902 0).trans Z.p2, (q0 _ Z.o).1.trans Z.o, (q0 _ Z.ro).2.1.trans Z.rk, (q0 _ Z.ro).2.2.1.trans Z.rl, (q0 _ Z.ro).1.trans Z.ro⟩
def RG (own : Nat → Nat) (M : Mm) (g r : Nat) : Prop := (mK M g = 6) ∧ (mP M 600 g 0 = some (g + 1)) ∧ (mP M 601 g 0 = some (g + 13)) ∧ (mP M 602 g 0 = some (g + 14)) ∧ (mP M 603 g 0 = some (g + 15)) ∧ (own g = 1) ∧ (mK M (g + 1) = 8) ∧ (mP M 800 (g + 1) 0 = some (g + 2)) ∧ (mP M 801 (g + 1) 0 = some (g + 3)) ∧ (mP M 802 (g + 1) 0 = some (g + 4)) ∧ (mP M 803 (g + 1) 0 = some (g + 7)) ∧ (mP M 804 (g + 1) 0 = some (g + 12)) ∧ (own (g + 1) = 1) ∧ (mK M (g + 2) = 22) ∧ (mL M (g + 2) = 6) ∧ (own (g + 2) = (6 + r)) ∧ (mK M (g + 4) = 3) ∧ (mP M 300 (g + 4) 0 = some (g + 5)) ∧ (mP M 301 (g + 4) 0 = some (g + 6)) ∧ (own (g + 4) = (10 + r)) ∧ (mK M (g + 5) = 21) ∧ (mL M (g + 5) = 40) ∧ (own (g + 5) = (10 + r)) ∧ (mK M (g + 6) = 21) ∧ (mL M (g + 6) = 40) ∧ (own (g + 6) = (10 + r)) ∧ (mK M (g + 7) = 2) ∧ (mP M 200 (g + 7) 0 = some (g + 8)) ∧ (mP M 201 (g + 7) 0 = some (g + 9)) ∧ (mP M 202 (g + 7) 0 = some (g + 10)) ∧ (mP M 203 (g + 7) 0 = some (g + 11)) ∧ (own (g + 7) = (10 + r)) ∧ (mK M (g + 8) = 20) ∧ (mL M (g + 8) = 6) ∧ (own (g + 8) = (10 + r)) ∧ (mK M (g + 9) = 20) ∧ (mL M (g + 9) = 10) ∧ (own (g + 9) = (10 + r)) ∧ (mK M (g + 10) = 21) ∧ (mL M (g + 10) = 3) ∧ (own (g + 10) = (10 + r)) ∧ (mK M (g + 11) = 21) ∧ (mL M (g + 11) = 3) ∧ (own (g + 11) = (10 + r)) ∧ (mK M (g + 12) = 21) ∧ (mL M (g + 12) = 90) ∧ (own (g + 12) = (10 + r)) ∧ (mK M (g + 15) = 22) ∧ (mL M (g + 15) = 201) ∧ (own (g + 15) = (8 + r))
theorem RG.k {own : Nat → Nat} {M : Mm} {g r : Nat} (Z : RG own M g r) : mK M g = 6 := Z.1
theorem RG.p0 {own : Nat → Nat} {M : Mm} {g r : Nat} (Z : RG own M g r) : mP M 600 g 0 = some (g + 1) := Z.2.1
theorem RG.p1 {own : Nat → Nat} {M : Mm} {g r : Nat} (Z : RG own M g r) : mP M 601 g 0 = some (g + 13) := Z.2.2.1
theorem RG.p2 {own : Nat → Nat} {M : Mm} {g r : Nat} (Z : RG own M g r) : mP M 602 g 0 = some (g + 14) := Z.2.2.2.1
theorem RG.p3 {own : Nat → Nat} {M : Mm} {g r : Nat} (Z : RG own M g r) : mP M 603 g 0 = some (g + 15) := Z.2.2.2.2.1
theorem RG.o {own : Nat → Nat} {M : Mm} {g r : Nat} (Z : RG own M g r) : own g = 1 := Z.2.2.2.2.2.1
theorem RG.ks {own : Nat → Nat} {M : Mm} {g r : Nat} (Z : RG own M g r) : mK M (g + 1) = 8 := Z.2.2.2.2.2.2.1
theorem RG.s0 {own : Nat → Nat} {M : Mm} {g r : Nat} (Z : RG own M g r) : mP M 800 (g + 1) 0 = some (g + 2) := Z.2.2.2.2.2.2.2.1
theorem RG.s1 {own : Nat → Nat} {M : Mm} {g r : Nat} (Z : RG own M g r) : mP M 801 (g + 1) 0 = some (g + 3) := Z.2.2.2.2.2.2.2.2.1
theorem RG.s2 {own : Nat → Nat} {M : Mm} {g r : Nat} (Z : RG own M g r) : mP M 802 (g + 1) 0 = some (g + 4) := Z.2.2.2.2.2.2.2.2.2.1
theorem RG.s3 {own : Nat → Nat} {M : Mm} {g r : Nat} (Z : RG own M g r) : mP M 803 (g + 1) 0 = some (g + 7) := Z.2.2.2.2.2.2.2.2.2.2.1
theorem RG.s4 {own : Nat → Nat} {M : Mm} {g r : Nat} (Z : RG own M g r) : mP M 804 (g + 1) 0 = some (g + 12) := Z.2.2.2.2.2.2.2.2.2.2.2.1
theorem RG.os {own : Nat → Nat} {M : Mm} {g r : Nat} (Z : RG own M g r) : own (g + 1) = 1 := Z.2.2.2.2.2.2.2.2.2.2.2.2.1
theorem RG.k2 {own : Nat → Nat} {M : Mm} {g r : Nat} (Z : RG own M g r) : mK M (g + 2) = 22 := Z.2.2.2.2.2.2.2.2.2.2.2.2.2.1
theorem RG.l2 {own : Nat → Nat} {M : Mm} {g r : Nat} (Z : RG own M g r) : mL M (g + 2) = 6 := Z.2.2.2.2.2.2.2.2.2.2.2.2.2.2.1
theorem RG.o2 {own : Nat → Nat} {M : Mm} {g r : Nat} (Z : RG own M g r) : own (g + 2) = (6 + r) := Z.2.2.2.2.2.2.2.2.2.2.2.2.2.2.2.1
theorem RG.k4 {own : Nat → Nat} {M : Mm} {g r : Nat} (Z : RG own M g r) : mK M (g + 4) = 3 := Z.2.2.2.2.2.2.2.2.2.2.2.2.2.2.2.2.1
theorem RG.c0 {own : Nat → Nat} {M : Mm} {g r : Nat} (Z : RG own M g r) : mP M 300 (g + 4) 0 = some (g + 5) := Z.2.2.2.2.2.2.2.2.2.2.2.2.2.2.2.2.2.1
theorem RG.c1 {own : Nat → Nat} {M : Mm} {g r : Nat} (Z : RG own M g r) : mP M 301 (g + 4) 0 = some (g + 6) := Z.2.2.2.2.2.2.2.2.2.2.2.2.2.2.2.2.2.2.1
theorem RG.o4 {own : Nat → Nat} {M : Mm} {g r : Nat} (Z : RG own M g r) : own (g + 4) = (10 + r) := Z.2.2.2.2.2.2.2.2.2.2.2.2.2.2.2.2.2.2.2.1
theorem RG.k5 {own : Nat → Nat} {M : Mm} {g r : Nat} (Z : RG own M g r) : mK M (g + 5) = 21 := Z.2.2.2.2.2.2.2.2.2.2.2.2.2.2.2.2.2.2.2.2.1
theorem RG.l5 {own : Nat → Nat} {M : Mm} {g r : Nat} (Z : RG own M g r) : mL M (g + 5) = 40 := Z.2.2.2.2.2.2.2.2.2.2.2.2.2.2.2.2.2.2.2.2.2.1
theorem RG.o5 {own : Nat → Nat} {M : Mm} {g r : Nat} (Z : RG own M g r) : own (g + 5) = (10 + r) := Z.2.2.2.2.2.2.2.2.2.2.2.2.2.2.2.2.2.2.2.2.2.2.1
theorem RG.k6 {own : Nat → Nat} {M : Mm} {g r : Nat} (Z : RG own M g r) : mK M (g + 6) = 21 := Z.2.2.2.2.2.2.2.2.2.2.2.2.2.2.2.2.2.2.2.2.2.2.2.1
theorem RG.l6 {own : Nat → Nat} {M : Mm} {g r : Nat} (Z : RG own M g r) : mL M (g + 6) = 40 := Z.2.2.2.2.2.2.2.2.2.2.2.2.2.2.2.2.2.2.2.2.2.2.2.2.1
theorem RG.o6 {own : Nat → Nat} {M : Mm} {g r : Nat} (Z : RG own M g r) : own (g + 6) = (10 + r) := Z.2.2.2.2.2.2.2.2.2.2.2.2.2.2.2.2.2.2.2.2.2.2.2.2.2.1
theorem RG.k7 {own : Nat → Nat} {M : Mm} {g r : Nat} (Z : RG own M g r) : mK M (g + 7) = 2 := Z.2.2.2.2.2.2.2.2.2.2.2.2.2.2.2.2.2.2.2.2.2.2.2.2.2.2.1
theorem RG.d0 {own : Nat → Nat} {M : Mm} {g r : Nat} (Z : RG own M g r) : mP M 200 (g + 7) 0 = some (g + 8) := Z.2.2.2.2.2.2.2.2.2.2.2.2.2.2.2.2.2.2.2.2.2.2.2.2.2.2.2.1
theorem RG.d1 {own : Nat → Nat} {M : Mm} {g r : Nat} (Z : RG own M g r) : mP M 201 (g + 7) 0 = some (g + 9) := Z.2.2.2.2.2.2.2.2.2.2.2.2.2.2.2.2.2.2.2.2.2.2.2.2.2.2.2.2.1
theorem RG.d2 {own : Nat → Nat} {M : Mm} {g r : Nat} (Z : RG own M g r) : mP M 202 (g + 7) 0 = some (g + 10) := Z.2.2.2.2.2.2.2.2.2.2.2.2.2.2.2.2.2.2.2.2.2.2.2.2.2.2.2.2.2.1
theorem RG.d3 {own : Nat → Nat} {M : Mm} {g r : Nat} (Z : RG own M g r) : mP M 203 (g + 7) 0 = some (g + 11) := Z.2.2.2.2.2.2.2.2.2.2.2.2.2.2.2.2.2.2.2.2.2.2.2.2.2.2.2.2.2.2.1
theorem RG.o7 {own : Nat → Nat} {M : Mm} {g r : Nat} (Z : RG own M g r) : own (g + 7) = (10 + r) := Z.2.2.2.2.2.2.2.2.2.2.2.2.2.2.2.2.2.2.2.2.2.2.2.2.2.2.2.2.2.2.2.1
theorem RG.k8 {own : Nat → Nat} {M : Mm} {g r : Nat} (Z : RG own M g r) : mK M (g + 8) = 20 := Z.2.2.2.2.2.2.2.2.2.2.2.2.2.2.2.2.2.2.2.2.2.2.2.2.2.2.2.2.2.2.2.2.1
theorem RG.l8 {own : Nat → Nat} {M : Mm} {g r : Nat} (Z : RG own M g r) : mL M (g + 8) = 6 := Z.2.2.2.2.2.2.2.2.2.2.2.2.2.2.2.2.2.2.2.2.2.2.2.2.2.2.2.2.2.2.2.2.2.1
theorem RG.o8 {own : Nat → Nat} {M : Mm} {g r : Nat} (Z : RG own M g r) : own (g + 8) = (10 + r) := Z.2.2.2.2.2.2.2.2.2.2.2.2.2.2.2.2.2.2.2.2.2.2.2.2.2.2.2.2.2.2.2.2.2.2.1
theorem RG.k9 {own : Nat → Nat} {M : Mm} {g r : Nat} (Z : RG own M g r) : mK M (g + 9) = 20 := Z.2.2.2.2.2.2.2.2.2.2.2.2.2.2.2.2.2.2.2.2.2.2.2.2.2.2.2.2.2.2.2.2.2.2.2.1
theorem RG.l9 {own : Nat → Nat} {M : Mm} {g r : Nat} (Z : RG own M g r) : mL M (g + 9) = 10 := Z.2.2.2.2.2.2.2.2.2.2.2.2.2.2.2.2.2.2.2.2.2.2.2.2.2.2.2.2.2.2.2.2.2.2.2.2.1
theorem RG.o9 {own : Nat → Nat} {M : Mm} {g r : Nat} (Z : RG own M g r) : own (g + 9) = (10 + r) := Z.2.2.2.2.2.2.2.2.2.2.2.2.2.2.2.2.2.2.2.2.2.2.2.2.2.2.2.2.2.2.2.2.2.2.2.2.2.1
theorem RG.k10 {own : Nat → Nat} {M : Mm} {g r : Nat} (Z : RG own M g r) : mK M (g + 10) = 21 := Z.2.2.2.2.2.2.2.2.2.2.2.2.2.2.2.2.2.2.2.2.2.2.2.2.2.2.2.2.2.2.2.2.2.2.2.2.2.2.1
theorem RG.l10 {own : Nat → Nat} {M : Mm} {g r : Nat} (Z : RG own M g r) : mL M (g + 10) = 3 := Z.2.2.2.2.2.2.2.2.2.2.2.2.2.2.2.2.2.2.2.2.2.2.2.2.2.2.2.2.2.2.2.2.2.2.2.2.2.2.2.1
theorem RG.o10 {own : Nat → Nat} {M : Mm} {g r : Nat} (Z : RG own M g r) : own (g + 10) = (10 + r) := Z.2.2.2.2.2.2.2.2.2.2.2.2.2.2.2.2.2.2.2.2.2.2.2.2.2.2.2.2.2.2.2.2.2.2.2.2.2.2.2.2.1
theorem RG.k11 {own : Nat → Nat} {M : Mm} {g r : Nat} (Z : RG own M g r) : mK M (g + 11) = 21 := Z.2.2.2.2.2.2.2.2.2.2.2.2.2.2.2.2.2.2.2.2.2.2.2.2.2.2.2.2.2.2.2.2.2.2.2.2.2.2.2.2.2.1
theorem RG.l11 {own : Nat → Nat} {M : Mm} {g r : Nat} (Z : RG own M g r) : mL M (g + 11) = 3 := Z.2.2.2.2.2.2.2.2.2.2.2.2.2.2.2.2.2.2.2.2.2.2.2.2.2.2.2.2.2.2.2.2.2.2.2.2.2.2.2.2.2.2.1
theorem RG.o11 {own : Nat → Nat} {M : Mm} {g r : Nat} (Z : RG own M g r) : own (g + 11) = (10 + r) := Z.2.2.2.2.2.2.2.2.2.2.2.2.2.2.2.2.2.2.2.2.2.2.2.2.2.2.2.2.2.2.2.2.2.2.2.2.2.2.2.2.2.2.2.1
theorem RG.k12 {own : Nat → Nat} {M : Mm} {g r : Nat} (Z : RG own M g r) : mK M (g + 12) = 21 := Z.2.2.2.2.2.2.2.2.2.2.2.2.2.2.2.2.2.2.2.2.2.2.2.2.2.2.2.2.2.2.2.2.2.2.2.2.2.2.2.2.2.2.2.2.1
theorem RG.l12 {own : Nat → Nat} {M : Mm} {g r : Nat} (Z : RG own M g r) : mL M (g + 12) = 90 := Z.2.2.2.2.2.2.2.2.2.2.2.2.2.2.2.2.2.2.2.2.2.2.2.2.2.2.2.2.2.2.2.2.2.2.2.2.2.2.2.2.2.2.2.2.2.1
theorem RG.o12 {own : Nat → Nat} {M : Mm} {g r : Nat} (Z : RG own M g r) : own (g + 12) = (10 + r) := Z.2.2.2.2.2.2.2.2.2.2.2.2.2.2.2.2.2.2.2.2.2.2.2.2.2.2.2.2.2.2.2.2.2.2.2.2.2.2.2.2.2.2.2.2.2.2.1
theorem RG.k15 {own : Nat → Nat} {M : Mm} {g r : Nat} (Z : RG own M g r) : mK M (g + 15) = 22 := Z.2.2.2.2.2.2.2.2.2.2.2.2.2.2.2.2.2.2.2.2.2.2.2.2.2.2.2.2.2.2.2.2.2.2.2.2.2.2.2.2.2.2.2.2.2.2.2.1
theorem RG.l15 {own : Nat → Nat} {M : Mm} {g r : Nat} (Z : RG own M g r) : mL M (g + 15) = 201 := Z.2.2.2.2.2.2.2.2.2.2.2.2.2.2.2.2.2.2.2.2.2.2.2.2.2.2.2.2.2.2.2.2.2.2.2.2.2.2.2.2.2.2.2.2.2.2.2.2.1
theorem RG.o15 {own : Nat → Nat} {M : Mm} {g r : Nat} (Z : RG own M g r) : own (g + 15) = (8 + r) := Z.2.2.2.2.2.2.2.2.2.2.2.2.2.2.2.2.2.2.2.2.2.2.2.2.2.2.2.2.2.2.2.2.2.2.2.2.2.2.2.2.2.2.2.2.2.2.2.2.2
theorem RG.keep {own' : Nat → Nat} {M' : Mm} {own : Nat → Nat} {M : Mm} {g r : Nat} (Z : RG own M g r) (q0 : KPT own M own' M' 1) (q1 : KPT own M own' M' (6 + r)) (q2 : KPT own M own' M' (10 + r)) (q3 : KPT own M own' M' (8 + r)) : RG own' M' g r := ⟨(q0 _ Z.o).2.1.trans Z.k, ((q0 _ Z.o).2.2.2 600 0).trans Z.p0, ((q0 _ Z.o).2.2.2 601 0).trans Z.p1, ((q0 _ Z.o).2.2.2 602 0).trans Z.p2, ((q0 _ Z.o).2.2.2 603 0).trans Z.p3, (q0 _ Z.o).1.trans Z.o, (q0 _ Z.os).2.1.trans Z.ks, ((q0 _ Z.os).2.2.2 800 0).trans Z.s0, ((q0 _ Z.os).2.2.2 801 0).trans Z.s1, ((q0 _ Z.os).2.2.2 802 0).trans Z.s2, ((q0 _ Z.os).2.2.2 803 0).trans Z.s3, ((q0 _ Z.os).2.2.2 804 0).trans Z.s4, (q0 _ Z.os).1.trans Z.os, (q1 _ Z.o2).2.1.trans Z.k2, (q1 _ Z.o2).2.2.1.trans Z.l2, (q1 _ Z.o2).1.trans Z.o2, (q2 _ Z.o4).2.1.trans Z.k4, ((q2 _ Z.o4).2.2.2 300 0).trans Z.c0, ((q2 _ Z.o4).2.2.2 301 0).trans Z.c1, (q2 _ Z.o4).1.trans Z.o4, (q2 _ Z.o5).2.1.trans Z.k5, (q2 _ Z.o5).2.2.1.trans Z.l5, (q2 _ Z.o5).1.trans Z.o5, (q2 _ Z.o6).2.1.trans Z.k6, (q2 _ Z.o6).2.2.1.trans Z.l6, (q2 _ Z.o6).1.trans Z.o6, (q2 _ Z.o7).2.1.trans Z.k7, ((q2 _ Z.o7).2.2.2 200 0).trans Z.d0, ((q2 _ Z.o7).2.2.2 201 0).trans Z.d1, ((q2 _ Z.o7).2.2.2 202 0).trans Z.d2, ((q2 _ Z.o7).2.2.2 203 0).trans Z.d3, (q2 _ Z.o7).1.trans Z.o7, (q2 _ Z.o8).2.1.trans Z.k8, (q2 _ Z.o8).2.2.1.trans Z.l8, (q2 _ Z.o8).1.trans Z.o8, (q2 _ Z.o9).2.1.trans Z.k9, (q2 _ Z.o9).2.2.1.trans Z.l9, (q2 _ Z.o9).1.trans Z.o9, (q2 _ Z.o10).2.1.trans Z.k10, (q2 _ Z.o10).2.2.1.trans Z.l10, (q2 _ Z.o10).1.trans Z.o10, (q2 _ Z.o11).2.1.trans Z.k11, (q2 _ Z.o11).2.2.1.trans Z.l11, (q2 _ Z.o11).1.trans Z.o11, (q2 _ Z.o12).2.1.trans Z.k12, (q2 _ Z.o12).2.2.1.trans Z.l12, (q2 _ Z.o12).1.trans Z.o12, (q3 _ Z.o15).2.1.trans Z.k15, (q3 _ Z.o15).2.2.1.trans Z.l15, (q3 _ Z.o15).1.trans Z.o15⟩
def HB (own : Nat → Nat) (M : Mm) (h : Nat) : Prop := (mK M h = 11) ∧ (mP M 1100 h 0 = some (h + 1)) ∧ (mP M 1101 h 0 = some (h + 17)) ∧ (mP M 1102 h 0 = some (h + 33)) ∧ (mP M 1103 h 0 = some (h + 35)) ∧ (mP M 1104 h 0 = some (h + 37)) ∧ (mP M 1105 h 0 = some (h + 39)) ∧ (mP M 1106 h 0 = some (h + 40)) ∧ (mP M 1107 h 0 = some (h + 41)) ∧ (own h = 1) ∧ (mK M (h + 41) = 21) ∧ (mL M (h + 41) = 3) ∧ (own (h + 41) = 5) ∧ (mK M (h + 82) = 25) ∧ (mL M (h + 82) = 1) ∧ (own (h + 82) = 1) ∧ (BYT own M (h + 33) 2) ∧ (BYT own M (h + 35) 3) ∧ (BYT own M (h + 37) 4)
theorem HB.k {own : Nat → Nat} {M : Mm} {h : Nat} (Z : HB own M h) : mK M h = 11 := Z.1
theorem HB.p0 {own : Nat → Nat} {M : Mm} {h : Nat} (Z : HB own M h) : mP M 1100 h 0 = some (h + 1) := Z.2.1
theorem HB.p1 {own : Nat → Nat} {M : Mm} {h : Nat} (Z : HB own M h) : mP M 1101 h 0 = some (h + 17) := Z.2.2.1
theorem HB.p2 {own : Nat → Nat} {M : Mm} {h : Nat} (Z : HB own M h) : mP M 1102 h 0 = some (h + 33) := Z.2.2.2.1
theorem HB.p3 {own : Nat → Nat} {M : Mm} {h : Nat} (Z : HB own M h) : mP M 1103 h 0 = some (h + 35) := Z.2.2.2.2.1
theorem HB.p4 {own : Nat → Nat} {M : Mm} {h : Nat} (Z : HB own M h) : mP M 1104 h 0 = some (h + 37) := Z.2.2.2.2.2.1
theorem HB.p5 {own : Nat → Nat} {M : Mm} {h : Nat} (Z : HB own M h) : mP M 1105 h 0 = some (h + 39) := Z.2.2.2.2.2.2.1
theorem HB.p6 {own : Nat → Nat} {M : Mm} {h : Nat} (Z : HB own M h) : mP M 1106 h 0 = some (h + 40) := Z.2.2.2.2.2.2.2.1
theorem HB.p7 {own : Nat → Nat} {M : Mm} {h : Nat} (Z : HB own M h) : mP M 1107 h 0 = some (h + 41) := Z.2.2.2.2.2.2.2.2.1
theorem HB.o {own : Nat → Nat} {M : Mm} {h : Nat} (Z : HB own M h) : own h = 1 := Z.2.2.2.2.2.2.2.2.2.1
theorem HB.kc {own : Nat → Nat} {M : Mm} {h : Nat} (Z : HB own M h) : mK M (h + 41) = 21 := Z.2.2.2.2.2.2.2.2.2.2.1
theorem HB.lc {own : Nat → Nat} {M : Mm} {h : Nat} (Z : HB own M h) : mL M (h + 41) = 3 := Z.2.2.2.2.2.2.2.2.2.2.2.1
theorem HB.oc {own : Nat → Nat} {M : Mm} {h : Nat} (Z : HB own M h) : own (h + 41) = 5 := Z.2.2.2.2.2.2.2.2.2.2.2.2.1
theorem HB.jk {own : Nat → Nat} {M : Mm} {h : Nat} (Z : HB own M h) : mK M (h + 82) = 25 := Z.2.2.2.2.2.2.2.2.2.2.2.2.2.1
theorem HB.jl {own : Nat → Nat} {M : Mm} {h : Nat} (Z : HB own M h) : mL M (h + 82) = 1 := Z.2.2.2.2.2.2.2.2.2.2.2.2.2.2.1
theorem HB.jo1 {own : Nat → Nat} {M : Mm} {h : Nat} (Z : HB own M h) : own (h + 82) = 1 := Z.2.2.2.2.2.2.2.2.2.2.2.2.2.2.2.1
theorem HB.dr {own : Nat → Nat} {M : Mm} {h : Nat} (Z : HB own M h) : BYT own M (h + 33) 2 := Z.2.2.2.2.2.2.2.2.2.2.2.2.2.2.2.2.1
theorem HB.jo {own : Nat → Nat} {M : Mm} {h : Nat} (Z : HB own M h) : BYT own M (h + 35) 3 := Z.2.2.2.2.2.2.2.2.2.2.2.2.2.2.2.2.2.1
theorem HB.nb {own : Nat → Nat} {M : Mm} {h : Nat} (Z : HB own M h) : BYT own M (h + 37) 4 := Z.2.2.2.2.2.2.2.2.2.2.2.2.2.2.2.2.2.2
theorem HB.keep {own' : Nat → Nat} {M' : Mm} {own : Nat → Nat} {M : Mm} {h : Nat} (Z : HB own M h) (q0 : KPT own M own' M' 1) (q1 : KPT own M own' M' 5) (q2 : KPT own M own' M' 2) (q3 : KPT own M own' M' 3) (q4 : KPT own M own' M' 4) : HB own' M' h := ⟨(q0 _ Z.o).2.1.trans Z.k, ((q0 _ Z.o).2.2.2 1100 0).trans Z.p0, ((q0 _ Z.o).2.2.2 1101 0).trans Z.p1, ((q0 _ Z.o).2.2.2 1102 0).trans Z.p2, ((q0 _ Z.o).2.2.2 1103 0).trans Z.p3, ((q0 _ Z.o).2.2.2 1104 0).trans Z.p4, ((q0 _ Z.o).2.2.2 1105 0).trans Z.p5, ((q0 _ Z.o).2.2.2 1106 0).trans Z.p6, ((q0 _ Z.o).2.2.2 1107 0).trans Z.p7, (q0 _ Z.o).1.trans Z.o, (q1 _ Z.oc).2.1.trans Z.kc, (q1 _ Z.oc).2.2.1.trans Z.lc, (q1 _ Z.oc).1.trans Z.oc, (q0 _ Z.jo1).2.1.trans Z.jk, (q0 _ Z.jo1).2.2.1.trans Z.jl, (q0 _ Z.jo1).1.trans Z.jo1, Z.dr.keep q2, Z.jo.keep q3, Z.nb.keep q4⟩
def RUL (own : Nat → Nat) (M : Mm) (x : Nat) : Prop := (mK M x = 7) ∧ (own x = 29)
theorem RUL.k {own : Nat → Nat} {M : Mm} {x : Nat} (Z : RUL own M x) : mK M x = 7 := Z.1
theorem RUL.o {own : Nat → Nat} {M : Mm} {x : Nat} (Z : RUL own M x) : own x = 29 := Z.2
theorem RUL.keep {own' : Nat → Nat} {M' : Mm} {own : Nat → Nat} {M : Mm} {x : Nat} (Z : RUL own M x) (q0 : KPT own M own' M' 29) : RUL own' M' x := ⟨(q0 _ Z.o).2.1.trans Z.k, (q0 _ Z.o).1.trans Z.o⟩
/-- the empty row of all lists -/
def EMP (own : Nat → Nat) (M : Mm) : Prop := own 0 = 1 ∧ own (mL M 0) = 1 ∧ mK M (mL M 0) = 26
theorem EMP.keep {own own' : Nat → Nat} {M M' : Mm} (h : EMP own M) (q : KPT own M own' M' 1) : EMP own' M' := by
  obtain ⟨h1, h2, h3⟩ := h
  have e : mL M' 0 = mL M 0 := (q _ h1).2.2.1
  unfold EMP
  rw [e]
  exact ⟨(q _ h1).1.trans h1, (q _ h2).1.trans h2, (q _ h2).2.1.trans h3⟩
/-- a list: len elements, the ith at the place f i -/
def LST (own : Nat → Nat) (M : Mm) (l t len : Nat) (f : Nat → Nat) : Prop := mK M l = 12 ∧ own l = t ∧ mI M 1202 l 0 = i3 len ∧ ∃ rw, mP M 1201 l 0 = some rw ∧ ((rw = mL M 0 ∧ len = 0) ∨ (mK M rw = 23 ∧ own rw = t ∧ 0 < mL M rw ∧ len ≤ mL M rw ∧ mL M rw ≤ 300)) ∧ ∀ i, i < len → mP M 0 rw i = some (f i)
theorem LST.keep {own own' : Nat → Nat} {M M' : Mm} {l t len : Nat} {f : Nat → Nat} (h : LST own M l t len f) (q : KPT own M own' M' t) (q2 : KPI own M M' t) (q1 : mL M' 0 = mL M 0) : LST own' M' l t len f := by
  obtain ⟨h1, h2, h3, rw0, h4, h5, h6⟩ := h
  refine ⟨(q _ h2).2.1.trans h1, (q _ h2).1.trans h2, (q2 _ h2 _ _).trans h3, rw0, ((q _ h2).2.2.2 _ _).trans h4, ?_, fun i hi => ?_⟩
  · rcases h5 with h5 | ⟨k1, k2, k3, k4, k5⟩
    · left; rw [q1]; exact h5
    · right; rw [(q _ k2).2.1, (q _ k2).2.2.1, (q _ k2).1]; exact ⟨k1, k2, k3, k4, k5⟩
  · rcases h5 with h5 | ⟨k1, k2, k3, k4, k5⟩
    · omega
    · rw [(q _ k2).2.2.2]; exact h6 i hi
theorem LST.congr {own : Nat → Nat} {M : Mm} {l t len : Nat} {f g : Nat → Nat} (h : LST own M l t len f) (e : ∀ i, i < len → f i = g i) : LST own M l t len g := by
  obtain ⟨h1, h2, h3, rw0, h4, h5, h6⟩ := h
  exact ⟨h1, h2, h3, rw0, h4, h5, fun i hi => by rw [h6 i hi, e i hi]⟩

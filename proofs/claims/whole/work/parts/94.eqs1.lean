set_option maxRecDepth 100000
/-! numbers in a word that stays, and an equation for every pure function -/
def i3 (k : Nat) : Int32 := Int32.ofNat k
def m1 : Int32 := -1
def m2 : Int32 := -2
def m3 : Int32 := -3
def m4 : Int32 := -4
theorem fAbc_init_E {a0 : Nat} : fAbc_init a0 = (
  some ()) := rfl
theorem fAbl_init_E {a0 : Nat} {M : Mm} : fAbl_init a0 M = (
  bdR (fAbc_init a0) fun v1 =>
  fpI 12 1200 (some a0) (i3 0) M fun M2 =>
  some ((), M2)) := rfl
theorem fAl_init_E {a0 : Nat} {M : Mm} : fAl_init a0 M = (
  bdW (fAbl_init a0 M) fun v1 M2 =>
  fpR 12 1201 (some a0) (some (mL M2 0)) M2 fun M3 =>
  some ((), M3)) := rfl
theorem fCut_init_E {a0 : Nat} {M : Mm} {n : Nat} : fCut_init a0 M n = (
  nwA 21 300 (i3 40) M n fun y1 M2 n3 =>
  fpR 3 300 (some a0) y1 M2 fun M4 =>
  nwA 21 300 (i3 40) M4 n3 fun y5 M6 n7 =>
  fpR 3 301 (some a0) y5 M6 fun M8 =>
  some (.inl (), M8, n7)) := rfl
theorem fCode_init_E {a0 : Nat} {M : Mm} {n : Nat} : fCode_init a0 M n = (
  nwA 20 300 (i3 6) M n fun y1 M2 n3 =>
  fpR 2 200 (some a0) y1 M2 fun M4 =>
  nwA 20 300 (i3 10) M4 n3 fun y5 M6 n7 =>
  fpR 2 201 (some a0) y5 M6 fun M8 =>
  nwA 21 300 (i3 3) M8 n7 fun y9 M10 n11 =>
  fpR 2 202 (some a0) y9 M10 fun M12 =>
  nwA 21 300 (i3 3) M12 n11 fun y13 M14 n15 =>
  fpR 2 203 (some a0) y13 M14 fun M16 =>
  some (.inl (), M16, n15)) := rfl
theorem fStore_init_b55_E {a0 : Nat} {k55 : Int32 → Mm → Nat → Option ((Unit ⊕ Nat) × Mm × Nat)} {x1 : Int32} {M : Mm} {n : Nat} : fStore_init_b55 a0 k55 x1 M n = (
  fgR 8 800 (some a0) M fun v1 =>
  aln v1 M fun v2 =>
  if v2 ≤ x1 then
    some (.inl (), M, n)
  else
    fgR 8 800 (some a0) M fun v3 =>
    asZ v3 x1 (i3 1) M fun M4 =>
    k55 (x1 + (i3 1)) M4 n) := rfl
theorem fStore_init_l55_S {a0 : Nat} {fu : Nat} {x1 : Int32} {M : Mm} {n : Nat} : fStore_init_l55 a0 (fu + 1) x1 M n = fStore_init_b55 a0 (fStore_init_l55 a0 fu) x1 M n := rfl
theorem fStore_init_E {a0 : Nat} {M : Mm} {n : Nat} : fStore_init a0 M n = (
  nwA 22 300 (i3 6) M n fun y1 M2 n3 =>
  fpR 8 800 (some a0) y1 M2 fun M4 =>
  nwO 12 M4 n3 fun y5 M6 n7 =>
  rk 12 y5 M6 fun a8 =>
  bdW (fAl_init a8 M6) fun v11 M12 =>
  fpR 8 801 (some a0) y5 M12 fun M13 =>
  nwO 3 M13 n7 fun y14 M15 n16 =>
  rk 3 y14 M15 fun a17 =>
  bdN (fCut_init a17 M15 n16) n16 fun v20 M21 n22 =>
  fpR 8 802 (some a0) y14 M21 fun M23 =>
  nwO 2 M23 n22 fun y24 M25 n26 =>
  rk 2 y24 M25 fun a27 =>
  bdN (fCode_init a27 M25 n26) n26 fun v30 M31 n32 =>
  fpR 8 803 (some a0) y24 M31 fun M33 =>
  nwA 21 300 (i3 90) M33 n32 fun y34 M35 n36 =>
  fpR 8 804 (some a0) y34 M35 fun M37 =>
  fStore_init_l55 a0 FU (i3 0) M37 n36) := rfl
theorem fRegion_init_E {a0 : Nat} {M : Mm} {n : Nat} : fRegion_init a0 M n = (
  nwO 8 M n fun y1 M2 n3 =>
  rk 8 y1 M2 fun a4 =>
  bdN (fStore_init a4 M2 n3) n3 fun v7 M8 n9 =>
  fpR 6 600 (some a0) y1 M8 fun M10 =>
  nwO 12 M10 n9 fun y11 M12 n13 =>
  rk 12 y11 M12 fun a14 =>
  bdW (fAl_init a14 M12) fun v17 M18 =>
  fpR 6 601 (some a0) y11 M18 fun M19 =>
  nwO 12 M19 n13 fun y20 M21 n22 =>
  rk 12 y20 M21 fun a23 =>
  bdW (fAl_init a23 M21) fun v26 M27 =>
  fpR 6 602 (some a0) y20 M27 fun M28 =>
  nwA 22 300 (i3 201) M28 n22 fun y29 M30 n31 =>
  fpR 6 603 (some a0) y29 M30 fun M32 =>
  some (.inl (), M32, n31)) := rfl
theorem fBytes_init_E {a0 : Nat} {M : Mm} {n : Nat} : fBytes_init a0 M n = (
  nwA 20 300 (i3 40) M n fun y1 M2 n3 =>
  fpR 1 100 (some a0) y1 M2 fun M4 =>
  some (.inl (), M4, n3)) := rfl
theorem fHb_init_E {a0 : Nat} {M : Mm} {n : Nat} : fHb_init a0 M n = (
  nwO 6 M n fun y1 M2 n3 =>
  rk 6 y1 M2 fun a4 =>
  bdN (fRegion_init a4 M2 n3) n3 fun v7 M8 n9 =>
  fpR 11 1100 (some a0) y1 M8 fun M10 =>
  nwO 6 M10 n9 fun y11 M12 n13 =>
  rk 6 y11 M12 fun a14 =>
  bdN (fRegion_init a14 M12 n13) n13 fun v17 M18 n19 =>
  fpR 11 1101 (some a0) y11 M18 fun M20 =>
  nwO 1 M20 n19 fun y21 M22 n23 =>
  rk 1 y21 M22 fun a24 =>
  bdN (fBytes_init a24 M22 n23) n23 fun v27 M28 n29 =>
  fpR 11 1102 (some a0) y21 M28 fun M30 =>
  nwO 1 M30 n29 fun y31 M32 n33 =>
  rk 1 y31 M32 fun a34 =>
  bdN (fBytes_init a34 M32 n33) n33 fun v37 M38 n39 =>
  fpR 11 1103 (some a0) y31 M38 fun M40 =>
  nwO 1 M40 n39 fun y41 M42 n43 =>
  rk 1 y41 M42 fun a44 =>
  bdN (fBytes_init a44 M42 n43) n43 fun v47 M48 n49 =>
  fpR 11 1104 (some a0) y41 M48 fun M50 =>
  nwO 12 M50 n49 fun y51 M52 n53 =>
  rk 12 y51 M52 fun a54 =>
  bdW (fAl_init a54 M52) fun v57 M58 =>
  fpR 11 1105 (some a0) y51 M58 fun M59 =>
  nwO 12 M59 n53 fun y60 M61 n62 =>
  rk 12 y60 M61 fun a63 =>
  bdW (fAl_init a63 M61) fun v66 M67 =>
  fpR 11 1106 (some a0) y60 M67 fun M68 =>
  nwA 21 300 (i3 3) M68 n62 fun y69 M70 n71 =>
  fpR 11 1107 (some a0) y69 M70 fun M72 =>
  some (.inl (), M72, n71)) := rfl
theorem fHb_checkIndex_E {x0 : Int32} {M : Mm} {n : Nat} : fHb_checkIndex x0 M n = (
  if x0 = (i3 0) then
    some (.inr 0, M, n + 1)
  else
    some (.inl (), M, n)) := rfl
theorem fHb_regionOf_j14_E {a0 : Nat} {x1 : Int32} {s0 : Int32} {M : Mm} {n : Nat} : fHb_regionOf_j14 a0 x1 s0 M n = (
  bdC (fHb_checkIndex s0 M n) n fun v1 M2 n3 =>
  if x1 = (i3 0) then
    fgR 11 1100 (some a0) M2 fun v4 =>
    some (.inl v4, M2, n3)
  else
    fgR 11 1101 (some a0) M2 fun v5 =>
    some (.inl v5, M2, n3)) := rfl
theorem fHb_regionOf_j9_E {a0 : Nat} {x1 : Int32} {M : Mm} {n : Nat} : fHb_regionOf_j9 a0 x1 M n = (
  fHb_regionOf_j14 a0 x1 (i3 1) M n) := rfl
theorem fHb_regionOf_E {a0 : Nat} {x1 : Int32} {M : Mm} {n : Nat} : fHb_regionOf a0 x1 M n = (
  if x1 = (i3 0) then
    fHb_regionOf_j9 a0 x1 M n
  else
    if x1 = (i3 1) then
      fHb_regionOf_j9 a0 x1 M n
    else
      fHb_regionOf_j14 a0 x1 (i3 0) M n) := rfl
theorem fAl_size_E {a0 : Nat} {M : Mm} : fAl_size a0 M = (
  fgI 12 1202 (some a0) M fun v1 =>
  some v1) := rfl
theorem fPc_checkIndex_j9_E {x0 : Int32} {x1 : Int32} {r2 : Option Nat} : fPc_checkIndex_j9 x0 x1 r2 = (
  none) := rfl
theorem fPc_checkIndex_E {x0 : Int32} {x1 : Int32} {r2 : Option Nat} : fPc_checkIndex x0 x1 r2 = (
  if x0 < (i3 0) then
    fPc_checkIndex_j9 x0 x1 r2
  else
    if x0 < x1 then
      some x0
    else
      fPc_checkIndex_j9 x0 x1 r2) := rfl
theorem fOb_checkIndex_E {x0 : Int32} {x1 : Int32} : fOb_checkIndex x0 x1 = (
  bdR (fPc_checkIndex x0 x1 none) fun v1 =>
  some v1) := rfl
theorem fAl_elementData_E {a0 : Nat} {x1 : Int32} {M : Mm} : fAl_elementData a0 x1 M = (
  fgR 12 1201 (some a0) M fun v1 =>
  alP 23 v1 x1 M fun v2 =>
  some v2) := rfl
theorem fAl_get_E {a0 : Nat} {x1 : Int32} {M : Mm} : fAl_get a0 x1 M = (
  fgI 12 1202 (some a0) M fun v1 =>
  bdR (fOb_checkIndex x1 v1) fun v2 =>
  rk 12 (some a0) M fun _ =>
  bdR (fAl_elementData a0 x1 M) fun v4 =>
  some v4) := rfl
theorem fRegion_find_j59_E {a0 : Nat} {k2 : Int32 → Int32 → Int32 → Mm → Option (Option Nat)} {x1 : Int32} {x2 : Int32} {x3 : Int32} {M : Mm} : fRegion_find_j59 a0 k2 x1 x2 x3 M = (
  k2 x1 x2 (x3 + (i3 1)) M) := rfl
theorem fRegion_find_b2_E {a0 : Nat} {k2 : Int32 → Int32 → Int32 → Mm → Option (Option Nat)} {x1 : Int32} {x2 : Int32} {x3 : Int32} {M : Mm} : fRegion_find_b2 a0 k2 x1 x2 x3 M = (
  fgR 6 601 (some a0) M fun v1 =>
  rk 12 v1 M fun a2 =>
  bdR (fAl_size a2 M) fun v5 =>
  if v5 ≤ x3 then
    some none
  else
    fgR 6 601 (some a0) M fun v6 =>
    rk 12 v6 M fun a7 =>
    bdR (fAl_get a7 x3 M) fun v10 =>
    fca 10 v10 M fun v11 =>
    fgR 10 1000 v11 M fun v12 =>
    fgI 4 400 v12 M fun v13 =>
    if v13 = x1 then
      fgI 4 401 v12 M fun v14 =>
      if v14 = x2 then
        fgR 6 601 (some a0) M fun v15 =>
        rk 12 v15 M fun a16 =>
        bdR (fAl_get a16 x3 M) fun v19 =>
        fca 10 v19 M fun v20 =>
        some v20
      else
        fRegion_find_j59 a0 k2 x1 x2 x3 M
    else
      fRegion_find_j59 a0 k2 x1 x2 x3 M) := rfl
theorem fRegion_find_l2_S {a0 : Nat} {fu : Nat} {x1 : Int32} {x2 : Int32} {x3 : Int32} {M : Mm} : fRegion_find_l2 a0 (fu + 1) x1 x2 x3 M = fRegion_find_b2 a0 (fRegion_find_l2 a0 fu) x1 x2 x3 M := rfl
theorem fRegion_find_E {a0 : Nat} {x1 : Int32} {x2 : Int32} {M : Mm} : fRegion_find a0 x1 x2 M = (
  fRegion_find_l2 a0 FU x1 x2 (i3 0) M) := rfl
theorem fHb_versionOf_E {r0 : Option Nat} {x1 : Int32} {x2 : Int32} {M : Mm} {n : Nat} : fHb_versionOf r0 x1 x2 M n = (
  rk 6 r0 M fun a1 =>
  bdR (fRegion_find a1 x1 x2 M) fun v4 =>
  ifN v4
    (some (.inr 0, M, n + 1))
    (some (.inl v4, M, n))) := rfl
theorem fHb_checkArgument_E {x0 : Int32} {M : Mm} {n : Nat} : fHb_checkArgument x0 M n = (
  if x0 = (i3 0) then
    some (.inr 1, M, n + 1)
  else
    some (.inl (), M, n)) := rfl
theorem fHb_checkRange_j15_E {s0 : Int32} {M : Mm} {n : Nat} : fHb_checkRange_j15 s0 M n = (
  bdC (fHb_checkArgument s0 M n) n fun v1 M2 n3 =>
  some (.inl (), M2, n3)) := rfl
theorem fHb_checkRange_j14_E {M : Mm} {n : Nat} : fHb_checkRange_j14 M n = (
  fHb_checkRange_j15 (i3 0) M n) := rfl
theorem fHb_checkRange_E {x0 : Int32} {x1 : Int32} {x2 : Int32} {M : Mm} {n : Nat} : fHb_checkRange x0 x1 x2 M n = (
  if x0 < x1 then
    fHb_checkRange_j14 M n
  else
    if x2 < x0 then
      fHb_checkRange_j14 M n
    else
      fHb_checkRange_j15 (i3 1) M n) := rfl
theorem fEntry_isMark_E {a0 : Nat} {M : Mm} : fEntry_isMark a0 M = (
  fgR 4 403 (some a0) M fun v1 =>
  fgI 1 101 v1 M fun v2 =>
  if v2 = (i3 0) then
    rZ (i3 1) (some (i3 1))
  else
    rZ (i3 0) (some (i3 0))) := rfl
theorem fHb_about_E {a0 : Nat} {x1 : Int32} {x2 : Int32} {x3 : Int32} {x4 : Int32} {M : Mm} {n : Nat} : fHb_about a0 x1 x2 x3 x4 M n = (
  rk 11 (some a0) M fun _ =>
  bdC (fHb_regionOf a0 x1 M n) n fun v2 M3 n4 =>
  bdC (fHb_versionOf v2 x2 x3 M3 n4) n4 fun v5 M6 n7 =>
  bdC (fHb_checkRange x4 (i3 0) (i3 5) M6 n7) n7 fun v8 M9 n10 =>
  tsw 0 4 x4 (tsl [
    (fgR 10 1000 v5 M9 fun v16 =>
    fgR 4 403 v16 M9 fun v17 =>
    fgI 1 101 v17 M9 fun v18 =>
    some (.inl v18, M9, n10)),
    (fgR 10 1001 v5 M9 fun v19 =>
    aln v19 M9 fun v20 =>
    some (.inl v20, M9, n10)),
    (fgI 10 1002 v5 M9 fun v21 =>
    some (.inl v21, M9, n10)),
    (fgR 10 1000 v5 M9 fun v22 =>
    fgI 4 402 v22 M9 fun v23 =>
    some (.inl v23, M9, n10)),
    (fgI 10 1003 v5 M9 fun v24 =>
    some (.inl v24, M9, n10))])
    (fgR 10 1000 v5 M9 fun v11 =>
    rk 4 v11 M9 fun a12 =>
    bdR (fEntry_isMark a12 M9) fun v15 =>
    if v15 = (i3 0) then
      some (.inl (i3 0), M9, n10)
    else
      some (.inl (i3 1), M9, n10))) := rfl
theorem fAr_fill_b5_E {k5 : Option Nat → Int32 → Int32 → Int32 → Mm → Option (Unit × Mm)} {r0 : Option Nat} {x1 : Int32} {x2 : Int32} {x3 : Int32} {M : Mm} : fAr_fill_b5 k5 r0 x1 x2 x3 M = (
  if x3 ≤ x2 then
    some ((), M)
  else
    asI r0 x2 x1 M fun M1 =>
    k5 r0 x1 (x2 + (i3 1)) x3 M1) := rfl
theorem fAr_fill_l5_S  {fu : Nat} {r0 : Option Nat} {x1 : Int32} {x2 : Int32} {x3 : Int32} {M : Mm} : fAr_fill_l5 (fu + 1) r0 x1 x2 x3 M = fAr_fill_b5 (fAr_fill_l5 fu) r0 x1 x2 x3 M := rfl
theorem fAr_fill_E {r0 : Option Nat} {x1 : Int32} {M : Mm} : fAr_fill r0 x1 M = (
  aln r0 M fun v1 =>
  fAr_fill_l5 FU r0 x1 (i3 0) v1 M) := rfl
theorem fStore_beginTally_E {a0 : Nat} {M : Mm} : fStore_beginTally a0 M = (
  fgR 8 804 (some a0) M fun v1 =>
  bdW (fAr_fill v1 (i3 0) M) fun v2 M3 =>
  some ((), M3)) := rfl
theorem fStore_partAt_E {a0 : Nat} {x1 : Int32} {M : Mm} : fStore_partAt a0 x1 M = (
  if x1 < (i3 0) then
    some none
  else
    fgR 8 801 (some a0) M fun v1 =>
    rk 12 v1 M fun a2 =>
    bdR (fAl_size a2 M) fun v5 =>
    if v5 ≤ x1 then
      some none
    else
      fgR 8 801 (some a0) M fun v6 =>
      rk 12 v6 M fun a7 =>
      bdR (fAl_get a7 x1 M) fun v10 =>
      fca 5 v10 M fun v11 =>
      fgI 5 507 v11 M fun v12 =>
      if v12 = (i3 0) then
        fgR 8 801 (some a0) M fun v13 =>
        rk 12 v13 M fun a14 =>
        bdR (fAl_get a14 x1 M) fun v17 =>
        fca 5 v17 M fun v18 =>
        some v18
      else
        some none) := rfl
theorem fPart_nodeOf_E {a0 : Nat} {x1 : Int32} {M : Mm} : fPart_nodeOf a0 x1 M = (
  if x1 < (i3 0) then
    some m1
  else
    fgR 5 504 (some a0) M fun v1 =>
    aln v1 M fun v2 =>
    if v2 ≤ x1 then
      some m1
    else
      fgR 5 504 (some a0) M fun v3 =>
      alI 21 v3 x1 M fun v4 =>
      some v4) := rfl
theorem fPart_isGood_E {a0 : Nat} {x1 : Int32} {M : Mm} : fPart_isGood a0 x1 M = (
  rk 5 (some a0) M fun _ =>
  bdR (fPart_nodeOf a0 x1 M) fun v2 =>
  if v2 = m1 then
    rZ (i3 0) (some (i3 0))
  else
    fgR 5 505 (some a0) M fun v3 =>
    aln v3 M fun v4 =>
    if v4 ≤ x1 then
      rZ (i3 0) (some (i3 0))
    else
      fgR 5 505 (some a0) M fun v5 =>
      alI 22 v5 x1 M fun v6 =>
      if v6 = (i3 0) then
        rZ (i3 1) (some (i3 1))
      else
        rZ (i3 0) (some (i3 0))) := rfl
theorem fCode_findLowest_j42_E {a0 : Nat} {x2 : Int32} {M : Mm} : fCode_findLowest_j42 a0 x2 M = (
  fgR 2 202 (some a0) M fun v1 =>
  aln v1 M fun v2 =>
  if x2 = v2 then
    rZ (i3 1) (some ((i3 1), M))
  else
    rZ (i3 0) (some ((i3 0), M))) := rfl
theorem fCode_findLowest_j36_E {a0 : Nat} {k4 : Option Nat → Int32 → Int32 → Mm → Option (Int32 × Mm)} {r1 : Option Nat} {x2 : Int32} {x3 : Int32} {M : Mm} : fCode_findLowest_j36 a0 k4 r1 x2 x3 M = (
  k4 r1 x2 (x3 + (i3 1)) M) := rfl
theorem fCode_findLowest_b4_E {a0 : Nat} {k4 : Option Nat → Int32 → Int32 → Mm → Option (Int32 × Mm)} {r1 : Option Nat} {x2 : Int32} {x3 : Int32} {M : Mm} : fCode_findLowest_b4 a0 k4 r1 x2 x3 M = (
  if (i3 5) ≤ x3 then
    fCode_findLowest_j42 a0 x2 M
  else
    fgR 2 202 (some a0) M fun v1 =>
    aln v1 M fun v2 =>
    if v2 ≤ x2 then
      fCode_findLowest_j42 a0 x2 M
    else
      rk 5 r1 M fun a3 =>
      bdR (fPart_isGood a3 x3 M) fun v6 =>
      if v6 = (i3 0) then
        fCode_findLowest_j36 a0 k4 r1 x2 x3 M
      else
        fgR 2 202 (some a0) M fun v7 =>
        asI v7 x2 x3 M fun M8 =>
        fCode_findLowest_j36 a0 k4 r1 (x2 + (i3 1)) x3 M8) := rfl
theorem fCode_findLowest_l4_S {a0 : Nat} {fu : Nat} {r1 : Option Nat} {x2 : Int32} {x3 : Int32} {M : Mm} : fCode_findLowest_l4 a0 (fu + 1) r1 x2 x3 M = fCode_findLowest_b4 a0 (fCode_findLowest_l4 a0 fu) r1 x2 x3 M := rfl
theorem fCode_findLowest_E {a0 : Nat} {r1 : Option Nat} {M : Mm} : fCode_findLowest a0 r1 M = (
  fCode_findLowest_l4 a0 FU r1 (i3 0) (i3 0) M) := rfl
theorem fPart_shardByte_E {a0 : Nat} {x1 : Int32} {x2 : Int32} {M : Mm} : fPart_shardByte a0 x1 x2 M = (
  if ((x1 * (i3 2)) + x2) < (i3 0) then
    some (i3 0)
  else
    fgR 5 503 (some a0) M fun v1 =>
    aln v1 M fun v2 =>
    if v2 ≤ ((x1 * (i3 2)) + x2) then
      some (i3 0)
    else
      fgR 5 503 (some a0) M fun v3 =>
      alI 20 v3 ((x1 * (i3 2)) + x2) M fun v4 =>
      some v4) := rfl
theorem fCode_factor_E {x0 : Int32} {x1 : Int32} : fCode_factor x0 x1 = (
  if ((x0 * (i3 3)) + x1) < (i3 0) then
    some (i3 0)
  else
    if (i3 15) ≤ ((x0 * (i3 3)) + x1) then
      some (i3 0)
    else
      kfa ((x0 * (i3 3)) + x1) fun v1 =>
      some v1) := rfl
theorem fCode_cell_E {a0 : Nat} {x1 : Int32} {x2 : Int32} {x3 : Int32} {M : Mm} : fCode_cell a0 x1 x2 x3 M = (
  if x1 < (i3 0) then
    some (i3 0)
  else
    if x1 < (i3 3) then
      if x2 = x3 then
        fgR 2 203 (some a0) M fun v1 =>
        alI 21 v1 x1 M fun v2 =>
        some v2
      else
        fgR 2 202 (some a0) M fun v3 =>
        alI 21 v3 x1 M fun v4 =>
        bdR (fCode_factor v4 x2) fun v5 =>
        some v5
    else
      some (i3 0)) := rfl
theorem fCode_times_j54_E {k32 : Int32 → Int32 → Option (Int32)} {x2 : Int32} {x3 : Int32} : fCode_times_j54 k32 x2 x3 = (
  k32 x2 (x3 + m1)) := rfl
theorem fCode_times_b32_E {k32 : Int32 → Int32 → Option (Int32)} {x2 : Int32} {x3 : Int32} : fCode_times_b32 k32 x2 x3 = (
  if x3 < (i3 0) then
    some x2
  else
    if ((x2 >>> ((x3 + (i3 4)) &&& (i3 31))) &&& (i3 1)) = (i3 1) then
      fCode_times_j54 k32 (x2 ^^^ ((i3 19) <<< (x3 &&& (i3 31)))) x3
    else
      fCode_times_j54 k32 x2 x3) := rfl
theorem fCode_times_l32_S  {fu : Nat} {x2 : Int32} {x3 : Int32} : fCode_times_l32 (fu + 1) x2 x3 = fCode_times_b32 (fCode_times_l32 fu) x2 x3 := rfl
theorem fCode_times_j24_E {k4 : Int32 → Int32 → Int32 → Int32 → Option (Int32)} {x0 : Int32} {x1 : Int32} {x2 : Int32} {x3 : Int32} : fCode_times_j24 k4 x0 x1 x2 x3 = (
  k4 x0 x1 x2 (x3 + (i3 1))) := rfl
theorem fCode_times_b4_E {k4 : Int32 → Int32 → Int32 → Int32 → Option (Int32)} {x0 : Int32} {x1 : Int32} {x2 : Int32} {x3 : Int32} : fCode_times_b4 k4 x0 x1 x2 x3 = (
  if (i3 4) ≤ x3 then
    fCode_times_l32 FU x2 (i3 2)
  else
    if ((x1 >>> (x3 &&& (i3 31))) &&& (i3 1)) = (i3 1) then
      fCode_times_j24 k4 x0 x1 (x2 ^^^ (x0 <<< (x3 &&& (i3 31)))) x3
    else
      fCode_times_j24 k4 x0 x1 x2 x3) := rfl
theorem fCode_times_l4_S  {fu : Nat} {x0 : Int32} {x1 : Int32} {x2 : Int32} {x3 : Int32} : fCode_times_l4 (fu + 1) x0 x1 x2 x3 = fCode_times_b4 (fCode_times_l4 fu) x0 x1 x2 x3 := rfl
theorem fCode_times_E {x0 : Int32} {x1 : Int32} : fCode_times x0 x1 = (
  fCode_times_l4 FU x0 x1 (i3 0) (i3 0)) := rfl
theorem fCode_determinant_b4_E {a0 : Nat} {k4 : Int32 → Int32 → Int32 → Mm → Option (Int32)} {x1 : Int32} {x2 : Int32} {x3 : Int32} {M : Mm} : fCode_determinant_b4 a0 k4 x1 x2 x3 M = (
  if (i3 3) ≤ x3 then
    some x2
  else
    rk 2 (some a0) M fun _ =>
    bdR (fCode_cell a0 ((x3 + (i3 1)) - (x3 + (i3 1)) / (i3 3) * (i3 3)) (i3 1) x1 M) fun v2 =>
    rk 2 (some a0) M fun _ =>
    bdR (fCode_cell a0 ((x3 + (i3 2)) - (x3 + (i3 2)) / (i3 3) * (i3 3)) (i3 2) x1 M) fun v4 =>
    bdR (fCode_times v2 v4) fun v5 =>
    rk 2 (some a0) M fun _ =>
    bdR (fCode_cell a0 ((x3 + (i3 2)) - (x3 + (i3 2)) / (i3 3) * (i3 3)) (i3 1) x1 M) fun v7 =>
    rk 2 (some a0) M fun _ =>
    bdR (fCode_cell a0 ((x3 + (i3 1)) - (x3 + (i3 1)) / (i3 3) * (i3 3)) (i3 2) x1 M) fun v9 =>
    bdR (fCode_times v7 v9) fun v10 =>
    rk 2 (some a0) M fun _ =>
    bdR (fCode_cell a0 x3 (i3 0) x1 M) fun v12 =>
    bdR (fCode_times v12 (v5 ^^^ v10)) fun v13 =>
    k4 x1 (x2 ^^^ v13) (x3 + (i3 1)) M) := rfl
theorem fCode_determinant_l4_S {a0 : Nat} {fu : Nat} {x1 : Int32} {x2 : Int32} {x3 : Int32} {M : Mm} : fCode_determinant_l4 a0 (fu + 1) x1 x2 x3 M = fCode_determinant_b4 a0 (fCode_determinant_l4 a0 fu) x1 x2 x3 M := rfl
theorem fCode_determinant_E {a0 : Nat} {x1 : Int32} {M : Mm} : fCode_determinant a0 x1 M = (
  fCode_determinant_l4 a0 FU x1 (i3 0) (i3 0) M) := rfl
theorem fCode_inverse_b4_E {k4 : Int32 → Int32 → Int32 → Option (Int32)} {x0 : Int32} {x1 : Int32} {x2 : Int32} : fCode_inverse_b4 k4 x0 x1 x2 = (
  if (i3 14) ≤ x2 then
    some x1
  else
    bdR (fCode_times x1 x0) fun v1 =>
    k4 x0 v1 (x2 + (i3 1))) := rfl
theorem fCode_inverse_l4_S  {fu : Nat} {x0 : Int32} {x1 : Int32} {x2 : Int32} : fCode_inverse_l4 (fu + 1) x0 x1 x2 = fCode_inverse_b4 (fCode_inverse_l4 fu) x0 x1 x2 := rfl
theorem fCode_inverse_E {x0 : Int32} : fCode_inverse x0 = (
  fCode_inverse_l4 FU x0 (i3 1) (i3 0)) := rfl
theorem fCode_solve_b3_E {a0 : Nat} {k3 : Option Nat → Int32 → Int32 → Int32 → Mm → Option (Int32 × Mm)} {r1 : Option Nat} {x2 : Int32} {x3 : Int32} {x4 : Int32} {M : Mm} : fCode_solve_b3 a0 k3 r1 x2 x3 x4 M = (
  fgR 2 203 (some a0) M fun v1 =>
  aln v1 M fun v2 =>
  if v2 ≤ x4 then
    rk 2 (some a0) M fun _ =>
    bdR (fCode_determinant a0 x2 M) fun v4 =>
    rk 2 (some a0) M fun _ =>
    bdR (fCode_determinant a0 m1 M) fun v6 =>
    bdR (fCode_inverse v6) fun v7 =>
    bdR (fCode_times v4 v7) fun v8 =>
    some (v8, M)
  else
    fgR 2 203 (some a0) M fun v9 =>
    fgR 2 202 (some a0) M fun v10 =>
    alI 21 v10 x4 M fun v11 =>
    rk 5 r1 M fun a12 =>
    bdR (fPart_shardByte a12 v11 x3 M) fun v15 =>
    asI v9 x4 v15 M fun M16 =>
    k3 r1 x2 x3 (x4 + (i3 1)) M16) := rfl
theorem fCode_solve_l3_S {a0 : Nat} {fu : Nat} {r1 : Option Nat} {x2 : Int32} {x3 : Int32} {x4 : Int32} {M : Mm} : fCode_solve_l3 a0 (fu + 1) r1 x2 x3 x4 M = fCode_solve_b3 a0 (fCode_solve_l3 a0 fu) r1 x2 x3 x4 M := rfl
theorem fCode_solve_E {a0 : Nat} {r1 : Option Nat} {x2 : Int32} {x3 : Int32} {M : Mm} : fCode_solve a0 r1 x2 x3 M = (
  fCode_solve_l3 a0 FU r1 x2 x3 (i3 0) M) := rfl
theorem fCode_decode_j61_E {a0 : Nat} {k12 : Option Nat → Int32 → Mm → Option (Int32 × Mm)} {r1 : Option Nat} {x2 : Int32} {s0 : Int32} {s1 : Int32} {s2 : Option Nat} {M : Mm} : fCode_decode_j61 a0 k12 r1 x2 s0 s1 s2 M = (
  asB s2 s1 ((s0).toInt8.toInt32) M fun M1 =>
  k12 r1 (x2 + (i3 1)) M1) := rfl
theorem fCode_decode_b12_E {a0 : Nat} {k12 : Option Nat → Int32 → Mm → Option (Int32 × Mm)} {r1 : Option Nat} {x2 : Int32} {M : Mm} : fCode_decode_b12 a0 k12 r1 x2 M = (
  fgR 2 200 (some a0) M fun v1 =>
  aln v1 M fun v2 =>
  if v2 ≤ x2 then
    rZ (i3 1) (some ((i3 1), M))
  else
    fgR 2 200 (some a0) M fun v3 =>
    rk 5 r1 M fun a4 =>
    bdR (fPart_isGood a4 (x2 / (i3 2)) M) fun v7 =>
    if v7 = (i3 0) then
      rk 2 (some a0) M fun _ =>
      bdW (fCode_solve a0 r1 (x2 / (i3 2)) (x2 - x2 / (i3 2) * (i3 2)) M) fun v9 M10 =>
      fCode_decode_j61 a0 k12 r1 x2 v9 x2 v3 M10
    else
      rk 5 r1 M fun a12 =>
      bdR (fPart_shardByte a12 (x2 / (i3 2)) (x2 - x2 / (i3 2) * (i3 2)) M) fun v13 =>
      fCode_decode_j61 a0 k12 r1 x2 v13 x2 v3 M) := rfl
theorem fCode_decode_l12_S {a0 : Nat} {fu : Nat} {r1 : Option Nat} {x2 : Int32} {M : Mm} : fCode_decode_l12 a0 (fu + 1) r1 x2 M = fCode_decode_b12 a0 (fCode_decode_l12 a0 fu) r1 x2 M := rfl
theorem fCode_decode_E {a0 : Nat} {r1 : Option Nat} {M : Mm} : fCode_decode a0 r1 M = (
  rk 2 (some a0) M fun _ =>
  bdW (fCode_findLowest a0 r1 M) fun v2 M3 =>
  if v2 = (i3 0) then
    rZ (i3 0) (some ((i3 0), M3))
  else
    fCode_decode_l12 a0 FU r1 (i3 0) M3) := rfl
theorem fCode_plainByte_E {a0 : Nat} {x1 : Int32} {M : Mm} : fCode_plainByte a0 x1 M = (
  if x1 < (i3 0) then
    some (i3 0)
  else
    fgR 2 200 (some a0) M fun v1 =>
    aln v1 M fun v2 =>
    if v2 ≤ x1 then
      some (i3 0)
    else
      fgR 2 200 (some a0) M fun v3 =>
      alI 20 v3 x1 M fun v4 =>
      some v4) := rfl
theorem fBytes_at_E {a0 : Nat} {x1 : Int32} {M : Mm} : fBytes_at a0 x1 M = (
  if x1 < (i3 0) then
    some (i3 0)
  else
    fgR 1 100 (some a0) M fun v1 =>
    aln v1 M fun v2 =>
    if v2 ≤ x1 then
      some (i3 0)
    else
      fgR 1 100 (some a0) M fun v3 =>
      alI 20 v3 x1 M fun v4 =>
      some v4) := rfl
theorem fStore_isAsPut_j86_E {a0 : Nat} {k4 : Option Nat → Int32 → Int32 → Mm → Option (Int32 × Mm)} {k46 : Option Nat → Int32 → Int32 → Option Nat → Int32 → Int32 → Mm → Option (Int32 × Mm)} {r1 : Option Nat} {x2 : Int32} {x3 : Int32} {r4 : Option Nat} {x5 : Int32} {x6 : Int32} {M : Mm} : fStore_isAsPut_j86 a0 k4 k46 r1 x2 x3 r4 x5 x6 M = (
  k46 r1 (x2 + (i3 1)) x3 r4 x5 (x6 + (i3 1)) M) := rfl
theorem fStore_isAsPut_b46_E {a0 : Nat} {k4 : Option Nat → Int32 → Int32 → Mm → Option (Int32 × Mm)} {k46 : Option Nat → Int32 → Int32 → Option Nat → Int32 → Int32 → Mm → Option (Int32 × Mm)} {r1 : Option Nat} {x2 : Int32} {x3 : Int32} {r4 : Option Nat} {x5 : Int32} {x6 : Int32} {M : Mm} : fStore_isAsPut_b46 a0 k4 k46 r1 x2 x3 r4 x5 x6 M = (
  fgI 5 501 r4 M fun v1 =>
  if v1 ≤ x6 then
    k4 r1 x2 (x3 + (i3 1)) M
  else
    if x5 = (i3 0) then
      fStore_isAsPut_j86 a0 k4 k46 r1 x2 x3 r4 x5 x6 M
    else
      fgR 8 803 (some a0) M fun v2 =>
      rk 2 v2 M fun a3 =>
      bdR (fCode_plainByte a3 x6 M) fun v6 =>
      fgR 10 1000 r1 M fun v7 =>
      fgR 4 403 v7 M fun v8 =>
      rk 1 v8 M fun a9 =>
      bdR (fBytes_at a9 x2 M) fun v12 =>
      if v6 = v12 then
        fStore_isAsPut_j86 a0 k4 k46 r1 x2 x3 r4 x5 x6 M
      else
        rZ (i3 0) (some ((i3 0), M))) := rfl
theorem fStore_isAsPut_l46_S {a0 : Nat} {k4 : Option Nat → Int32 → Int32 → Mm → Option (Int32 × Mm)} {fu : Nat} {r1 : Option Nat} {x2 : Int32} {x3 : Int32} {r4 : Option Nat} {x5 : Int32} {x6 : Int32} {M : Mm} : fStore_isAsPut_l46 a0 k4 (fu + 1) r1 x2 x3 r4 x5 x6 M = fStore_isAsPut_b46 a0 k4 (fStore_isAsPut_l46 a0 k4 fu) r1 x2 x3 r4 x5 x6 M := rfl
theorem fStore_isAsPut_b4_E {a0 : Nat} {k4 : Option Nat → Int32 → Int32 → Mm → Option (Int32 × Mm)} {r1 : Option Nat} {x2 : Int32} {x3 : Int32} {M : Mm} : fStore_isAsPut_b4 a0 k4 r1 x2 x3 M = (
  fgR 10 1001 r1 M fun v1 =>
  aln v1 M fun v2 =>
  if v2 ≤ x3 then
    fgR 10 1000 r1 M fun v3 =>
    fgR 4 403 v3 M fun v4 =>
    fgI 1 101 v4 M fun v5 =>
    if x2 = v5 then
      rZ (i3 1) (some ((i3 1), M))
    else
      rZ (i3 0) (some ((i3 0), M))
  else
    fgR 10 1001 r1 M fun v6 =>
    alI 21 v6 x3 M fun v7 =>
    rk 8 (some a0) M fun _ =>
    bdR (fStore_partAt a0 v7 M) fun v9 =>
    ifN v9
      (rZ (i3 0) (some ((i3 0), M)))
      (fgR 8 803 (some a0) M fun v10 =>
      rk 2 v10 M fun a11 =>
      bdW (fCode_decode a11 v9 M) fun v14 M15 =>
      fStore_isAsPut_l46 a0 k4 FU r1 x2 x3 v9 v14 (i3 0) M15)) := rfl
theorem fStore_isAsPut_l4_S {a0 : Nat} {fu : Nat} {r1 : Option Nat} {x2 : Int32} {x3 : Int32} {M : Mm} : fStore_isAsPut_l4 a0 (fu + 1) r1 x2 x3 M = fStore_isAsPut_b4 a0 (fStore_isAsPut_l4 a0 fu) r1 x2 x3 M := rfl
theorem fStore_isAsPut_E {a0 : Nat} {r1 : Option Nat} {M : Mm} : fStore_isAsPut a0 r1 M = (
  fStore_isAsPut_l4 a0 FU r1 (i3 0) (i3 0) M) := rfl
theorem fStore_tallyUp_j35_E {a0 : Nat} {k2 : Option Nat → Int32 → Mm → Option (Unit × Mm)} {r1 : Option Nat} {x2 : Int32} {M : Mm} : fStore_tallyUp_j35 a0 k2 r1 x2 M = (
  k2 r1 (x2 + (i3 1)) M) := rfl
theorem fStore_tallyUp_b2_E {a0 : Nat} {k2 : Option Nat → Int32 → Mm → Option (Unit × Mm)} {r1 : Option Nat} {x2 : Int32} {M : Mm} : fStore_tallyUp_b2 a0 k2 r1 x2 M = (
  aln r1 M fun v1 =>
  if v1 ≤ x2 then
    some ((), M)
  else
    alI 21 r1 x2 M fun v2 =>
    if v2 < (i3 0) then
      fStore_tallyUp_j35 a0 k2 r1 x2 M
    else
      fgR 8 804 (some a0) M fun v3 =>
      aln v3 M fun v4 =>
      if v4 ≤ v2 then
        fStore_tallyUp_j35 a0 k2 r1 x2 M
      else
        fgR 8 804 (some a0) M fun v5 =>
        alI 21 v5 v2 M fun v6 =>
        asI v5 v2 (v6 + (i3 1)) M fun M7 =>
        fStore_tallyUp_j35 a0 k2 r1 x2 M7) := rfl
theorem fStore_tallyUp_l2_S {a0 : Nat} {fu : Nat} {r1 : Option Nat} {x2 : Int32} {M : Mm} : fStore_tallyUp_l2 a0 (fu + 1) r1 x2 M = fStore_tallyUp_b2 a0 (fStore_tallyUp_l2 a0 fu) r1 x2 M := rfl
theorem fStore_tallyUp_E {a0 : Nat} {r1 : Option Nat} {M : Mm} : fStore_tallyUp a0 r1 M = (
  fStore_tallyUp_l2 a0 FU r1 (i3 0) M) := rfl
theorem fStore_isTallied_b2_E {a0 : Nat} {k2 : Int32 → Mm → Option (Int32)} {x1 : Int32} {M : Mm} : fStore_isTallied_b2 a0 k2 x1 M = (
  fgR 8 801 (some a0) M fun v1 =>
  rk 12 v1 M fun a2 =>
  bdR (fAl_size a2 M) fun v5 =>
  if v5 ≤ x1 then
    rZ (i3 1) (some (i3 1))
  else
    fgR 8 804 (some a0) M fun v6 =>
    aln v6 M fun v7 =>
    if v7 ≤ x1 then
      rZ (i3 1) (some (i3 1))
    else
      fgR 8 801 (some a0) M fun v8 =>
      rk 12 v8 M fun a9 =>
      bdR (fAl_get a9 x1 M) fun v12 =>
      fca 5 v12 M fun v13 =>
      fgI 5 506 v13 M fun v14 =>
      fgR 8 804 (some a0) M fun v15 =>
      alI 21 v15 x1 M fun v16 =>
      if v14 = v16 then
        k2 (x1 + (i3 1)) M
      else
        rZ (i3 0) (some (i3 0))) := rfl
theorem fStore_isTallied_l2_S {a0 : Nat} {fu : Nat} {x1 : Int32} {M : Mm} : fStore_isTallied_l2 a0 (fu + 1) x1 M = fStore_isTallied_b2 a0 (fStore_isTallied_l2 a0 fu) x1 M := rfl
theorem fStore_isTallied_E {a0 : Nat} {M : Mm} : fStore_isTallied a0 M = (
  fStore_isTallied_l2 a0 FU (i3 0) M) := rfl
theorem fRegion_isSound_b9_E {a0 : Nat} {k9 : Int32 → Mm → Option (Int32 × Mm)} {x1 : Int32} {M : Mm} : fRegion_isSound_b9 a0 k9 x1 M = (
  fgR 6 601 (some a0) M fun v1 =>
  rk 12 v1 M fun a2 =>
  bdR (fAl_size a2 M) fun v5 =>
  if v5 ≤ x1 then
    fgR 6 600 (some a0) M fun v6 =>
    rk 8 v6 M fun a7 =>
    bdR (fStore_isTallied a7 M) fun v10 =>
    rZ v10 (some (v10, M))
  else
    fgR 6 601 (some a0) M fun v11 =>
    rk 12 v11 M fun a12 =>
    bdR (fAl_get a12 x1 M) fun v15 =>
    fca 10 v15 M fun v16 =>
    fgR 6 600 (some a0) M fun v17 =>
    rk 8 v17 M fun a18 =>
    bdW (fStore_isAsPut a18 v16 M) fun v21 M22 =>
    if v21 = (i3 0) then
      rZ (i3 0) (some ((i3 0), M22))
    else
      fgR 6 600 (some a0) M22 fun v23 =>
      fgR 10 1001 v16 M22 fun v24 =>
      rk 8 v23 M22 fun a25 =>
      bdW (fStore_tallyUp a25 v24 M22) fun v28 M29 =>
      k9 (x1 + (i3 1)) M29) := rfl
theorem fRegion_isSound_l9_S {a0 : Nat} {fu : Nat} {x1 : Int32} {M : Mm} : fRegion_isSound_l9 a0 (fu + 1) x1 M = fRegion_isSound_b9 a0 (fRegion_isSound_l9 a0 fu) x1 M := rfl
theorem fRegion_isSound_E {a0 : Nat} {M : Mm} : fRegion_isSound a0 M = (
  fgR 6 600 (some a0) M fun v1 =>
  rk 8 v1 M fun a2 =>
  bdW (fStore_beginTally a2 M) fun v5 M6 =>
  fRegion_isSound_l9 a0 FU (i3 0) M6) := rfl
theorem fHb_agrees_E {a0 : Nat} {x1 : Int32} {M : Mm} {n : Nat} : fHb_agrees a0 x1 M n = (
  rk 11 (some a0) M fun _ =>
  bdC (fHb_regionOf a0 x1 M n) n fun v2 M3 n4 =>
  rk 6 v2 M3 fun a5 =>
  bdW (fRegion_isSound a5 M3) fun v8 M9 =>
  rZ v8 (some (.inl v8, M9, n4))) := rfl
theorem fRegion_latest_b10_E {a0 : Nat} {k10 : Int32 → Int32 → Mm → Option (Option Nat)} {x1 : Int32} {x2 : Int32} {M : Mm} : fRegion_latest_b10 a0 k10 x1 x2 M = (
  if x2 < (i3 0) then
    some none
  else
    fgR 6 601 (some a0) M fun v1 =>
    rk 12 v1 M fun a2 =>
    bdR (fAl_get a2 x2 M) fun v5 =>
    fca 10 v5 M fun v6 =>
    fgR 10 1000 v6 M fun v7 =>
    fgI 4 400 v7 M fun v8 =>
    if v8 = x1 then
      fgR 6 601 (some a0) M fun v9 =>
      rk 12 v9 M fun a10 =>
      bdR (fAl_get a10 x2 M) fun v13 =>
      fca 10 v13 M fun v14 =>
      some v14
    else
      k10 x1 (x2 + m1) M) := rfl
theorem fRegion_latest_l10_S {a0 : Nat} {fu : Nat} {x1 : Int32} {x2 : Int32} {M : Mm} : fRegion_latest_l10 a0 (fu + 1) x1 x2 M = fRegion_latest_b10 a0 (fRegion_latest_l10 a0 fu) x1 x2 M := rfl
theorem fRegion_latest_E {a0 : Nat} {x1 : Int32} {M : Mm} : fRegion_latest a0 x1 M = (
  fgR 6 601 (some a0) M fun v1 =>
  rk 12 v1 M fun a2 =>
  bdR (fAl_size a2 M) fun v5 =>
  fRegion_latest_l10 a0 FU x1 (v5 - (i3 1)) M) := rfl
theorem fHb_isObject_E {r0 : Option Nat} {M : Mm} : fHb_isObject r0 M = (
  ifN r0
    (rZ (i3 0) (some (i3 0)))
    (fgR 10 1000 r0 M fun v1 =>
    rk 4 v1 M fun a2 =>
    bdR (fEntry_isMark a2 M) fun v5 =>
    if v5 = (i3 0) then
      rZ (i3 1) (some (i3 1))
    else
      rZ (i3 0) (some (i3 0)))) := rfl
theorem fBytes_isSame_b15_E {a0 : Nat} {k15 : Option Nat → Int32 → Mm → Option (Int32)} {r1 : Option Nat} {x2 : Int32} {M : Mm} : fBytes_isSame_b15 a0 k15 r1 x2 M = (
  fgI 1 101 (some a0) M fun v1 =>
  if v1 ≤ x2 then
    rZ (i3 1) (some (i3 1))
  else
    rk 1 (some a0) M fun _ =>
    bdR (fBytes_at a0 x2 M) fun v3 =>
    rk 1 r1 M fun a4 =>
    bdR (fBytes_at a4 x2 M) fun v7 =>
    if v3 = v7 then
      k15 r1 (x2 + (i3 1)) M
    else
      rZ (i3 0) (some (i3 0))) := rfl
theorem fBytes_isSame_l15_S {a0 : Nat} {fu : Nat} {r1 : Option Nat} {x2 : Int32} {M : Mm} : fBytes_isSame_l15 a0 (fu + 1) r1 x2 M = fBytes_isSame_b15 a0 (fBytes_isSame_l15 a0 fu) r1 x2 M := rfl
theorem fBytes_isSame_E {a0 : Nat} {r1 : Option Nat} {M : Mm} : fBytes_isSame a0 r1 M = (
  fgI 1 101 (some a0) M fun v1 =>
  fgI 1 101 r1 M fun v2 =>
  if v1 = v2 then
    fBytes_isSame_l15 a0 FU r1 (i3 0) M
  else
    rZ (i3 0) (some (i3 0))) := rfl
theorem fHb_areAlike_j75_E {a0 : Nat} {k2 : Int32 → Mm → Option (Int32)} {x1 : Int32} {M : Mm} : fHb_areAlike_j75 a0 k2 x1 M = (
  k2 (x1 + (i3 1)) M) := rfl
theorem fHb_areAlike_b2_E {a0 : Nat} {k2 : Int32 → Mm → Option (Int32)} {x1 : Int32} {M : Mm} : fHb_areAlike_b2 a0 k2 x1 M = (
  if (i3 124) < x1 then
    rZ (i3 1) (some (i3 1))
  else
    fgR 11 1100 (some a0) M fun v1 =>
    rk 6 v1 M fun a2 =>
    bdR (fRegion_latest a2 x1 M) fun v5 =>
    fgR 11 1101 (some a0) M fun v6 =>
    rk 6 v6 M fun a7 =>
    bdR (fRegion_latest a7 x1 M) fun v10 =>
    bdR (fHb_isObject v5 M) fun v11 =>
    bdR (fHb_isObject v10 M) fun v12 =>
    if v11 = v12 then
      bdR (fHb_isObject v5 M) fun v13 =>
      if v13 = (i3 0) then
        fHb_areAlike_j75 a0 k2 x1 M
      else
        bdR (fHb_isObject v10 M) fun v14 =>
        if v14 = (i3 0) then
          fHb_areAlike_j75 a0 k2 x1 M
        else
          fgR 10 1000 v5 M fun v15 =>
          fgR 4 403 v15 M fun v16 =>
          fgR 10 1000 v10 M fun v17 =>
          fgR 4 403 v17 M fun v18 =>
          rk 1 v16 M fun a19 =>
          bdR (fBytes_isSame a19 v18 M) fun v22 =>
          if v22 = (i3 0) then
            rZ (i3 0) (some (i3 0))
          else
            fHb_areAlike_j75 a0 k2 x1 M
    else
      rZ (i3 0) (some (i3 0))) := rfl
theorem fHb_areAlike_l2_S {a0 : Nat} {fu : Nat} {x1 : Int32} {M : Mm} : fHb_areAlike_l2 a0 (fu + 1) x1 M = fHb_areAlike_b2 a0 (fHb_areAlike_l2 a0 fu) x1 M := rfl
theorem fHb_areAlike_E {a0 : Nat} {M : Mm} : fHb_areAlike a0 M = (
  fHb_areAlike_l2 a0 FU (i3 1) M) := rfl
theorem fVersion_isCold_E {a0 : Nat} {M : Mm} : fVersion_isCold a0 M = (
  fgI 10 1002 (some a0) M fun v1 =>
  if v1 = (i3 2) then
    rZ (i3 1) (some (i3 1))
  else
    rZ (i3 0) (some (i3 0))) := rfl
theorem fVersion_opensOn_E {a0 : Nat} {M : Mm} : fVersion_opensOn a0 M = (
  fgI 10 1004 (some a0) M fun v1 =>
  some (v1 + (i3 2))) := rfl
theorem fVersion_isAskedFor_E {a0 : Nat} {x1 : Int32} {M : Mm} : fVersion_isAskedFor a0 x1 M = (
  fgI 10 1004 (some a0) M fun v1 =>
  if v1 = m1 then
    rZ (i3 0) (some (i3 0))
  else
    rk 10 (some a0) M fun _ =>
    bdR (fVersion_opensOn a0 M) fun v3 =>
    if (v3 + (i3 3)) ≤ x1 then
      rZ (i3 0) (some (i3 0))
    else
      rZ (i3 1) (some (i3 1))) := rfl
theorem fHb_checkState_E {x0 : Int32} {M : Mm} {n : Nat} : fHb_checkState x0 M n = (
  if x0 = (i3 0) then
    some (.inr 2, M, n + 1)
  else
    some (.inl (), M, n)) := rfl
theorem fHb_ask_j37_E {a0 : Nat} {r4 : Option Nat} {s0 : Int32} {M : Mm} {n : Nat} : fHb_ask_j37 a0 r4 s0 M n = (
  bdC (fHb_checkState s0 M n) n fun v1 M2 n3 =>
  fgI 11 1109 (some a0) M2 fun v4 =>
  fpI 10 1004 r4 v4 M2 fun M5 =>
  rk 10 r4 M5 fun a6 =>
  bdR (fVersion_opensOn a6 M5) fun v9 =>
  some (.inl v9, M5, n3)) := rfl
theorem fHb_ask_j36_E {a0 : Nat} {r4 : Option Nat} {M : Mm} {n : Nat} : fHb_ask_j36 a0 r4 M n = (
  fHb_ask_j37 a0 r4 (i3 0) M n) := rfl
theorem fHb_ask_E {a0 : Nat} {x1 : Int32} {x2 : Int32} {x3 : Int32} {M : Mm} {n : Nat} : fHb_ask a0 x1 x2 x3 M n = (
  rk 11 (some a0) M fun _ =>
  bdC (fHb_regionOf a0 x1 M n) n fun v2 M3 n4 =>
  bdC (fHb_versionOf v2 x2 x3 M3 n4) n4 fun v5 M6 n7 =>
  rk 10 v5 M6 fun a8 =>
  bdR (fVersion_isCold a8 M6) fun v11 =>
  if v11 = (i3 0) then
    fHb_ask_j36 a0 v5 M6 n7
  else
    fgI 11 1109 (some a0) M6 fun v12 =>
    rk 10 v5 M6 fun a14 =>
    bdR (fVersion_isAskedFor a14 v12 M6) fun v15 =>
    if v15 = (i3 0) then
      fHb_ask_j37 a0 v5 (i3 1) M6 n7
    else
      fHb_ask_j36 a0 v5 M6 n7) := rfl
theorem fKeys_begins_j24_E  : fKeys_begins_j24 = (
  rZ (i3 1) (some (i3 1))) := rfl
theorem fKeys_begins_E {x0 : Int32} {x1 : Int32} : fKeys_begins x0 x1 = (
  if x1 = (i3 0) then
    fKeys_begins_j24
  else
    if x0 = x1 then
      fKeys_begins_j24
    else
      if (x0 / (i3 5)) = x1 then
        fKeys_begins_j24
      else
        if (x0 / (i3 25)) = x1 then
          fKeys_begins_j24
        else
          rZ (i3 0) (some (i3 0))) := rfl
theorem fRule_isFor_E {a0 : Nat} {r1 : Option Nat} {x2 : Int32} {M : Mm} : fRule_isFor a0 r1 x2 M = (
  fgI 4 400 r1 M fun v1 =>
  fgI 7 700 (some a0) M fun v2 =>
  bdR (fKeys_begins v1 v2) fun v3 =>
  if v3 = (i3 0) then
    rZ (i3 0) (some (i3 0))
  else
    fgI 4 402 r1 M fun v4 =>
    fgI 7 701 (some a0) M fun v5 =>
    if (x2 - v4) < v5 then
      rZ (i3 0) (some (i3 0))
    else
      rZ (i3 1) (some (i3 1))) := rfl
theorem fVersion_isLocked_E {a0 : Nat} {x1 : Int32} {M : Mm} : fVersion_isLocked a0 x1 M = (
  fgI 10 1003 (some a0) M fun v1 =>
  if v1 < x1 then
    rZ (i3 0) (some (i3 0))
  else
    rZ (i3 1) (some (i3 1))) := rfl
theorem fStore_letGo_j30_E {a0 : Nat} {k2 : Option Nat → Int32 → Mm → Option (Unit × Mm)} {r1 : Option Nat} {x2 : Int32} {M : Mm} : fStore_letGo_j30 a0 k2 r1 x2 M = (
  k2 r1 (x2 + (i3 1)) M) := rfl
theorem fStore_letGo_b2_E {a0 : Nat} {k2 : Option Nat → Int32 → Mm → Option (Unit × Mm)} {r1 : Option Nat} {x2 : Int32} {M : Mm} : fStore_letGo_b2 a0 k2 r1 x2 M = (
  aln r1 M fun v1 =>
  if v1 ≤ x2 then
    some ((), M)
  else
    alI 21 r1 x2 M fun v2 =>
    rk 8 (some a0) M fun _ =>
    bdR (fStore_partAt a0 v2 M) fun v4 =>
    ifN v4
      (fStore_letGo_j30 a0 k2 r1 x2 M)
      (fgI 5 506 v4 M fun v5 =>
      fpI 5 506 v4 (v5 - (i3 1)) M fun M6 =>
      fStore_letGo_j30 a0 k2 r1 x2 M6)) := rfl
theorem fStore_letGo_l2_S {a0 : Nat} {fu : Nat} {r1 : Option Nat} {x2 : Int32} {M : Mm} : fStore_letGo_l2 a0 (fu + 1) r1 x2 M = fStore_letGo_b2 a0 (fStore_letGo_l2 a0 fu) r1 x2 M := rfl
theorem fStore_letGo_E {a0 : Nat} {r1 : Option Nat} {M : Mm} : fStore_letGo a0 r1 M = (
  fStore_letGo_l2 a0 FU r1 (i3 0) M) := rfl
theorem fAl_fastRemove_j34_E {a0 : Nat} {r1 : Option Nat} {x3 : Int32} {M : Mm} : fAl_fastRemove_j34 a0 r1 x3 M = (
  fpI 12 1202 (some a0) x3 M fun M1 =>
  asP 23 r1 x3 none M1 fun M2 =>
  some ((), M2)) := rfl
theorem fAl_fastRemove_E {a0 : Nat} {r1 : Option Nat} {x2 : Int32} {M : Mm} : fAl_fastRemove a0 r1 x2 M = (
  fgI 12 1200 (some a0) M fun v1 =>
  fpI 12 1200 (some a0) (v1 + (i3 1)) M fun M2 =>
  fgI 12 1202 (some a0) M2 fun v3 =>
  if (v3 - (i3 1)) ≤ x2 then
    fAl_fastRemove_j34 a0 r1 (v3 - (i3 1)) M2
  else
    acp r1 (x2 + (i3 1)) r1 x2 ((v3 - (i3 1)) - x2) M2 fun M4 =>
    fAl_fastRemove_j34 a0 r1 (v3 - (i3 1)) M4) := rfl
theorem fAl_remove_E {a0 : Nat} {x1 : Int32} {M : Mm} : fAl_remove a0 x1 M = (
  fgI 12 1202 (some a0) M fun v1 =>
  bdR (fOb_checkIndex x1 v1) fun v2 =>
  fgR 12 1201 (some a0) M fun v3 =>
  alP 23 v3 x1 M fun v4 =>
  rk 12 (some a0) M fun _ =>
  bdW (fAl_fastRemove a0 v3 x1 M) fun v6 M7 =>
  some (v4, M7)) := rfl
theorem fRegion_takeOut_b10_E {a0 : Nat} {k10 : Option Nat → Int32 → Mm → Option (Unit × Mm)} {r1 : Option Nat} {x2 : Int32} {M : Mm} : fRegion_takeOut_b10 a0 k10 r1 x2 M = (
  if x2 < (i3 0) then
    some ((), M)
  else
    fgR 6 601 (some a0) M fun v1 =>
    rk 12 v1 M fun a2 =>
    bdR (fAl_get a2 x2 M) fun v5 =>
    fca 10 v5 M fun v6 =>
    fgR 10 1000 v6 M fun v7 =>
    fgI 4 401 v7 M fun v8 =>
    fgR 10 1000 r1 M fun v9 =>
    fgI 4 401 v9 M fun v10 =>
    if v8 = v10 then
      fgR 6 600 (some a0) M fun v11 =>
      fgR 10 1001 r1 M fun v12 =>
      rk 8 v11 M fun a13 =>
      bdW (fStore_letGo a13 v12 M) fun v16 M17 =>
      fgR 6 601 (some a0) M17 fun v18 =>
      rk 12 v18 M17 fun a19 =>
      bdW (fAl_remove a19 x2 M17) fun v22 M23 =>
      some ((), M23)
    else
      k10 r1 (x2 + m1) M) := rfl
theorem fRegion_takeOut_l10_S {a0 : Nat} {fu : Nat} {r1 : Option Nat} {x2 : Int32} {M : Mm} : fRegion_takeOut_l10 a0 (fu + 1) r1 x2 M = fRegion_takeOut_b10 a0 (fRegion_takeOut_l10 a0 fu) r1 x2 M := rfl
theorem fRegion_takeOut_E {a0 : Nat} {r1 : Option Nat} {M : Mm} : fRegion_takeOut a0 r1 M = (
  fgR 6 601 (some a0) M fun v1 =>
  rk 12 v1 M fun a2 =>
  bdR (fAl_size a2 M) fun v5 =>
  fRegion_takeOut_l10 a0 FU r1 (v5 - (i3 1)) M) := rfl
theorem fRegion_ageOne_j69_E {a0 : Nat} {r1 : Option Nat} {x3 : Int32} {s0 : Int32} {M : Mm} : fRegion_ageOne_j69 a0 r1 x3 s0 M = (
  if s0 = (i3 0) then
    rk 10 r1 M fun a1 =>
    bdR (fVersion_isLocked a1 x3 M) fun v4 =>
    if v4 = (i3 0) then
      rk 6 (some a0) M fun _ =>
      bdW (fRegion_takeOut a0 r1 M) fun v6 M7 =>
      some ((), M7)
    else
      some ((), M)
  else
    some ((), M)) := rfl
theorem fRegion_ageOne_j68_E {a0 : Nat} {r1 : Option Nat} {x3 : Int32} {M : Mm} : fRegion_ageOne_j68 a0 r1 x3 M = (
  fRegion_ageOne_j69 a0 r1 x3 (i3 0) M) := rfl
theorem fRegion_ageOne_E {a0 : Nat} {r1 : Option Nat} {x2 : Int32} {x3 : Int32} {M : Mm} : fRegion_ageOne a0 r1 x2 x3 M = (
  if x2 = (i3 3) then
    fgR 10 1000 r1 M fun v1 =>
    fgI 4 400 v1 M fun v2 =>
    rk 6 (some a0) M fun _ =>
    bdR (fRegion_latest a0 v2 M) fun v4 =>
    ifN v4
      (fRegion_ageOne_j68 a0 r1 x3 M)
      (fgR 10 1000 v4 M fun v5 =>
      fgI 4 401 v5 M fun v6 =>
      fgR 10 1000 r1 M fun v7 =>
      fgI 4 401 v7 M fun v8 =>
      if v6 = v8 then
        fRegion_ageOne_j69 a0 r1 x3 (i3 1) M
      else
        fRegion_ageOne_j68 a0 r1 x3 M)
  else
    fgR 10 1000 r1 M fun v9 =>
    rk 4 v9 M fun a10 =>
    bdR (fEntry_isMark a10 M) fun v13 =>
    if v13 = (i3 0) then
      fgI 10 1002 r1 M fun v14 =>
      fpI 10 1002 r1 (if v14 < x2 then x2 else v14) M fun M15 =>
      some ((), M15)
    else
      some ((), M)) := rfl
theorem fRegion_age_j51_E {a0 : Nat} {k10 : Option Nat → Int32 → Int32 → Mm → Option (Unit × Mm)} {r1 : Option Nat} {x2 : Int32} {x3 : Int32} {M : Mm} : fRegion_age_j51 a0 k10 r1 x2 x3 M = (
  k10 r1 x2 (x3 + m1) M) := rfl
theorem fRegion_age_b10_E {a0 : Nat} {k10 : Option Nat → Int32 → Int32 → Mm → Option (Unit × Mm)} {r1 : Option Nat} {x2 : Int32} {x3 : Int32} {M : Mm} : fRegion_age_b10 a0 k10 r1 x2 x3 M = (
  if x3 < (i3 0) then
    some ((), M)
  else
    fgR 6 601 (some a0) M fun v1 =>
    rk 12 v1 M fun a2 =>
    bdR (fAl_get a2 x3 M) fun v5 =>
    fca 10 v5 M fun v6 =>
    fgR 10 1000 v6 M fun v7 =>
    rk 7 r1 M fun a8 =>
    bdR (fRule_isFor a8 v7 x2 M) fun v11 =>
    if v11 = (i3 0) then
      fRegion_age_j51 a0 k10 r1 x2 x3 M
    else
      fgI 7 702 r1 M fun v12 =>
      rk 6 (some a0) M fun _ =>
      bdW (fRegion_ageOne a0 v6 v12 x2 M) fun v14 M15 =>
      fRegion_age_j51 a0 k10 r1 x2 x3 M15) := rfl
theorem fRegion_age_l10_S {a0 : Nat} {fu : Nat} {r1 : Option Nat} {x2 : Int32} {x3 : Int32} {M : Mm} : fRegion_age_l10 a0 (fu + 1) r1 x2 x3 M = fRegion_age_b10 a0 (fRegion_age_l10 a0 fu) r1 x2 x3 M := rfl
theorem fRegion_age_E {a0 : Nat} {r1 : Option Nat} {x2 : Int32} {M : Mm} : fRegion_age a0 r1 x2 M = (
  fgR 6 601 (some a0) M fun v1 =>
  rk 12 v1 M fun a2 =>
  bdR (fAl_size a2 M) fun v5 =>
  fRegion_age_l10 a0 FU r1 x2 (v5 - (i3 1)) M) := rfl
theorem fHb_beginDay_b2_E {a0 : Nat} {k2 : Int32 → Mm → Option (Unit × Mm)} {x1 : Int32} {M : Mm} : fHb_beginDay_b2 a0 k2 x1 M = (
  fgR 11 1106 (some a0) M fun v1 =>
  rk 12 v1 M fun a2 =>
  bdR (fAl_size a2 M) fun v5 =>
  if v5 ≤ x1 then
    some ((), M)
  else
    fgR 11 1100 (some a0) M fun v6 =>
    fgR 11 1106 (some a0) M fun v7 =>
    rk 12 v7 M fun a8 =>
    bdR (fAl_get a8 x1 M) fun v11 =>
    fca 7 v11 M fun v12 =>
    fgI 11 1109 (some a0) M fun v13 =>
    rk 6 v6 M fun a14 =>
    bdW (fRegion_age a14 v12 v13 M) fun v17 M18 =>
    fgR 11 1101 (some a0) M18 fun v19 =>
    fgR 11 1106 (some a0) M18 fun v20 =>
    rk 12 v20 M18 fun a21 =>
    bdR (fAl_get a21 x1 M18) fun v24 =>
    fca 7 v24 M18 fun v25 =>
    fgI 11 1109 (some a0) M18 fun v26 =>
    rk 6 v19 M18 fun a27 =>
    bdW (fRegion_age a27 v25 v26 M18) fun v30 M31 =>
    k2 (x1 + (i3 1)) M31) := rfl
theorem fHb_beginDay_l2_S {a0 : Nat} {fu : Nat} {x1 : Int32} {M : Mm} : fHb_beginDay_l2 a0 (fu + 1) x1 M = fHb_beginDay_b2 a0 (fHb_beginDay_l2 a0 fu) x1 M := rfl
theorem fHb_beginDay_E {a0 : Nat} {M : Mm} : fHb_beginDay a0 M = (
  fHb_beginDay_l2 a0 FU (i3 0) M) := rfl
theorem fHb_behind_E {a0 : Nat} {x1 : Int32} {M : Mm} {n : Nat} : fHb_behind a0 x1 M n = (
  rk 11 (some a0) M fun _ =>
  bdC (fHb_regionOf a0 x1 M n) n fun v2 M3 n4 =>
  fgR 6 602 v2 M3 fun v5 =>
  rk 12 v5 M3 fun a6 =>
  bdR (fAl_size a6 M3) fun v9 =>
  some (.inl v9, M3, n4)) := rfl
theorem fVersion_isOpen_E {a0 : Nat} {x1 : Int32} {M : Mm} : fVersion_isOpen a0 x1 M = (
  rk 10 (some a0) M fun _ =>
  bdR (fVersion_isAskedFor a0 x1 M) fun v2 =>
  if v2 = (i3 0) then
    rZ (i3 0) (some (i3 0))
  else
    rk 10 (some a0) M fun _ =>
    bdR (fVersion_opensOn a0 M) fun v4 =>
    if x1 < v4 then
      rZ (i3 0) (some (i3 0))
    else
      rZ (i3 1) (some (i3 1))) := rfl
theorem fStore_byteAt_b5_E {a0 : Nat} {k5 : Option Nat → Int32 → Int32 → Int32 → Mm → Option (Int32 × Mm)} {r1 : Option Nat} {x2 : Int32} {x3 : Int32} {x4 : Int32} {M : Mm} : fStore_byteAt_b5 a0 k5 r1 x2 x3 x4 M = (
  aln r1 M fun v1 =>
  if v1 ≤ x4 then
    some (m1, M)
  else
    alI 21 r1 x4 M fun v2 =>
    rk 8 (some a0) M fun _ =>
    bdR (fStore_partAt a0 v2 M) fun v4 =>
    ifN v4
      (some (m4, M))
      (fgI 5 501 v4 M fun v5 =>
      if (x3 + v5) ≤ x2 then
        fgI 5 501 v4 M fun v6 =>
        k5 r1 x2 (x3 + v6) (x4 + (i3 1)) M
      else
        fgR 8 803 (some a0) M fun v7 =>
        rk 2 v7 M fun a8 =>
        bdW (fCode_decode a8 v4 M) fun v11 M12 =>
        if v11 = (i3 0) then
          some (m4, M12)
        else
          fgR 8 803 (some a0) M12 fun v13 =>
          rk 2 v13 M12 fun a14 =>
          bdR (fCode_plainByte a14 (x2 - x3) M12) fun v17 =>
          some (v17, M12))) := rfl
theorem fStore_byteAt_l5_S {a0 : Nat} {fu : Nat} {r1 : Option Nat} {x2 : Int32} {x3 : Int32} {x4 : Int32} {M : Mm} : fStore_byteAt_l5 a0 (fu + 1) r1 x2 x3 x4 M = fStore_byteAt_b5 a0 (fStore_byteAt_l5 a0 fu) r1 x2 x3 x4 M := rfl
theorem fStore_byteAt_E {a0 : Nat} {r1 : Option Nat} {x2 : Int32} {M : Mm} : fStore_byteAt a0 r1 x2 M = (
  fStore_byteAt_l5 a0 FU r1 x2 (i3 0) (i3 0) M) := rfl
theorem fHb_byteOf_j38_E {a0 : Nat} {r1 : Option Nat} {r2 : Option Nat} {x3 : Int32} {M : Mm} : fHb_byteOf_j38 a0 r1 r2 x3 M = (
  fgR 10 1000 r2 M fun v1 =>
  fgR 4 403 v1 M fun v2 =>
  fgI 1 101 v2 M fun v3 =>
  if x3 < v3 then
    fgR 6 600 r1 M fun v4 =>
    fgR 10 1001 r2 M fun v5 =>
    rk 8 v4 M fun a6 =>
    bdW (fStore_byteAt a6 v5 x3 M) fun v9 M10 =>
    some (v9, M10)
  else
    some (m1, M)) := rfl
theorem fHb_byteOf_E {a0 : Nat} {r1 : Option Nat} {r2 : Option Nat} {x3 : Int32} {M : Mm} : fHb_byteOf a0 r1 r2 x3 M = (
  ifN r2
    (some (m2, M))
    (fgR 10 1000 r2 M fun v1 =>
    rk 4 v1 M fun a2 =>
    bdR (fEntry_isMark a2 M) fun v5 =>
    if v5 = (i3 0) then
      rk 10 r2 M fun a6 =>
      bdR (fVersion_isCold a6 M) fun v9 =>
      if v9 = (i3 0) then
        fHb_byteOf_j38 a0 r1 r2 x3 M
      else
        fgI 11 1109 (some a0) M fun v10 =>
        rk 10 r2 M fun a12 =>
        bdR (fVersion_isOpen a12 v10 M) fun v13 =>
        if v13 = (i3 0) then
          some (m3, M)
        else
          fHb_byteOf_j38 a0 r1 r2 x3 M
    else
      some (m2, M))) := rfl
theorem fKeys_isKey_j33_E  : fKeys_isKey_j33 = (
  rZ (i3 1) (some (i3 1))) := rfl
theorem fKeys_isKey_E {x0 : Int32} : fKeys_isKey x0 = (
  if x0 < (i3 1) then
    rZ (i3 0) (some (i3 0))
  else
    if (i3 124) < x0 then
      rZ (i3 0) (some (i3 0))
    else
      if (x0 - x0 / (i3 5) * (i3 5)) = (i3 0) then
        rZ (i3 0) (some (i3 0))
      else
        if x0 < (i3 25) then
          fKeys_isKey_j33
        else
          if ((x0 / (i3 5)) - (x0 / (i3 5)) / (i3 5) * (i3 5)) = (i3 0) then
            rZ (i3 0) (some (i3 0))
          else
            fKeys_isKey_j33) := rfl
theorem fHb_checkBeginning_j16_E {s0 : Int32} {M : Mm} {n : Nat} : fHb_checkBeginning_j16 s0 M n = (
  bdC (fHb_checkArgument s0 M n) n fun v1 M2 n3 =>
  some (.inl (), M2, n3)) := rfl
theorem fHb_checkBeginning_j11_E {M : Mm} {n : Nat} : fHb_checkBeginning_j11 M n = (
  fHb_checkBeginning_j16 (i3 1) M n) := rfl
theorem fHb_checkBeginning_E {x0 : Int32} {M : Mm} {n : Nat} : fHb_checkBeginning x0 M n = (
  if x0 = (i3 0) then
    fHb_checkBeginning_j11 M n
  else
    bdR (fKeys_isKey x0) fun v1 =>
    if v1 = (i3 0) then
      fHb_checkBeginning_j16 (i3 0) M n
    else
      fHb_checkBeginning_j11 M n) := rfl
theorem fHb_checkKey_E {x0 : Int32} {M : Mm} {n : Nat} : fHb_checkKey x0 M n = (
  bdR (fKeys_isKey x0) fun v1 =>
  bdC (fHb_checkArgument v1 M n) n fun v2 M3 n4 =>
  some (.inl (), M3, n4)) := rfl
theorem fBytes_makeEmpty_E {a0 : Nat} {M : Mm} : fBytes_makeEmpty a0 M = (
  fpI 1 101 (some a0) (i3 0) M fun M1 =>
  some ((), M1)) := rfl
theorem fHb_clear_E {a0 : Nat} {M : Mm} : fHb_clear a0 M = (
  fgR 11 1102 (some a0) M fun v1 =>
  fgI 1 101 v1 M fun v2 =>
  fgR 11 1102 (some a0) M fun v3 =>
  rk 1 v3 M fun a4 =>
  bdW (fBytes_makeEmpty a4 M) fun v7 M8 =>
  some (v2, M8)) := rfl
theorem fHb_cost_E {a0 : Nat} {x1 : Int32} {M : Mm} {n : Nat} : fHb_cost a0 x1 M n = (
  bdC (fHb_checkRange x1 (i3 0) (i3 2) M n) n fun v1 M2 n3 =>
  fgR 11 1107 (some a0) M2 fun v4 =>
  alI 21 v4 x1 M2 fun v5 =>
  some (.inl v5, M2, n3)) := rfl
theorem fStore_isUp_E {a0 : Nat} {x1 : Int32} {M : Mm} : fStore_isUp a0 x1 M = (
  if x1 < (i3 0) then
    rZ (i3 0) (some (i3 0))
  else
    fgR 8 800 (some a0) M fun v1 =>
    aln v1 M fun v2 =>
    if v2 ≤ x1 then
      rZ (i3 0) (some (i3 0))
    else
      fgR 8 800 (some a0) M fun v3 =>
      alI 22 v3 x1 M fun v4 =>
      if v4 = (i3 0) then
        rZ (i3 0) (some (i3 0))
      else
        rZ (i3 1) (some (i3 1))) := rfl
theorem fStore_manyUp_j21_E {a0 : Nat} {k4 : Int32 → Int32 → Mm → Option (Int32)} {x1 : Int32} {x2 : Int32} {M : Mm} : fStore_manyUp_j21 a0 k4 x1 x2 M = (
  k4 x1 (x2 + (i3 1)) M) := rfl
theorem fStore_manyUp_b4_E {a0 : Nat} {k4 : Int32 → Int32 → Mm → Option (Int32)} {x1 : Int32} {x2 : Int32} {M : Mm} : fStore_manyUp_b4 a0 k4 x1 x2 M = (
  if (i3 6) ≤ x2 then
    some x1
  else
    rk 8 (some a0) M fun _ =>
    bdR (fStore_isUp a0 x2 M) fun v2 =>
    if v2 = (i3 0) then
      fStore_manyUp_j21 a0 k4 x1 x2 M
    else
      fStore_manyUp_j21 a0 k4 (x1 + (i3 1)) x2 M) := rfl
theorem fStore_manyUp_l4_S {a0 : Nat} {fu : Nat} {x1 : Int32} {x2 : Int32} {M : Mm} : fStore_manyUp_l4 a0 (fu + 1) x1 x2 M = fStore_manyUp_b4 a0 (fStore_manyUp_l4 a0 fu) x1 x2 M := rfl
theorem fStore_manyUp_E {a0 : Nat} {M : Mm} : fStore_manyUp a0 M = (
  fStore_manyUp_l4 a0 FU (i3 0) (i3 0) M) := rfl
theorem fCut_endsPart_E {r0 : Option Nat} {x1 : Int32} {x2 : Int32} {M : Mm} : fCut_endsPart r0 x1 x2 M = (
  if (x2 - x1) = (i3 6) then
    rZ (i3 1) (some (i3 1))
  else
    if (x2 - x1) < (i3 2) then
      rZ (i3 0) (some (i3 0))
    else
      rk 1 r0 M fun a1 =>
      bdR (fBytes_at a1 (x2 - (i3 2)) M) fun v4 =>
      rk 1 r0 M fun a6 =>
      bdR (fBytes_at a6 (x2 - (i3 1)) M) fun v7 =>
      if ((((i3 3) * v4) + v7) - (((i3 3) * v4) + v7) / (i3 5) * (i3 5)) = (i3 0) then
        rZ (i3 1) (some (i3 1))
      else
        rZ (i3 0) (some (i3 0))) := rfl
theorem fCut_addPart_E {a0 : Nat} {x1 : Int32} {x2 : Int32} {M : Mm} : fCut_addPart a0 x1 x2 M = (
  fgI 3 302 (some a0) M fun v1 =>
  if v1 < (i3 0) then
    some ((), M)
  else
    fgI 3 302 (some a0) M fun v2 =>
    fgR 3 300 (some a0) M fun v3 =>
    aln v3 M fun v4 =>
    if v4 ≤ v2 then
      some ((), M)
    else
      fgI 3 302 (some a0) M fun v5 =>
      fgR 3 301 (some a0) M fun v6 =>
      aln v6 M fun v7 =>
      if v7 ≤ v5 then
        some ((), M)
      else
        fgR 3 300 (some a0) M fun v8 =>
        fgI 3 302 (some a0) M fun v9 =>
        asI v8 v9 x1 M fun M10 =>
        fgR 3 301 (some a0) M10 fun v11 =>
        fgI 3 302 (some a0) M10 fun v12 =>
        asI v11 v12 x2 M10 fun M13 =>
        fgI 3 302 (some a0) M13 fun v14 =>
        fpI 3 302 (some a0) (v14 + (i3 1)) M13 fun M15 =>
        some ((), M15)) := rfl
theorem fCut_cut_j42_E {a0 : Nat} {k9 : Option Nat → Int32 → Int32 → Mm → Option (Unit × Mm)} {r1 : Option Nat} {x2 : Int32} {x3 : Int32} {M : Mm} : fCut_cut_j42 a0 k9 r1 x2 x3 M = (
  k9 r1 x2 (x3 + (i3 1)) M) := rfl
theorem fCut_cut_j34_E {a0 : Nat} {k9 : Option Nat → Int32 → Int32 → Mm → Option (Unit × Mm)} {r1 : Option Nat} {x2 : Int32} {x3 : Int32} {M : Mm} : fCut_cut_j34 a0 k9 r1 x2 x3 M = (
  rk 3 (some a0) M fun _ =>
  bdW (fCut_addPart a0 x2 x3 M) fun v2 M3 =>
  fCut_cut_j42 a0 k9 r1 x3 x3 M3) := rfl
theorem fCut_cut_b9_E {a0 : Nat} {k9 : Option Nat → Int32 → Int32 → Mm → Option (Unit × Mm)} {r1 : Option Nat} {x2 : Int32} {x3 : Int32} {M : Mm} : fCut_cut_b9 a0 k9 r1 x2 x3 M = (
  fgI 1 101 r1 M fun v1 =>
  if v1 < x3 then
    some ((), M)
  else
    fgI 1 101 r1 M fun v2 =>
    if x3 = v2 then
      fCut_cut_j34 a0 k9 r1 x2 x3 M
    else
      bdR (fCut_endsPart r1 x2 x3 M) fun v3 =>
      if v3 = (i3 0) then
        fCut_cut_j42 a0 k9 r1 x2 x3 M
      else
        fCut_cut_j34 a0 k9 r1 x2 x3 M) := rfl
theorem fCut_cut_l9_S {a0 : Nat} {fu : Nat} {r1 : Option Nat} {x2 : Int32} {x3 : Int32} {M : Mm} : fCut_cut_l9 a0 (fu + 1) r1 x2 x3 M = fCut_cut_b9 a0 (fCut_cut_l9 a0 fu) r1 x2 x3 M := rfl
theorem fCut_cut_E {a0 : Nat} {r1 : Option Nat} {M : Mm} : fCut_cut a0 r1 M = (
  fpI 3 302 (some a0) (i3 0) M fun M1 =>
  fCut_cut_l9 a0 FU r1 (i3 0) (i3 1) M1) := rfl
theorem fCut_startOf_E {a0 : Nat} {x1 : Int32} {M : Mm} : fCut_startOf a0 x1 M = (
  if x1 < (i3 0) then
    some (i3 0)
  else
    fgR 3 300 (some a0) M fun v1 =>
    aln v1 M fun v2 =>
    if v2 ≤ x1 then
      some (i3 0)
    else
      fgR 3 300 (some a0) M fun v3 =>
      alI 21 v3 x1 M fun v4 =>
      some v4) := rfl
theorem fCut_endOf_E {a0 : Nat} {x1 : Int32} {M : Mm} : fCut_endOf a0 x1 M = (
  if x1 < (i3 0) then
    some (i3 0)
  else
    fgR 3 301 (some a0) M fun v1 =>
    aln v1 M fun v2 =>
    if v2 ≤ x1 then
      some (i3 0)
    else
      fgR 3 301 (some a0) M fun v3 =>
      alI 21 v3 x1 M fun v4 =>
      some v4) := rfl
theorem fPart_isSame_b15_E {a0 : Nat} {k15 : Option Nat → Int32 → Int32 → Mm → Option (Int32)} {r1 : Option Nat} {x2 : Int32} {x4 : Int32} {M : Mm} : fPart_isSame_b15 a0 k15 r1 x2 x4 M = (
  fgI 5 501 (some a0) M fun v1 =>
  if v1 ≤ x4 then
    rZ (i3 1) (some (i3 1))
  else
    fgR 5 502 (some a0) M fun v2 =>
    aln v2 M fun v3 =>
    if v3 ≤ x4 then
      rZ (i3 1) (some (i3 1))
    else
      fgR 5 502 (some a0) M fun v4 =>
      alI 20 v4 x4 M fun v5 =>
      rk 1 r1 M fun a6 =>
      bdR (fBytes_at a6 (x2 + x4) M) fun v9 =>
      if v5 = v9 then
        k15 r1 x2 (x4 + (i3 1)) M
      else
        rZ (i3 0) (some (i3 0))) := rfl
theorem fPart_isSame_l15_S {a0 : Nat} {fu : Nat} {r1 : Option Nat} {x2 : Int32} {x4 : Int32} {M : Mm} : fPart_isSame_l15 a0 (fu + 1) r1 x2 x4 M = fPart_isSame_b15 a0 (fPart_isSame_l15 a0 fu) r1 x2 x4 M := rfl
theorem fPart_isSame_E {a0 : Nat} {r1 : Option Nat} {x2 : Int32} {x3 : Int32} {M : Mm} : fPart_isSame a0 r1 x2 x3 M = (
  fgI 5 501 (some a0) M fun v1 =>
  if v1 = (x3 - x2) then
    fPart_isSame_l15 a0 FU r1 x2 (i3 0) M
  else
    rZ (i3 0) (some (i3 0))) := rfl
theorem fStore_find_j51_E {a0 : Nat} {k3 : Option Nat → Int32 → Int32 → Int32 → Mm → Option (Option Nat)} {r1 : Option Nat} {x2 : Int32} {x3 : Int32} {x4 : Int32} {M : Mm} : fStore_find_j51 a0 k3 r1 x2 x3 x4 M = (
  k3 r1 x2 x3 (x4 + (i3 1)) M) := rfl
theorem fStore_find_b3_E {a0 : Nat} {k3 : Option Nat → Int32 → Int32 → Int32 → Mm → Option (Option Nat)} {r1 : Option Nat} {x2 : Int32} {x3 : Int32} {x4 : Int32} {M : Mm} : fStore_find_b3 a0 k3 r1 x2 x3 x4 M = (
  fgR 8 801 (some a0) M fun v1 =>
  rk 12 v1 M fun a2 =>
  bdR (fAl_size a2 M) fun v5 =>
  if v5 ≤ x4 then
    some none
  else
    fgR 8 801 (some a0) M fun v6 =>
    rk 12 v6 M fun a7 =>
    bdR (fAl_get a7 x4 M) fun v10 =>
    fca 5 v10 M fun v11 =>
    fgI 5 507 v11 M fun v12 =>
    if v12 = (i3 0) then
      rk 5 v11 M fun a13 =>
      bdR (fPart_isSame a13 r1 x2 x3 M) fun v16 =>
      if v16 = (i3 0) then
        fStore_find_j51 a0 k3 r1 x2 x3 x4 M
      else
        some v11
    else
      fStore_find_j51 a0 k3 r1 x2 x3 x4 M) := rfl
theorem fStore_find_l3_S {a0 : Nat} {fu : Nat} {r1 : Option Nat} {x2 : Int32} {x3 : Int32} {x4 : Int32} {M : Mm} : fStore_find_l3 a0 (fu + 1) r1 x2 x3 x4 M = fStore_find_b3 a0 (fStore_find_l3 a0 fu) r1 x2 x3 x4 M := rfl
theorem fStore_find_E {a0 : Nat} {r1 : Option Nat} {x2 : Int32} {x3 : Int32} {M : Mm} : fStore_find a0 r1 x2 x3 M = (
  fStore_find_l3 a0 FU r1 x2 x3 (i3 0) M) := rfl
theorem fStore_areSame_b46_E {a0 : Nat} {k46 : Option Nat → Int32 → Int32 → Int32 → Int32 → Mm → Option (Int32)} {r1 : Option Nat} {x2 : Int32} {x3 : Int32} {x4 : Int32} {x5 : Int32} {M : Mm} : fStore_areSame_b46 a0 k46 r1 x2 x3 x4 x5 M = (
  if x4 ≤ x5 then
    rZ (i3 1) (some (i3 1))
  else
    fgR 8 802 (some a0) M fun v1 =>
    rk 3 v1 M fun a2 =>
    bdR (fCut_startOf a2 x2 M) fun v5 =>
    rk 1 r1 M fun a6 =>
    bdR (fBytes_at a6 (v5 + x5) M) fun v9 =>
    fgR 8 802 (some a0) M fun v10 =>
    rk 3 v10 M fun a11 =>
    bdR (fCut_startOf a11 x3 M) fun v14 =>
    rk 1 r1 M fun a16 =>
    bdR (fBytes_at a16 (v14 + x5) M) fun v17 =>
    if v9 = v17 then
      k46 r1 x2 x3 x4 (x5 + (i3 1)) M
    else
      rZ (i3 0) (some (i3 0))) := rfl
theorem fStore_areSame_l46_S {a0 : Nat} {fu : Nat} {r1 : Option Nat} {x2 : Int32} {x3 : Int32} {x4 : Int32} {x5 : Int32} {M : Mm} : fStore_areSame_l46 a0 (fu + 1) r1 x2 x3 x4 x5 M = fStore_areSame_b46 a0 (fStore_areSame_l46 a0 fu) r1 x2 x3 x4 x5 M := rfl
theorem fStore_areSame_E {a0 : Nat} {r1 : Option Nat} {x2 : Int32} {x3 : Int32} {M : Mm} : fStore_areSame a0 r1 x2 x3 M = (
  fgR 8 802 (some a0) M fun v1 =>
  rk 3 v1 M fun a2 =>
  bdR (fCut_endOf a2 x2 M) fun v5 =>
  fgR 8 802 (some a0) M fun v6 =>
  rk 3 v6 M fun a7 =>
  bdR (fCut_startOf a7 x2 M) fun v10 =>
  fgR 8 802 (some a0) M fun v11 =>
  rk 3 v11 M fun a12 =>
  bdR (fCut_endOf a12 x3 M) fun v15 =>
  fgR 8 802 (some a0) M fun v16 =>
  rk 3 v16 M fun a17 =>
  bdR (fCut_startOf a17 x3 M) fun v20 =>
  if (v5 - v10) = (v15 - v20) then
    fStore_areSame_l46 a0 FU r1 x2 x3 (v5 - v10) (i3 0) M
  else
    rZ (i3 0) (some (i3 0))) := rfl
theorem fStore_isFirstInCut_b2_E {a0 : Nat} {k2 : Option Nat → Int32 → Int32 → Mm → Option (Int32)} {r1 : Option Nat} {x2 : Int32} {x3 : Int32} {M : Mm} : fStore_isFirstInCut_b2 a0 k2 r1 x2 x3 M = (
  if x2 ≤ x3 then
    rZ (i3 1) (some (i3 1))
  else
    rk 8 (some a0) M fun _ =>
    bdR (fStore_areSame a0 r1 x3 x2 M) fun v2 =>
    if v2 = (i3 0) then
      k2 r1 x2 (x3 + (i3 1)) M
    else
      rZ (i3 0) (some (i3 0))) := rfl
theorem fStore_isFirstInCut_l2_S {a0 : Nat} {fu : Nat} {r1 : Option Nat} {x2 : Int32} {x3 : Int32} {M : Mm} : fStore_isFirstInCut_l2 a0 (fu + 1) r1 x2 x3 M = fStore_isFirstInCut_b2 a0 (fStore_isFirstInCut_l2 a0 fu) r1 x2 x3 M := rfl
theorem fStore_isFirstInCut_E {a0 : Nat} {r1 : Option Nat} {x2 : Int32} {M : Mm} : fStore_isFirstInCut a0 r1 x2 M = (
  fStore_isFirstInCut_l2 a0 FU r1 x2 (i3 0) M) := rfl
theorem fStore_manyEverWith_j65_E {a0 : Nat} {k18 : Option Nat → Int32 → Int32 → Mm → Option (Int32 × Mm)} {r1 : Option Nat} {x2 : Int32} {x3 : Int32} {M : Mm} : fStore_manyEverWith_j65 a0 k18 r1 x2 x3 M = (
  k18 r1 x2 (x3 + (i3 1)) M) := rfl
theorem fStore_manyEverWith_b18_E {a0 : Nat} {k18 : Option Nat → Int32 → Int32 → Mm → Option (Int32 × Mm)} {r1 : Option Nat} {x2 : Int32} {x3 : Int32} {M : Mm} : fStore_manyEverWith_b18 a0 k18 r1 x2 x3 M = (
  fgR 8 802 (some a0) M fun v1 =>
  fgI 3 302 v1 M fun v2 =>
  if v2 ≤ x3 then
    some (x2, M)
  else
    fgR 8 802 (some a0) M fun v3 =>
    rk 3 v3 M fun a4 =>
    bdR (fCut_startOf a4 x3 M) fun v7 =>
    fgR 8 802 (some a0) M fun v8 =>
    rk 3 v8 M fun a9 =>
    bdR (fCut_endOf a9 x3 M) fun v12 =>
    rk 8 (some a0) M fun _ =>
    bdR (fStore_find a0 r1 v7 v12 M) fun v14 =>
    ifN v14
      (rk 8 (some a0) M fun _ =>
      bdR (fStore_isFirstInCut a0 r1 x3 M) fun v16 =>
      if v16 = (i3 0) then
        fStore_manyEverWith_j65 a0 k18 r1 x2 x3 M
      else
        fStore_manyEverWith_j65 a0 k18 r1 (x2 + (i3 1)) x3 M)
      (fStore_manyEverWith_j65 a0 k18 r1 x2 x3 M)) := rfl
theorem fStore_manyEverWith_l18_S {a0 : Nat} {fu : Nat} {r1 : Option Nat} {x2 : Int32} {x3 : Int32} {M : Mm} : fStore_manyEverWith_l18 a0 (fu + 1) r1 x2 x3 M = fStore_manyEverWith_b18 a0 (fStore_manyEverWith_l18 a0 fu) r1 x2 x3 M := rfl
theorem fStore_manyEverWith_E {a0 : Nat} {r1 : Option Nat} {M : Mm} : fStore_manyEverWith a0 r1 M = (
  fgR 8 802 (some a0) M fun v1 =>
  rk 3 v1 M fun a2 =>
  bdW (fCut_cut a2 r1 M) fun v5 M6 =>
  fgR 8 801 (some a0) M6 fun v7 =>
  rk 12 v7 M6 fun a8 =>
  bdR (fAl_size a8 M6) fun v11 =>
  fStore_manyEverWith_l18 a0 FU r1 v11 (i3 0) M6) := rfl
theorem fRegion_hasRoom_j19_E {a0 : Nat} {M : Mm} : fRegion_hasRoom_j19 a0 M = (
  fgR 6 601 (some a0) M fun v1 =>
  rk 12 v1 M fun a2 =>
  bdR (fAl_size a2 M) fun v5 =>
  if (i3 40) ≤ v5 then
    rZ (i3 0) (some ((i3 0), M))
  else
    rZ (i3 1) (some ((i3 1), M))) := rfl
theorem fRegion_hasRoom_E {a0 : Nat} {r1 : Option Nat} {M : Mm} : fRegion_hasRoom a0 r1 M = (
  fgR 6 601 (some a0) M fun v1 =>
  rk 12 v1 M fun a2 =>
  bdR (fAl_size a2 M) fun v5 =>
  if (i3 40) ≤ v5 then
    fRegion_hasRoom_j19 a0 M
  else
    fgI 1 101 r1 M fun v6 =>
    if v6 = (i3 0) then
      fRegion_hasRoom_j19 a0 M
    else
      fgR 6 600 (some a0) M fun v7 =>
      rk 8 v7 M fun a8 =>
      bdR (fStore_manyUp a8 M) fun v11 =>
      if v11 < (i3 3) then
        rZ (i3 0) (some ((i3 0), M))
      else
        fgR 6 600 (some a0) M fun v12 =>
        rk 8 v12 M fun a13 =>
        bdW (fStore_manyEverWith a13 r1 M) fun v16 M17 =>
        if (i3 90) < v16 then
          rZ (i3 0) (some ((i3 0), M17))
        else
          rZ (i3 1) (some ((i3 1), M17))) := rfl
theorem fEntry_init_E {a0 : Nat} {x1 : Int32} {x2 : Int32} {x3 : Int32} {M : Mm} {n : Nat} : fEntry_init a0 x1 x2 x3 M n = (
  nwO 1 M n fun y1 M2 n3 =>
  rk 1 y1 M2 fun a4 =>
  bdN (fBytes_init a4 M2 n3) n3 fun v7 M8 n9 =>
  fpR 4 403 (some a0) y1 M8 fun M10 =>
  fpI 4 400 (some a0) x1 M10 fun M11 =>
  fpI 4 401 (some a0) x2 M11 fun M12 =>
  fpI 4 402 (some a0) x3 M12 fun M13 =>
  some (.inl (), M13, n9)) := rfl
theorem fBytes_append_E {a0 : Nat} {x1 : Int32} {M : Mm} : fBytes_append a0 x1 M = (
  fgI 1 101 (some a0) M fun v1 =>
  if v1 < (i3 0) then
    some ((), M)
  else
    fgI 1 101 (some a0) M fun v2 =>
    fgR 1 100 (some a0) M fun v3 =>
    aln v3 M fun v4 =>
    if v4 ≤ v2 then
      some ((), M)
    else
      fgR 1 100 (some a0) M fun v5 =>
      fgI 1 101 (some a0) M fun v6 =>
      asB v5 v6 ((x1).toInt8.toInt32) M fun M7 =>
      fgI 1 101 (some a0) M7 fun v8 =>
      fpI 1 101 (some a0) (v8 + (i3 1)) M7 fun M9 =>
      some ((), M9)) := rfl
theorem fBytes_appendAll_b2_E {a0 : Nat} {k2 : Option Nat → Int32 → Mm → Option (Unit × Mm)} {r1 : Option Nat} {x2 : Int32} {M : Mm} : fBytes_appendAll_b2 a0 k2 r1 x2 M = (
  fgI 1 101 r1 M fun v1 =>
  if v1 ≤ x2 then
    some ((), M)
  else
    rk 1 r1 M fun a2 =>
    bdR (fBytes_at a2 x2 M) fun v5 =>
    rk 1 (some a0) M fun _ =>
    bdW (fBytes_append a0 v5 M) fun v7 M8 =>
    k2 r1 (x2 + (i3 1)) M8) := rfl
theorem fBytes_appendAll_l2_S {a0 : Nat} {fu : Nat} {r1 : Option Nat} {x2 : Int32} {M : Mm} : fBytes_appendAll_l2 a0 (fu + 1) r1 x2 M = fBytes_appendAll_b2 a0 (fBytes_appendAll_l2 a0 fu) r1 x2 M := rfl
theorem fBytes_appendAll_E {a0 : Nat} {r1 : Option Nat} {M : Mm} : fBytes_appendAll a0 r1 M = (
  fBytes_appendAll_l2 a0 FU r1 (i3 0) M) := rfl
theorem fPart_init_j91_E {a0 : Nat} {M : Mm} {n : Nat} : fPart_init_j91 a0 M n = (
  fgR 5 504 (some a0) M fun v1 =>
  bdW (fAr_fill v1 m1 M) fun v2 M3 =>
  some (.inl (), M3, n)) := rfl
theorem fPart_init_b50_E {a0 : Nat} {k50 : Option Nat → Int32 → Int32 → Mm → Nat → Option ((Unit ⊕ Nat) × Mm × Nat)} {r2 : Option Nat} {x3 : Int32} {x5 : Int32} {M : Mm} {n : Nat} : fPart_init_b50 a0 k50 r2 x3 x5 M n = (
  fgI 5 501 (some a0) M fun v1 =>
  if v1 ≤ x5 then
    fPart_init_j91 a0 M n
  else
    fgR 5 502 (some a0) M fun v2 =>
    aln v2 M fun v3 =>
    if v3 ≤ x5 then
      fPart_init_j91 a0 M n
    else
      fgR 5 502 (some a0) M fun v4 =>
      rk 1 r2 M fun a5 =>
      bdR (fBytes_at a5 (x3 + x5) M) fun v8 =>
      asB v4 x5 ((v8).toInt8.toInt32) M fun M9 =>
      k50 r2 x3 (x5 + (i3 1)) M9 n) := rfl
theorem fPart_init_l50_S {a0 : Nat} {fu : Nat} {r2 : Option Nat} {x3 : Int32} {x5 : Int32} {M : Mm} {n : Nat} : fPart_init_l50 a0 (fu + 1) r2 x3 x5 M n = fPart_init_b50 a0 (fPart_init_l50 a0 fu) r2 x3 x5 M n := rfl
theorem fPart_init_E {a0 : Nat} {x1 : Int32} {r2 : Option Nat} {x3 : Int32} {x4 : Int32} {M : Mm} {n : Nat} : fPart_init a0 x1 r2 x3 x4 M n = (
  nwA 20 300 (i3 6) M n fun y1 M2 n3 =>
  fpR 5 502 (some a0) y1 M2 fun M4 =>
  nwA 20 300 (i3 10) M4 n3 fun y5 M6 n7 =>
  fpR 5 503 (some a0) y5 M6 fun M8 =>
  nwA 21 300 (i3 5) M8 n7 fun y9 M10 n11 =>
  fpR 5 504 (some a0) y9 M10 fun M12 =>
  nwA 22 300 (i3 5) M12 n11 fun y13 M14 n15 =>
  fpR 5 505 (some a0) y13 M14 fun M16 =>
  fpI 5 500 (some a0) x1 M16 fun M17 =>
  fpI 5 501 (some a0) (x4 - x3) M17 fun M18 =>
  fPart_init_l50 a0 FU r2 x3 (i3 0) M18 n15) := rfl
theorem fAs_newLength_j21_E {x0 : Int32} {x1 : Int32} : fAs_newLength_j21 x0 x1 = (
  none) := rfl
theorem fAs_newLength_E {x0 : Int32} {x1 : Int32} {x2 : Int32} : fAs_newLength x0 x1 x2 = (
  if (x0 + (if x1 < x2 then x2 else x1)) ≤ (i3 0) then
    fAs_newLength_j21 x0 x1
  else
    if (i3 2147483639) < (x0 + (if x1 < x2 then x2 else x1)) then
      fAs_newLength_j21 x0 x1
    else
      some (x0 + (if x1 < x2 then x2 else x1))) := rfl
theorem fAr_copyOf2_E {r0 : Option Nat} {x1 : Int32} {M : Mm} {n : Nat} : fAr_copyOf2 r0 x1 M n = (
  nwA 23 300 x1 M n fun y1 M2 n3 =>
  aln r0 M2 fun v4 =>
  acp r0 (i3 0) y1 (i3 0) (if x1 < v4 then x1 else v4) M2 fun M5 =>
  some (.inl y1, M5, n3)) := rfl
theorem fAr_copyOf1_E {r0 : Option Nat} {x1 : Int32} {M : Mm} {n : Nat} : fAr_copyOf1 r0 x1 M n = (
  rk 23 r0 M fun _ =>
  bdC (fAr_copyOf2 r0 x1 M n) n fun v1 M2 n3 =>
  some (.inl v1, M2, n3)) := rfl
theorem fAl_grow1_j20_E {a0 : Nat} {x1 : Int32} {x2 : Int32} {M : Mm} {n : Nat} : fAl_grow1_j20 a0 x1 x2 M n = (
  bdR (fAs_newLength x2 (x1 - x2) (x2 >>> ((i3 1) &&& (i3 31)))) fun v1 =>
  fgR 12 1201 (some a0) M fun v2 =>
  bdC (fAr_copyOf1 v2 v1 M n) n fun v3 M4 n5 =>
  fpR 12 1201 (some a0) v3 M4 fun M6 =>
  some (.inl v3, M6, n5)) := rfl
theorem fAl_grow1_E {a0 : Nat} {x1 : Int32} {M : Mm} {n : Nat} : fAl_grow1 a0 x1 M n = (
  fgR 12 1201 (some a0) M fun v1 =>
  aln v1 M fun v2 =>
  if (i3 0) < v2 then
    fAl_grow1_j20 a0 x1 v2 M n
  else
    fgR 12 1201 (some a0) M fun v3 =>
    if v3 = (some (mL M 0)) then
      nwA 23 300 (if (i3 10) < x1 then x1 else (i3 10)) M n fun y4 M5 n6 =>
      fpR 12 1201 (some a0) y4 M5 fun M7 =>
      some (.inl y4, M7, n6)
    else
      fAl_grow1_j20 a0 x1 v2 M n) := rfl
theorem fAl_grow0_E {a0 : Nat} {M : Mm} {n : Nat} : fAl_grow0 a0 M n = (
  fgI 12 1202 (some a0) M fun v1 =>
  rk 12 (some a0) M fun _ =>
  bdC (fAl_grow1 a0 (v1 + (i3 1)) M n) n fun v3 M4 n5 =>
  some (.inl v3, M4, n5)) := rfl
theorem fAl_add2_j11_E {a0 : Nat} {r1 : Option Nat} {r2 : Option Nat} {x3 : Int32} {M : Mm} {n : Nat} : fAl_add2_j11 a0 r1 r2 x3 M n = (
  asP 23 r2 x3 r1 M fun M1 =>
  fpI 12 1202 (some a0) (x3 + (i3 1)) M1 fun M2 =>
  some (.inl (), M2, n)) := rfl
theorem fAl_add2_E {a0 : Nat} {r1 : Option Nat} {r2 : Option Nat} {x3 : Int32} {M : Mm} {n : Nat} : fAl_add2 a0 r1 r2 x3 M n = (
  aln r2 M fun v1 =>
  if x3 = v1 then
    rk 12 (some a0) M fun _ =>
    bdC (fAl_grow0 a0 M n) n fun v3 M4 n5 =>
    fAl_add2_j11 a0 r1 v3 x3 M4 n5
  else
    fAl_add2_j11 a0 r1 r2 x3 M n) := rfl
theorem fAl_add1_E {a0 : Nat} {r1 : Option Nat} {M : Mm} {n : Nat} : fAl_add1 a0 r1 M n = (
  fgI 12 1200 (some a0) M fun v1 =>
  fpI 12 1200 (some a0) (v1 + (i3 1)) M fun M2 =>
  fgR 12 1201 (some a0) M2 fun v3 =>
  fgI 12 1202 (some a0) M2 fun v4 =>
  rk 12 (some a0) M2 fun _ =>
  bdC (fAl_add2 a0 r1 v3 v4 M2 n) n fun v6 M7 n8 =>
  rZ (i3 1) (some (.inl (i3 1), M7, n8))) := rfl
theorem fStore_findOrAdd_E {a0 : Nat} {r1 : Option Nat} {x2 : Int32} {x3 : Int32} {M : Mm} {n : Nat} : fStore_findOrAdd a0 r1 x2 x3 M n = (
  rk 8 (some a0) M fun _ =>
  bdR (fStore_find a0 r1 x2 x3 M) fun v2 =>
  ifN v2
    (nwO 5 M n fun y3 M4 n5 =>
    fgR 8 801 (some a0) M4 fun v6 =>
    rk 12 v6 M4 fun a7 =>
    bdR (fAl_size a7 M4) fun v10 =>
    rk 5 y3 M4 fun a11 =>
    bdN (fPart_init a11 v10 r1 x2 x3 M4 n5) n5 fun v14 M15 n16 =>
    fgR 8 801 (some a0) M15 fun v17 =>
    rk 12 v17 M15 fun a18 =>
    bdC (fAl_add1 a18 y3 M15 n16) n16 fun v21 M22 n23 =>
    some (.inl y3, M22, n23))
    (some (.inl v2, M, n))) := rfl
theorem fPart_manyGood_j20_E {a0 : Nat} {k4 : Int32 → Int32 → Mm → Option (Int32)} {x1 : Int32} {x2 : Int32} {M : Mm} : fPart_manyGood_j20 a0 k4 x1 x2 M = (
  k4 x1 (x2 + (i3 1)) M) := rfl
theorem fPart_manyGood_b4_E {a0 : Nat} {k4 : Int32 → Int32 → Mm → Option (Int32)} {x1 : Int32} {x2 : Int32} {M : Mm} : fPart_manyGood_b4 a0 k4 x1 x2 M = (
  if (i3 5) ≤ x2 then
    some x1
  else
    rk 5 (some a0) M fun _ =>
    bdR (fPart_isGood a0 x2 M) fun v2 =>
    if v2 = (i3 0) then
      fPart_manyGood_j20 a0 k4 x1 x2 M
    else
      fPart_manyGood_j20 a0 k4 (x1 + (i3 1)) x2 M) := rfl
theorem fPart_manyGood_l4_S {a0 : Nat} {fu : Nat} {x1 : Int32} {x2 : Int32} {M : Mm} : fPart_manyGood_l4 a0 (fu + 1) x1 x2 M = fPart_manyGood_b4 a0 (fPart_manyGood_l4 a0 fu) x1 x2 M := rfl
theorem fPart_manyGood_E {a0 : Nat} {M : Mm} : fPart_manyGood a0 M = (
  fPart_manyGood_l4 a0 FU (i3 0) (i3 0) M) := rfl
theorem fPart_canBeRead_E {a0 : Nat} {M : Mm} : fPart_canBeRead a0 M = (
  rk 5 (some a0) M fun _ =>
  bdR (fPart_manyGood a0 M) fun v2 =>
  if v2 < (i3 3) then
    rZ (i3 0) (some (i3 0))
  else
    rZ (i3 1) (some (i3 1))) := rfl
theorem fPart_loseAll_E {a0 : Nat} {M : Mm} : fPart_loseAll a0 M = (
  fgR 5 504 (some a0) M fun v1 =>
  bdW (fAr_fill v1 m1 M) fun v2 M3 =>
  some ((), M3)) := rfl
theorem fCode_takePlain_b2_E {a0 : Nat} {k2 : Option Nat → Int32 → Mm → Option (Unit × Mm)} {r1 : Option Nat} {x2 : Int32} {M : Mm} : fCode_takePlain_b2 a0 k2 r1 x2 M = (
  fgR 2 200 (some a0) M fun v1 =>
  aln v1 M fun v2 =>
  if v2 ≤ x2 then
    some ((), M)
  else
    fgR 5 502 r1 M fun v3 =>
    aln v3 M fun v4 =>
    if v4 ≤ x2 then
      some ((), M)
    else
      fgR 2 200 (some a0) M fun v5 =>
      fgR 5 502 r1 M fun v6 =>
      alI 20 v6 x2 M fun v7 =>
      asB v5 x2 v7 M fun M8 =>
      k2 r1 (x2 + (i3 1)) M8) := rfl
theorem fCode_takePlain_l2_S {a0 : Nat} {fu : Nat} {r1 : Option Nat} {x2 : Int32} {M : Mm} : fCode_takePlain_l2 a0 (fu + 1) r1 x2 M = fCode_takePlain_b2 a0 (fCode_takePlain_l2 a0 fu) r1 x2 M := rfl
theorem fCode_takePlain_E {a0 : Nat} {r1 : Option Nat} {M : Mm} : fCode_takePlain a0 r1 M = (
  fCode_takePlain_l2 a0 FU r1 (i3 0) M) := rfl
theorem fCode_encodePlain_b15_E {a0 : Nat} {k2 : Int32 → Mm → Option (Unit × Mm)} {k15 : Int32 → Int32 → Int32 → Mm → Option (Unit × Mm)} {x1 : Int32} {x2 : Int32} {x3 : Int32} {M : Mm} : fCode_encodePlain_b15 a0 k2 k15 x1 x2 x3 M = (
  if (i3 3) ≤ x3 then
    fgR 2 201 (some a0) M fun v1 =>
    asB v1 x1 ((x2).toInt8.toInt32) M fun M2 =>
    k2 (x1 + (i3 1)) M2
  else
    rk 2 (some a0) M fun _ =>
    bdR (fCode_plainByte a0 ((x3 * (i3 2)) + (x1 - x1 / (i3 2) * (i3 2))) M) fun v4 =>
    bdR (fCode_factor (x1 / (i3 2)) x3) fun v5 =>
    bdR (fCode_times v5 v4) fun v6 =>
    k15 x1 (x2 ^^^ v6) (x3 + (i3 1)) M) := rfl
theorem fCode_encodePlain_l15_S {a0 : Nat} {k2 : Int32 → Mm → Option (Unit × Mm)} {fu : Nat} {x1 : Int32} {x2 : Int32} {x3 : Int32} {M : Mm} : fCode_encodePlain_l15 a0 k2 (fu + 1) x1 x2 x3 M = fCode_encodePlain_b15 a0 k2 (fCode_encodePlain_l15 a0 k2 fu) x1 x2 x3 M := rfl
theorem fCode_encodePlain_b2_E {a0 : Nat} {k2 : Int32 → Mm → Option (Unit × Mm)} {x1 : Int32} {M : Mm} : fCode_encodePlain_b2 a0 k2 x1 M = (
  fgR 2 201 (some a0) M fun v1 =>
  aln v1 M fun v2 =>
  if v2 ≤ x1 then
    some ((), M)
  else
    fCode_encodePlain_l15 a0 k2 FU x1 (i3 0) (i3 0) M) := rfl
theorem fCode_encodePlain_l2_S {a0 : Nat} {fu : Nat} {x1 : Int32} {M : Mm} : fCode_encodePlain_l2 a0 (fu + 1) x1 M = fCode_encodePlain_b2 a0 (fCode_encodePlain_l2 a0 fu) x1 M := rfl
theorem fCode_encodePlain_E {a0 : Nat} {M : Mm} : fCode_encodePlain a0 M = (
  fCode_encodePlain_l2 a0 FU (i3 0) M) := rfl
theorem fPart_isOn_b2_E {a0 : Nat} {k2 : Int32 → Int32 → Mm → Option (Int32)} {x1 : Int32} {x2 : Int32} {M : Mm} : fPart_isOn_b2 a0 k2 x1 x2 M = (
  fgR 5 504 (some a0) M fun v1 =>
  aln v1 M fun v2 =>
  if v2 ≤ x2 then
    rZ (i3 0) (some (i3 0))
  else
    fgR 5 504 (some a0) M fun v3 =>
    alI 21 v3 x2 M fun v4 =>
    if v4 = x1 then
      rZ (i3 1) (some (i3 1))
    else
      k2 x1 (x2 + (i3 1)) M) := rfl
theorem fPart_isOn_l2_S {a0 : Nat} {fu : Nat} {x1 : Int32} {x2 : Int32} {M : Mm} : fPart_isOn_l2 a0 (fu + 1) x1 x2 M = fPart_isOn_b2 a0 (fPart_isOn_l2 a0 fu) x1 x2 M := rfl
theorem fPart_isOn_E {a0 : Nat} {x1 : Int32} {M : Mm} : fPart_isOn a0 x1 M = (
  fPart_isOn_l2 a0 FU x1 (i3 0) M) := rfl
theorem fStore_freeNode_j72_E {a0 : Nat} {k7 : Option Nat → Int32 → Int32 → Int32 → Mm → Option (Int32)} {r1 : Option Nat} {x2 : Int32} {x3 : Int32} {x4 : Int32} {M : Mm} : fStore_freeNode_j72 a0 k7 r1 x2 x3 x4 M = (
  k7 r1 x2 x3 (x4 + (i3 1)) M) := rfl
theorem fStore_freeNode_b7_E {a0 : Nat} {k7 : Option Nat → Int32 → Int32 → Int32 → Mm → Option (Int32)} {r1 : Option Nat} {x2 : Int32} {x3 : Int32} {x4 : Int32} {M : Mm} : fStore_freeNode_b7 a0 k7 r1 x2 x3 x4 M = (
  if (i3 6) ≤ x4 then
    some x2
  else
    fgI 5 500 r1 M fun v1 =>
    fgI 5 500 r1 M fun v2 =>
    rk 8 (some a0) M fun _ =>
    bdR (fStore_isUp a0 x4 M) fun v4 =>
    if v4 = (i3 0) then
      fStore_freeNode_j72 a0 k7 r1 x2 x3 x4 M
    else
      rk 5 r1 M fun a5 =>
      bdR (fPart_isOn a5 x4 M) fun v8 =>
      if v8 = (i3 0) then
        if (((((i3 7) * v1) + ((i3 13) * x4)) + (((i3 5) * v2) * x4)) - ((((i3 7) * v1) + ((i3 13) * x4)) + (((i3 5) * v2) * x4)) / (i3 31) * (i3 31)) ≤ x3 then
          fStore_freeNode_j72 a0 k7 r1 x2 x3 x4 M
        else
          fStore_freeNode_j72 a0 k7 r1 x4 (((((i3 7) * v1) + ((i3 13) * x4)) + (((i3 5) * v2) * x4)) - ((((i3 7) * v1) + ((i3 13) * x4)) + (((i3 5) * v2) * x4)) / (i3 31) * (i3 31)) x4 M
      else
        fStore_freeNode_j72 a0 k7 r1 x2 x3 x4 M) := rfl
theorem fStore_freeNode_l7_S {a0 : Nat} {fu : Nat} {r1 : Option Nat} {x2 : Int32} {x3 : Int32} {x4 : Int32} {M : Mm} : fStore_freeNode_l7 a0 (fu + 1) r1 x2 x3 x4 M = fStore_freeNode_b7 a0 (fStore_freeNode_l7 a0 fu) r1 x2 x3 x4 M := rfl
theorem fStore_freeNode_E {a0 : Nat} {r1 : Option Nat} {M : Mm} : fStore_freeNode a0 r1 M = (
  fStore_freeNode_l7 a0 FU r1 m1 m1 (i3 0) M) := rfl
theorem fCode_codedByte_E {a0 : Nat} {x1 : Int32} {x2 : Int32} {M : Mm} : fCode_codedByte a0 x1 x2 M = (
  if ((x1 * (i3 2)) + x2) < (i3 0) then
    some (i3 0)
  else
    fgR 2 201 (some a0) M fun v1 =>
    aln v1 M fun v2 =>
    if v2 ≤ ((x1 * (i3 2)) + x2) then
      some (i3 0)
    else
      fgR 2 201 (some a0) M fun v3 =>
      alI 20 v3 ((x1 * (i3 2)) + x2) M fun v4 =>
      some v4) := rfl
theorem fPart_setShardByte_E {a0 : Nat} {x1 : Int32} {x2 : Int32} {x3 : Int32} {M : Mm} : fPart_setShardByte a0 x1 x2 x3 M = (
  if ((x1 * (i3 2)) + x2) < (i3 0) then
    some ((), M)
  else
    fgR 5 503 (some a0) M fun v1 =>
    aln v1 M fun v2 =>
    if v2 ≤ ((x1 * (i3 2)) + x2) then
      some ((), M)
    else
      fgR 5 503 (some a0) M fun v3 =>
      asB v3 ((x1 * (i3 2)) + x2) ((x3).toInt8.toInt32) M fun M4 =>
      some ((), M4)) := rfl
theorem fPart_place_b26_E {a0 : Nat} {k26 : Int32 → Option Nat → Int32 → Mm → Option (Unit × Mm)} {x1 : Int32} {r3 : Option Nat} {x4 : Int32} {M : Mm} : fPart_place_b26 a0 k26 x1 r3 x4 M = (
  if (i3 2) ≤ x4 then
    some ((), M)
  else
    rk 2 r3 M fun a1 =>
    bdR (fCode_codedByte a1 x1 x4 M) fun v4 =>
    rk 5 (some a0) M fun _ =>
    bdW (fPart_setShardByte a0 x1 x4 v4 M) fun v6 M7 =>
    k26 x1 r3 (x4 + (i3 1)) M7) := rfl
theorem fPart_place_l26_S {a0 : Nat} {fu : Nat} {x1 : Int32} {r3 : Option Nat} {x4 : Int32} {M : Mm} : fPart_place_l26 a0 (fu + 1) x1 r3 x4 M = fPart_place_b26 a0 (fPart_place_l26 a0 fu) x1 r3 x4 M := rfl
theorem fPart_place_E {a0 : Nat} {x1 : Int32} {x2 : Int32} {r3 : Option Nat} {M : Mm} : fPart_place a0 x1 x2 r3 M = (
  if x1 < (i3 0) then
    some ((), M)
  else
    if (i3 5) ≤ x1 then
      some ((), M)
    else
      fgR 5 504 (some a0) M fun v1 =>
      asI v1 x1 x2 M fun M2 =>
      fgR 5 505 (some a0) M2 fun v3 =>
      asZ v3 x1 (i3 0) M2 fun M4 =>
      fPart_place_l26 a0 FU x1 r3 (i3 0) M4) := rfl
theorem fStore_spread_j47_E {a0 : Nat} {k21 : Option Nat → Int32 → Mm → Option (Unit × Mm)} {r1 : Option Nat} {x2 : Int32} {M : Mm} : fStore_spread_j47 a0 k21 r1 x2 M = (
  k21 r1 (x2 + (i3 1)) M) := rfl
theorem fStore_spread_b21_E {a0 : Nat} {k21 : Option Nat → Int32 → Mm → Option (Unit × Mm)} {r1 : Option Nat} {x2 : Int32} {M : Mm} : fStore_spread_b21 a0 k21 r1 x2 M = (
  if (i3 5) ≤ x2 then
    some ((), M)
  else
    rk 8 (some a0) M fun _ =>
    bdR (fStore_freeNode a0 r1 M) fun v2 =>
    if v2 = m1 then
      fStore_spread_j47 a0 k21 r1 x2 M
    else
      fgR 8 803 (some a0) M fun v3 =>
      rk 5 r1 M fun a4 =>
      bdW (fPart_place a4 x2 v2 v3 M) fun v7 M8 =>
      fStore_spread_j47 a0 k21 r1 x2 M8) := rfl
theorem fStore_spread_l21_S {a0 : Nat} {fu : Nat} {r1 : Option Nat} {x2 : Int32} {M : Mm} : fStore_spread_l21 a0 (fu + 1) r1 x2 M = fStore_spread_b21 a0 (fStore_spread_l21 a0 fu) r1 x2 M := rfl
theorem fStore_spread_E {a0 : Nat} {r1 : Option Nat} {M : Mm} : fStore_spread a0 r1 M = (
  rk 5 r1 M fun a1 =>
  bdW (fPart_loseAll a1 M) fun v4 M5 =>
  fgR 8 803 (some a0) M5 fun v6 =>
  rk 2 v6 M5 fun a7 =>
  bdW (fCode_takePlain a7 r1 M5) fun v10 M11 =>
  fgR 8 803 (some a0) M11 fun v12 =>
  rk 2 v12 M11 fun a13 =>
  bdW (fCode_encodePlain a13 M11) fun v16 M17 =>
  fStore_spread_l21 a0 FU r1 (i3 0) M17) := rfl
theorem fStore_takeIn_j67_E {a0 : Nat} {k24 : Option Nat → Option Nat → Int32 → Mm → Nat → Option ((Option Nat ⊕ Nat) × Mm × Nat)} {r1 : Option Nat} {r2 : Option Nat} {x3 : Int32} {r4 : Option Nat} {M : Mm} {n : Nat} : fStore_takeIn_j67 a0 k24 r1 r2 x3 r4 M n = (
  fgI 5 506 r4 M fun v1 =>
  fpI 5 506 r4 (v1 + (i3 1)) M fun M2 =>
  fgI 5 500 r4 M2 fun v3 =>
  asI r2 x3 v3 M2 fun M4 =>
  k24 r1 r2 (x3 + (i3 1)) M4 n) := rfl
theorem fStore_takeIn_b24_E {a0 : Nat} {k24 : Option Nat → Option Nat → Int32 → Mm → Nat → Option ((Option Nat ⊕ Nat) × Mm × Nat)} {r1 : Option Nat} {r2 : Option Nat} {x3 : Int32} {M : Mm} {n : Nat} : fStore_takeIn_b24 a0 k24 r1 r2 x3 M n = (
  aln r2 M fun v1 =>
  if v1 ≤ x3 then
    some (.inl r2, M, n)
  else
    fgR 8 802 (some a0) M fun v2 =>
    rk 3 v2 M fun a3 =>
    bdR (fCut_startOf a3 x3 M) fun v6 =>
    fgR 8 802 (some a0) M fun v7 =>
    rk 3 v7 M fun a8 =>
    bdR (fCut_endOf a8 x3 M) fun v11 =>
    rk 8 (some a0) M fun _ =>
    bdC (fStore_findOrAdd a0 r1 v6 v11 M n) n fun v13 M14 n15 =>
    rk 5 v13 M14 fun a16 =>
    bdR (fPart_canBeRead a16 M14) fun v19 =>
    if v19 = (i3 0) then
      rk 8 (some a0) M14 fun _ =>
      bdW (fStore_spread a0 v13 M14) fun v21 M22 =>
      fStore_takeIn_j67 a0 k24 r1 r2 x3 v13 M22 n15
    else
      fStore_takeIn_j67 a0 k24 r1 r2 x3 v13 M14 n15) := rfl
theorem fStore_takeIn_l24_S {a0 : Nat} {fu : Nat} {r1 : Option Nat} {r2 : Option Nat} {x3 : Int32} {M : Mm} {n : Nat} : fStore_takeIn_l24 a0 (fu + 1) r1 r2 x3 M n = fStore_takeIn_b24 a0 (fStore_takeIn_l24 a0 fu) r1 r2 x3 M n := rfl
theorem fStore_takeIn_E {a0 : Nat} {r1 : Option Nat} {M : Mm} {n : Nat} : fStore_takeIn a0 r1 M n = (
  fgR 8 802 (some a0) M fun v1 =>
  rk 3 v1 M fun a2 =>
  bdW (fCut_cut a2 r1 M) fun v5 M6 =>
  fgR 8 802 (some a0) M6 fun v7 =>
  fgI 3 302 v7 M6 fun v8 =>
  nwA 21 300 (if v8 < (i3 0) then (i3 0) else v8) M6 n fun y9 M10 n11 =>
  fStore_takeIn_l24 a0 FU r1 y9 (i3 0) M10 n11) := rfl
theorem fVersion_init_E {a0 : Nat} {r1 : Option Nat} {r2 : Option Nat} {M : Mm} : fVersion_init a0 r1 r2 M = (
  fpI 10 1003 (some a0) m1 M fun M1 =>
  fpI 10 1004 (some a0) m1 M1 fun M2 =>
  fpR 10 1000 (some a0) r1 M2 fun M3 =>
  fpR 10 1001 (some a0) r2 M3 fun M4 =>
  some ((), M4)) := rfl
theorem fAl_rangeCheckForAdd_j12_E {a0 : Nat} {x1 : Int32} {M : Mm} : fAl_rangeCheckForAdd_j12 a0 x1 M = (
  none) := rfl
theorem fAl_rangeCheckForAdd_E {a0 : Nat} {x1 : Int32} {M : Mm} : fAl_rangeCheckForAdd a0 x1 M = (
  fgI 12 1202 (some a0) M fun v1 =>
  if v1 < x1 then
    fAl_rangeCheckForAdd_j12 a0 x1 M
  else
    if (i3 0) ≤ x1 then
      some ()
    else
      fAl_rangeCheckForAdd_j12 a0 x1 M) := rfl
theorem fAl_add0_j38_E {a0 : Nat} {x1 : Int32} {r2 : Option Nat} {x3 : Int32} {r4 : Option Nat} {M : Mm} {n : Nat} : fAl_add0_j38 a0 x1 r2 x3 r4 M n = (
  acp r4 x1 r4 (x1 + (i3 1)) (x3 - x1) M fun M1 =>
  asP 23 r4 x1 r2 M1 fun M2 =>
  fpI 12 1202 (some a0) (x3 + (i3 1)) M2 fun M3 =>
  some (.inl (), M3, n)) := rfl
theorem fAl_add0_E {a0 : Nat} {x1 : Int32} {r2 : Option Nat} {M : Mm} {n : Nat} : fAl_add0 a0 x1 r2 M n = (
  rk 12 (some a0) M fun _ =>
  bdR (fAl_rangeCheckForAdd a0 x1 M) fun v2 =>
  fgI 12 1200 (some a0) M fun v3 =>
  fpI 12 1200 (some a0) (v3 + (i3 1)) M fun M4 =>
  fgI 12 1202 (some a0) M4 fun v5 =>
  fgR 12 1201 (some a0) M4 fun v6 =>
  aln v6 M4 fun v7 =>
  if v5 = v7 then
    rk 12 (some a0) M4 fun _ =>
    bdC (fAl_grow0 a0 M4 n) n fun v9 M10 n11 =>
    fAl_add0_j38 a0 x1 r2 v5 v9 M10 n11
  else
    fAl_add0_j38 a0 x1 r2 v5 v6 M4 n) := rfl
theorem fRegion_take_j54_E {a0 : Nat} {r1 : Option Nat} {x2 : Int32} {M : Mm} {n : Nat} : fRegion_take_j54 a0 r1 x2 M n = (
  fgR 6 601 (some a0) M fun v1 =>
  nwO 10 M n fun y2 M3 n4 =>
  fgR 6 600 (some a0) M3 fun v5 =>
  fgR 4 403 r1 M3 fun v6 =>
  rk 8 v5 M3 fun a7 =>
  bdC (fStore_takeIn a7 v6 M3 n4) n4 fun v10 M11 n12 =>
  rk 10 y2 M11 fun a13 =>
  bdW (fVersion_init a13 r1 v10 M11) fun v16 M17 =>
  rk 12 v1 M17 fun a18 =>
  bdC (fAl_add0 a18 x2 y2 M17 n12) n12 fun v21 M22 n23 =>
  fgI 4 401 r1 M22 fun v24 =>
  if v24 < (i3 0) then
    some (.inl (), M22, n23)
  else
    fgI 4 401 r1 M22 fun v25 =>
    fgR 6 603 (some a0) M22 fun v26 =>
    aln v26 M22 fun v27 =>
    if v27 ≤ v25 then
      some (.inl (), M22, n23)
    else
      fgR 6 603 (some a0) M22 fun v28 =>
      fgI 4 401 r1 M22 fun v29 =>
      asZ v28 v29 (i3 1) M22 fun M30 =>
      some (.inl (), M30, n23)) := rfl
theorem fRegion_take_b18_E {a0 : Nat} {k18 : Option Nat → Int32 → Int32 → Mm → Nat → Option ((Unit ⊕ Nat) × Mm × Nat)} {r1 : Option Nat} {x2 : Int32} {x3 : Int32} {M : Mm} {n : Nat} : fRegion_take_b18 a0 k18 r1 x2 x3 M n = (
  if x3 < (i3 0) then
    fRegion_take_j54 a0 r1 x2 M n
  else
    fgR 6 601 (some a0) M fun v1 =>
    rk 12 v1 M fun a2 =>
    bdR (fAl_get a2 x3 M) fun v5 =>
    fca 10 v5 M fun v6 =>
    fgR 10 1000 v6 M fun v7 =>
    fgI 4 401 v7 M fun v8 =>
    fgI 4 401 r1 M fun v9 =>
    if v8 ≤ v9 then
      fRegion_take_j54 a0 r1 x2 M n
    else
      k18 r1 x3 (x3 + m1) M n) := rfl
theorem fRegion_take_l18_S {a0 : Nat} {fu : Nat} {r1 : Option Nat} {x2 : Int32} {x3 : Int32} {M : Mm} {n : Nat} : fRegion_take_l18 a0 (fu + 1) r1 x2 x3 M n = fRegion_take_b18 a0 (fRegion_take_l18 a0 fu) r1 x2 x3 M n := rfl
theorem fRegion_take_E {a0 : Nat} {r1 : Option Nat} {M : Mm} {n : Nat} : fRegion_take a0 r1 M n = (
  fgR 6 601 (some a0) M fun v1 =>
  rk 12 v1 M fun a2 =>
  bdR (fAl_size a2 M) fun v5 =>
  fgR 6 601 (some a0) M fun v6 =>
  rk 12 v6 M fun a7 =>
  bdR (fAl_size a7 M) fun v10 =>
  fRegion_take_l18 a0 FU r1 v5 (v10 - (i3 1)) M n) := rfl
theorem fHb_store_j23_E {a0 : Nat} {r1 : Option Nat} {x2 : Int32} {r3 : Option Nat} {s0 : Int32} {M : Mm} {n : Nat} : fHb_store_j23 a0 r1 x2 r3 s0 M n = (
  bdC (fHb_checkState s0 M n) n fun v1 M2 n3 =>
  fgI 11 1108 (some a0) M2 fun v4 =>
  fpI 11 1108 (some a0) (v4 + (i3 1)) M2 fun M5 =>
  nwO 4 M5 n3 fun y6 M7 n8 =>
  fgI 11 1108 (some a0) M7 fun v9 =>
  fgI 11 1109 (some a0) M7 fun v10 =>
  rk 4 y6 M7 fun a11 =>
  bdN (fEntry_init a11 x2 v9 v10 M7 n8) n8 fun v14 M15 n16 =>
  fgR 4 403 y6 M15 fun v17 =>
  rk 1 v17 M15 fun a18 =>
  bdW (fBytes_appendAll a18 r3 M15) fun v21 M22 =>
  rk 6 r1 M22 fun a23 =>
  bdC (fRegion_take a23 y6 M22 n16) n16 fun v26 M27 n28 =>
  fgR 6 602 r1 M27 fun v29 =>
  rk 12 v29 M27 fun a30 =>
  bdC (fAl_add1 a30 y6 M27 n28) n28 fun v33 M34 n35 =>
  fgI 11 1108 (some a0) M34 fun v36 =>
  some (.inl v36, M34, n35)) := rfl
theorem fHb_store_j22_E {a0 : Nat} {r1 : Option Nat} {x2 : Int32} {r3 : Option Nat} {M : Mm} {n : Nat} : fHb_store_j22 a0 r1 x2 r3 M n = (
  fHb_store_j23 a0 r1 x2 r3 (i3 0) M n) := rfl
theorem fHb_store_E {a0 : Nat} {r1 : Option Nat} {x2 : Int32} {r3 : Option Nat} {M : Mm} {n : Nat} : fHb_store a0 r1 x2 r3 M n = (
  fgI 11 1108 (some a0) M fun v1 =>
  if (i3 200) ≤ v1 then
    fHb_store_j22 a0 r1 x2 r3 M n
  else
    rk 6 r1 M fun a2 =>
    bdW (fRegion_hasRoom a2 r3 M) fun v5 M6 =>
    if v5 = (i3 0) then
      fHb_store_j22 a0 r1 x2 r3 M6 n
    else
      fHb_store_j23 a0 r1 x2 r3 (i3 1) M6 n) := rfl
theorem fHb_delete_E {a0 : Nat} {x1 : Int32} {x2 : Int32} {M : Mm} {n : Nat} : fHb_delete a0 x1 x2 M n = (
  rk 11 (some a0) M fun _ =>
  bdC (fHb_regionOf a0 x1 M n) n fun v2 M3 n4 =>
  bdC (fHb_checkKey x2 M3 n4) n4 fun v5 M6 n7 =>
  rk 6 v2 M6 fun a8 =>
  bdR (fRegion_latest a8 x2 M6) fun v11 =>
  bdR (fHb_isObject v11 M6) fun v12 =>
  if v12 = (i3 0) then
    some (.inl (i3 0), M6, n7)
  else
    fgR 11 1104 (some a0) M6 fun v13 =>
    rk 11 (some a0) M6 fun _ =>
    bdC (fHb_store a0 v2 x2 v13 M6 n7) n7 fun v15 M16 n17 =>
    some (.inl v15, M16, n17)) := rfl
theorem fHb_draft_b46_E {a0 : Nat} {k46 : Int32 → Int32 → Int32 → Int32 → Mm → Nat → Option ((Int32 ⊕ Nat) × Mm × Nat)} {x1 : Int32} {x2 : Int32} {x3 : Int32} {x4 : Int32} {M : Mm} {n : Nat} : fHb_draft_b46 a0 k46 x1 x2 x3 x4 M n = (
  if x3 ≤ x4 then
    fgR 11 1102 (some a0) M fun v1 =>
    fgI 1 101 v1 M fun v2 =>
    some (.inl v2, M, n)
  else
    fgR 11 1102 (some a0) M fun v3 =>
    rk 1 v3 M fun a4 =>
    bdW (fBytes_append a4 ((x1 + (x4 * x2)) - (x1 + (x4 * x2)) / (i3 16) * (i3 16)) M) fun v7 M8 =>
    k46 x1 x2 x3 (x4 + (i3 1)) M8 n) := rfl
theorem fHb_draft_l46_S {a0 : Nat} {fu : Nat} {x1 : Int32} {x2 : Int32} {x3 : Int32} {x4 : Int32} {M : Mm} {n : Nat} : fHb_draft_l46 a0 (fu + 1) x1 x2 x3 x4 M n = fHb_draft_b46 a0 (fHb_draft_l46 a0 fu) x1 x2 x3 x4 M n := rfl
theorem fHb_draft_j40_E {a0 : Nat} {x1 : Int32} {x2 : Int32} {x3 : Int32} {s0 : Int32} {M : Mm} {n : Nat} : fHb_draft_j40 a0 x1 x2 x3 s0 M n = (
  bdC (fHb_checkState s0 M n) n fun v1 M2 n3 =>
  fHb_draft_l46 a0 FU x1 x2 x3 (i3 0) M2 n3) := rfl
theorem fHb_draft_E {a0 : Nat} {x1 : Int32} {x2 : Int32} {x3 : Int32} {M : Mm} {n : Nat} : fHb_draft a0 x1 x2 x3 M n = (
  bdC (fHb_checkRange x1 (i3 0) (i3 15) M n) n fun v1 M2 n3 =>
  bdC (fHb_checkRange x2 (i3 0) (i3 15) M2 n3) n3 fun v4 M5 n6 =>
  bdC (fHb_checkRange x3 (i3 1) (i3 40) M5 n6) n6 fun v7 M8 n9 =>
  fgR 11 1102 (some a0) M8 fun v10 =>
  fgI 1 101 v10 M8 fun v11 =>
  if (i3 40) < (v11 + x3) then
    fHb_draft_j40 a0 x1 x2 x3 (i3 0) M8 n9
  else
    fHb_draft_j40 a0 x1 x2 x3 (i3 1) M8 n9) := rfl
theorem fRegion_manyOf_j39_E {a0 : Nat} {k4 : Int32 → Int32 → Int32 → Mm → Option (Int32)} {x1 : Int32} {x2 : Int32} {x3 : Int32} {M : Mm} : fRegion_manyOf_j39 a0 k4 x1 x2 x3 M = (
  k4 x1 x2 (x3 + (i3 1)) M) := rfl
theorem fRegion_manyOf_b4_E {a0 : Nat} {k4 : Int32 → Int32 → Int32 → Mm → Option (Int32)} {x1 : Int32} {x2 : Int32} {x3 : Int32} {M : Mm} : fRegion_manyOf_b4 a0 k4 x1 x2 x3 M = (
  fgR 6 601 (some a0) M fun v1 =>
  rk 12 v1 M fun a2 =>
  bdR (fAl_size a2 M) fun v5 =>
  if v5 ≤ x3 then
    some x2
  else
    fgR 6 601 (some a0) M fun v6 =>
    rk 12 v6 M fun a7 =>
    bdR (fAl_get a7 x3 M) fun v10 =>
    fca 10 v10 M fun v11 =>
    fgR 10 1000 v11 M fun v12 =>
    fgI 4 400 v12 M fun v13 =>
    if v13 = x1 then
      fRegion_manyOf_j39 a0 k4 x1 (x2 + (i3 1)) x3 M
    else
      fRegion_manyOf_j39 a0 k4 x1 x2 x3 M) := rfl
theorem fRegion_manyOf_l4_S {a0 : Nat} {fu : Nat} {x1 : Int32} {x2 : Int32} {x3 : Int32} {M : Mm} : fRegion_manyOf_l4 a0 (fu + 1) x1 x2 x3 M = fRegion_manyOf_b4 a0 (fRegion_manyOf_l4 a0 fu) x1 x2 x3 M := rfl
theorem fRegion_manyOf_E {a0 : Nat} {x1 : Int32} {M : Mm} : fRegion_manyOf a0 x1 M = (
  fRegion_manyOf_l4 a0 FU x1 (i3 0) (i3 0) M) := rfl
theorem fHb_drop_j33_E {a0 : Nat} {x2 : Int32} {r4 : Option Nat} {r5 : Option Nat} {s0 : Int32} {M : Mm} {n : Nat} : fHb_drop_j33 a0 x2 r4 r5 s0 M n = (
  bdC (fHb_checkState s0 M n) n fun v1 M2 n3 =>
  rk 6 r4 M2 fun a4 =>
  bdW (fRegion_takeOut a4 r5 M2) fun v7 M8 =>
  rk 6 r4 M8 fun a10 =>
  bdR (fRegion_manyOf a10 x2 M8) fun v11 =>
  some (.inl v11, M8, n3)) := rfl
theorem fHb_drop_E {a0 : Nat} {x1 : Int32} {x2 : Int32} {x3 : Int32} {M : Mm} {n : Nat} : fHb_drop a0 x1 x2 x3 M n = (
  rk 11 (some a0) M fun _ =>
  bdC (fHb_regionOf a0 x1 M n) n fun v2 M3 n4 =>
  bdC (fHb_versionOf v2 x2 x3 M3 n4) n4 fun v5 M6 n7 =>
  fgI 11 1109 (some a0) M6 fun v8 =>
  rk 10 v5 M6 fun a9 =>
  bdR (fVersion_isLocked a9 v8 M6) fun v12 =>
  if v12 = (i3 0) then
    fHb_drop_j33 a0 x2 v2 v5 (i3 1) M6 n7
  else
    fHb_drop_j33 a0 x2 v2 v5 (i3 0) M6 n7) := rfl
theorem fHb_openUpload_j47_E {a0 : Nat} {r2 : Option Nat} {s0 : Int32} {M : Mm} {n : Nat} : fHb_openUpload_j47 a0 r2 s0 M n = (
  bdC (fHb_checkIndex s0 M n) n fun v1 M2 n3 =>
  some (.inl r2, M2, n3)) := rfl
theorem fHb_openUpload_j20_E {a0 : Nat} {x1 : Int32} {s0 : Int32} {M : Mm} {n : Nat} : fHb_openUpload_j20 a0 x1 s0 M n = (
  bdC (fHb_checkIndex s0 M n) n fun v1 M2 n3 =>
  fgR 11 1105 (some a0) M2 fun v4 =>
  rk 12 v4 M2 fun a5 =>
  bdR (fAl_get a5 x1 M2) fun v8 =>
  fca 9 v8 M2 fun v9 =>
  fgI 9 903 v9 M2 fun v10 =>
  if v10 = (i3 0) then
    fHb_openUpload_j47 a0 v9 (i3 1) M2 n3
  else
    fHb_openUpload_j47 a0 v9 (i3 0) M2 n3) := rfl
theorem fHb_openUpload_j19_E {a0 : Nat} {x1 : Int32} {M : Mm} {n : Nat} : fHb_openUpload_j19 a0 x1 M n = (
  fHb_openUpload_j20 a0 x1 (i3 0) M n) := rfl
theorem fHb_openUpload_E {a0 : Nat} {x1 : Int32} {M : Mm} {n : Nat} : fHb_openUpload a0 x1 M n = (
  if x1 < (i3 0) then
    fHb_openUpload_j19 a0 x1 M n
  else
    fgR 11 1105 (some a0) M fun v1 =>
    rk 12 v1 M fun a2 =>
    bdR (fAl_size a2 M) fun v5 =>
    if v5 ≤ x1 then
      fHb_openUpload_j19 a0 x1 M n
    else
      fHb_openUpload_j20 a0 x1 (i3 1) M n) := rfl
theorem fUpload_joinInto_b6_E {a0 : Nat} {k6 : Option Nat → Int32 → Mm → Option (Unit × Mm)} {r1 : Option Nat} {x2 : Int32} {M : Mm} : fUpload_joinInto_b6 a0 k6 r1 x2 M = (
  fgR 9 902 (some a0) M fun v1 =>
  aln v1 M fun v2 =>
  if v2 ≤ x2 then
    some ((), M)
  else
    fgR 9 902 (some a0) M fun v3 =>
    alP 24 v3 x2 M fun v4 =>
    rk 1 r1 M fun a5 =>
    bdW (fBytes_appendAll a5 v4 M) fun v8 M9 =>
    k6 r1 (x2 + (i3 1)) M9) := rfl
theorem fUpload_joinInto_l6_S {a0 : Nat} {fu : Nat} {r1 : Option Nat} {x2 : Int32} {M : Mm} : fUpload_joinInto_l6 a0 (fu + 1) r1 x2 M = fUpload_joinInto_b6 a0 (fUpload_joinInto_l6 a0 fu) r1 x2 M := rfl
theorem fUpload_joinInto_E {a0 : Nat} {r1 : Option Nat} {M : Mm} : fUpload_joinInto a0 r1 M = (
  rk 1 r1 M fun a1 =>
  bdW (fBytes_makeEmpty a1 M) fun v4 M5 =>
  fUpload_joinInto_l6 a0 FU r1 (i3 0) M5) := rfl
theorem fHb_finish_j40_E {a0 : Nat} {r3 : Option Nat} {s0 : Int32} {M : Mm} {n : Nat} : fHb_finish_j40 a0 r3 s0 M n = (
  bdC (fHb_checkState s0 M n) n fun v1 M2 n3 =>
  fgR 9 900 r3 M2 fun v4 =>
  fgI 9 901 r3 M2 fun v5 =>
  fgR 11 1103 (some a0) M2 fun v6 =>
  rk 11 (some a0) M2 fun _ =>
  bdC (fHb_store a0 v4 v5 v6 M2 n3) n3 fun v8 M9 n10 =>
  fpZ 9 903 r3 (i3 1) M9 fun M11 =>
  some (.inl v8, M11, n10)) := rfl
theorem fHb_finish_E {a0 : Nat} {x1 : Int32} {x2 : Int32} {M : Mm} {n : Nat} : fHb_finish a0 x1 x2 M n = (
  rk 11 (some a0) M fun _ =>
  bdC (fHb_openUpload a0 x1 M n) n fun v2 M3 n4 =>
  if x2 = (i3 0) then
    fgR 11 1103 (some a0) M3 fun v5 =>
    rk 9 v2 M3 fun a6 =>
    bdW (fUpload_joinInto a6 v5 M3) fun v9 M10 =>
    fgR 11 1103 (some a0) M10 fun v11 =>
    fgI 1 101 v11 M10 fun v12 =>
    if v12 ≤ (i3 0) then
      fHb_finish_j40 a0 v2 (i3 0) M10 n4
    else
      fHb_finish_j40 a0 v2 (i3 1) M10 n4
  else
    fpZ 9 903 v2 (i3 1) M3 fun M13 =>
    some (.inl (i3 0), M13, n4)) := rfl
theorem fAl_isEmpty_E {a0 : Nat} {M : Mm} : fAl_isEmpty a0 M = (
  fgI 12 1202 (some a0) M fun v1 =>
  if v1 = (i3 0) then
    rZ (i3 1) (some (i3 1))
  else
    rZ (i3 0) (some (i3 0))) := rfl
theorem fRegion_hadNumber_E {a0 : Nat} {x1 : Int32} {M : Mm} : fRegion_hadNumber a0 x1 M = (
  if x1 < (i3 0) then
    rZ (i3 0) (some (i3 0))
  else
    fgR 6 603 (some a0) M fun v1 =>
    aln v1 M fun v2 =>
    if v2 ≤ x1 then
      rZ (i3 0) (some (i3 0))
    else
      fgR 6 603 (some a0) M fun v3 =>
      alI 22 v3 x1 M fun v4 =>
      if v4 = (i3 0) then
        rZ (i3 0) (some (i3 0))
      else
        rZ (i3 1) (some (i3 1))) := rfl
theorem fHb_takeFirst_j62_E {a0 : Nat} {r1 : Option Nat} {M : Mm} {n : Nat} : fHb_takeFirst_j62 a0 r1 M n = (
  fgR 6 602 r1 M fun v1 =>
  rk 12 v1 M fun a2 =>
  bdW (fAl_remove a2 (i3 0) M) fun v5 M6 =>
  rZ (i3 1) (some (.inl (i3 1), M6, n))) := rfl
theorem fHb_takeFirst_j52_E {a0 : Nat} {r1 : Option Nat} {r2 : Option Nat} {r3 : Option Nat} {x4 : Int32} {M : Mm} {n : Nat} : fHb_takeFirst_j52 a0 r1 r2 r3 x4 M n = (
  if x4 = (i3 0) then
    rk 6 r2 M fun a1 =>
    bdC (fRegion_take a1 r3 M n) n fun v4 M5 n6 =>
    fHb_takeFirst_j62 a0 r1 M5 n6
  else
    fHb_takeFirst_j62 a0 r1 M n) := rfl
theorem fHb_takeFirst_E {a0 : Nat} {r1 : Option Nat} {r2 : Option Nat} {M : Mm} {n : Nat} : fHb_takeFirst a0 r1 r2 M n = (
  fgR 6 602 r1 M fun v1 =>
  rk 12 v1 M fun a2 =>
  bdR (fAl_isEmpty a2 M) fun v5 =>
  if v5 = (i3 0) then
    fgR 6 602 r1 M fun v6 =>
    rk 12 v6 M fun a7 =>
    bdR (fAl_get a7 (i3 0) M) fun v10 =>
    fca 4 v10 M fun v11 =>
    fgI 4 401 v11 M fun v12 =>
    rk 6 r2 M fun a13 =>
    bdR (fRegion_hadNumber a13 v12 M) fun v16 =>
    if v16 = (i3 0) then
      fgR 4 403 v11 M fun v17 =>
      rk 6 r2 M fun a19 =>
      bdW (fRegion_hasRoom a19 v17 M) fun v20 M21 =>
      if v20 = (i3 0) then
        rZ (i3 0) (some (.inl (i3 0), M21, n))
      else
        fHb_takeFirst_j52 a0 r1 r2 v11 v16 M21 n
    else
      fHb_takeFirst_j52 a0 r1 r2 v11 v16 M n
  else
    rZ (i3 0) (some (.inl (i3 0), M, n))) := rfl
theorem fHb_follow_b25_E {a0 : Nat} {k25 : Int32 → Option Nat → Option Nat → Int32 → Mm → Nat → Option ((Int32 ⊕ Nat) × Mm × Nat)} {x2 : Int32} {r3 : Option Nat} {r4 : Option Nat} {x5 : Int32} {M : Mm} {n : Nat} : fHb_follow_b25 a0 k25 x2 r3 r4 x5 M n = (
  if x2 ≤ x5 then
    some (.inl x2, M, n)
  else
    rk 11 (some a0) M fun _ =>
    bdC (fHb_takeFirst a0 r3 r4 M n) n fun v2 M3 n4 =>
    if v2 = (i3 0) then
      some (.inl x5, M3, n4)
    else
      k25 x2 r3 r4 (x5 + (i3 1)) M3 n4) := rfl
theorem fHb_follow_l25_S {a0 : Nat} {fu : Nat} {x2 : Int32} {r3 : Option Nat} {r4 : Option Nat} {x5 : Int32} {M : Mm} {n : Nat} : fHb_follow_l25 a0 (fu + 1) x2 r3 r4 x5 M n = fHb_follow_b25 a0 (fHb_follow_l25 a0 fu) x2 r3 r4 x5 M n := rfl
theorem fHb_follow_E {a0 : Nat} {x1 : Int32} {x2 : Int32} {M : Mm} {n : Nat} : fHb_follow a0 x1 x2 M n = (
  rk 11 (some a0) M fun _ =>
  bdC (fHb_regionOf a0 x1 M n) n fun v2 M3 n4 =>
  rk 11 (some a0) M3 fun _ =>
  bdC (fHb_regionOf a0 ((i3 1) - x1) M3 n4) n4 fun v6 M7 n8 =>
  bdC (fHb_checkRange x2 (i3 1) (i3 99) M7 n8) n8 fun v9 M10 n11 =>
  fHb_follow_l25 a0 FU x2 v2 v6 (i3 0) M10 n11) := rfl
theorem fHb_holds_E {x0 : Int32} {r1 : Option Nat} {M : Mm} : fHb_holds x0 r1 M = (
  if x0 = m1 then
    rZ (i3 1) (some (i3 1))
  else
    if x0 = (i3 0) then
      bdR (fHb_isObject r1 M) fun v1 =>
      if v1 = (i3 0) then
        rZ (i3 1) (some (i3 1))
      else
        rZ (i3 0) (some (i3 0))
    else
      ifN r1
        (rZ (i3 0) (some (i3 0)))
        (fgR 10 1000 r1 M fun v2 =>
        fgI 4 401 v2 M fun v3 =>
        if v3 = x0 then
          rZ (i3 1) (some (i3 1))
        else
          rZ (i3 0) (some (i3 0)))) := rfl
theorem fKeys_lettersOf_E {x0 : Int32} : fKeys_lettersOf x0 = (
  if (i3 5) ≤ x0 then
    if (i3 25) ≤ x0 then
      some (i3 3)
    else
      some (i3 2)
  else
    some (i3 1)) := rfl
theorem fKeys_asWord_E {x0 : Int32} : fKeys_asWord x0 = (
  bdR (fKeys_lettersOf x0) fun v1 =>
  if v1 = (i3 1) then
    some (x0 * (i3 25))
  else
    if v1 = (i3 2) then
      some (x0 * (i3 5))
    else
      some x0) := rfl
theorem fKeys_digit_E {x0 : Int32} {x1 : Int32} : fKeys_digit x0 x1 = (
  bdR (fKeys_asWord x0) fun v1 =>
  tsw 0 2 x1 (tsl [
    (some (v1 / (i3 25))),
    (some ((v1 / (i3 5)) - (v1 / (i3 5)) / (i3 5) * (i3 5))),
    (some (v1 - v1 / (i3 5) * (i3 5)))])
    (some (i3 0))) := rfl
theorem fHb_letter_j13_E {a0 : Nat} {x1 : Int32} {x2 : Int32} {s0 : Int32} {M : Mm} {n : Nat} : fHb_letter_j13 a0 x1 x2 s0 M n = (
  bdC (fHb_checkIndex s0 M n) n fun v1 M2 n3 =>
  bdR (fKeys_digit x1 x2) fun v4 =>
  if v4 = (i3 0) then
    rC (i3 32) (some (.inl (i3 32), M2, n3))
  else
    rC ((((((i3 97) + v4) - (i3 1))).toUInt32 % 65536).toInt32) (some (.inl ((((((i3 97) + v4) - (i3 1))).toUInt32 % 65536).toInt32), M2, n3))) := rfl
theorem fHb_letter_E {a0 : Nat} {x1 : Int32} {x2 : Int32} {M : Mm} {n : Nat} : fHb_letter a0 x1 x2 M n = (
  bdC (fHb_checkKey x1 M n) n fun v1 M2 n3 =>
  if x2 < (i3 0) then
    fHb_letter_j13 a0 x1 x2 (i3 0) M2 n3
  else
    fHb_letter_j13 a0 x1 x2 (i3 1) M2 n3) := rfl
theorem fKeys_wordBehind_E {x0 : Int32} : fKeys_wordBehind x0 = (
  if x0 = (i3 0) then
    some (i3 25)
  else
    bdR (fKeys_asWord x0) fun v1 =>
    some (v1 + (i3 1))) := rfl
theorem fKeys_ofWord_E {x0 : Int32} : fKeys_ofWord x0 = (
  if (x0 - x0 / (i3 25) * (i3 25)) = (i3 0) then
    some (x0 / (i3 25))
  else
    if (x0 - x0 / (i3 5) * (i3 5)) = (i3 0) then
      some (x0 / (i3 5))
    else
      some x0) := rfl
theorem fHb_list_j93_E {a0 : Nat} {k38 : Int32 → Option Nat → Int32 → Int32 → Mm → Nat → Option ((Int32 ⊕ Nat) × Mm × Nat)} {x2 : Int32} {r5 : Option Nat} {x6 : Int32} {x7 : Int32} {M : Mm} {n : Nat} : fHb_list_j93 a0 k38 x2 r5 x6 x7 M n = (
  k38 x2 r5 x6 (x7 + (i3 1)) M n) := rfl
theorem fHb_list_b38_E {a0 : Nat} {k38 : Int32 → Option Nat → Int32 → Int32 → Mm → Nat → Option ((Int32 ⊕ Nat) × Mm × Nat)} {x2 : Int32} {r5 : Option Nat} {x6 : Int32} {x7 : Int32} {M : Mm} {n : Nat} : fHb_list_b38 a0 k38 x2 r5 x6 x7 M n = (
  if (i3 124) < x7 then
    some (.inl (i3 0), M, n)
  else
    bdR (fKeys_ofWord x7) fun v1 =>
    bdR (fKeys_isKey v1) fun v2 =>
    if v2 = (i3 0) then
      fHb_list_j93 a0 k38 x2 r5 x6 x7 M n
    else
      bdR (fKeys_begins v1 x2) fun v3 =>
      if v3 = (i3 0) then
        fHb_list_j93 a0 k38 x2 r5 x6 x7 M n
      else
        rk 6 r5 M fun a4 =>
        bdR (fRegion_latest a4 v1 M) fun v7 =>
        bdR (fHb_isObject v7 M) fun v8 =>
        if v8 = (i3 0) then
          fHb_list_j93 a0 k38 x2 r5 x6 x7 M n
        else
          if x6 = (i3 0) then
            some (.inl v1, M, n)
          else
            fHb_list_j93 a0 k38 x2 r5 (x6 + m1) x7 M n) := rfl
theorem fHb_list_l38_S {a0 : Nat} {fu : Nat} {x2 : Int32} {r5 : Option Nat} {x6 : Int32} {x7 : Int32} {M : Mm} {n : Nat} : fHb_list_l38 a0 (fu + 1) x2 r5 x6 x7 M n = fHb_list_b38 a0 (fHb_list_l38 a0 fu) x2 r5 x6 x7 M n := rfl
theorem fHb_list_j17_E {a0 : Nat} {x2 : Int32} {x3 : Int32} {x4 : Int32} {r5 : Option Nat} {s0 : Int32} {M : Mm} {n : Nat} : fHb_list_j17 a0 x2 x3 x4 r5 s0 M n = (
  bdC (fHb_checkIndex s0 M n) n fun v1 M2 n3 =>
  bdC (fHb_checkBeginning x2 M2 n3) n3 fun v4 M5 n6 =>
  bdC (fHb_checkBeginning x3 M5 n6) n6 fun v7 M8 n9 =>
  bdR (fKeys_wordBehind x3) fun v10 =>
  fHb_list_l38 a0 FU x2 r5 x4 v10 M8 n9) := rfl
theorem fHb_list_E {a0 : Nat} {x1 : Int32} {x2 : Int32} {x3 : Int32} {x4 : Int32} {M : Mm} {n : Nat} : fHb_list a0 x1 x2 x3 x4 M n = (
  rk 11 (some a0) M fun _ =>
  bdC (fHb_regionOf a0 x1 M n) n fun v2 M3 n4 =>
  if x4 < (i3 0) then
    fHb_list_j17 a0 x2 x3 x4 v2 (i3 0) M3 n4
  else
    fHb_list_j17 a0 x2 x3 x4 v2 (i3 1) M3 n4) := rfl
theorem fHb_lock_j40_E {a0 : Nat} {x4 : Int32} {r5 : Option Nat} {x6 : Int32} {s0 : Int32} {M : Mm} {n : Nat} : fHb_lock_j40 a0 x4 r5 x6 s0 M n = (
  bdC (fHb_checkState s0 M n) n fun v1 M2 n3 =>
  fpI 10 1003 r5 x4 M2 fun M4 =>
  some (.inl x6, M4, n3)) := rfl
theorem fHb_lock_E {a0 : Nat} {x1 : Int32} {x2 : Int32} {x3 : Int32} {x4 : Int32} {M : Mm} {n : Nat} : fHb_lock a0 x1 x2 x3 x4 M n = (
  rk 11 (some a0) M fun _ =>
  bdC (fHb_regionOf a0 x1 M n) n fun v2 M3 n4 =>
  bdC (fHb_versionOf v2 x2 x3 M3 n4) n4 fun v5 M6 n7 =>
  bdC (fHb_checkRange x4 (i3 0) (i3 999) M6 n7) n7 fun v8 M9 n10 =>
  fgI 10 1003 v5 M9 fun v11 =>
  if x4 < v11 then
    fHb_lock_j40 a0 x4 v5 v11 (i3 0) M9 n10
  else
    fHb_lock_j40 a0 x4 v5 v11 (i3 1) M9 n10) := rfl
theorem fStore_mendShard_j73_E {a0 : Nat} {k2 : Option Nat → Int32 → Mm → Option (Int32 × Mm)} {r1 : Option Nat} {x2 : Int32} {M : Mm} : fStore_mendShard_j73 a0 k2 r1 x2 M = (
  k2 r1 (x2 + (i3 1)) M) := rfl
theorem fStore_mendShard_j29_E {a0 : Nat} {k2 : Option Nat → Int32 → Mm → Option (Int32 × Mm)} {r1 : Option Nat} {x2 : Int32} {s0 : Int32} {M : Mm} : fStore_mendShard_j29 a0 k2 r1 x2 s0 M = (
  rk 5 r1 M fun a1 =>
  bdR (fPart_isGood a1 x2 M) fun v4 =>
  if v4 = (i3 0) then
    if s0 = m1 then
      fStore_mendShard_j73 a0 k2 r1 x2 M
    else
      fgR 8 803 (some a0) M fun v5 =>
      rk 2 v5 M fun a6 =>
      bdW (fCode_decode a6 r1 M) fun v9 M10 =>
      if v9 = (i3 0) then
        fStore_mendShard_j73 a0 k2 r1 x2 M10
      else
        fgR 8 803 (some a0) M10 fun v11 =>
        rk 2 v11 M10 fun a12 =>
        bdW (fCode_encodePlain a12 M10) fun v15 M16 =>
        fgR 8 803 (some a0) M16 fun v17 =>
        rk 5 r1 M16 fun a19 =>
        bdW (fPart_place a19 x2 s0 v17 M16) fun v20 M21 =>
        rZ (i3 1) (some ((i3 1), M21))
  else
    fStore_mendShard_j73 a0 k2 r1 x2 M) := rfl
theorem fStore_mendShard_b2_E {a0 : Nat} {k2 : Option Nat → Int32 → Mm → Option (Int32 × Mm)} {r1 : Option Nat} {x2 : Int32} {M : Mm} : fStore_mendShard_b2 a0 k2 r1 x2 M = (
  if (i3 5) ≤ x2 then
    rZ (i3 0) (some ((i3 0), M))
  else
    rk 5 r1 M fun a1 =>
    bdR (fPart_nodeOf a1 x2 M) fun v4 =>
    if v4 = m1 then
      rk 8 (some a0) M fun _ =>
      bdR (fStore_freeNode a0 r1 M) fun v6 =>
      fStore_mendShard_j29 a0 k2 r1 x2 v6 M
    else
      rk 5 r1 M fun a8 =>
      bdR (fPart_nodeOf a8 x2 M) fun v9 =>
      fStore_mendShard_j29 a0 k2 r1 x2 v9 M) := rfl
theorem fStore_mendShard_l2_S {a0 : Nat} {fu : Nat} {r1 : Option Nat} {x2 : Int32} {M : Mm} : fStore_mendShard_l2 a0 (fu + 1) r1 x2 M = fStore_mendShard_b2 a0 (fStore_mendShard_l2 a0 fu) r1 x2 M := rfl
theorem fStore_mendShard_E {a0 : Nat} {r1 : Option Nat} {M : Mm} : fStore_mendShard a0 r1 M = (
  fStore_mendShard_l2 a0 FU r1 (i3 0) M) := rfl
theorem fStore_mendOne_j57_E {a0 : Nat} {k2 : Int32 → Mm → Option (Int32 × Mm)} {k9 : Int32 → Int32 → Mm → Option (Int32 × Mm)} {x1 : Int32} {x2 : Int32} {M : Mm} : fStore_mendOne_j57 a0 k2 k9 x1 x2 M = (
  k9 x1 (x2 + (i3 1)) M) := rfl
theorem fStore_mendOne_b9_E {a0 : Nat} {k2 : Int32 → Mm → Option (Int32 × Mm)} {k9 : Int32 → Int32 → Mm → Option (Int32 × Mm)} {x1 : Int32} {x2 : Int32} {M : Mm} : fStore_mendOne_b9 a0 k2 k9 x1 x2 M = (
  fgR 8 801 (some a0) M fun v1 =>
  rk 12 v1 M fun a2 =>
  bdR (fAl_size a2 M) fun v5 =>
  if v5 ≤ x2 then
    k2 (x1 + (i3 1)) M
  else
    fgR 8 801 (some a0) M fun v6 =>
    rk 12 v6 M fun a7 =>
    bdR (fAl_get a7 x2 M) fun v10 =>
    fca 5 v10 M fun v11 =>
    fgI 5 507 v11 M fun v12 =>
    if v12 = (i3 0) then
      rk 5 v11 M fun a13 =>
      bdR (fPart_manyGood a13 M) fun v16 =>
      if v16 = x1 then
        rk 8 (some a0) M fun _ =>
        bdW (fStore_mendShard a0 v11 M) fun v18 M19 =>
        if v18 = (i3 0) then
          fStore_mendOne_j57 a0 k2 k9 x1 x2 M19
        else
          rZ (i3 1) (some ((i3 1), M19))
      else
        fStore_mendOne_j57 a0 k2 k9 x1 x2 M
    else
      fStore_mendOne_j57 a0 k2 k9 x1 x2 M) := rfl
theorem fStore_mendOne_l9_S {a0 : Nat} {k2 : Int32 → Mm → Option (Int32 × Mm)} {fu : Nat} {x1 : Int32} {x2 : Int32} {M : Mm} : fStore_mendOne_l9 a0 k2 (fu + 1) x1 x2 M = fStore_mendOne_b9 a0 k2 (fStore_mendOne_l9 a0 k2 fu) x1 x2 M := rfl
theorem fStore_mendOne_b2_E {a0 : Nat} {k2 : Int32 → Mm → Option (Int32 × Mm)} {x1 : Int32} {M : Mm} : fStore_mendOne_b2 a0 k2 x1 M = (
  if (i3 5) ≤ x1 then
    rZ (i3 0) (some ((i3 0), M))
  else
    fStore_mendOne_l9 a0 k2 FU x1 (i3 0) M) := rfl
theorem fStore_mendOne_l2_S {a0 : Nat} {fu : Nat} {x1 : Int32} {M : Mm} : fStore_mendOne_l2 a0 (fu + 1) x1 M = fStore_mendOne_b2 a0 (fStore_mendOne_l2 a0 fu) x1 M := rfl
theorem fStore_mendOne_E {a0 : Nat} {M : Mm} : fStore_mendOne a0 M = (
  fStore_mendOne_l2 a0 FU (i3 3) M) := rfl
theorem fHb_mend_b19_E {a0 : Nat} {k19 : Int32 → Option Nat → Int32 → Mm → Nat → Option ((Int32 ⊕ Nat) × Mm × Nat)} {x2 : Int32} {r3 : Option Nat} {x4 : Int32} {M : Mm} {n : Nat} : fHb_mend_b19 a0 k19 x2 r3 x4 M n = (
  if x2 ≤ x4 then
    some (.inl x2, M, n)
  else
    rk 8 r3 M fun a1 =>
    bdW (fStore_mendOne a1 M) fun v4 M5 =>
    if v4 = (i3 0) then
      some (.inl x4, M5, n)
    else
      k19 x2 r3 (x4 + (i3 1)) M5 n) := rfl
theorem fHb_mend_l19_S {a0 : Nat} {fu : Nat} {x2 : Int32} {r3 : Option Nat} {x4 : Int32} {M : Mm} {n : Nat} : fHb_mend_l19 a0 (fu + 1) x2 r3 x4 M n = fHb_mend_b19 a0 (fHb_mend_l19 a0 fu) x2 r3 x4 M n := rfl
theorem fHb_mend_E {a0 : Nat} {x1 : Int32} {x2 : Int32} {M : Mm} {n : Nat} : fHb_mend a0 x1 x2 M n = (
  rk 11 (some a0) M fun _ =>
  bdC (fHb_regionOf a0 x1 M n) n fun v2 M3 n4 =>
  fgR 6 600 v2 M3 fun v5 =>
  bdC (fHb_checkRange x2 (i3 1) (i3 99) M3 n4) n4 fun v6 M7 n8 =>
  fHb_mend_l19 a0 FU x2 v5 (i3 0) M7 n8) := rfl
theorem fStore_turn_E {a0 : Nat} {x1 : Int32} {x2 : Int32} {M : Mm} : fStore_turn a0 x1 x2 M = (
  if x1 < (i3 0) then
    some ((), M)
  else
    fgR 8 800 (some a0) M fun v1 =>
    aln v1 M fun v2 =>
    if v2 ≤ x1 then
      some ((), M)
    else
      fgR 8 800 (some a0) M fun v3 =>
      asZ v3 x1 x2 M fun M4 =>
      some ((), M4)) := rfl
theorem fPart_loseOn_j33_E {a0 : Nat} {k4 : Int32 → Int32 → Int32 → Mm → Option (Int32 × Mm)} {x1 : Int32} {x2 : Int32} {x3 : Int32} {M : Mm} : fPart_loseOn_j33 a0 k4 x1 x2 x3 M = (
  k4 x1 x2 (x3 + (i3 1)) M) := rfl
theorem fPart_loseOn_b4_E {a0 : Nat} {k4 : Int32 → Int32 → Int32 → Mm → Option (Int32 × Mm)} {x1 : Int32} {x2 : Int32} {x3 : Int32} {M : Mm} : fPart_loseOn_b4 a0 k4 x1 x2 x3 M = (
  fgR 5 504 (some a0) M fun v1 =>
  aln v1 M fun v2 =>
  if v2 ≤ x3 then
    some (x2, M)
  else
    fgR 5 504 (some a0) M fun v3 =>
    alI 21 v3 x3 M fun v4 =>
    if v4 = x1 then
      fgR 5 504 (some a0) M fun v5 =>
      asI v5 x3 m1 M fun M6 =>
      fPart_loseOn_j33 a0 k4 x1 (x2 + (i3 1)) x3 M6
    else
      fPart_loseOn_j33 a0 k4 x1 x2 x3 M) := rfl
theorem fPart_loseOn_l4_S {a0 : Nat} {fu : Nat} {x1 : Int32} {x2 : Int32} {x3 : Int32} {M : Mm} : fPart_loseOn_l4 a0 (fu + 1) x1 x2 x3 M = fPart_loseOn_b4 a0 (fPart_loseOn_l4 a0 fu) x1 x2 x3 M := rfl
theorem fPart_loseOn_E {a0 : Nat} {x1 : Int32} {M : Mm} : fPart_loseOn a0 x1 M = (
  fPart_loseOn_l4 a0 FU x1 (i3 0) (i3 0) M) := rfl
theorem fStore_loseShardsOn_b4_E {a0 : Nat} {k4 : Int32 → Int32 → Int32 → Mm → Option (Int32 × Mm)} {x1 : Int32} {x2 : Int32} {x3 : Int32} {M : Mm} : fStore_loseShardsOn_b4 a0 k4 x1 x2 x3 M = (
  fgR 8 801 (some a0) M fun v1 =>
  rk 12 v1 M fun a2 =>
  bdR (fAl_size a2 M) fun v5 =>
  if v5 ≤ x3 then
    some (x2, M)
  else
    fgR 8 801 (some a0) M fun v6 =>
    rk 12 v6 M fun a7 =>
    bdR (fAl_get a7 x3 M) fun v10 =>
    fca 5 v10 M fun v11 =>
    rk 5 v11 M fun a12 =>
    bdW (fPart_loseOn a12 x1 M) fun v15 M16 =>
    k4 x1 (x2 + v15) (x3 + (i3 1)) M16) := rfl
theorem fStore_loseShardsOn_l4_S {a0 : Nat} {fu : Nat} {x1 : Int32} {x2 : Int32} {x3 : Int32} {M : Mm} : fStore_loseShardsOn_l4 a0 (fu + 1) x1 x2 x3 M = fStore_loseShardsOn_b4 a0 (fStore_loseShardsOn_l4 a0 fu) x1 x2 x3 M := rfl
theorem fStore_loseShardsOn_E {a0 : Nat} {x1 : Int32} {M : Mm} : fStore_loseShardsOn a0 x1 M = (
  fStore_loseShardsOn_l4 a0 FU x1 (i3 0) (i3 0) M) := rfl
theorem fHb_node_j43_E {a0 : Nat} {x2 : Int32} {x3 : Int32} {r4 : Option Nat} {s0 : Int32} {M : Mm} {n : Nat} : fHb_node_j43 a0 x2 x3 r4 s0 M n = (
  bdC (fHb_checkState s0 M n) n fun v1 M2 n3 =>
  rk 8 r4 M2 fun a4 =>
  bdW (fStore_turn a4 x2 x3 M2) fun v7 M8 =>
  if x3 = (i3 0) then
    rk 8 r4 M8 fun a10 =>
    bdW (fStore_loseShardsOn a10 x2 M8) fun v11 M12 =>
    some (.inl v11, M12, n3)
  else
    some (.inl (i3 0), M8, n3)) := rfl
theorem fHb_node_j25_E {a0 : Nat} {x2 : Int32} {x3 : Int32} {r4 : Option Nat} {s0 : Int32} {M : Mm} {n : Nat} : fHb_node_j25 a0 x2 x3 r4 s0 M n = (
  bdC (fHb_checkIndex s0 M n) n fun v1 M2 n3 =>
  rk 8 r4 M2 fun a4 =>
  bdR (fStore_isUp a4 x2 M2) fun v7 =>
  if v7 = x3 then
    fHb_node_j43 a0 x2 x3 r4 (i3 0) M2 n3
  else
    fHb_node_j43 a0 x2 x3 r4 (i3 1) M2 n3) := rfl
theorem fHb_node_j24_E {a0 : Nat} {x2 : Int32} {x3 : Int32} {r4 : Option Nat} {M : Mm} {n : Nat} : fHb_node_j24 a0 x2 x3 r4 M n = (
  fHb_node_j25 a0 x2 x3 r4 (i3 0) M n) := rfl
theorem fHb_node_E {a0 : Nat} {x1 : Int32} {x2 : Int32} {x3 : Int32} {M : Mm} {n : Nat} : fHb_node a0 x1 x2 x3 M n = (
  rk 11 (some a0) M fun _ =>
  bdC (fHb_regionOf a0 x1 M n) n fun v2 M3 n4 =>
  fgR 6 600 v2 M3 fun v5 =>
  if x2 < (i3 0) then
    fHb_node_j24 a0 x2 x3 v5 M3 n4
  else
    if (i3 6) ≤ x2 then
      fHb_node_j24 a0 x2 x3 v5 M3 n4
    else
      fHb_node_j25 a0 x2 x3 v5 (i3 1) M3 n4) := rfl
theorem fHb_part_j22_E {a0 : Nat} {x4 : Int32} {r5 : Option Nat} {s0 : Int32} {M : Mm} {n : Nat} : fHb_part_j22 a0 x4 r5 s0 M n = (
  bdC (fHb_checkIndex s0 M n) n fun v1 M2 n3 =>
  fgR 10 1001 r5 M2 fun v4 =>
  aln v4 M2 fun v5 =>
  if v5 ≤ x4 then
    some (.inl m1, M2, n3)
  else
    fgR 10 1001 r5 M2 fun v6 =>
    alI 21 v6 x4 M2 fun v7 =>
    some (.inl v7, M2, n3)) := rfl
theorem fHb_part_E {a0 : Nat} {x1 : Int32} {x2 : Int32} {x3 : Int32} {x4 : Int32} {M : Mm} {n : Nat} : fHb_part a0 x1 x2 x3 x4 M n = (
  rk 11 (some a0) M fun _ =>
  bdC (fHb_regionOf a0 x1 M n) n fun v2 M3 n4 =>
  bdC (fHb_versionOf v2 x2 x3 M3 n4) n4 fun v5 M6 n7 =>
  if x4 < (i3 0) then
    fHb_part_j22 a0 x4 v5 (i3 0) M6 n7
  else
    fHb_part_j22 a0 x4 v5 (i3 1) M6 n7) := rfl
theorem fHb_partOf_E {r0 : Option Nat} {x1 : Int32} {M : Mm} {n : Nat} : fHb_partOf r0 x1 M n = (
  rk 8 r0 M fun a1 =>
  bdR (fStore_partAt a1 x1 M) fun v4 =>
  ifN v4
    (some (.inr 0, M, n + 1))
    (some (.inl v4, M, n))) := rfl
theorem fHb_partIs_E {a0 : Nat} {x1 : Int32} {x2 : Int32} {x3 : Int32} {M : Mm} {n : Nat} : fHb_partIs a0 x1 x2 x3 M n = (
  rk 11 (some a0) M fun _ =>
  bdC (fHb_regionOf a0 x1 M n) n fun v2 M3 n4 =>
  fgR 6 600 v2 M3 fun v5 =>
  bdC (fHb_partOf v5 x2 M3 n4) n4 fun v6 M7 n8 =>
  bdC (fHb_checkRange x3 (i3 0) (i3 7) M7 n8) n8 fun v9 M10 n11 =>
  tsw 0 2 x3 (tsl [
    (fgI 5 506 v6 M10 fun v16 =>
    some (.inl v16, M10, n11)),
    (fgI 5 501 v6 M10 fun v17 =>
    some (.inl v17, M10, n11)),
    (rk 5 v6 M10 fun a18 =>
    bdR (fPart_manyGood a18 M10) fun v21 =>
    some (.inl v21, M10, n11))])
    (rk 5 v6 M10 fun a12 =>
    bdR (fPart_nodeOf a12 (x3 - (i3 3)) M10) fun v15 =>
    some (.inl v15, M10, n11))) := rfl
theorem fRegion_charge_j67_E {a0 : Nat} {k2 : Option Nat → Int32 → Mm → Option (Unit × Mm)} {r1 : Option Nat} {x2 : Int32} {M : Mm} : fRegion_charge_j67 a0 k2 r1 x2 M = (
  k2 r1 (x2 + (i3 1)) M) := rfl
theorem fRegion_charge_b2_E {a0 : Nat} {k2 : Option Nat → Int32 → Mm → Option (Unit × Mm)} {r1 : Option Nat} {x2 : Int32} {M : Mm} : fRegion_charge_b2 a0 k2 r1 x2 M = (
  fgR 6 601 (some a0) M fun v1 =>
  rk 12 v1 M fun a2 =>
  bdR (fAl_size a2 M) fun v5 =>
  if v5 ≤ x2 then
    some ((), M)
  else
    fgR 6 601 (some a0) M fun v6 =>
    rk 12 v6 M fun a7 =>
    bdR (fAl_get a7 x2 M) fun v10 =>
    fca 10 v10 M fun v11 =>
    fgI 10 1002 v11 M fun v12 =>
    if v12 < (i3 0) then
      fRegion_charge_j67 a0 k2 r1 x2 M
    else
      fgI 10 1002 v11 M fun v13 =>
      aln r1 M fun v14 =>
      if v14 ≤ v13 then
        fRegion_charge_j67 a0 k2 r1 x2 M
      else
        fgI 10 1002 v11 M fun v15 =>
        alI 21 r1 v15 M fun v16 =>
        fgR 10 1000 v11 M fun v17 =>
        fgR 4 403 v17 M fun v18 =>
        fgI 1 101 v18 M fun v19 =>
        fgI 10 1002 v11 M fun v20 =>
        asI r1 v15 (v16 + (v19 * ((i3 4) >>> (v20 &&& (i3 31))))) M fun M21 =>
        fRegion_charge_j67 a0 k2 r1 x2 M21) := rfl
theorem fRegion_charge_l2_S {a0 : Nat} {fu : Nat} {r1 : Option Nat} {x2 : Int32} {M : Mm} : fRegion_charge_l2 a0 (fu + 1) r1 x2 M = fRegion_charge_b2 a0 (fRegion_charge_l2 a0 fu) r1 x2 M := rfl
theorem fRegion_charge_E {a0 : Nat} {r1 : Option Nat} {M : Mm} : fRegion_charge a0 r1 M = (
  fRegion_charge_l2 a0 FU r1 (i3 0) M) := rfl
theorem fHb_pass_b9_E {a0 : Nat} {k9 : Int32 → Int32 → Mm → Nat → Option ((Int32 ⊕ Nat) × Mm × Nat)} {x1 : Int32} {x2 : Int32} {M : Mm} {n : Nat} : fHb_pass_b9 a0 k9 x1 x2 M n = (
  if x1 ≤ x2 then
    fgI 11 1109 (some a0) M fun v1 =>
    some (.inl v1, M, n)
  else
    fgR 11 1100 (some a0) M fun v2 =>
    fgR 11 1107 (some a0) M fun v3 =>
    rk 6 v2 M fun a4 =>
    bdW (fRegion_charge a4 v3 M) fun v7 M8 =>
    fgR 11 1101 (some a0) M8 fun v9 =>
    fgR 11 1107 (some a0) M8 fun v10 =>
    rk 6 v9 M8 fun a11 =>
    bdW (fRegion_charge a11 v10 M8) fun v14 M15 =>
    fgI 11 1109 (some a0) M15 fun v16 =>
    fpI 11 1109 (some a0) (v16 + (i3 1)) M15 fun M17 =>
    rk 11 (some a0) M17 fun _ =>
    bdW (fHb_beginDay a0 M17) fun v19 M20 =>
    k9 x1 (x2 + (i3 1)) M20 n) := rfl
theorem fHb_pass_l9_S {a0 : Nat} {fu : Nat} {x1 : Int32} {x2 : Int32} {M : Mm} {n : Nat} : fHb_pass_l9 a0 (fu + 1) x1 x2 M n = fHb_pass_b9 a0 (fHb_pass_l9 a0 fu) x1 x2 M n := rfl
theorem fHb_pass_E {a0 : Nat} {x1 : Int32} {M : Mm} {n : Nat} : fHb_pass a0 x1 M n = (
  bdC (fHb_checkRange x1 (i3 1) (i3 30) M n) n fun v1 M2 n3 =>
  fHb_pass_l9 a0 FU x1 (i3 0) M2 n3) := rfl
theorem fUpload_manyOf_E {a0 : Nat} {x1 : Int32} {M : Mm} : fUpload_manyOf a0 x1 M = (
  if x1 < (i3 1) then
    some (i3 0)
  else
    fgR 9 902 (some a0) M fun v1 =>
    aln v1 M fun v2 =>
    if v2 < x1 then
      some (i3 0)
    else
      fgR 9 902 (some a0) M fun v3 =>
      alP 24 v3 (x1 - (i3 1)) M fun v4 =>
      fgI 1 101 v4 M fun v5 =>
      some v5) := rfl
theorem fUpload_total_b4_E {a0 : Nat} {k4 : Int32 → Int32 → Mm → Option (Int32)} {x1 : Int32} {x2 : Int32} {M : Mm} : fUpload_total_b4 a0 k4 x1 x2 M = (
  fgR 9 902 (some a0) M fun v1 =>
  aln v1 M fun v2 =>
  if v2 < x2 then
    some x1
  else
    rk 9 (some a0) M fun _ =>
    bdR (fUpload_manyOf a0 x2 M) fun v4 =>
    k4 (x1 + v4) (x2 + (i3 1)) M) := rfl
theorem fUpload_total_l4_S {a0 : Nat} {fu : Nat} {x1 : Int32} {x2 : Int32} {M : Mm} : fUpload_total_l4 a0 (fu + 1) x1 x2 M = fUpload_total_b4 a0 (fUpload_total_l4 a0 fu) x1 x2 M := rfl
theorem fUpload_total_E {a0 : Nat} {M : Mm} : fUpload_total a0 M = (
  fUpload_total_l4 a0 FU (i3 0) (i3 1) M) := rfl
theorem fUpload_replace_E {a0 : Nat} {x1 : Int32} {r2 : Option Nat} {M : Mm} : fUpload_replace a0 x1 r2 M = (
  if x1 < (i3 1) then
    some ((), M)
  else
    fgR 9 902 (some a0) M fun v1 =>
    aln v1 M fun v2 =>
    if v2 < x1 then
      some ((), M)
    else
      fgR 9 902 (some a0) M fun v3 =>
      alP 24 v3 (x1 - (i3 1)) M fun v4 =>
      rk 1 v4 M fun a5 =>
      bdW (fBytes_makeEmpty a5 M) fun v8 M9 =>
      fgR 9 902 (some a0) M9 fun v10 =>
      alP 24 v10 (x1 - (i3 1)) M9 fun v11 =>
      rk 1 v11 M9 fun a12 =>
      bdW (fBytes_appendAll a12 r2 M9) fun v15 M16 =>
      some ((), M16)) := rfl
theorem fHb_piece_j59_E {a0 : Nat} {x2 : Int32} {r3 : Option Nat} {s0 : Int32} {M : Mm} {n : Nat} : fHb_piece_j59 a0 x2 r3 s0 M n = (
  bdC (fHb_checkState s0 M n) n fun v1 M2 n3 =>
  fgR 11 1102 (some a0) M2 fun v4 =>
  rk 9 r3 M2 fun a5 =>
  bdW (fUpload_replace a5 x2 v4 M2) fun v8 M9 =>
  fgR 11 1102 (some a0) M9 fun v10 =>
  rk 1 v10 M9 fun a11 =>
  bdW (fBytes_makeEmpty a11 M9) fun v14 M15 =>
  rk 9 r3 M15 fun a17 =>
  bdR (fUpload_total a17 M15) fun v18 =>
  some (.inl v18, M15, n3)) := rfl
theorem fHb_piece_j28_E {a0 : Nat} {x2 : Int32} {r3 : Option Nat} {s0 : Int32} {M : Mm} {n : Nat} : fHb_piece_j28 a0 x2 r3 s0 M n = (
  bdC (fHb_checkState s0 M n) n fun v1 M2 n3 =>
  rk 9 r3 M2 fun a4 =>
  bdR (fUpload_total a4 M2) fun v7 =>
  rk 9 r3 M2 fun a9 =>
  bdR (fUpload_manyOf a9 x2 M2) fun v10 =>
  fgR 11 1102 (some a0) M2 fun v11 =>
  fgI 1 101 v11 M2 fun v12 =>
  if (i3 40) < ((v7 - v10) + v12) then
    fHb_piece_j59 a0 x2 r3 (i3 0) M2 n3
  else
    fHb_piece_j59 a0 x2 r3 (i3 1) M2 n3) := rfl
theorem fHb_piece_E {a0 : Nat} {x1 : Int32} {x2 : Int32} {M : Mm} {n : Nat} : fHb_piece a0 x1 x2 M n = (
  rk 11 (some a0) M fun _ =>
  bdC (fHb_openUpload a0 x1 M n) n fun v2 M3 n4 =>
  bdC (fHb_checkRange x2 (i3 1) (i3 9) M3 n4) n4 fun v5 M6 n7 =>
  fgR 11 1102 (some a0) M6 fun v8 =>
  fgI 1 101 v8 M6 fun v9 =>
  if v9 ≤ (i3 0) then
    fHb_piece_j28 a0 x2 v2 (i3 0) M6 n7
  else
    fHb_piece_j28 a0 x2 v2 (i3 1) M6 n7) := rfl
theorem fHb_put_j39_E {a0 : Nat} {x2 : Int32} {x3 : Int32} {r4 : Option Nat} {s0 : Int32} {M : Mm} {n : Nat} : fHb_put_j39 a0 x2 x3 r4 s0 M n = (
  bdC (fHb_checkState s0 M n) n fun v1 M2 n3 =>
  rk 6 r4 M2 fun a4 =>
  bdR (fRegion_latest a4 x2 M2) fun v7 =>
  bdR (fHb_holds x3 v7 M2) fun v8 =>
  if v8 = (i3 0) then
    some (.inl (i3 0), M2, n3)
  else
    fgR 11 1102 (some a0) M2 fun v9 =>
    rk 11 (some a0) M2 fun _ =>
    bdC (fHb_store a0 r4 x2 v9 M2 n3) n3 fun v11 M12 n13 =>
    fgR 11 1102 (some a0) M12 fun v14 =>
    rk 1 v14 M12 fun a15 =>
    bdW (fBytes_makeEmpty a15 M12) fun v18 M19 =>
    some (.inl v11, M19, n13)) := rfl
theorem fHb_put_j21_E {a0 : Nat} {x2 : Int32} {x3 : Int32} {r4 : Option Nat} {s0 : Int32} {M : Mm} {n : Nat} : fHb_put_j21 a0 x2 x3 r4 s0 M n = (
  bdC (fHb_checkArgument s0 M n) n fun v1 M2 n3 =>
  fgR 11 1102 (some a0) M2 fun v4 =>
  fgI 1 101 v4 M2 fun v5 =>
  if v5 ≤ (i3 0) then
    fHb_put_j39 a0 x2 x3 r4 (i3 0) M2 n3
  else
    fHb_put_j39 a0 x2 x3 r4 (i3 1) M2 n3) := rfl
theorem fHb_put_E {a0 : Nat} {x1 : Int32} {x2 : Int32} {x3 : Int32} {M : Mm} {n : Nat} : fHb_put a0 x1 x2 x3 M n = (
  rk 11 (some a0) M fun _ =>
  bdC (fHb_regionOf a0 x1 M n) n fun v2 M3 n4 =>
  bdC (fHb_checkKey x2 M3 n4) n4 fun v5 M6 n7 =>
  if x3 < m1 then
    fHb_put_j21 a0 x2 x3 v2 (i3 0) M6 n7
  else
    fHb_put_j21 a0 x2 x3 v2 (i3 1) M6 n7) := rfl
theorem fHb_read_j17_E {a0 : Nat} {x2 : Int32} {x3 : Int32} {x4 : Int32} {r5 : Option Nat} {s0 : Int32} {M : Mm} {n : Nat} : fHb_read_j17 a0 x2 x3 x4 r5 s0 M n = (
  bdC (fHb_checkIndex s0 M n) n fun v1 M2 n3 =>
  if x3 = (i3 0) then
    bdC (fHb_checkKey x2 M2 n3) n3 fun v4 M5 n6 =>
    rk 6 r5 M5 fun a7 =>
    bdR (fRegion_latest a7 x2 M5) fun v10 =>
    rk 11 (some a0) M5 fun _ =>
    bdW (fHb_byteOf a0 r5 v10 x4 M5) fun v12 M13 =>
    some (.inl v12, M13, n6)
  else
    bdC (fHb_versionOf r5 x2 x3 M2 n3) n3 fun v14 M15 n16 =>
    rk 11 (some a0) M15 fun _ =>
    bdW (fHb_byteOf a0 r5 v14 x4 M15) fun v18 M19 =>
    some (.inl v18, M19, n16)) := rfl
theorem fHb_read_E {a0 : Nat} {x1 : Int32} {x2 : Int32} {x3 : Int32} {x4 : Int32} {M : Mm} {n : Nat} : fHb_read a0 x1 x2 x3 x4 M n = (
  rk 11 (some a0) M fun _ =>
  bdC (fHb_regionOf a0 x1 M n) n fun v2 M3 n4 =>
  if x4 < (i3 0) then
    fHb_read_j17 a0 x2 x3 x4 v2 (i3 0) M3 n4
  else
    fHb_read_j17 a0 x2 x3 x4 v2 (i3 1) M3 n4) := rfl
theorem fPart_spoil_b18_E {a0 : Nat} {k18 : Int32 → Int32 → Mm → Option (Unit × Mm)} {x1 : Int32} {x2 : Int32} {M : Mm} : fPart_spoil_b18 a0 k18 x1 x2 M = (
  if (i3 2) ≤ x2 then
    some ((), M)
  else
    rk 5 (some a0) M fun _ =>
    bdR (fPart_shardByte a0 x1 x2 M) fun v2 =>
    rk 5 (some a0) M fun _ =>
    bdW (fPart_setShardByte a0 x1 x2 ((i3 15) - v2) M) fun v4 M5 =>
    k18 x1 (x2 + (i3 1)) M5) := rfl
theorem fPart_spoil_l18_S {a0 : Nat} {fu : Nat} {x1 : Int32} {x2 : Int32} {M : Mm} : fPart_spoil_l18 a0 (fu + 1) x1 x2 M = fPart_spoil_b18 a0 (fPart_spoil_l18 a0 fu) x1 x2 M := rfl
theorem fPart_spoil_E {a0 : Nat} {x1 : Int32} {M : Mm} : fPart_spoil a0 x1 M = (
  if x1 < (i3 0) then
    some ((), M)
  else
    if (i3 5) ≤ x1 then
      some ((), M)
    else
      fgR 5 505 (some a0) M fun v1 =>
      asZ v1 x1 (i3 1) M fun M2 =>
      fPart_spoil_l18 a0 FU x1 (i3 0) M2) := rfl
theorem fHb_rot_E {a0 : Nat} {x1 : Int32} {x2 : Int32} {x3 : Int32} {M : Mm} {n : Nat} : fHb_rot a0 x1 x2 x3 M n = (
  rk 11 (some a0) M fun _ =>
  bdC (fHb_regionOf a0 x1 M n) n fun v2 M3 n4 =>
  fgR 6 600 v2 M3 fun v5 =>
  bdC (fHb_partOf v5 x2 M3 n4) n4 fun v6 M7 n8 =>
  bdC (fHb_checkRange x3 (i3 0) (i3 4) M7 n8) n8 fun v9 M10 n11 =>
  rk 5 v6 M10 fun a12 =>
  bdR (fPart_isGood a12 x3 M10) fun v15 =>
  if v15 = (i3 0) then
    rZ (i3 0) (some (.inl (i3 0), M10, n11))
  else
    rk 5 v6 M10 fun a17 =>
    bdW (fPart_spoil a17 x3 M10) fun v18 M19 =>
    rZ (i3 1) (some (.inl (i3 1), M19, n11))) := rfl
theorem fRule_init_E {a0 : Nat} {x1 : Int32} {x2 : Int32} {x3 : Int32} {M : Mm} : fRule_init a0 x1 x2 x3 M = (
  fpI 7 700 (some a0) x1 M fun M1 =>
  fpI 7 701 (some a0) x2 M1 fun M2 =>
  fpI 7 702 (some a0) x3 M2 fun M3 =>
  some ((), M3)) := rfl
theorem fHb_rule_j34_E {a0 : Nat} {x1 : Int32} {x2 : Int32} {x3 : Int32} {s0 : Int32} {M : Mm} {n : Nat} : fHb_rule_j34 a0 x1 x2 x3 s0 M n = (
  bdC (fHb_checkState s0 M n) n fun v1 M2 n3 =>
  fgR 11 1106 (some a0) M2 fun v4 =>
  nwO 7 M2 n3 fun y5 M6 n7 =>
  rk 7 y5 M6 fun a8 =>
  bdW (fRule_init a8 x1 x2 x3 M6) fun v11 M12 =>
  rk 12 v4 M12 fun a13 =>
  bdC (fAl_add1 a13 y5 M12 n7) n7 fun v16 M17 n18 =>
  fgR 11 1106 (some a0) M17 fun v19 =>
  rk 12 v19 M17 fun a20 =>
  bdR (fAl_size a20 M17) fun v23 =>
  some (.inl v23, M17, n18)) := rfl
theorem fHb_rule_E {a0 : Nat} {x1 : Int32} {x2 : Int32} {x3 : Int32} {M : Mm} {n : Nat} : fHb_rule a0 x1 x2 x3 M n = (
  bdC (fHb_checkBeginning x1 M n) n fun v1 M2 n3 =>
  bdC (fHb_checkRange x2 (i3 0) (i3 99) M2 n3) n3 fun v4 M5 n6 =>
  bdC (fHb_checkRange x3 (i3 1) (i3 3) M5 n6) n6 fun v7 M8 n9 =>
  fgR 11 1106 (some a0) M8 fun v10 =>
  rk 12 v10 M8 fun a11 =>
  bdR (fAl_size a11 M8) fun v14 =>
  if (i3 6) ≤ v14 then
    fHb_rule_j34 a0 x1 x2 x3 (i3 0) M8 n9
  else
    fHb_rule_j34 a0 x1 x2 x3 (i3 1) M8 n9) := rfl
theorem fStore_sweepUnused_j63_E {a0 : Nat} {k4 : Int32 → Int32 → Int32 → Mm → Option (Int32 × Mm)} {x1 : Int32} {x2 : Int32} {x3 : Int32} {M : Mm} : fStore_sweepUnused_j63 a0 k4 x1 x2 x3 M = (
  k4 x1 x2 (x3 + (i3 1)) M) := rfl
theorem fStore_sweepUnused_b4_E {a0 : Nat} {k4 : Int32 → Int32 → Int32 → Mm → Option (Int32 × Mm)} {x1 : Int32} {x2 : Int32} {x3 : Int32} {M : Mm} : fStore_sweepUnused_b4 a0 k4 x1 x2 x3 M = (
  fgR 8 801 (some a0) M fun v1 =>
  rk 12 v1 M fun a2 =>
  bdR (fAl_size a2 M) fun v5 =>
  if v5 ≤ x3 then
    some (x2, M)
  else
    if x1 ≤ x2 then
      some (x2, M)
    else
      fgR 8 801 (some a0) M fun v6 =>
      rk 12 v6 M fun a7 =>
      bdR (fAl_get a7 x3 M) fun v10 =>
      fca 5 v10 M fun v11 =>
      fgI 5 507 v11 M fun v12 =>
      if v12 = (i3 0) then
        fgI 5 506 v11 M fun v13 =>
        if v13 = (i3 0) then
          rk 5 v11 M fun a14 =>
          bdW (fPart_loseAll a14 M) fun v17 M18 =>
          fpZ 5 507 v11 (i3 1) M18 fun M19 =>
          fStore_sweepUnused_j63 a0 k4 x1 (x2 + (i3 1)) x3 M19
        else
          fStore_sweepUnused_j63 a0 k4 x1 x2 x3 M
      else
        fStore_sweepUnused_j63 a0 k4 x1 x2 x3 M) := rfl
theorem fStore_sweepUnused_l4_S {a0 : Nat} {fu : Nat} {x1 : Int32} {x2 : Int32} {x3 : Int32} {M : Mm} : fStore_sweepUnused_l4 a0 (fu + 1) x1 x2 x3 M = fStore_sweepUnused_b4 a0 (fStore_sweepUnused_l4 a0 fu) x1 x2 x3 M := rfl

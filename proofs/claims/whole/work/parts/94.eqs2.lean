set_option maxRecDepth 100000
theorem fStore_sweepUnused_E {a0 : Nat} {x1 : Int32} {M : Mm} : fStore_sweepUnused a0 x1 M = (
  fStore_sweepUnused_l4 a0 FU x1 (i3 0) (i3 0) M) := rfl
theorem fHb_sweep_E {a0 : Nat} {x1 : Int32} {x2 : Int32} {M : Mm} {n : Nat} : fHb_sweep a0 x1 x2 M n = (
  rk 11 (some a0) M fun _ =>
  bdC (fHb_regionOf a0 x1 M n) n fun v2 M3 n4 =>
  fgR 6 600 v2 M3 fun v5 =>
  bdC (fHb_checkRange x2 (i3 1) (i3 99) M3 n4) n4 fun v6 M7 n8 =>
  rk 8 v5 M7 fun a9 =>
  bdW (fStore_sweepUnused a9 x2 M7) fun v12 M13 =>
  some (.inl v12, M13, n8)) := rfl
theorem fUpload_init_b25_E {a0 : Nat} {k25 : Int32 → Mm → Nat → Option ((Unit ⊕ Nat) × Mm × Nat)} {x3 : Int32} {M : Mm} {n : Nat} : fUpload_init_b25 a0 k25 x3 M n = (
  fgR 9 902 (some a0) M fun v1 =>
  aln v1 M fun v2 =>
  if v2 ≤ x3 then
    some (.inl (), M, n)
  else
    fgR 9 902 (some a0) M fun v3 =>
    nwO 1 M n fun y4 M5 n6 =>
    rk 1 y4 M5 fun a7 =>
    bdN (fBytes_init a7 M5 n6) n6 fun v10 M11 n12 =>
    asP 24 v3 x3 y4 M11 fun M13 =>
    k25 (x3 + (i3 1)) M13 n12) := rfl
theorem fUpload_init_l25_S {a0 : Nat} {fu : Nat} {x3 : Int32} {M : Mm} {n : Nat} : fUpload_init_l25 a0 (fu + 1) x3 M n = fUpload_init_b25 a0 (fUpload_init_l25 a0 fu) x3 M n := rfl
theorem fUpload_init_E {a0 : Nat} {r1 : Option Nat} {x2 : Int32} {M : Mm} {n : Nat} : fUpload_init a0 r1 x2 M n = (
  nwA 24 300 (i3 9) M n fun y1 M2 n3 =>
  fpR 9 902 (some a0) y1 M2 fun M4 =>
  fpR 9 900 (some a0) r1 M4 fun M5 =>
  fpI 9 901 (some a0) x2 M5 fun M6 =>
  fUpload_init_l25 a0 FU (i3 0) M6 n3) := rfl
theorem fHb_upload_j27_E {a0 : Nat} {x2 : Int32} {r3 : Option Nat} {s0 : Int32} {M : Mm} {n : Nat} : fHb_upload_j27 a0 x2 r3 s0 M n = (
  bdC (fHb_checkState s0 M n) n fun v1 M2 n3 =>
  fgR 11 1105 (some a0) M2 fun v4 =>
  nwO 9 M2 n3 fun y5 M6 n7 =>
  rk 9 y5 M6 fun a8 =>
  bdN (fUpload_init a8 r3 x2 M6 n7) n7 fun v11 M12 n13 =>
  rk 12 v4 M12 fun a14 =>
  bdC (fAl_add1 a14 y5 M12 n13) n13 fun v17 M18 n19 =>
  fgR 11 1105 (some a0) M18 fun v20 =>
  rk 12 v20 M18 fun a21 =>
  bdR (fAl_size a21 M18) fun v24 =>
  some (.inl (v24 - (i3 1)), M18, n19)) := rfl
theorem fHb_upload_E {a0 : Nat} {x1 : Int32} {x2 : Int32} {M : Mm} {n : Nat} : fHb_upload a0 x1 x2 M n = (
  rk 11 (some a0) M fun _ =>
  bdC (fHb_regionOf a0 x1 M n) n fun v2 M3 n4 =>
  bdC (fHb_checkKey x2 M3 n4) n4 fun v5 M6 n7 =>
  fgR 11 1105 (some a0) M6 fun v8 =>
  rk 12 v8 M6 fun a9 =>
  bdR (fAl_size a9 M6) fun v12 =>
  if (i3 12) ≤ v12 then
    fHb_upload_j27 a0 x2 v2 (i3 0) M6 n7
  else
    fHb_upload_j27 a0 x2 v2 (i3 1) M6 n7) := rfl
theorem fRegion_numberAt_j56_E {a0 : Nat} {k5 : Int32 → Int32 → Int32 → Mm → Option (Int32)} {x1 : Int32} {x3 : Int32} {x4 : Int32} {M : Mm} : fRegion_numberAt_j56 a0 k5 x1 x3 x4 M = (
  k5 x1 x3 (x4 + (i3 1)) M) := rfl
theorem fRegion_numberAt_b5_E {a0 : Nat} {k5 : Int32 → Int32 → Int32 → Mm → Option (Int32)} {x1 : Int32} {x3 : Int32} {x4 : Int32} {M : Mm} : fRegion_numberAt_b5 a0 k5 x1 x3 x4 M = (
  fgR 6 601 (some a0) M fun v1 =>
  rk 12 v1 M fun a2 =>
  bdR (fAl_size a2 M) fun v5 =>
  if v5 ≤ x4 then
    some (i3 0)
  else
    fgR 6 601 (some a0) M fun v6 =>
    rk 12 v6 M fun a7 =>
    bdR (fAl_get a7 x4 M) fun v10 =>
    fca 10 v10 M fun v11 =>
    fgR 10 1000 v11 M fun v12 =>
    fgI 4 400 v12 M fun v13 =>
    if v13 = x1 then
      if x3 = (i3 0) then
        fgI 4 401 v12 M fun v14 =>
        some v14
      else
        fRegion_numberAt_j56 a0 k5 x1 (x3 + m1) x4 M
    else
      fRegion_numberAt_j56 a0 k5 x1 x3 x4 M) := rfl
theorem fRegion_numberAt_l5_S {a0 : Nat} {fu : Nat} {x1 : Int32} {x3 : Int32} {x4 : Int32} {M : Mm} : fRegion_numberAt_l5 a0 (fu + 1) x1 x3 x4 M = fRegion_numberAt_b5 a0 (fRegion_numberAt_l5 a0 fu) x1 x3 x4 M := rfl
theorem fRegion_numberAt_E {a0 : Nat} {x1 : Int32} {x2 : Int32} {M : Mm} : fRegion_numberAt a0 x1 x2 M = (
  fRegion_numberAt_l5 a0 FU x1 x2 (i3 0) M) := rfl
theorem fHb_version_j16_E {a0 : Nat} {x2 : Int32} {x3 : Int32} {r4 : Option Nat} {s0 : Int32} {M : Mm} {n : Nat} : fHb_version_j16 a0 x2 x3 r4 s0 M n = (
  bdC (fHb_checkIndex s0 M n) n fun v1 M2 n3 =>
  bdC (fHb_checkKey x2 M2 n3) n3 fun v4 M5 n6 =>
  rk 6 r4 M5 fun a7 =>
  bdR (fRegion_numberAt a7 x2 x3 M5) fun v10 =>
  some (.inl v10, M5, n6)) := rfl
theorem fHb_version_E {a0 : Nat} {x1 : Int32} {x2 : Int32} {x3 : Int32} {M : Mm} {n : Nat} : fHb_version a0 x1 x2 x3 M n = (
  rk 11 (some a0) M fun _ =>
  bdC (fHb_regionOf a0 x1 M n) n fun v2 M3 n4 =>
  if x3 < (i3 0) then
    fHb_version_j16 a0 x2 x3 v2 (i3 0) M3 n4
  else
    fHb_version_j16 a0 x2 x3 v2 (i3 1) M3 n4) := rfl
theorem fMd_isIn_E {x0 : Int32} {x1 : Int32} {x2 : Int32} : fMd_isIn x0 x1 x2 = (
  if x0 < x1 then
    rZ (i3 0) (some (i3 0))
  else
    if x2 < x0 then
      rZ (i3 0) (some (i3 0))
    else
      rZ (i3 1) (some (i3 1))) := rfl
theorem fMd_isRegion_E {x0 : Int32} : fMd_isRegion x0 = (
  bdR (fMd_isIn x0 (i3 0) (i3 1)) fun v1 =>
  rZ v1 (some v1)) := rfl
theorem fMd_letters_j44_E {x1 : Int32} {x2 : Int32} : fMd_letters_j44 x1 x2 = (
  if x2 = (i3 0) then
    some (i3 0)
  else
    if (i3 4) ≤ x1 then
      some (i3 0)
    else
      some x1) := rfl
theorem fMd_letters_j33_E {k14 : Int32 → Int32 → Int32 → Option (Int32)} {x1 : Int32} {x3 : Int32} {s0 : Int32} : fMd_letters_j33 k14 x1 x3 s0 = (
  k14 (x1 + (i3 1)) s0 (x3 / (i3 5))) := rfl
theorem fMd_letters_b14_E {k14 : Int32 → Int32 → Int32 → Option (Int32)} {x1 : Int32} {x2 : Int32} {x3 : Int32} : fMd_letters_b14 k14 x1 x2 x3 = (
  if x3 ≤ (i3 0) then
    fMd_letters_j44 x1 x2
  else
    if x2 = (i3 0) then
      fMd_letters_j44 x1 x2
    else
      if (x3 - x3 / (i3 5) * (i3 5)) ≤ (i3 0) then
        fMd_letters_j33 k14 x1 x3 (i3 0)
      else
        fMd_letters_j33 k14 x1 x3 (i3 1)) := rfl
theorem fMd_letters_l14_S  {fu : Nat} {x1 : Int32} {x2 : Int32} {x3 : Int32} : fMd_letters_l14 (fu + 1) x1 x2 x3 = fMd_letters_b14 (fMd_letters_l14 fu) x1 x2 x3 := rfl
theorem fMd_letters_j11_E {x0 : Int32} {x1 : Int32} {s0 : Int32} : fMd_letters_j11 x0 x1 s0 = (
  fMd_letters_l14 FU x1 s0 x0) := rfl
theorem fMd_letters_E {x0 : Int32} : fMd_letters x0 = (
  if x0 ≤ (i3 0) then
    fMd_letters_j11 x0 (i3 0) (i3 0)
  else
    fMd_letters_j11 x0 (i3 0) (i3 1)) := rfl
theorem fMd_isKey_E {x0 : Int32} : fMd_isKey x0 = (
  bdR (fMd_letters x0) fun v1 =>
  if v1 ≤ (i3 0) then
    rZ (i3 0) (some (i3 0))
  else
    rZ (i3 1) (some (i3 1))) := rfl
theorem fMd_endOf_E {x1 : Int32} {σ : Sg} : fMd_endOf x1 σ = (
  mgA 26 x1 σ fun v1 =>
  some (((i3 40) * x1) + v1)) := rfl
theorem fMd_versionAt_j41_E {k6 : Int32 → Int32 → Int32 → Int32 → Sg → Option (Int32)} {x1 : Int32} {x2 : Int32} {x3 : Int32} {x4 : Int32} {σ : Sg} : fMd_versionAt_j41 k6 x1 x2 x3 x4 σ = (
  k6 x1 x2 x3 (x4 + (i3 1)) σ) := rfl
theorem fMd_versionAt_b6_E {k6 : Int32 → Int32 → Int32 → Int32 → Sg → Option (Int32)} {x1 : Int32} {x2 : Int32} {x3 : Int32} {x4 : Int32} {σ : Sg} : fMd_versionAt_b6 k6 x1 x2 x3 x4 σ = (
  bdR (fMd_endOf x1 σ) fun v1 =>
  if v1 ≤ x4 then
    some m1
  else
    mgA 28 x4 σ fun v2 =>
    if v2 = x2 then
      mgA 27 x4 σ fun v3 =>
      if v3 = x3 then
        some x4
      else
        fMd_versionAt_j41 k6 x1 x2 x3 x4 σ
    else
      fMd_versionAt_j41 k6 x1 x2 x3 x4 σ) := rfl
theorem fMd_versionAt_l6_S  {fu : Nat} {x1 : Int32} {x2 : Int32} {x3 : Int32} {x4 : Int32} {σ : Sg} : fMd_versionAt_l6 (fu + 1) x1 x2 x3 x4 σ = fMd_versionAt_b6 (fMd_versionAt_l6 fu) x1 x2 x3 x4 σ := rfl
theorem fMd_versionAt_E {x1 : Int32} {x2 : Int32} {x3 : Int32} {σ : Sg} : fMd_versionAt x1 x2 x3 σ = (
  fMd_versionAt_l6 FU x1 x2 x3 ((i3 40) * x1) σ) := rfl
theorem fMd_isVersion_E {x1 : Int32} {x2 : Int32} {x3 : Int32} {σ : Sg} : fMd_isVersion x1 x2 x3 σ = (
  bdR (fMd_isRegion x1) fun v1 =>
  if v1 = (i3 0) then
    rZ (i3 0) (some (i3 0))
  else
    bdR (fMd_isKey x2) fun v2 =>
    if v2 = (i3 0) then
      rZ (i3 0) (some (i3 0))
    else
      bdR (fMd_versionAt x1 x2 x3 σ) fun v3 =>
      if v3 = m1 then
        rZ (i3 0) (some (i3 0))
      else
        rZ (i3 1) (some (i3 1))) := rfl
theorem fMd_holds_E {x1 : Int32} {σ : Sg} : fMd_holds x1 σ = (
  mpF 0 x1 σ fun σ1 =>
  if x1 = (i3 0) then
    rZ (i3 1) (some ((i3 1), σ1))
  else
    rZ (i3 0) (some ((i3 0), σ1))) := rfl
theorem fMd_isMark_E {x1 : Int32} {σ : Sg} : fMd_isMark x1 σ = (
  mgA 27 x1 σ fun v1 =>
  mgA 9 v1 σ fun v2 =>
  if v2 = (i3 0) then
    rZ (i3 1) (some (i3 1))
  else
    rZ (i3 0) (some (i3 0))) := rfl
theorem fMd_about_j34_E {x1 : Int32} {x2 : Int32} {x3 : Int32} {x4 : Int32} {s0 : Int32} {σ : Sg} : fMd_about_j34 x1 x2 x3 x4 s0 σ = (
  bdW (fMd_holds s0 σ) fun v1 σ2 =>
  if v1 = (i3 0) then
    some ((i3 0), σ2)
  else
    bdR (fMd_versionAt x1 x2 x3 σ2) fun v3 =>
    if x4 = (i3 0) then
      mgA 9 x3 σ2 fun v4 =>
      some (v4, σ2)
    else
      if x4 = (i3 1) then
        mgA 33 v3 σ2 fun v5 =>
        some (v5, σ2)
      else
        if x4 = (i3 2) then
          mgA 30 v3 σ2 fun v6 =>
          some (v6, σ2)
        else
          if x4 = (i3 3) then
            mgA 29 v3 σ2 fun v7 =>
            some (v7, σ2)
          else
            if x4 = (i3 4) then
              mgA 31 v3 σ2 fun v8 =>
              some (v8, σ2)
            else
              bdR (fMd_isMark v3 σ2) fun v9 =>
              if v9 = (i3 0) then
                some ((i3 0), σ2)
              else
                some ((i3 1), σ2)) := rfl
theorem fMd_about_E {x1 : Int32} {x2 : Int32} {x3 : Int32} {x4 : Int32} {σ : Sg} : fMd_about x1 x2 x3 x4 σ = (
  bdR (fMd_isVersion x1 x2 x3 σ) fun v1 =>
  if v1 = (i3 0) then
    fMd_about_j34 x1 x2 x3 x4 (i3 1) σ
  else
    bdR (fMd_isIn x4 (i3 0) (i3 5)) fun v2 =>
    if v2 = (i3 0) then
      fMd_about_j34 x1 x2 x3 x4 (i3 2) σ
    else
      fMd_about_j34 x1 x2 x3 x4 (i3 0) σ) := rfl
theorem fMd_letterOf_b12_E {k12 : Int32 → Int32 → Int32 → Int32 → Option (Int32)} {x1 : Int32} {x2 : Int32} {x3 : Int32} {x4 : Int32} : fMd_letterOf_b12 k12 x1 x2 x3 x4 = (
  if x4 ≤ x1 then
    if x2 ≤ x1 then
      some (i3 0)
    else
      some (x3 - x3 / (i3 5) * (i3 5))
  else
    k12 x1 x2 (x3 / (i3 5)) (x4 + m1)) := rfl
theorem fMd_letterOf_l12_S  {fu : Nat} {x1 : Int32} {x2 : Int32} {x3 : Int32} {x4 : Int32} : fMd_letterOf_l12 (fu + 1) x1 x2 x3 x4 = fMd_letterOf_b12 (fMd_letterOf_l12 fu) x1 x2 x3 x4 := rfl
theorem fMd_letterOf_E {x0 : Int32} {x1 : Int32} : fMd_letterOf x0 x1 = (
  bdR (fMd_letters x0) fun v1 =>
  fMd_letterOf_l12 FU x1 v1 x0 (v1 - (i3 1))) := rfl
theorem fMd_begins_j49_E {k19 : Int32 → Int32 → Int32 → Int32 → Option (Int32)} {x0 : Int32} {x1 : Int32} {x3 : Int32} {s0 : Int32} : fMd_begins_j49 k19 x0 x1 x3 s0 = (
  k19 x0 x1 s0 (x3 + (i3 1))) := rfl
theorem fMd_begins_j48_E {k19 : Int32 → Int32 → Int32 → Int32 → Option (Int32)} {x0 : Int32} {x1 : Int32} {x3 : Int32} : fMd_begins_j48 k19 x0 x1 x3 = (
  fMd_begins_j49 k19 x0 x1 x3 (i3 0)) := rfl
theorem fMd_begins_b19_E {k19 : Int32 → Int32 → Int32 → Int32 → Option (Int32)} {x0 : Int32} {x1 : Int32} {x2 : Int32} {x3 : Int32} : fMd_begins_b19 k19 x0 x1 x2 x3 = (
  bdR (fMd_letters x1) fun v1 =>
  if v1 ≤ x3 then
    rZ x2 (some x2)
  else
    if x2 = (i3 0) then
      fMd_begins_j48 k19 x0 x1 x3
    else
      bdR (fMd_letterOf x0 x3) fun v2 =>
      bdR (fMd_letterOf x1 x3) fun v3 =>
      if v2 = v3 then
        fMd_begins_j49 k19 x0 x1 x3 (i3 1)
      else
        fMd_begins_j48 k19 x0 x1 x3) := rfl
theorem fMd_begins_l19_S  {fu : Nat} {x0 : Int32} {x1 : Int32} {x2 : Int32} {x3 : Int32} : fMd_begins_l19 (fu + 1) x0 x1 x2 x3 = fMd_begins_b19 (fMd_begins_l19 fu) x0 x1 x2 x3 := rfl
theorem fMd_begins_j16_E {x0 : Int32} {x1 : Int32} {s0 : Int32} : fMd_begins_j16 x0 x1 s0 = (
  fMd_begins_l19 FU x0 x1 s0 (i3 0)) := rfl
theorem fMd_begins_E {x0 : Int32} {x1 : Int32} : fMd_begins x0 x1 = (
  bdR (fMd_letters x1) fun v1 =>
  bdR (fMd_letters x0) fun v2 =>
  if v2 < v1 then
    fMd_begins_j16 x0 x1 (i3 0)
  else
    fMd_begins_j16 x0 x1 (i3 1)) := rfl
theorem fMd_latest_j35_E {k8 : Int32 → Int32 → Int32 → Int32 → Sg → Option (Int32)} {x1 : Int32} {x2 : Int32} {x4 : Int32} {s0 : Int32} {σ : Sg} : fMd_latest_j35 k8 x1 x2 x4 s0 σ = (
  k8 x1 x2 s0 (x4 + (i3 1)) σ) := rfl
theorem fMd_latest_b8_E {k8 : Int32 → Int32 → Int32 → Int32 → Sg → Option (Int32)} {x1 : Int32} {x2 : Int32} {x3 : Int32} {x4 : Int32} {σ : Sg} : fMd_latest_b8 k8 x1 x2 x3 x4 σ = (
  bdR (fMd_endOf x1 σ) fun v1 =>
  if v1 ≤ x4 then
    some x3
  else
    mgA 28 x4 σ fun v2 =>
    if v2 = x2 then
      fMd_latest_j35 k8 x1 x2 x4 x4 σ
    else
      fMd_latest_j35 k8 x1 x2 x4 x3 σ) := rfl
theorem fMd_latest_l8_S  {fu : Nat} {x1 : Int32} {x2 : Int32} {x3 : Int32} {x4 : Int32} {σ : Sg} : fMd_latest_l8 (fu + 1) x1 x2 x3 x4 σ = fMd_latest_b8 (fMd_latest_l8 fu) x1 x2 x3 x4 σ := rfl
theorem fMd_latest_E {x1 : Int32} {x2 : Int32} {σ : Sg} : fMd_latest x1 x2 σ = (
  fMd_latest_l8 FU x1 x2 m1 ((i3 40) * x1) σ) := rfl
theorem fMd_isLocked_E {x1 : Int32} {σ : Sg} : fMd_isLocked x1 σ = (
  mgF 11 σ fun v1 =>
  mgA 31 x1 σ fun v2 =>
  if v2 < v1 then
    rZ (i3 0) (some (i3 0))
  else
    rZ (i3 1) (some (i3 1))) := rfl
theorem fMd_moves_b86_E {k86 : Int32 → Int32 → Int32 → Sg → Option (Unit × Sg)} {x1 : Int32} {x2 : Int32} {x3 : Int32} {σ : Sg} : fMd_moves_b86 k86 x1 x2 x3 σ = (
  mgA 33 x1 σ fun v1 =>
  if v1 ≤ x3 then
    some ((), σ)
  else
    mgA 34 (((i3 20) * x1) + x3) σ fun v2 =>
    mpA 34 (((i3 20) * x2) + x3) v2 σ fun σ3 =>
    k86 x1 x2 (x3 + (i3 1)) σ3) := rfl
theorem fMd_moves_l86_S  {fu : Nat} {x1 : Int32} {x2 : Int32} {x3 : Int32} {σ : Sg} : fMd_moves_l86 (fu + 1) x1 x2 x3 σ = fMd_moves_b86 (fMd_moves_l86 fu) x1 x2 x3 σ := rfl
theorem fMd_moves_E {x1 : Int32} {x2 : Int32} {σ : Sg} : fMd_moves x1 x2 σ = (
  mgA 27 x1 σ fun v1 =>
  mpA 27 x2 v1 σ fun σ2 =>
  mgA 28 x1 σ2 fun v3 =>
  mpA 28 x2 v3 σ2 fun σ4 =>
  mgA 29 x1 σ4 fun v5 =>
  mpA 29 x2 v5 σ4 fun σ6 =>
  mgA 30 x1 σ6 fun v7 =>
  mpA 30 x2 v7 σ6 fun σ8 =>
  mgA 31 x1 σ8 fun v9 =>
  mpA 31 x2 v9 σ8 fun σ10 =>
  mgA 32 x1 σ10 fun v11 =>
  mpA 32 x2 v11 σ10 fun σ12 =>
  mgA 33 x1 σ12 fun v13 =>
  mpA 33 x2 v13 σ12 fun σ14 =>
  fMd_moves_l86 FU x1 x2 (i3 0) σ14) := rfl
theorem fMd_goes_b55_E {k55 : Int32 → Int32 → Sg → Option (Unit × Sg)} {x1 : Int32} {x3 : Int32} {σ : Sg} : fMd_goes_b55 k55 x1 x3 σ = (
  mgA 26 x1 σ fun v1 =>
  if (((i3 40) * x1) + v1) ≤ x3 then
    some ((), σ)
  else
    bdW (fMd_moves (x3 + (i3 1)) x3 σ) fun v2 σ3 =>
    k55 x1 (x3 + (i3 1)) σ3) := rfl
theorem fMd_goes_l55_S  {fu : Nat} {x1 : Int32} {x3 : Int32} {σ : Sg} : fMd_goes_l55 (fu + 1) x1 x3 σ = fMd_goes_b55 (fMd_goes_l55 fu) x1 x3 σ := rfl
theorem fMd_goes_b2_E {k2 : Int32 → Int32 → Int32 → Sg → Option (Unit × Sg)} {x1 : Int32} {x2 : Int32} {x3 : Int32} {σ : Sg} : fMd_goes_b2 k2 x1 x2 x3 σ = (
  mgA 33 x2 σ fun v1 =>
  if v1 ≤ x3 then
    mgA 26 x1 σ fun v2 =>
    mpA 26 x1 (v2 - (i3 1)) σ fun σ3 =>
    fMd_goes_l55 FU x1 x2 σ3
  else
    mgA 34 (((i3 20) * x2) + x3) σ fun v4 =>
    mgA 20 (((i3 90) * x1) + v4) σ fun v5 =>
    mpA 20 (((i3 90) * x1) + v4) (v5 - (i3 1)) σ fun σ6 =>
    k2 x1 x2 (x3 + (i3 1)) σ6) := rfl
theorem fMd_goes_l2_S  {fu : Nat} {x1 : Int32} {x2 : Int32} {x3 : Int32} {σ : Sg} : fMd_goes_l2 (fu + 1) x1 x2 x3 σ = fMd_goes_b2 (fMd_goes_l2 fu) x1 x2 x3 σ := rfl
theorem fMd_goes_E {x1 : Int32} {x2 : Int32} {σ : Sg} : fMd_goes x1 x2 σ = (
  fMd_goes_l2 FU x1 x2 (i3 0) σ) := rfl
theorem fMd_ages_j140_E {k8 : Int32 → Int32 → Int32 → Sg → Option (Unit × Sg)} {x1 : Int32} {x2 : Int32} {x3 : Int32} {σ : Sg} : fMd_ages_j140 k8 x1 x2 x3 σ = (
  k8 x1 x2 (x3 + m1) σ) := rfl
theorem fMd_ages_j105_E {k8 : Int32 → Int32 → Int32 → Sg → Option (Unit × Sg)} {x1 : Int32} {x2 : Int32} {x3 : Int32} {x4 : Int32} {σ : Sg} : fMd_ages_j105 k8 x1 x2 x3 x4 σ = (
  if x4 = (i3 3) then
    mgA 28 x3 σ fun v1 =>
    bdR (fMd_latest x1 v1 σ) fun v2 =>
    if v2 = x3 then
      fMd_ages_j140 k8 x1 x2 x3 σ
    else
      bdR (fMd_isLocked x3 σ) fun v3 =>
      if v3 = (i3 0) then
        bdW (fMd_goes x1 x3 σ) fun v4 σ5 =>
        fMd_ages_j140 k8 x1 x2 x3 σ5
      else
        fMd_ages_j140 k8 x1 x2 x3 σ
  else
    fMd_ages_j140 k8 x1 x2 x3 σ) := rfl
theorem fMd_ages_b8_E {k8 : Int32 → Int32 → Int32 → Sg → Option (Unit × Sg)} {x1 : Int32} {x2 : Int32} {x3 : Int32} {σ : Sg} : fMd_ages_b8 k8 x1 x2 x3 σ = (
  if x3 < ((i3 40) * x1) then
    some ((), σ)
  else
    mgA 28 x3 σ fun v1 =>
    mgA 14 x2 σ fun v2 =>
    bdR (fMd_begins v1 v2) fun v3 =>
    if v3 = (i3 0) then
      fMd_ages_j140 k8 x1 x2 x3 σ
    else
      mgF 11 σ fun v4 =>
      mgA 29 x3 σ fun v5 =>
      mgA 15 x2 σ fun v6 =>
      if (v4 - v5) < v6 then
        fMd_ages_j140 k8 x1 x2 x3 σ
      else
        mgA 16 x2 σ fun v7 =>
        if (i3 3) ≤ v7 then
          fMd_ages_j105 k8 x1 x2 x3 v7 σ
        else
          bdR (fMd_isMark x3 σ) fun v8 =>
          if v8 = (i3 0) then
            mgA 30 x3 σ fun v9 =>
            if v7 ≤ v9 then
              fMd_ages_j105 k8 x1 x2 x3 v7 σ
            else
              mpA 30 x3 v7 σ fun σ10 =>
              mpA 32 x3 m1 σ10 fun σ11 =>
              fMd_ages_j140 k8 x1 x2 x3 σ11
          else
            fMd_ages_j105 k8 x1 x2 x3 v7 σ) := rfl
theorem fMd_ages_l8_S  {fu : Nat} {x1 : Int32} {x2 : Int32} {x3 : Int32} {σ : Sg} : fMd_ages_l8 (fu + 1) x1 x2 x3 σ = fMd_ages_b8 (fMd_ages_l8 fu) x1 x2 x3 σ := rfl
theorem fMd_ages_E {x1 : Int32} {x2 : Int32} {σ : Sg} : fMd_ages x1 x2 σ = (
  bdR (fMd_endOf x1 σ) fun v1 =>
  fMd_ages_l8 FU x1 x2 (v1 - (i3 1)) σ) := rfl
theorem fMd_isGood_E {x1 : Int32} {x2 : Int32} {σ : Sg} : fMd_isGood x1 x2 σ = (
  mgA 23 (((i3 5) * x1) + x2) σ fun v1 =>
  if v1 = m1 then
    rZ (i3 0) (some (i3 0))
  else
    mgA 25 (((i3 5) * x1) + x2) σ fun v2 =>
    if v2 = (i3 0) then
      rZ (i3 1) (some (i3 1))
    else
      rZ (i3 0) (some (i3 0))) := rfl
theorem fMd_goodMany_j24_E {k4 : Int32 → Int32 → Int32 → Sg → Option (Int32)} {x1 : Int32} {x3 : Int32} {s0 : Int32} {s1 : Int32} {σ : Sg} : fMd_goodMany_j24 k4 x1 x3 s0 s1 σ = (
  k4 x1 (s1 + s0) (x3 + (i3 1)) σ) := rfl
theorem fMd_goodMany_b4_E {k4 : Int32 → Int32 → Int32 → Sg → Option (Int32)} {x1 : Int32} {x2 : Int32} {x3 : Int32} {σ : Sg} : fMd_goodMany_b4 k4 x1 x2 x3 σ = (
  if (i3 5) ≤ x3 then
    some x2
  else
    bdR (fMd_isGood x1 x3 σ) fun v1 =>
    if v1 = (i3 0) then
      fMd_goodMany_j24 k4 x1 x3 (i3 0) x2 σ
    else
      fMd_goodMany_j24 k4 x1 x3 (i3 1) x2 σ) := rfl
theorem fMd_goodMany_l4_S  {fu : Nat} {x1 : Int32} {x2 : Int32} {x3 : Int32} {σ : Sg} : fMd_goodMany_l4 (fu + 1) x1 x2 x3 σ = fMd_goodMany_b4 (fMd_goodMany_l4 fu) x1 x2 x3 σ := rfl
theorem fMd_goodMany_E {x1 : Int32} {σ : Sg} : fMd_goodMany x1 σ = (
  fMd_goodMany_l4 FU x1 (i3 0) (i3 0) σ) := rfl
theorem fMd_weight_E {x0 : Int32} {x1 : Int32} : fMd_weight x0 x1 = (
  if (i3 3) ≤ x0 then
    if x0 = (i3 3) then
      some (i3 1)
    else
      some ((i3 1) <<< (x1 &&& (i3 31)))
  else
    if x0 = x1 then
      some (i3 1)
    else
      some (i3 0)) := rfl
theorem fMd_times_j62_E {k37 : Int32 → Int32 → Option (Int32)} {x3 : Int32} {s0 : Int32} {s1 : Int32} : fMd_times_j62 k37 x3 s0 s1 = (
  k37 (s1 ^^^ s0) (x3 + m1)) := rfl
theorem fMd_times_b37_E {k37 : Int32 → Int32 → Option (Int32)} {x2 : Int32} {x3 : Int32} : fMd_times_b37 k37 x2 x3 = (
  if x3 ≤ (i3 3) then
    some x2
  else
    if ((x2 >>> (x3 &&& (i3 31))) &&& (i3 1)) = (i3 1) then
      fMd_times_j62 k37 x3 ((i3 19) <<< ((x3 - (i3 4)) &&& (i3 31))) x2
    else
      fMd_times_j62 k37 x3 (i3 0) x2) := rfl
theorem fMd_times_l37_S  {fu : Nat} {x2 : Int32} {x3 : Int32} : fMd_times_l37 (fu + 1) x2 x3 = fMd_times_b37 (fMd_times_l37 fu) x2 x3 := rfl
theorem fMd_times_j26_E {k4 : Int32 → Int32 → Int32 → Int32 → Option (Int32)} {x0 : Int32} {x1 : Int32} {x3 : Int32} {s0 : Int32} {s1 : Int32} : fMd_times_j26 k4 x0 x1 x3 s0 s1 = (
  k4 x0 x1 (s1 ^^^ s0) (x3 + (i3 1))) := rfl
theorem fMd_times_b4_E {k4 : Int32 → Int32 → Int32 → Int32 → Option (Int32)} {x0 : Int32} {x1 : Int32} {x2 : Int32} {x3 : Int32} : fMd_times_b4 k4 x0 x1 x2 x3 = (
  if (i3 4) ≤ x3 then
    fMd_times_l37 FU x2 (i3 7)
  else
    if ((x1 >>> (x3 &&& (i3 31))) &&& (i3 1)) = (i3 1) then
      fMd_times_j26 k4 x0 x1 x3 (x0 <<< (x3 &&& (i3 31))) x2
    else
      fMd_times_j26 k4 x0 x1 x3 (i3 0) x2) := rfl
theorem fMd_times_l4_S  {fu : Nat} {x0 : Int32} {x1 : Int32} {x2 : Int32} {x3 : Int32} : fMd_times_l4 (fu + 1) x0 x1 x2 x3 = fMd_times_b4 (fMd_times_l4 fu) x0 x1 x2 x3 := rfl
theorem fMd_times_E {x0 : Int32} {x1 : Int32} : fMd_times x0 x1 = (
  fMd_times_l4 FU x0 x1 (i3 0) (i3 0)) := rfl
theorem fMd_inverse_j24_E {k4 : Int32 → Int32 → Int32 → Option (Int32)} {x0 : Int32} {x2 : Int32} {s0 : Int32} : fMd_inverse_j24 k4 x0 x2 s0 = (
  k4 x0 s0 (x2 + (i3 1))) := rfl
theorem fMd_inverse_b4_E {k4 : Int32 → Int32 → Int32 → Option (Int32)} {x0 : Int32} {x1 : Int32} {x2 : Int32} : fMd_inverse_b4 k4 x0 x1 x2 = (
  if (i3 16) ≤ x2 then
    some x1
  else
    bdR (fMd_times x0 x2) fun v1 =>
    if v1 = (i3 1) then
      fMd_inverse_j24 k4 x0 x2 x2
    else
      fMd_inverse_j24 k4 x0 x2 x1) := rfl
theorem fMd_inverse_l4_S  {fu : Nat} {x0 : Int32} {x1 : Int32} {x2 : Int32} : fMd_inverse_l4 (fu + 1) x0 x1 x2 = fMd_inverse_b4 (fMd_inverse_l4 fu) x0 x1 x2 := rfl
theorem fMd_inverse_E {x0 : Int32} : fMd_inverse x0 = (
  fMd_inverse_l4 FU x0 (i3 0) (i3 1)) := rfl
theorem fMd_turns_j207_E {k136 : Int32 → Int32 → Sg → Option (Unit × Sg)} {x1 : Int32} {x4 : Int32} {σ : Sg} : fMd_turns_j207 k136 x1 x4 σ = (
  k136 x1 (x4 + (i3 1)) σ) := rfl
theorem fMd_turns_b158_E {k136 : Int32 → Int32 → Sg → Option (Unit × Sg)} {k158 : Int32 → Int32 → Int32 → Int32 → Sg → Option (Unit × Sg)} {x1 : Int32} {x4 : Int32} {x5 : Int32} {x6 : Int32} {σ : Sg} : fMd_turns_b158 k136 k158 x1 x4 x5 x6 σ = (
  if (i3 4) ≤ x6 then
    fMd_turns_j207 k136 x1 x4 σ
  else
    if x4 = x1 then
      fMd_turns_j207 k136 x1 x4 σ
    else
      mgA 46 (((i3 4) * x4) + x6) σ fun v1 =>
      mgA 46 (((i3 4) * x1) + x6) σ fun v2 =>
      bdR (fMd_times x5 v2) fun v3 =>
      mpA 46 (((i3 4) * x4) + x6) (v1 ^^^ v3) σ fun σ4 =>
      k158 x1 x4 x5 (x6 + (i3 1)) σ4) := rfl
theorem fMd_turns_l158_S {k136 : Int32 → Int32 → Sg → Option (Unit × Sg)} {fu : Nat} {x1 : Int32} {x4 : Int32} {x5 : Int32} {x6 : Int32} {σ : Sg} : fMd_turns_l158 k136 (fu + 1) x1 x4 x5 x6 σ = fMd_turns_b158 k136 (fMd_turns_l158 k136 fu) x1 x4 x5 x6 σ := rfl
theorem fMd_turns_b136_E {k136 : Int32 → Int32 → Sg → Option (Unit × Sg)} {x1 : Int32} {x4 : Int32} {σ : Sg} : fMd_turns_b136 k136 x1 x4 σ = (
  if (i3 3) ≤ x4 then
    some ((), σ)
  else
    mgA 46 (((i3 4) * x4) + x1) σ fun v1 =>
    fMd_turns_l158 k136 FU x1 x4 v1 (i3 0) σ) := rfl
theorem fMd_turns_l136_S  {fu : Nat} {x1 : Int32} {x4 : Int32} {σ : Sg} : fMd_turns_l136 (fu + 1) x1 x4 σ = fMd_turns_b136 (fMd_turns_l136 fu) x1 x4 σ := rfl
theorem fMd_turns_b95_E {k95 : Int32 → Int32 → Int32 → Sg → Option (Unit × Sg)} {x1 : Int32} {x3 : Int32} {x4 : Int32} {σ : Sg} : fMd_turns_b95 k95 x1 x3 x4 σ = (
  if (i3 4) ≤ x4 then
    fMd_turns_l136 FU x1 (i3 0) σ
  else
    mgA 46 (((i3 4) * x1) + x4) σ fun v1 =>
    bdR (fMd_times x3 v1) fun v2 =>
    mpA 46 (((i3 4) * x1) + x4) v2 σ fun σ3 =>
    k95 x1 x3 (x4 + (i3 1)) σ3) := rfl
theorem fMd_turns_l95_S  {fu : Nat} {x1 : Int32} {x3 : Int32} {x4 : Int32} {σ : Sg} : fMd_turns_l95 (fu + 1) x1 x3 x4 σ = fMd_turns_b95 (fMd_turns_l95 fu) x1 x3 x4 σ := rfl
theorem fMd_turns_b23_E {k23 : Int32 → Int32 → Int32 → Sg → Option (Unit × Sg)} {x1 : Int32} {x2 : Int32} {x3 : Int32} {σ : Sg} : fMd_turns_b23 k23 x1 x2 x3 σ = (
  if (i3 4) ≤ x3 then
    mgA 46 (((i3 4) * x1) + x1) σ fun v1 =>
    bdR (fMd_inverse v1) fun v2 =>
    fMd_turns_l95 FU x1 v2 (i3 0) σ
  else
    mgA 46 (((i3 4) * x2) + x3) σ fun v3 =>
    mgA 46 (((i3 4) * x1) + x3) σ fun v4 =>
    mpA 46 (((i3 4) * x2) + x3) v4 σ fun σ5 =>
    mpA 46 (((i3 4) * x1) + x3) v3 σ5 fun σ6 =>
    k23 x1 x2 (x3 + (i3 1)) σ6) := rfl
theorem fMd_turns_l23_S  {fu : Nat} {x1 : Int32} {x2 : Int32} {x3 : Int32} {σ : Sg} : fMd_turns_l23 (fu + 1) x1 x2 x3 σ = fMd_turns_b23 (fMd_turns_l23 fu) x1 x2 x3 σ := rfl
theorem fMd_turns_b2_E {k2 : Int32 → Int32 → Sg → Option (Unit × Sg)} {x1 : Int32} {x2 : Int32} {σ : Sg} : fMd_turns_b2 k2 x1 x2 σ = (
  mgA 46 (((i3 4) * x2) + x1) σ fun v1 =>
  if v1 = (i3 0) then
    k2 x1 (x2 + (i3 1)) σ
  else
    fMd_turns_l23 FU x1 x2 (i3 0) σ) := rfl
theorem fMd_turns_l2_S  {fu : Nat} {x1 : Int32} {x2 : Int32} {σ : Sg} : fMd_turns_l2 (fu + 1) x1 x2 σ = fMd_turns_b2 (fMd_turns_l2 fu) x1 x2 σ := rfl
theorem fMd_turns_E {x1 : Int32} {σ : Sg} : fMd_turns x1 σ = (
  fMd_turns_l2 FU x1 x1 σ) := rfl
theorem fMd_readAt_b98_E {k98 : Int32 → Int32 → Sg → Option (Int32 × Sg)} {x2 : Int32} {x4 : Int32} {σ : Sg} : fMd_readAt_b98 k98 x2 x4 σ = (
  if (i3 3) ≤ x4 then
    mgA 46 (((i3 4) * (x2 / (i3 2))) + (i3 3)) σ fun v1 =>
    some (v1, σ)
  else
    bdW (fMd_turns x4 σ) fun v2 σ3 =>
    k98 x2 (x4 + (i3 1)) σ3) := rfl
theorem fMd_readAt_l98_S  {fu : Nat} {x2 : Int32} {x4 : Int32} {σ : Sg} : fMd_readAt_l98 (fu + 1) x2 x4 σ = fMd_readAt_b98 (fMd_readAt_l98 fu) x2 x4 σ := rfl
theorem fMd_readAt_j95_E {x2 : Int32} {σ : Sg} : fMd_readAt_j95 x2 σ = (
  fMd_readAt_l98 FU x2 (i3 0) σ) := rfl
theorem fMd_readAt_j89_E {k5 : Int32 → Int32 → Int32 → Int32 → Sg → Option (Int32 × Sg)} {x1 : Int32} {x2 : Int32} {x3 : Int32} {x4 : Int32} {σ : Sg} : fMd_readAt_j89 k5 x1 x2 x3 x4 σ = (
  k5 x1 x2 x3 (x4 + (i3 1)) σ) := rfl
theorem fMd_readAt_b29_E {k5 : Int32 → Int32 → Int32 → Int32 → Sg → Option (Int32 × Sg)} {k29 : Int32 → Int32 → Int32 → Int32 → Int32 → Sg → Option (Int32 × Sg)} {x1 : Int32} {x2 : Int32} {x3 : Int32} {x4 : Int32} {x5 : Int32} {σ : Sg} : fMd_readAt_b29 k5 k29 x1 x2 x3 x4 x5 σ = (
  if (i3 3) ≤ x5 then
    mgA 24 (((i3 2) * (((i3 5) * x1) + x4)) + (x2 - x2 / (i3 2) * (i3 2))) σ fun v1 =>
    mpA 46 (((i3 4) * x3) + (i3 3)) v1 σ fun σ2 =>
    fMd_readAt_j89 k5 x1 x2 (x3 + (i3 1)) x4 σ2
  else
    bdR (fMd_weight x4 x5) fun v3 =>
    mpA 46 (((i3 4) * x3) + x5) v3 σ fun σ4 =>
    k29 x1 x2 x3 x4 (x5 + (i3 1)) σ4) := rfl
theorem fMd_readAt_l29_S {k5 : Int32 → Int32 → Int32 → Int32 → Sg → Option (Int32 × Sg)} {fu : Nat} {x1 : Int32} {x2 : Int32} {x3 : Int32} {x4 : Int32} {x5 : Int32} {σ : Sg} : fMd_readAt_l29 k5 (fu + 1) x1 x2 x3 x4 x5 σ = fMd_readAt_b29 k5 (fMd_readAt_l29 k5 fu) x1 x2 x3 x4 x5 σ := rfl
theorem fMd_readAt_b5_E {k5 : Int32 → Int32 → Int32 → Int32 → Sg → Option (Int32 × Sg)} {x1 : Int32} {x2 : Int32} {x3 : Int32} {x4 : Int32} {σ : Sg} : fMd_readAt_b5 k5 x1 x2 x3 x4 σ = (
  if (i3 5) ≤ x4 then
    fMd_readAt_j95 x2 σ
  else
    if (i3 3) ≤ x3 then
      fMd_readAt_j95 x2 σ
    else
      bdR (fMd_isGood x1 x4 σ) fun v1 =>
      if v1 = (i3 0) then
        fMd_readAt_j89 k5 x1 x2 x3 x4 σ
      else
        fMd_readAt_l29 k5 FU x1 x2 x3 x4 (i3 0) σ) := rfl
theorem fMd_readAt_l5_S  {fu : Nat} {x1 : Int32} {x2 : Int32} {x3 : Int32} {x4 : Int32} {σ : Sg} : fMd_readAt_l5 (fu + 1) x1 x2 x3 x4 σ = fMd_readAt_b5 (fMd_readAt_l5 fu) x1 x2 x3 x4 σ := rfl
theorem fMd_readAt_E {x1 : Int32} {x2 : Int32} {σ : Sg} : fMd_readAt x1 x2 σ = (
  fMd_readAt_l5 FU x1 x2 (i3 0) (i3 0) σ) := rfl
theorem fMd_byteOf_b6_E {k6 : Int32 → Int32 → Int32 → Int32 → Sg → Option (Int32 × Sg)} {x1 : Int32} {x2 : Int32} {x4 : Int32} {x5 : Int32} {σ : Sg} : fMd_byteOf_b6 k6 x1 x2 x4 x5 σ = (
  mgA 34 (((i3 20) * x2) + x5) σ fun v1 =>
  mgA 21 (((i3 90) * x1) + v1) σ fun v2 =>
  if x4 < v2 then
    mgA 34 (((i3 20) * x2) + x5) σ fun v3 =>
    bdR (fMd_goodMany (((i3 90) * x1) + v3) σ) fun v4 =>
    if (i3 3) ≤ v4 then
      bdW (fMd_readAt (((i3 90) * x1) + v3) x4 σ) fun v5 σ6 =>
      some (v5, σ6)
    else
      some (m4, σ)
  else
    mgA 34 (((i3 20) * x2) + x5) σ fun v7 =>
    mgA 21 (((i3 90) * x1) + v7) σ fun v8 =>
    k6 x1 x2 (x4 - v8) (x5 + (i3 1)) σ) := rfl
theorem fMd_byteOf_l6_S  {fu : Nat} {x1 : Int32} {x2 : Int32} {x4 : Int32} {x5 : Int32} {σ : Sg} : fMd_byteOf_l6 (fu + 1) x1 x2 x4 x5 σ = fMd_byteOf_b6 (fMd_byteOf_l6 fu) x1 x2 x4 x5 σ := rfl
theorem fMd_byteOf_E {x1 : Int32} {x2 : Int32} {x3 : Int32} {σ : Sg} : fMd_byteOf x1 x2 x3 σ = (
  fMd_byteOf_l6 FU x1 x2 x3 (i3 0) σ) := rfl
theorem fMd_agrees_j245_E {k123 : Int32 → Int32 → Int32 → Sg → Option (Int32 × Sg)} {x1 : Int32} {x3 : Int32} {s0 : Int32} {σ : Sg} : fMd_agrees_j245 k123 x1 x3 s0 σ = (
  k123 x1 s0 (x3 + (i3 1)) σ) := rfl
theorem fMd_agrees_j240_E {k123 : Int32 → Int32 → Int32 → Sg → Option (Int32 × Sg)} {x1 : Int32} {x3 : Int32} {σ : Sg} : fMd_agrees_j240 k123 x1 x3 σ = (
  fMd_agrees_j245 k123 x1 x3 (i3 1) σ) := rfl
theorem fMd_agrees_j195_E {k123 : Int32 → Int32 → Int32 → Sg → Option (Int32 × Sg)} {k146 : Int32 → Int32 → Int32 → Int32 → Sg → Option (Int32 × Sg)} {k159 : Int32 → Int32 → Int32 → Int32 → Int32 → Sg → Option (Int32 × Sg)} {x1 : Int32} {x3 : Int32} {x5 : Int32} {x6 : Int32} {s0 : Int32} {s1 : Int32} {σ : Sg} : fMd_agrees_j195 k123 k146 k159 x1 x3 x5 x6 s0 s1 σ = (
  k159 x1 x3 (s1 + s0) x5 (x6 + (i3 1)) σ) := rfl
theorem fMd_agrees_b159_E {k123 : Int32 → Int32 → Int32 → Sg → Option (Int32 × Sg)} {k146 : Int32 → Int32 → Int32 → Int32 → Sg → Option (Int32 × Sg)} {k159 : Int32 → Int32 → Int32 → Int32 → Int32 → Sg → Option (Int32 × Sg)} {x1 : Int32} {x3 : Int32} {x4 : Int32} {x5 : Int32} {x6 : Int32} {σ : Sg} : fMd_agrees_b159 k123 k146 k159 x1 x3 x4 x5 x6 σ = (
  mgA 33 x5 σ fun v1 =>
  if v1 ≤ x6 then
    k146 x1 x3 x4 (x5 + (i3 1)) σ
  else
    mgA 34 (((i3 20) * x5) + x6) σ fun v2 =>
    if v2 = x3 then
      fMd_agrees_j195 k123 k146 k159 x1 x3 x5 x6 (i3 1) x4 σ
    else
      fMd_agrees_j195 k123 k146 k159 x1 x3 x5 x6 (i3 0) x4 σ) := rfl
theorem fMd_agrees_l159_S {k123 : Int32 → Int32 → Int32 → Sg → Option (Int32 × Sg)} {k146 : Int32 → Int32 → Int32 → Int32 → Sg → Option (Int32 × Sg)} {fu : Nat} {x1 : Int32} {x3 : Int32} {x4 : Int32} {x5 : Int32} {x6 : Int32} {σ : Sg} : fMd_agrees_l159 k123 k146 (fu + 1) x1 x3 x4 x5 x6 σ = fMd_agrees_b159 k123 k146 (fMd_agrees_l159 k123 k146 fu) x1 x3 x4 x5 x6 σ := rfl
theorem fMd_agrees_b146_E {k123 : Int32 → Int32 → Int32 → Sg → Option (Int32 × Sg)} {k146 : Int32 → Int32 → Int32 → Int32 → Sg → Option (Int32 × Sg)} {x1 : Int32} {x3 : Int32} {x4 : Int32} {x5 : Int32} {σ : Sg} : fMd_agrees_b146 k123 k146 x1 x3 x4 x5 σ = (
  bdR (fMd_endOf x1 σ) fun v1 =>
  if v1 ≤ x5 then
    mgA 19 (((i3 90) * x1) + x3) σ fun v2 =>
    if v2 = (i3 0) then
      mgA 20 (((i3 90) * x1) + x3) σ fun v3 =>
      if v3 = x4 then
        fMd_agrees_j240 k123 x1 x3 σ
      else
        fMd_agrees_j245 k123 x1 x3 (i3 0) σ
    else
      fMd_agrees_j240 k123 x1 x3 σ
  else
    fMd_agrees_l159 k123 k146 FU x1 x3 x4 x5 (i3 0) σ) := rfl
theorem fMd_agrees_l146_S {k123 : Int32 → Int32 → Int32 → Sg → Option (Int32 × Sg)} {fu : Nat} {x1 : Int32} {x3 : Int32} {x4 : Int32} {x5 : Int32} {σ : Sg} : fMd_agrees_l146 k123 (fu + 1) x1 x3 x4 x5 σ = fMd_agrees_b146 k123 (fMd_agrees_l146 k123 fu) x1 x3 x4 x5 σ := rfl
theorem fMd_agrees_b123_E {k123 : Int32 → Int32 → Int32 → Sg → Option (Int32 × Sg)} {x1 : Int32} {x2 : Int32} {x3 : Int32} {σ : Sg} : fMd_agrees_b123 k123 x1 x2 x3 σ = (
  mgA 18 x1 σ fun v1 =>
  if v1 ≤ x3 then
    rZ x2 (some (x2, σ))
  else
    if x2 = (i3 0) then
      rZ x2 (some (x2, σ))
    else
      fMd_agrees_l146 k123 FU x1 x3 (i3 0) ((i3 40) * x1) σ) := rfl
theorem fMd_agrees_l123_S  {fu : Nat} {x1 : Int32} {x2 : Int32} {x3 : Int32} {σ : Sg} : fMd_agrees_l123 (fu + 1) x1 x2 x3 σ = fMd_agrees_b123 (fMd_agrees_l123 fu) x1 x2 x3 σ := rfl
theorem fMd_agrees_j121_E {x1 : Int32} {x2 : Int32} {σ : Sg} : fMd_agrees_j121 x1 x2 σ = (
  fMd_agrees_l123 FU x1 x2 (i3 0) σ) := rfl
theorem fMd_agrees_j115_E {k28 : Int32 → Int32 → Int32 → Sg → Option (Int32 × Sg)} {x1 : Int32} {x2 : Int32} {x3 : Int32} {σ : Sg} : fMd_agrees_j115 k28 x1 x2 x3 σ = (
  k28 x1 x2 (x3 + (i3 1)) σ) := rfl
theorem fMd_agrees_j108_E {k28 : Int32 → Int32 → Int32 → Sg → Option (Int32 × Sg)} {k44 : Int32 → Int32 → Int32 → Int32 → Sg → Option (Int32 × Sg)} {x1 : Int32} {x3 : Int32} {x4 : Int32} {s0 : Int32} {σ : Sg} : fMd_agrees_j108 k28 k44 x1 x3 x4 s0 σ = (
  k44 x1 s0 x3 (x4 + (i3 1)) σ) := rfl
theorem fMd_agrees_j103_E {k28 : Int32 → Int32 → Int32 → Sg → Option (Int32 × Sg)} {k44 : Int32 → Int32 → Int32 → Int32 → Sg → Option (Int32 × Sg)} {x1 : Int32} {x3 : Int32} {x4 : Int32} {σ : Sg} : fMd_agrees_j103 k28 k44 x1 x3 x4 σ = (
  fMd_agrees_j108 k28 k44 x1 x3 x4 (i3 1) σ) := rfl
theorem fMd_agrees_b44_E {k28 : Int32 → Int32 → Int32 → Sg → Option (Int32 × Sg)} {k44 : Int32 → Int32 → Int32 → Int32 → Sg → Option (Int32 × Sg)} {x1 : Int32} {x2 : Int32} {x3 : Int32} {x4 : Int32} {σ : Sg} : fMd_agrees_b44 k28 k44 x1 x2 x3 x4 σ = (
  mgA 27 x3 σ fun v1 =>
  mgA 9 v1 σ fun v2 =>
  if v2 ≤ x4 then
    fMd_agrees_j115 k28 x1 x2 x3 σ
  else
    if x2 = (i3 0) then
      fMd_agrees_j115 k28 x1 x2 x3 σ
    else
      bdW (fMd_byteOf x1 x3 x4 σ) fun v3 σ4 =>
      if v3 = m4 then
        fMd_agrees_j103 k28 k44 x1 x3 x4 σ4
      else
        mgA 27 x3 σ4 fun v5 =>
        mgA 10 (((i3 40) * v5) + x4) σ4 fun v6 =>
        if v3 = v6 then
          fMd_agrees_j103 k28 k44 x1 x3 x4 σ4
        else
          fMd_agrees_j108 k28 k44 x1 x3 x4 (i3 0) σ4) := rfl
theorem fMd_agrees_l44_S {k28 : Int32 → Int32 → Int32 → Sg → Option (Int32 × Sg)} {fu : Nat} {x1 : Int32} {x2 : Int32} {x3 : Int32} {x4 : Int32} {σ : Sg} : fMd_agrees_l44 k28 (fu + 1) x1 x2 x3 x4 σ = fMd_agrees_b44 k28 (fMd_agrees_l44 k28 fu) x1 x2 x3 x4 σ := rfl
theorem fMd_agrees_b28_E {k28 : Int32 → Int32 → Int32 → Sg → Option (Int32 × Sg)} {x1 : Int32} {x2 : Int32} {x3 : Int32} {σ : Sg} : fMd_agrees_b28 k28 x1 x2 x3 σ = (
  bdR (fMd_endOf x1 σ) fun v1 =>
  if v1 ≤ x3 then
    fMd_agrees_j121 x1 x2 σ
  else
    if x2 = (i3 0) then
      fMd_agrees_j121 x1 x2 σ
    else
      fMd_agrees_l44 k28 FU x1 x2 x3 (i3 0) σ) := rfl
theorem fMd_agrees_l28_S  {fu : Nat} {x1 : Int32} {x2 : Int32} {x3 : Int32} {σ : Sg} : fMd_agrees_l28 (fu + 1) x1 x2 x3 σ = fMd_agrees_b28 (fMd_agrees_l28 fu) x1 x2 x3 σ := rfl
theorem fMd_agrees_j13_E {x1 : Int32} {s0 : Int32} {σ : Sg} : fMd_agrees_j13 x1 s0 σ = (
  bdW (fMd_holds s0 σ) fun v1 σ2 =>
  if v1 = (i3 0) then
    rZ (i3 0) (some ((i3 0), σ2))
  else
    fMd_agrees_l28 FU x1 (i3 1) ((i3 40) * x1) σ2) := rfl
theorem fMd_agrees_E {x1 : Int32} {σ : Sg} : fMd_agrees x1 σ = (
  bdR (fMd_isRegion x1) fun v1 =>
  if v1 = (i3 0) then
    fMd_agrees_j13 x1 (i3 1) σ
  else
    fMd_agrees_j13 x1 (i3 0) σ) := rfl
theorem fMd_isObject_E {x1 : Int32} {x2 : Int32} {σ : Sg} : fMd_isObject x1 x2 σ = (
  mgA 28 x2 σ fun v1 =>
  bdR (fMd_latest x1 v1 σ) fun v2 =>
  if v2 = x2 then
    bdR (fMd_isMark x2 σ) fun v3 =>
    if v3 = (i3 0) then
      rZ (i3 1) (some (i3 1))
    else
      rZ (i3 0) (some (i3 0))
  else
    rZ (i3 0) (some (i3 0))) := rfl
theorem fMd_areSameBytes_j71_E {k24 : Int32 → Int32 → Int32 → Int32 → Sg → Option (Int32)} {x1 : Int32} {x2 : Int32} {x4 : Int32} {s0 : Int32} {σ : Sg} : fMd_areSameBytes_j71 k24 x1 x2 x4 s0 σ = (
  k24 x1 x2 s0 (x4 + (i3 1)) σ) := rfl
theorem fMd_areSameBytes_b24_E {k24 : Int32 → Int32 → Int32 → Int32 → Sg → Option (Int32)} {x1 : Int32} {x2 : Int32} {x3 : Int32} {x4 : Int32} {σ : Sg} : fMd_areSameBytes_b24 k24 x1 x2 x3 x4 σ = (
  mgA 9 x1 σ fun v1 =>
  if v1 ≤ x4 then
    rZ x3 (some x3)
  else
    if x3 = (i3 0) then
      rZ x3 (some x3)
    else
      mgA 10 (((i3 40) * x1) + x4) σ fun v2 =>
      mgA 10 (((i3 40) * x2) + x4) σ fun v3 =>
      if v2 = v3 then
        fMd_areSameBytes_j71 k24 x1 x2 x4 (i3 1) σ
      else
        fMd_areSameBytes_j71 k24 x1 x2 x4 (i3 0) σ) := rfl
theorem fMd_areSameBytes_l24_S  {fu : Nat} {x1 : Int32} {x2 : Int32} {x3 : Int32} {x4 : Int32} {σ : Sg} : fMd_areSameBytes_l24 (fu + 1) x1 x2 x3 x4 σ = fMd_areSameBytes_b24 (fMd_areSameBytes_l24 fu) x1 x2 x3 x4 σ := rfl
theorem fMd_areSameBytes_j20_E {x1 : Int32} {x2 : Int32} {s0 : Int32} {σ : Sg} : fMd_areSameBytes_j20 x1 x2 s0 σ = (
  fMd_areSameBytes_l24 FU x1 x2 s0 (i3 0) σ) := rfl
theorem fMd_areSameBytes_E {x1 : Int32} {x2 : Int32} {σ : Sg} : fMd_areSameBytes x1 x2 σ = (
  mgA 9 x1 σ fun v1 =>
  mgA 9 x2 σ fun v2 =>
  if v1 = v2 then
    fMd_areSameBytes_j20 x1 x2 (i3 1) σ
  else
    fMd_areSameBytes_j20 x1 x2 (i3 0) σ) := rfl
theorem fMd_isWithin_j97_E {k7 : Int32 → Int32 → Int32 → Sg → Option (Int32)} {x1 : Int32} {x3 : Int32} {s0 : Int32} {σ : Sg} : fMd_isWithin_j97 k7 x1 x3 s0 σ = (
  k7 x1 s0 (x3 + (i3 1)) σ) := rfl
theorem fMd_isWithin_j92_E {k7 : Int32 → Int32 → Int32 → Sg → Option (Int32)} {x1 : Int32} {x3 : Int32} {σ : Sg} : fMd_isWithin_j92 k7 x1 x3 σ = (
  fMd_isWithin_j97 k7 x1 x3 (i3 1) σ) := rfl
theorem fMd_isWithin_j96_E {k7 : Int32 → Int32 → Int32 → Sg → Option (Int32)} {x1 : Int32} {x3 : Int32} {σ : Sg} : fMd_isWithin_j96 k7 x1 x3 σ = (
  fMd_isWithin_j97 k7 x1 x3 (i3 0) σ) := rfl
theorem fMd_isWithin_j46_E {k7 : Int32 → Int32 → Int32 → Sg → Option (Int32)} {x1 : Int32} {x3 : Int32} {s0 : Int32} {σ : Sg} : fMd_isWithin_j46 k7 x1 x3 s0 σ = (
  bdR (fMd_isObject x1 x3 σ) fun v1 =>
  if v1 = (i3 0) then
    fMd_isWithin_j92 k7 x1 x3 σ
  else
    if s0 = m1 then
      fMd_isWithin_j96 k7 x1 x3 σ
    else
      bdR (fMd_isMark s0 σ) fun v2 =>
      if v2 = (i3 0) then
        mgA 27 x3 σ fun v3 =>
        mgA 27 s0 σ fun v4 =>
        bdR (fMd_areSameBytes v3 v4 σ) fun v5 =>
        if v5 = (i3 0) then
          fMd_isWithin_j96 k7 x1 x3 σ
        else
          fMd_isWithin_j92 k7 x1 x3 σ
      else
        fMd_isWithin_j96 k7 x1 x3 σ) := rfl
theorem fMd_isWithin_b7_E {k7 : Int32 → Int32 → Int32 → Sg → Option (Int32)} {x1 : Int32} {x2 : Int32} {x3 : Int32} {σ : Sg} : fMd_isWithin_b7 k7 x1 x2 x3 σ = (
  bdR (fMd_endOf x1 σ) fun v1 =>
  if v1 ≤ x3 then
    rZ x2 (some x2)
  else
    if x2 = (i3 0) then
      rZ x2 (some x2)
    else
      bdR (fMd_isObject x1 x3 σ) fun v2 =>
      if v2 = (i3 0) then
        fMd_isWithin_j46 k7 x1 x3 m1 σ
      else
        mgA 28 x3 σ fun v3 =>
        bdR (fMd_latest ((i3 1) - x1) v3 σ) fun v4 =>
        fMd_isWithin_j46 k7 x1 x3 v4 σ) := rfl
theorem fMd_isWithin_l7_S  {fu : Nat} {x1 : Int32} {x2 : Int32} {x3 : Int32} {σ : Sg} : fMd_isWithin_l7 (fu + 1) x1 x2 x3 σ = fMd_isWithin_b7 (fMd_isWithin_l7 fu) x1 x2 x3 σ := rfl
theorem fMd_isWithin_E {x1 : Int32} {σ : Sg} : fMd_isWithin x1 σ = (
  fMd_isWithin_l7 FU x1 (i3 1) ((i3 40) * x1) σ) := rfl
theorem fMd_areAlike_E {σ : Sg} : fMd_areAlike σ = (
  mpF 0 (i3 0) σ fun σ1 =>
  bdR (fMd_isWithin (i3 0) σ1) fun v2 =>
  if v2 = (i3 0) then
    rZ (i3 0) (some ((i3 0), σ1))
  else
    bdR (fMd_isWithin (i3 1) σ1) fun v3 =>
    if v3 = (i3 0) then
      rZ (i3 0) (some ((i3 0), σ1))
    else
      rZ (i3 1) (some ((i3 1), σ1))) := rfl
theorem fMd_asWord_E {x0 : Int32} : fMd_asWord x0 = (
  bdR (fMd_letterOf x0 (i3 0)) fun v1 =>
  bdR (fMd_letterOf x0 (i3 1)) fun v2 =>
  bdR (fMd_letterOf x0 (i3 2)) fun v3 =>
  some ((((i3 25) * v1) + ((i3 5) * v2)) + v3)) := rfl
theorem fMd_ask_j106_E {x5 : Int32} {s0 : Int32} {σ : Sg} : fMd_ask_j106 x5 s0 σ = (
  bdW (fMd_holds s0 σ) fun v1 σ2 =>
  if v1 = (i3 0) then
    some ((i3 0), σ2)
  else
    mgF 11 σ2 fun v3 =>
    mpA 32 x5 v3 σ2 fun σ4 =>
    mgF 11 σ4 fun v5 =>
    some ((v5 + (i3 2)), σ4)) := rfl
theorem fMd_ask_j84_E {x4 : Int32} {x5 : Int32} {s0 : Int32} {σ : Sg} : fMd_ask_j84 x4 x5 s0 σ = (
  if x4 = (i3 0) then
    fMd_ask_j106 x5 (i3 1) σ
  else
    if s0 = (i3 0) then
      fMd_ask_j106 x5 (i3 3) σ
    else
      fMd_ask_j106 x5 (i3 0) σ) := rfl
theorem fMd_ask_j83_E {x4 : Int32} {x5 : Int32} {σ : Sg} : fMd_ask_j83 x4 x5 σ = (
  fMd_ask_j84 x4 x5 (i3 0) σ) := rfl
theorem fMd_ask_j79_E {x4 : Int32} {x5 : Int32} {σ : Sg} : fMd_ask_j79 x4 x5 σ = (
  fMd_ask_j84 x4 x5 (i3 1) σ) := rfl
theorem fMd_ask_j25_E {x4 : Int32} {s0 : Int32} {σ : Sg} : fMd_ask_j25 x4 s0 σ = (
  if x4 = (i3 0) then
    fMd_ask_j83 x4 s0 σ
  else
    bdR (fMd_isMark s0 σ) fun v1 =>
    if v1 = (i3 0) then
      mgA 30 s0 σ fun v2 =>
      if v2 = (i3 2) then
        mgA 32 s0 σ fun v3 =>
        if v3 = m1 then
          fMd_ask_j79 x4 s0 σ
        else
          mgF 11 σ fun v4 =>
          mgA 32 s0 σ fun v5 =>
          if v4 ≤ (v5 + (i3 4)) then
            fMd_ask_j83 x4 s0 σ
          else
            fMd_ask_j79 x4 s0 σ
      else
        fMd_ask_j83 x4 s0 σ
    else
      fMd_ask_j83 x4 s0 σ) := rfl
theorem fMd_ask_E {x1 : Int32} {x2 : Int32} {x3 : Int32} {σ : Sg} : fMd_ask x1 x2 x3 σ = (
  bdR (fMd_isVersion x1 x2 x3 σ) fun v1 =>
  if v1 = (i3 0) then
    fMd_ask_j25 v1 (i3 0) σ
  else
    bdR (fMd_versionAt x1 x2 x3 σ) fun v2 =>
    fMd_ask_j25 v1 v2 σ) := rfl
theorem fMd_cuts_j112_E {k9 : Int32 → Int32 → Sg → Option (Unit × Sg)} {x1 : Int32} {x2 : Int32} {σ : Sg} : fMd_cuts_j112 k9 x1 x2 σ = (
  k9 x1 (x2 + (i3 1)) σ) := rfl
theorem fMd_cuts_j71_E {k9 : Int32 → Int32 → Sg → Option (Unit × Sg)} {x1 : Int32} {x2 : Int32} {x3 : Int32} {s0 : Int32} {σ : Sg} : fMd_cuts_j71 k9 x1 x2 x3 s0 σ = (
  if s0 = (i3 0) then
    fMd_cuts_j112 k9 x1 x2 σ
  else
    mgF 5 σ fun v1 =>
    mpA 6 v1 x1 σ fun σ2 =>
    mgF 5 σ2 fun v3 =>
    mpA 7 v3 x3 σ2 fun σ4 =>
    mgF 5 σ4 fun v5 =>
    mpF 5 (v5 + (i3 1)) σ4 fun σ6 =>
    fMd_cuts_j112 k9 (x2 + (i3 1)) x2 σ6) := rfl
theorem fMd_cuts_j66_E {k9 : Int32 → Int32 → Sg → Option (Unit × Sg)} {x1 : Int32} {x2 : Int32} {x3 : Int32} {σ : Sg} : fMd_cuts_j66 k9 x1 x2 x3 σ = (
  fMd_cuts_j71 k9 x1 x2 x3 (i3 1) σ) := rfl
theorem fMd_cuts_j56_E {k9 : Int32 → Int32 → Sg → Option (Unit × Sg)} {x1 : Int32} {x2 : Int32} {x3 : Int32} {σ : Sg} : fMd_cuts_j56 k9 x1 x2 x3 σ = (
  mgF 3 σ fun v1 =>
  if (x2 + (i3 1)) = v1 then
    fMd_cuts_j66 k9 x1 x2 x3 σ
  else
    fMd_cuts_j71 k9 x1 x2 x3 (i3 0) σ) := rfl
theorem fMd_cuts_b9_E {k9 : Int32 → Int32 → Sg → Option (Unit × Sg)} {x1 : Int32} {x2 : Int32} {σ : Sg} : fMd_cuts_b9 k9 x1 x2 σ = (
  mgF 3 σ fun v1 =>
  if v1 ≤ x2 then
    some ((), σ)
  else
    if ((x2 + (i3 1)) - x1) = (i3 6) then
      fMd_cuts_j66 k9 x1 x2 ((x2 + (i3 1)) - x1) σ
    else
      if ((x2 + (i3 1)) - x1) ≤ (i3 1) then
        fMd_cuts_j56 k9 x1 x2 ((x2 + (i3 1)) - x1) σ
      else
        mgA 4 (x2 - (i3 1)) σ fun v2 =>
        mgA 4 x2 σ fun v3 =>
        if ((((i3 3) * v2) + v3) - (((i3 3) * v2) + v3) / (i3 5) * (i3 5)) = (i3 0) then
          fMd_cuts_j66 k9 x1 x2 ((x2 + (i3 1)) - x1) σ
        else
          fMd_cuts_j56 k9 x1 x2 ((x2 + (i3 1)) - x1) σ) := rfl
theorem fMd_cuts_l9_S  {fu : Nat} {x1 : Int32} {x2 : Int32} {σ : Sg} : fMd_cuts_l9 (fu + 1) x1 x2 σ = fMd_cuts_b9 (fMd_cuts_l9 fu) x1 x2 σ := rfl
theorem fMd_cuts_E {σ : Sg} : fMd_cuts σ = (
  mpF 5 (i3 0) σ fun σ1 =>
  fMd_cuts_l9 FU (i3 0) (i3 0) σ1) := rfl
theorem fMd_atHand_b10_E {k10 : Int32 → Sg → Option (Unit × Sg)} {x1 : Int32} {σ : Sg} : fMd_atHand_b10 k10 x1 σ = (
  mgF 3 σ fun v1 =>
  if v1 ≤ x1 then
    bdW (fMd_cuts σ) fun v2 σ3 =>
    some ((), σ3)
  else
    mgA 2 x1 σ fun v4 =>
    mpA 4 x1 v4 σ fun σ5 =>
    k10 (x1 + (i3 1)) σ5) := rfl
theorem fMd_atHand_l10_S  {fu : Nat} {x1 : Int32} {σ : Sg} : fMd_atHand_l10 (fu + 1) x1 σ = fMd_atHand_b10 (fMd_atHand_l10 fu) x1 σ := rfl
theorem fMd_atHand_E {σ : Sg} : fMd_atHand σ = (
  mgF 1 σ fun v1 =>
  mpF 3 v1 σ fun σ2 =>
  fMd_atHand_l10 FU (i3 0) σ2) := rfl
theorem fMd_behind_j13_E {x1 : Int32} {s0 : Int32} {σ : Sg} : fMd_behind_j13 x1 s0 σ = (
  bdW (fMd_holds s0 σ) fun v1 σ2 =>
  if v1 = (i3 0) then
    some ((i3 0), σ2)
  else
    mgA 36 x1 σ2 fun v3 =>
    some (v3, σ2)) := rfl
theorem fMd_behind_E {x1 : Int32} {σ : Sg} : fMd_behind x1 σ = (
  bdR (fMd_isRegion x1) fun v1 =>
  if v1 = (i3 0) then
    fMd_behind_j13 x1 (i3 1) σ
  else
    fMd_behind_j13 x1 (i3 0) σ) := rfl
theorem fMd_clear_E {σ : Sg} : fMd_clear σ = (
  mpF 0 (i3 0) σ fun σ1 =>
  mgF 1 σ1 fun v2 =>
  mpF 1 (i3 0) σ1 fun σ3 =>
  some (v2, σ3)) := rfl
theorem fMd_weigh_E {x0 : Int32} {x1 : Int32} : fMd_weigh x0 x1 = (
  some (((((i3 7) * x0) + ((i3 13) * x1)) + (((i3 5) * x0) * x1)) - ((((i3 7) * x0) + ((i3 13) * x1)) + (((i3 5) * x0) * x1)) / (i3 31) * (i3 31))) := rfl
theorem fMd_ordered_j61_E {k2 : Int32 → Int32 → Int32 → Option (Int32)} {k13 : Int32 → Int32 → Int32 → Int32 → Int32 → Option (Int32)} {x0 : Int32} {x1 : Int32} {x2 : Int32} {x4 : Int32} {s0 : Int32} {s1 : Int32} : fMd_ordered_j61 k2 k13 x0 x1 x2 x4 s0 s1 = (
  k13 x0 x1 x2 (s1 + s0) (x4 + (i3 1))) := rfl
theorem fMd_ordered_j56_E {k2 : Int32 → Int32 → Int32 → Option (Int32)} {k13 : Int32 → Int32 → Int32 → Int32 → Int32 → Option (Int32)} {x0 : Int32} {x1 : Int32} {x2 : Int32} {x4 : Int32} {s0 : Int32} : fMd_ordered_j56 k2 k13 x0 x1 x2 x4 s0 = (
  fMd_ordered_j61 k2 k13 x0 x1 x2 x4 (i3 1) s0) := rfl
theorem fMd_ordered_j60_E {k2 : Int32 → Int32 → Int32 → Option (Int32)} {k13 : Int32 → Int32 → Int32 → Int32 → Int32 → Option (Int32)} {x0 : Int32} {x1 : Int32} {x2 : Int32} {x4 : Int32} {s0 : Int32} : fMd_ordered_j60 k2 k13 x0 x1 x2 x4 s0 = (
  fMd_ordered_j61 k2 k13 x0 x1 x2 x4 (i3 0) s0) := rfl
theorem fMd_ordered_b13_E {k2 : Int32 → Int32 → Int32 → Option (Int32)} {k13 : Int32 → Int32 → Int32 → Int32 → Int32 → Option (Int32)} {x0 : Int32} {x1 : Int32} {x2 : Int32} {x3 : Int32} {x4 : Int32} : fMd_ordered_b13 k2 k13 x0 x1 x2 x3 x4 = (
  if (i3 6) ≤ x4 then
    if x3 = x1 then
      some x2
    else
      k2 x0 x1 (x2 + (i3 1))
  else
    bdR (fMd_weigh x0 x2) fun v1 =>
    bdR (fMd_weigh x0 x4) fun v2 =>
    if v1 < v2 then
      fMd_ordered_j56 k2 k13 x0 x1 x2 x4 x3
    else
      if v2 = v1 then
        if x2 ≤ x4 then
          fMd_ordered_j60 k2 k13 x0 x1 x2 x4 x3
        else
          fMd_ordered_j56 k2 k13 x0 x1 x2 x4 x3
      else
        fMd_ordered_j60 k2 k13 x0 x1 x2 x4 x3) := rfl
theorem fMd_ordered_l13_S {k2 : Int32 → Int32 → Int32 → Option (Int32)} {fu : Nat} {x0 : Int32} {x1 : Int32} {x2 : Int32} {x3 : Int32} {x4 : Int32} : fMd_ordered_l13 k2 (fu + 1) x0 x1 x2 x3 x4 = fMd_ordered_b13 k2 (fMd_ordered_l13 k2 fu) x0 x1 x2 x3 x4 := rfl
theorem fMd_ordered_b2_E {k2 : Int32 → Int32 → Int32 → Option (Int32)} {x0 : Int32} {x1 : Int32} {x2 : Int32} : fMd_ordered_b2 k2 x0 x1 x2 = (
  if (i3 6) ≤ x2 then
    some m1
  else
    fMd_ordered_l13 k2 FU x0 x1 x2 (i3 0) (i3 0)) := rfl
theorem fMd_ordered_l2_S  {fu : Nat} {x0 : Int32} {x1 : Int32} {x2 : Int32} : fMd_ordered_l2 (fu + 1) x0 x1 x2 = fMd_ordered_b2 (fMd_ordered_l2 fu) x0 x1 x2 := rfl
theorem fMd_ordered_E {x0 : Int32} {x1 : Int32} : fMd_ordered x0 x1 = (
  fMd_ordered_l2 FU x0 x1 (i3 0)) := rfl
theorem fMd_dataAt_E {x1 : Int32} {x2 : Int32} {x3 : Int32} {σ : Sg} : fMd_dataAt x1 x2 x3 σ = (
  mgA 21 x1 σ fun v1 =>
  if v1 ≤ (((i3 2) * x2) + x3) then
    some (i3 0)
  else
    mgA 22 (((i3 6) * x1) + (((i3 2) * x2) + x3)) σ fun v2 =>
    some v2) := rfl
theorem fMd_made_b6_E {k6 : Int32 → Int32 → Int32 → Int32 → Int32 → Sg → Option (Int32)} {x1 : Int32} {x2 : Int32} {x3 : Int32} {x4 : Int32} {x5 : Int32} {σ : Sg} : fMd_made_b6 k6 x1 x2 x3 x4 x5 σ = (
  if (i3 3) ≤ x5 then
    some x4
  else
    bdR (fMd_weight x2 x5) fun v1 =>
    bdR (fMd_dataAt x1 x5 x3 σ) fun v2 =>
    bdR (fMd_times v1 v2) fun v3 =>
    k6 x1 x2 x3 (x4 ^^^ v3) (x5 + (i3 1)) σ) := rfl
theorem fMd_made_l6_S  {fu : Nat} {x1 : Int32} {x2 : Int32} {x3 : Int32} {x4 : Int32} {x5 : Int32} {σ : Sg} : fMd_made_l6 (fu + 1) x1 x2 x3 x4 x5 σ = fMd_made_b6 (fMd_made_l6 fu) x1 x2 x3 x4 x5 σ := rfl
theorem fMd_made_E {x1 : Int32} {x2 : Int32} {x3 : Int32} {σ : Sg} : fMd_made x1 x2 x3 σ = (
  fMd_made_l6 FU x1 x2 x3 (i3 0) (i3 0) σ) := rfl
theorem fMd_lays_b25_E {k25 : Int32 → Int32 → Int32 → Sg → Option (Unit × Sg)} {x1 : Int32} {x2 : Int32} {x4 : Int32} {σ : Sg} : fMd_lays_b25 k25 x1 x2 x4 σ = (
  if (i3 2) ≤ x4 then
    some ((), σ)
  else
    bdR (fMd_made x1 x2 x4 σ) fun v1 =>
    mpA 24 (((i3 2) * (((i3 5) * x1) + x2)) + x4) v1 σ fun σ2 =>
    k25 x1 x2 (x4 + (i3 1)) σ2) := rfl
theorem fMd_lays_l25_S  {fu : Nat} {x1 : Int32} {x2 : Int32} {x4 : Int32} {σ : Sg} : fMd_lays_l25 (fu + 1) x1 x2 x4 σ = fMd_lays_b25 (fMd_lays_l25 fu) x1 x2 x4 σ := rfl
theorem fMd_lays_E {x1 : Int32} {x2 : Int32} {x3 : Int32} {σ : Sg} : fMd_lays x1 x2 x3 σ = (
  mpA 23 (((i3 5) * x1) + x2) x3 σ fun σ1 =>
  mpZ 25 (((i3 5) * x1) + x2) (i3 0) σ1 fun σ2 =>
  fMd_lays_l25 FU x1 x2 (i3 0) σ2) := rfl
theorem fMd_comes_j100_E {k52 : Int32 → Int32 → Int32 → Int32 → Int32 → Sg → Option (Unit × Sg)} {x1 : Int32} {x2 : Int32} {x3 : Int32} {x4 : Int32} {x5 : Int32} {σ : Sg} : fMd_comes_j100 k52 x1 x2 x3 x4 x5 σ = (
  k52 x1 x2 x3 x4 (x5 + (i3 1)) σ) := rfl
theorem fMd_comes_b52_E {k52 : Int32 → Int32 → Int32 → Int32 → Int32 → Sg → Option (Unit × Sg)} {x1 : Int32} {x2 : Int32} {x3 : Int32} {x4 : Int32} {x5 : Int32} {σ : Sg} : fMd_comes_b52 k52 x1 x2 x3 x4 x5 σ = (
  if (i3 6) ≤ x5 then
    some ((), σ)
  else
    if (i3 5) ≤ x4 then
      some ((), σ)
    else
      bdR (fMd_ordered x2 x5) fun v1 =>
      mgA 17 (((i3 6) * x1) + v1) σ fun v2 =>
      if v2 = (i3 0) then
        bdW (fMd_lays x3 x4 v1 σ) fun v3 σ4 =>
        fMd_comes_j100 k52 x1 x2 x3 (x4 + (i3 1)) x5 σ4
      else
        fMd_comes_j100 k52 x1 x2 x3 x4 x5 σ) := rfl
theorem fMd_comes_l52_S  {fu : Nat} {x1 : Int32} {x2 : Int32} {x3 : Int32} {x4 : Int32} {x5 : Int32} {σ : Sg} : fMd_comes_l52 (fu + 1) x1 x2 x3 x4 x5 σ = fMd_comes_b52 (fMd_comes_l52 fu) x1 x2 x3 x4 x5 σ := rfl
theorem fMd_comes_b10_E {k10 : Int32 → Int32 → Int32 → Int32 → Sg → Option (Unit × Sg)} {x1 : Int32} {x2 : Int32} {x3 : Int32} {x4 : Int32} {σ : Sg} : fMd_comes_b10 k10 x1 x2 x3 x4 σ = (
  if (i3 5) ≤ x4 then
    fMd_comes_l52 FU x1 x2 x3 (i3 0) (i3 0) σ
  else
    mpA 23 (((i3 5) * x3) + x4) m1 σ fun σ1 =>
    mpZ 25 (((i3 5) * x3) + x4) (i3 0) σ1 fun σ2 =>
    k10 x1 x2 x3 (x4 + (i3 1)) σ2) := rfl
theorem fMd_comes_l10_S  {fu : Nat} {x1 : Int32} {x2 : Int32} {x3 : Int32} {x4 : Int32} {σ : Sg} : fMd_comes_l10 (fu + 1) x1 x2 x3 x4 σ = fMd_comes_b10 (fMd_comes_l10 fu) x1 x2 x3 x4 σ := rfl
theorem fMd_comes_E {x1 : Int32} {x2 : Int32} {σ : Sg} : fMd_comes x1 x2 σ = (
  fMd_comes_l10 FU x1 x2 (((i3 90) * x1) + x2) (i3 0) σ) := rfl
theorem fMd_cost_j15_E {x1 : Int32} {s0 : Int32} {σ : Sg} : fMd_cost_j15 x1 s0 σ = (
  bdW (fMd_holds s0 σ) fun v1 σ2 =>
  if v1 = (i3 0) then
    some ((i3 0), σ2)
  else
    mgA 12 x1 σ2 fun v3 =>
    some (v3, σ2)) := rfl
theorem fMd_cost_E {x1 : Int32} {σ : Sg} : fMd_cost x1 σ = (
  bdR (fMd_isIn x1 (i3 0) (i3 2)) fun v1 =>
  if v1 = (i3 0) then
    fMd_cost_j15 x1 (i3 1) σ
  else
    fMd_cost_j15 x1 (i3 0) σ) := rfl
theorem fMd_numbers_b46_E {k46 : Int32 → Int32 → Int32 → Sg → Option (Int32 × Sg)} {x1 : Int32} {x3 : Int32} {x4 : Int32} {σ : Sg} : fMd_numbers_b46 k46 x1 x3 x4 σ = (
  if x3 ≤ x4 then
    mgA 36 x1 σ fun v1 =>
    mgF 8 σ fun v2 =>
    mpA 37 (((i3 200) * x1) + v1) v2 σ fun σ3 =>
    mgA 36 x1 σ3 fun v4 =>
    mpA 36 x1 (v4 + (i3 1)) σ3 fun σ5 =>
    mgF 8 σ5 fun v6 =>
    some (v6, σ5)
  else
    mgF 8 σ fun v7 =>
    mgA 4 x4 σ fun v8 =>
    mpA 10 (((i3 40) * v7) + x4) v8 σ fun σ9 =>
    k46 x1 x3 (x4 + (i3 1)) σ9) := rfl
theorem fMd_numbers_l46_S  {fu : Nat} {x1 : Int32} {x3 : Int32} {x4 : Int32} {σ : Sg} : fMd_numbers_l46 (fu + 1) x1 x3 x4 σ = fMd_numbers_b46 (fMd_numbers_l46 fu) x1 x3 x4 σ := rfl
theorem fMd_numbers_E {x1 : Int32} {x2 : Int32} {x3 : Int32} {σ : Sg} : fMd_numbers x1 x2 x3 σ = (
  mgF 8 σ fun v1 =>
  mpF 8 (v1 + (i3 1)) σ fun σ2 =>
  mgF 8 σ2 fun v3 =>
  mpA 9 v3 x3 σ2 fun σ4 =>
  mgF 8 σ4 fun v5 =>
  mpA 38 v5 x2 σ4 fun σ6 =>
  mgF 8 σ6 fun v7 =>
  mgF 11 σ6 fun v8 =>
  mpA 39 v7 v8 σ6 fun σ9 =>
  fMd_numbers_l46 FU x1 x3 (i3 0) σ9) := rfl
theorem fMd_found_j115_E {k2 : Int32 → Int32 → Int32 → Sg → Option (Int32)} {x1 : Int32} {x2 : Int32} {x3 : Int32} {x5 : Int32} {σ : Sg} : fMd_found_j115 k2 x1 x2 x3 x5 σ = (
  if x5 = (i3 0) then
    k2 x1 x2 (x3 + (i3 1)) σ
  else
    some x3) := rfl
theorem fMd_found_j107_E {k2 : Int32 → Int32 → Int32 → Sg → Option (Int32)} {k56 : Int32 → Int32 → Int32 → Int32 → Int32 → Int32 → Sg → Option (Int32)} {x1 : Int32} {x2 : Int32} {x3 : Int32} {x4 : Int32} {x6 : Int32} {s0 : Int32} {σ : Sg} : fMd_found_j107 k2 k56 x1 x2 x3 x4 x6 s0 σ = (
  k56 x1 x2 x3 x4 s0 (x6 + (i3 1)) σ) := rfl
theorem fMd_found_b56_E {k2 : Int32 → Int32 → Int32 → Sg → Option (Int32)} {k56 : Int32 → Int32 → Int32 → Int32 → Int32 → Int32 → Sg → Option (Int32)} {x1 : Int32} {x2 : Int32} {x3 : Int32} {x4 : Int32} {x5 : Int32} {x6 : Int32} {σ : Sg} : fMd_found_b56 k2 k56 x1 x2 x3 x4 x5 x6 σ = (
  mgA 7 x2 σ fun v1 =>
  if v1 ≤ x6 then
    fMd_found_j115 k2 x1 x2 x3 x5 σ
  else
    if x5 = (i3 0) then
      fMd_found_j115 k2 x1 x2 x3 x5 σ
    else
      mgA 22 (((i3 6) * x4) + x6) σ fun v2 =>
      mgA 6 x2 σ fun v3 =>
      mgA 4 (v3 + x6) σ fun v4 =>
      if v2 = v4 then
        fMd_found_j107 k2 k56 x1 x2 x3 x4 x6 (i3 1) σ
      else
        fMd_found_j107 k2 k56 x1 x2 x3 x4 x6 (i3 0) σ) := rfl
theorem fMd_found_l56_S {k2 : Int32 → Int32 → Int32 → Sg → Option (Int32)} {fu : Nat} {x1 : Int32} {x2 : Int32} {x3 : Int32} {x4 : Int32} {x5 : Int32} {x6 : Int32} {σ : Sg} : fMd_found_l56 k2 (fu + 1) x1 x2 x3 x4 x5 x6 σ = fMd_found_b56 k2 (fMd_found_l56 k2 fu) x1 x2 x3 x4 x5 x6 σ := rfl
theorem fMd_found_j51_E {k2 : Int32 → Int32 → Int32 → Sg → Option (Int32)} {x1 : Int32} {x2 : Int32} {x3 : Int32} {x4 : Int32} {s0 : Int32} {σ : Sg} : fMd_found_j51 k2 x1 x2 x3 x4 s0 σ = (
  fMd_found_l56 k2 FU x1 x2 x3 x4 s0 (i3 0) σ) := rfl
theorem fMd_found_j50_E {k2 : Int32 → Int32 → Int32 → Sg → Option (Int32)} {x1 : Int32} {x2 : Int32} {x3 : Int32} {x4 : Int32} {σ : Sg} : fMd_found_j50 k2 x1 x2 x3 x4 σ = (
  fMd_found_j51 k2 x1 x2 x3 x4 (i3 0) σ) := rfl
theorem fMd_found_b2_E {k2 : Int32 → Int32 → Int32 → Sg → Option (Int32)} {x1 : Int32} {x2 : Int32} {x3 : Int32} {σ : Sg} : fMd_found_b2 k2 x1 x2 x3 σ = (
  mgA 18 x1 σ fun v1 =>
  if v1 ≤ x3 then
    some m1
  else
    mgA 19 (((i3 90) * x1) + x3) σ fun v2 =>
    if v2 = (i3 0) then
      mgA 21 (((i3 90) * x1) + x3) σ fun v3 =>
      mgA 7 x2 σ fun v4 =>
      if v3 = v4 then
        fMd_found_j51 k2 x1 x2 x3 (((i3 90) * x1) + x3) (i3 1) σ
      else
        fMd_found_j50 k2 x1 x2 x3 (((i3 90) * x1) + x3) σ
    else
      fMd_found_j50 k2 x1 x2 x3 (((i3 90) * x1) + x3) σ) := rfl
theorem fMd_found_l2_S  {fu : Nat} {x1 : Int32} {x2 : Int32} {x3 : Int32} {σ : Sg} : fMd_found_l2 (fu + 1) x1 x2 x3 σ = fMd_found_b2 (fMd_found_l2 fu) x1 x2 x3 σ := rfl
theorem fMd_found_E {x1 : Int32} {x2 : Int32} {σ : Sg} : fMd_found x1 x2 σ = (
  fMd_found_l2 FU x1 x2 (i3 0) σ) := rfl
theorem fMd_stores_j154_E {x3 : Int32} {x5 : Int32} {σ : Sg} : fMd_stores_j154 x3 x5 σ = (
  mgA 20 x5 σ fun v1 =>
  mpA 20 x5 (v1 + (i3 1)) σ fun σ2 =>
  some (x3, σ2)) := rfl
theorem fMd_stores_j148_E {x1 : Int32} {x3 : Int32} {x5 : Int32} {σ : Sg} : fMd_stores_j148 x1 x3 x5 σ = (
  bdW (fMd_comes x1 x3 σ) fun v1 σ2 =>
  fMd_stores_j154 x3 x5 σ2) := rfl
theorem fMd_stores_j125_E {x1 : Int32} {x3 : Int32} {x4 : Int32} {σ : Sg} : fMd_stores_j125 x1 x3 x4 σ = (
  if x4 = (i3 0) then
    bdR (fMd_goodMany (((i3 90) * x1) + x3) σ) fun v1 =>
    if (i3 3) ≤ v1 then
      fMd_stores_j154 x3 (((i3 90) * x1) + x3) σ
    else
      fMd_stores_j148 x1 x3 (((i3 90) * x1) + x3) σ
  else
    fMd_stores_j148 x1 x3 (((i3 90) * x1) + x3) σ) := rfl
theorem fMd_stores_b81_E {k81 : Int32 → Int32 → Int32 → Int32 → Int32 → Int32 → Sg → Option (Int32 × Sg)} {x1 : Int32} {x2 : Int32} {x3 : Int32} {x4 : Int32} {x5 : Int32} {x6 : Int32} {σ : Sg} : fMd_stores_b81 k81 x1 x2 x3 x4 x5 x6 σ = (
  mgA 7 x2 σ fun v1 =>
  if v1 ≤ x6 then
    fMd_stores_j125 x1 x3 x4 σ
  else
    mgA 6 x2 σ fun v2 =>
    mgA 4 (v2 + x6) σ fun v3 =>
    mpA 22 (((i3 6) * x5) + x6) v3 σ fun σ4 =>
    k81 x1 x2 x3 x4 x5 (x6 + (i3 1)) σ4) := rfl
theorem fMd_stores_l81_S  {fu : Nat} {x1 : Int32} {x2 : Int32} {x3 : Int32} {x4 : Int32} {x5 : Int32} {x6 : Int32} {σ : Sg} : fMd_stores_l81 (fu + 1) x1 x2 x3 x4 x5 x6 σ = fMd_stores_b81 (fMd_stores_l81 fu) x1 x2 x3 x4 x5 x6 σ := rfl
theorem fMd_stores_j17_E {x1 : Int32} {x2 : Int32} {x3 : Int32} {s0 : Int32} {σ : Sg} : fMd_stores_j17 x1 x2 x3 s0 σ = (
  if s0 = (i3 0) then
    fMd_stores_j125 x1 x3 s0 σ
  else
    mgA 18 x1 σ fun v1 =>
    mgA 18 x1 σ fun v2 =>
    mpA 18 x1 (v2 + (i3 1)) σ fun σ3 =>
    mpZ 19 (((i3 90) * x1) + v1) (i3 0) σ3 fun σ4 =>
    mpA 20 (((i3 90) * x1) + v1) (i3 0) σ4 fun σ5 =>
    mgA 7 x2 σ5 fun v6 =>
    mpA 21 (((i3 90) * x1) + v1) v6 σ5 fun σ7 =>
    fMd_stores_l81 FU x1 x2 v1 s0 (((i3 90) * x1) + v1) (i3 0) σ7) := rfl
theorem fMd_stores_E {x1 : Int32} {x2 : Int32} {σ : Sg} : fMd_stores x1 x2 σ = (
  bdR (fMd_found x1 x2 σ) fun v1 =>
  if v1 = m1 then
    fMd_stores_j17 x1 x2 v1 (i3 1) σ
  else
    fMd_stores_j17 x1 x2 v1 (i3 0) σ) := rfl
theorem fMd_enters_b154_E {k154 : Int32 → Int32 → Int32 → Sg → Option (Unit × Sg)} {x1 : Int32} {x4 : Int32} {x5 : Int32} {σ : Sg} : fMd_enters_b154 k154 x1 x4 x5 σ = (
  mgA 33 x4 σ fun v1 =>
  if v1 ≤ x5 then
    some ((), σ)
  else
    bdW (fMd_stores x1 x5 σ) fun v2 σ3 =>
    mpA 34 (((i3 20) * x4) + x5) v2 σ3 fun σ4 =>
    k154 x1 x4 (x5 + (i3 1)) σ4) := rfl
theorem fMd_enters_l154_S  {fu : Nat} {x1 : Int32} {x4 : Int32} {x5 : Int32} {σ : Sg} : fMd_enters_l154 (fu + 1) x1 x4 x5 σ = fMd_enters_b154 (fMd_enters_l154 fu) x1 x4 x5 σ := rfl
theorem fMd_enters_j137_E {x1 : Int32} {x2 : Int32} {x4 : Int32} {s0 : Int32} {s1 : Int32} {σ : Sg} : fMd_enters_j137 x1 x2 x4 s0 s1 σ = (
  mpA 33 s1 s0 σ fun σ1 =>
  mpZ 35 (((i3 201) * x1) + x2) (i3 1) σ1 fun σ2 =>
  fMd_enters_l154 FU x1 x4 (i3 0) σ2) := rfl
theorem fMd_enters_j51_E {x1 : Int32} {x2 : Int32} {x3 : Int32} {x4 : Int32} {σ : Sg} : fMd_enters_j51 x1 x2 x3 x4 σ = (
  mgA 26 x1 σ fun v1 =>
  mpA 26 x1 (v1 + (i3 1)) σ fun σ2 =>
  mpA 27 x4 x2 σ2 fun σ3 =>
  mgA 38 x2 σ3 fun v4 =>
  mpA 28 x4 v4 σ3 fun σ5 =>
  mgA 39 x2 σ5 fun v6 =>
  mpA 29 x4 v6 σ5 fun σ7 =>
  mpA 30 x4 (i3 0) σ7 fun σ8 =>
  mpA 31 x4 m1 σ8 fun σ9 =>
  mpA 32 x4 m1 σ9 fun σ10 =>
  if x3 = (i3 0) then
    mgF 5 σ10 fun v11 =>
    fMd_enters_j137 x1 x2 x4 v11 x4 σ10
  else
    fMd_enters_j137 x1 x2 x4 (i3 0) x4 σ10) := rfl
theorem fMd_enters_b13_E {k13 : Int32 → Int32 → Int32 → Int32 → Sg → Option (Unit × Sg)} {x1 : Int32} {x2 : Int32} {x3 : Int32} {x4 : Int32} {σ : Sg} : fMd_enters_b13 k13 x1 x2 x3 x4 σ = (
  if x4 ≤ ((i3 40) * x1) then
    fMd_enters_j51 x1 x2 x3 x4 σ
  else
    mgA 27 (x4 - (i3 1)) σ fun v1 =>
    if v1 ≤ x2 then
      fMd_enters_j51 x1 x2 x3 x4 σ
    else
      bdW (fMd_moves (x4 - (i3 1)) x4 σ) fun v2 σ3 =>
      k13 x1 x2 x3 (x4 + m1) σ3) := rfl
theorem fMd_enters_l13_S  {fu : Nat} {x1 : Int32} {x2 : Int32} {x3 : Int32} {x4 : Int32} {σ : Sg} : fMd_enters_l13 (fu + 1) x1 x2 x3 x4 σ = fMd_enters_b13 (fMd_enters_l13 fu) x1 x2 x3 x4 σ := rfl
theorem fMd_enters_E {x1 : Int32} {x2 : Int32} {x3 : Int32} {σ : Sg} : fMd_enters x1 x2 x3 σ = (
  mgA 26 x1 σ fun v1 =>
  fMd_enters_l13 FU x1 x2 x3 (((i3 40) * x1) + v1) σ) := rfl
theorem fMd_delete_j101_E {x1 : Int32} {x2 : Int32} {x5 : Int32} {s0 : Int32} {σ : Sg} : fMd_delete_j101 x1 x2 x5 s0 σ = (
  bdW (fMd_holds s0 σ) fun v1 σ2 =>
  if v1 = (i3 0) then
    some ((i3 0), σ2)
  else
    if x5 = (i3 0) then
      some ((i3 0), σ2)
    else
      bdW (fMd_numbers x1 x2 (i3 0) σ2) fun v3 σ4 =>
      bdW (fMd_enters x1 v3 (i3 1) σ4) fun v5 σ6 =>
      some (v3, σ6)) := rfl
theorem fMd_delete_j100_E {x1 : Int32} {x2 : Int32} {x5 : Int32} {σ : Sg} : fMd_delete_j100 x1 x2 x5 σ = (
  fMd_delete_j101 x1 x2 x5 (i3 0) σ) := rfl
theorem fMd_delete_j96_E {x1 : Int32} {x2 : Int32} {x5 : Int32} {σ : Sg} : fMd_delete_j96 x1 x2 x5 σ = (
  fMd_delete_j101 x1 x2 x5 (i3 3) σ) := rfl
theorem fMd_delete_j48_E {x1 : Int32} {x2 : Int32} {x3 : Int32} {s0 : Int32} {σ : Sg} : fMd_delete_j48 x1 x2 x3 s0 σ = (
  if x3 = (i3 0) then
    fMd_delete_j101 x1 x2 s0 (i3 1) σ
  else
    bdR (fMd_isKey x2) fun v1 =>
    if v1 = (i3 0) then
      fMd_delete_j101 x1 x2 s0 (i3 2) σ
    else
      if s0 = (i3 0) then
        fMd_delete_j100 x1 x2 s0 σ
      else
        mgA 26 x1 σ fun v2 =>
        if v2 = (i3 40) then
          fMd_delete_j96 x1 x2 s0 σ
        else
          mgF 8 σ fun v3 =>
          if v3 = (i3 200) then
            fMd_delete_j96 x1 x2 s0 σ
          else
            fMd_delete_j100 x1 x2 s0 σ) := rfl
theorem fMd_delete_j47_E {x1 : Int32} {x2 : Int32} {x3 : Int32} {σ : Sg} : fMd_delete_j47 x1 x2 x3 σ = (
  fMd_delete_j48 x1 x2 x3 (i3 0) σ) := rfl
theorem fMd_delete_j26_E {x1 : Int32} {x2 : Int32} {x3 : Int32} {s0 : Int32} {σ : Sg} : fMd_delete_j26 x1 x2 x3 s0 σ = (
  if s0 = m1 then
    fMd_delete_j47 x1 x2 x3 σ
  else
    bdR (fMd_isMark s0 σ) fun v1 =>
    if v1 = (i3 0) then
      fMd_delete_j48 x1 x2 x3 (i3 1) σ
    else
      fMd_delete_j47 x1 x2 x3 σ) := rfl
theorem fMd_delete_j25_E {x1 : Int32} {x2 : Int32} {x3 : Int32} {σ : Sg} : fMd_delete_j25 x1 x2 x3 σ = (
  fMd_delete_j26 x1 x2 x3 m1 σ) := rfl
theorem fMd_delete_E {x1 : Int32} {x2 : Int32} {σ : Sg} : fMd_delete x1 x2 σ = (
  bdR (fMd_isRegion x1) fun v1 =>
  if v1 = (i3 0) then
    fMd_delete_j25 x1 x2 v1 σ
  else
    bdR (fMd_isKey x2) fun v2 =>
    if v2 = (i3 0) then
      fMd_delete_j25 x1 x2 v1 σ
    else
      bdR (fMd_latest x1 x2 σ) fun v3 =>
      fMd_delete_j26 x1 x2 v1 v3 σ) := rfl
theorem fMd_draft_b74_E {k74 : Int32 → Int32 → Int32 → Int32 → Sg → Option (Int32 × Sg)} {x1 : Int32} {x2 : Int32} {x3 : Int32} {x5 : Int32} {σ : Sg} : fMd_draft_b74 k74 x1 x2 x3 x5 σ = (
  if x3 ≤ x5 then
    mgF 1 σ fun v1 =>
    some (v1, σ)
  else
    mgF 1 σ fun v2 =>
    mpA 2 v2 ((x1 + (x5 * x2)) - (x1 + (x5 * x2)) / (i3 16) * (i3 16)) σ fun σ3 =>
    mgF 1 σ3 fun v4 =>
    mpF 1 (v4 + (i3 1)) σ3 fun σ5 =>
    k74 x1 x2 x3 (x5 + (i3 1)) σ5) := rfl
theorem fMd_draft_l74_S  {fu : Nat} {x1 : Int32} {x2 : Int32} {x3 : Int32} {x5 : Int32} {σ : Sg} : fMd_draft_l74 (fu + 1) x1 x2 x3 x5 σ = fMd_draft_b74 (fMd_draft_l74 fu) x1 x2 x3 x5 σ := rfl
theorem fMd_draft_j63_E {x1 : Int32} {x2 : Int32} {x3 : Int32} {s0 : Int32} {σ : Sg} : fMd_draft_j63 x1 x2 x3 s0 σ = (
  bdW (fMd_holds s0 σ) fun v1 σ2 =>
  if v1 = (i3 0) then
    some ((i3 0), σ2)
  else
    fMd_draft_l74 FU x1 x2 x3 (i3 0) σ2) := rfl
theorem fMd_draft_j35_E {x1 : Int32} {x2 : Int32} {x3 : Int32} {s0 : Int32} {σ : Sg} : fMd_draft_j35 x1 x2 x3 s0 σ = (
  if s0 = (i3 0) then
    fMd_draft_j63 x1 x2 x3 (i3 1) σ
  else
    mgF 1 σ fun v1 =>
    if (v1 + x3) ≤ (i3 40) then
      fMd_draft_j63 x1 x2 x3 (i3 0) σ
    else
      fMd_draft_j63 x1 x2 x3 (i3 2) σ) := rfl
theorem fMd_draft_j34_E {x1 : Int32} {x2 : Int32} {x3 : Int32} {σ : Sg} : fMd_draft_j34 x1 x2 x3 σ = (
  fMd_draft_j35 x1 x2 x3 (i3 0) σ) := rfl
theorem fMd_draft_E {x1 : Int32} {x2 : Int32} {x3 : Int32} {σ : Sg} : fMd_draft x1 x2 x3 σ = (
  bdR (fMd_isIn x1 (i3 0) (i3 15)) fun v1 =>
  if v1 = (i3 0) then
    fMd_draft_j34 x1 x2 x3 σ
  else
    bdR (fMd_isIn x2 (i3 0) (i3 15)) fun v2 =>
    if v2 = (i3 0) then
      fMd_draft_j34 x1 x2 x3 σ
    else
      bdR (fMd_isIn x3 (i3 1) (i3 40)) fun v3 =>
      if v3 = (i3 0) then
        fMd_draft_j34 x1 x2 x3 σ
      else
        fMd_draft_j35 x1 x2 x3 (i3 1) σ) := rfl
theorem fMd_manyOf_j35_E {k8 : Int32 → Int32 → Int32 → Int32 → Sg → Option (Int32)} {x1 : Int32} {x2 : Int32} {x4 : Int32} {s0 : Int32} {s1 : Int32} {σ : Sg} : fMd_manyOf_j35 k8 x1 x2 x4 s0 s1 σ = (
  k8 x1 x2 (s1 + s0) (x4 + (i3 1)) σ) := rfl
theorem fMd_manyOf_b8_E {k8 : Int32 → Int32 → Int32 → Int32 → Sg → Option (Int32)} {x1 : Int32} {x2 : Int32} {x3 : Int32} {x4 : Int32} {σ : Sg} : fMd_manyOf_b8 k8 x1 x2 x3 x4 σ = (
  bdR (fMd_endOf x1 σ) fun v1 =>
  if v1 ≤ x4 then
    some x3
  else
    mgA 28 x4 σ fun v2 =>
    if v2 = x2 then
      fMd_manyOf_j35 k8 x1 x2 x4 (i3 1) x3 σ
    else
      fMd_manyOf_j35 k8 x1 x2 x4 (i3 0) x3 σ) := rfl
theorem fMd_manyOf_l8_S  {fu : Nat} {x1 : Int32} {x2 : Int32} {x3 : Int32} {x4 : Int32} {σ : Sg} : fMd_manyOf_l8 (fu + 1) x1 x2 x3 x4 σ = fMd_manyOf_b8 (fMd_manyOf_l8 fu) x1 x2 x3 x4 σ := rfl
theorem fMd_manyOf_E {x1 : Int32} {x2 : Int32} {σ : Sg} : fMd_manyOf x1 x2 σ = (
  fMd_manyOf_l8 FU x1 x2 (i3 0) ((i3 40) * x1) σ) := rfl
theorem fMd_drop_j38_E {x1 : Int32} {x2 : Int32} {x3 : Int32} {s0 : Int32} {σ : Sg} : fMd_drop_j38 x1 x2 x3 s0 σ = (
  bdW (fMd_holds s0 σ) fun v1 σ2 =>
  if v1 = (i3 0) then
    some ((i3 0), σ2)
  else
    bdR (fMd_versionAt x1 x2 x3 σ2) fun v3 =>
    bdW (fMd_goes x1 v3 σ2) fun v4 σ5 =>
    bdR (fMd_manyOf x1 x2 σ5) fun v6 =>
    some (v6, σ5)) := rfl
theorem fMd_drop_E {x1 : Int32} {x2 : Int32} {x3 : Int32} {σ : Sg} : fMd_drop x1 x2 x3 σ = (
  bdR (fMd_isVersion x1 x2 x3 σ) fun v1 =>
  if v1 = (i3 0) then
    fMd_drop_j38 x1 x2 x3 (i3 1) σ
  else
    bdR (fMd_versionAt x1 x2 x3 σ) fun v2 =>
    bdR (fMd_isLocked v2 σ) fun v3 =>
    if v3 = (i3 0) then
      fMd_drop_j38 x1 x2 x3 (i3 0) σ
    else
      fMd_drop_j38 x1 x2 x3 (i3 3) σ) := rfl
theorem fMd_isUpload_E {x1 : Int32} {σ : Sg} : fMd_isUpload x1 σ = (
  mgF 40 σ fun v1 =>
  bdR (fMd_isIn x1 (i3 0) (v1 - (i3 1))) fun v2 =>
  if v2 = (i3 0) then
    rZ (i3 0) (some (i3 0))
  else
    mgA 43 x1 σ fun v3 =>
    if v3 = (i3 0) then
      rZ (i3 1) (some (i3 1))
    else
      rZ (i3 0) (some (i3 0))) := rfl
theorem fMd_joins_b15_E {k7 : Int32 → Int32 → Sg → Option (Unit × Sg)} {k15 : Int32 → Int32 → Int32 → Sg → Option (Unit × Sg)} {x1 : Int32} {x2 : Int32} {x3 : Int32} {σ : Sg} : fMd_joins_b15 k7 k15 x1 x2 x3 σ = (
  mgA 44 (((i3 9) * x1) + x2) σ fun v1 =>
  if v1 ≤ x3 then
    k7 x1 (x2 + (i3 1)) σ
  else
    mgF 3 σ fun v2 =>
    mgA 45 (((i3 40) * (((i3 9) * x1) + x2)) + x3) σ fun v3 =>
    mpA 4 v2 v3 σ fun σ4 =>
    mgF 3 σ4 fun v5 =>
    mpF 3 (v5 + (i3 1)) σ4 fun σ6 =>
    k15 x1 x2 (x3 + (i3 1)) σ6) := rfl
theorem fMd_joins_l15_S {k7 : Int32 → Int32 → Sg → Option (Unit × Sg)} {fu : Nat} {x1 : Int32} {x2 : Int32} {x3 : Int32} {σ : Sg} : fMd_joins_l15 k7 (fu + 1) x1 x2 x3 σ = fMd_joins_b15 k7 (fMd_joins_l15 k7 fu) x1 x2 x3 σ := rfl
theorem fMd_joins_b7_E {k7 : Int32 → Int32 → Sg → Option (Unit × Sg)} {x1 : Int32} {x2 : Int32} {σ : Sg} : fMd_joins_b7 k7 x1 x2 σ = (
  if (i3 9) ≤ x2 then
    bdW (fMd_cuts σ) fun v1 σ2 =>
    some ((), σ2)
  else
    fMd_joins_l15 k7 FU x1 x2 (i3 0) σ) := rfl
theorem fMd_joins_l7_S  {fu : Nat} {x1 : Int32} {x2 : Int32} {σ : Sg} : fMd_joins_l7 (fu + 1) x1 x2 σ = fMd_joins_b7 (fMd_joins_l7 fu) x1 x2 σ := rfl
theorem fMd_joins_E {x1 : Int32} {σ : Sg} : fMd_joins x1 σ = (
  mpF 3 (i3 0) σ fun σ1 =>
  fMd_joins_l7 FU x1 (i3 0) σ1) := rfl
theorem fMd_upMany_j30_E {k4 : Int32 → Int32 → Int32 → Sg → Option (Int32)} {x1 : Int32} {x3 : Int32} {s0 : Int32} {s1 : Int32} {σ : Sg} : fMd_upMany_j30 k4 x1 x3 s0 s1 σ = (
  k4 x1 (s1 + s0) (x3 + (i3 1)) σ) := rfl
theorem fMd_upMany_b4_E {k4 : Int32 → Int32 → Int32 → Sg → Option (Int32)} {x1 : Int32} {x2 : Int32} {x3 : Int32} {σ : Sg} : fMd_upMany_b4 k4 x1 x2 x3 σ = (
  if (i3 6) ≤ x3 then
    some x2
  else
    mgA 17 (((i3 6) * x1) + x3) σ fun v1 =>
    if v1 = (i3 0) then
      fMd_upMany_j30 k4 x1 x3 (i3 1) x2 σ
    else
      fMd_upMany_j30 k4 x1 x3 (i3 0) x2 σ) := rfl
theorem fMd_upMany_l4_S  {fu : Nat} {x1 : Int32} {x2 : Int32} {x3 : Int32} {σ : Sg} : fMd_upMany_l4 (fu + 1) x1 x2 x3 σ = fMd_upMany_b4 (fMd_upMany_l4 fu) x1 x2 x3 σ := rfl
theorem fMd_upMany_E {x1 : Int32} {σ : Sg} : fMd_upMany x1 σ = (
  fMd_upMany_l4 FU x1 (i3 0) (i3 0) σ) := rfl
theorem fMd_isSame_j75_E {k24 : Int32 → Int32 → Int32 → Int32 → Sg → Option (Int32)} {x1 : Int32} {x2 : Int32} {x4 : Int32} {s0 : Int32} {σ : Sg} : fMd_isSame_j75 k24 x1 x2 x4 s0 σ = (
  k24 x1 x2 s0 (x4 + (i3 1)) σ) := rfl
theorem fMd_isSame_b24_E {k24 : Int32 → Int32 → Int32 → Int32 → Sg → Option (Int32)} {x1 : Int32} {x2 : Int32} {x3 : Int32} {x4 : Int32} {σ : Sg} : fMd_isSame_b24 k24 x1 x2 x3 x4 σ = (
  mgA 7 x1 σ fun v1 =>
  if v1 ≤ x4 then
    rZ x3 (some x3)
  else
    if x3 = (i3 0) then
      rZ x3 (some x3)
    else
      mgA 6 x1 σ fun v2 =>
      mgA 4 (v2 + x4) σ fun v3 =>
      mgA 6 x2 σ fun v4 =>
      mgA 4 (v4 + x4) σ fun v5 =>
      if v3 = v5 then
        fMd_isSame_j75 k24 x1 x2 x4 (i3 1) σ
      else
        fMd_isSame_j75 k24 x1 x2 x4 (i3 0) σ) := rfl
theorem fMd_isSame_l24_S  {fu : Nat} {x1 : Int32} {x2 : Int32} {x3 : Int32} {x4 : Int32} {σ : Sg} : fMd_isSame_l24 (fu + 1) x1 x2 x3 x4 σ = fMd_isSame_b24 (fMd_isSame_l24 fu) x1 x2 x3 x4 σ := rfl
theorem fMd_isSame_j20_E {x1 : Int32} {x2 : Int32} {s0 : Int32} {σ : Sg} : fMd_isSame_j20 x1 x2 s0 σ = (
  fMd_isSame_l24 FU x1 x2 s0 (i3 0) σ) := rfl
theorem fMd_isSame_E {x1 : Int32} {x2 : Int32} {σ : Sg} : fMd_isSame x1 x2 σ = (
  mgA 7 x1 σ fun v1 =>
  mgA 7 x2 σ fun v2 =>
  if v1 = v2 then
    fMd_isSame_j20 x1 x2 (i3 1) σ
  else
    fMd_isSame_j20 x1 x2 (i3 0) σ) := rfl
theorem fMd_newMany_j77_E {k4 : Int32 → Int32 → Int32 → Sg → Option (Int32)} {x1 : Int32} {x3 : Int32} {s0 : Int32} {s1 : Int32} {σ : Sg} : fMd_newMany_j77 k4 x1 x3 s0 s1 σ = (
  k4 x1 (s1 + s0) (x3 + (i3 1)) σ) := rfl
theorem fMd_newMany_j66_E {k4 : Int32 → Int32 → Int32 → Sg → Option (Int32)} {x1 : Int32} {x2 : Int32} {x3 : Int32} {x4 : Int32} {σ : Sg} : fMd_newMany_j66 k4 x1 x2 x3 x4 σ = (
  if x4 = (i3 0) then
    fMd_newMany_j77 k4 x1 x3 (i3 0) x2 σ
  else
    fMd_newMany_j77 k4 x1 x3 (i3 1) x2 σ) := rfl
theorem fMd_newMany_j58_E {k4 : Int32 → Int32 → Int32 → Sg → Option (Int32)} {k32 : Int32 → Int32 → Int32 → Int32 → Int32 → Sg → Option (Int32)} {x1 : Int32} {x2 : Int32} {x3 : Int32} {x5 : Int32} {s0 : Int32} {σ : Sg} : fMd_newMany_j58 k4 k32 x1 x2 x3 x5 s0 σ = (
  k32 x1 x2 x3 s0 (x5 + (i3 1)) σ) := rfl
theorem fMd_newMany_b32_E {k4 : Int32 → Int32 → Int32 → Sg → Option (Int32)} {k32 : Int32 → Int32 → Int32 → Int32 → Int32 → Sg → Option (Int32)} {x1 : Int32} {x2 : Int32} {x3 : Int32} {x4 : Int32} {x5 : Int32} {σ : Sg} : fMd_newMany_b32 k4 k32 x1 x2 x3 x4 x5 σ = (
  if x3 ≤ x5 then
    fMd_newMany_j66 k4 x1 x2 x3 x4 σ
  else
    if x4 = (i3 0) then
      fMd_newMany_j66 k4 x1 x2 x3 x4 σ
    else
      bdR (fMd_isSame x5 x3 σ) fun v1 =>
      if v1 = (i3 0) then
        fMd_newMany_j58 k4 k32 x1 x2 x3 x5 (i3 1) σ
      else
        fMd_newMany_j58 k4 k32 x1 x2 x3 x5 (i3 0) σ) := rfl
theorem fMd_newMany_l32_S {k4 : Int32 → Int32 → Int32 → Sg → Option (Int32)} {fu : Nat} {x1 : Int32} {x2 : Int32} {x3 : Int32} {x4 : Int32} {x5 : Int32} {σ : Sg} : fMd_newMany_l32 k4 (fu + 1) x1 x2 x3 x4 x5 σ = fMd_newMany_b32 k4 (fMd_newMany_l32 k4 fu) x1 x2 x3 x4 x5 σ := rfl
theorem fMd_newMany_j27_E {k4 : Int32 → Int32 → Int32 → Sg → Option (Int32)} {x1 : Int32} {x2 : Int32} {x3 : Int32} {s0 : Int32} {σ : Sg} : fMd_newMany_j27 k4 x1 x2 x3 s0 σ = (
  fMd_newMany_l32 k4 FU x1 x2 x3 s0 (i3 0) σ) := rfl
theorem fMd_newMany_b4_E {k4 : Int32 → Int32 → Int32 → Sg → Option (Int32)} {x1 : Int32} {x2 : Int32} {x3 : Int32} {σ : Sg} : fMd_newMany_b4 k4 x1 x2 x3 σ = (
  mgF 5 σ fun v1 =>
  if v1 ≤ x3 then
    some x2
  else
    bdR (fMd_found x1 x3 σ) fun v2 =>
    if v2 = m1 then
      fMd_newMany_j27 k4 x1 x2 x3 (i3 1) σ
    else
      fMd_newMany_j27 k4 x1 x2 x3 (i3 0) σ) := rfl
theorem fMd_newMany_l4_S  {fu : Nat} {x1 : Int32} {x2 : Int32} {x3 : Int32} {σ : Sg} : fMd_newMany_l4 (fu + 1) x1 x2 x3 σ = fMd_newMany_b4 (fMd_newMany_l4 fu) x1 x2 x3 σ := rfl
theorem fMd_newMany_E {x1 : Int32} {σ : Sg} : fMd_newMany x1 σ = (
  fMd_newMany_l4 FU x1 (i3 0) (i3 0) σ) := rfl
theorem fMd_hasRoom_E {x1 : Int32} {σ : Sg} : fMd_hasRoom x1 σ = (
  bdR (fMd_upMany x1 σ) fun v1 =>
  if v1 < (i3 3) then
    rZ (i3 0) (some (i3 0))
  else
    mgA 26 x1 σ fun v2 =>
    if (i3 40) ≤ v2 then
      rZ (i3 0) (some (i3 0))
    else
      mgA 18 x1 σ fun v3 =>
      bdR (fMd_newMany x1 σ) fun v4 =>
      if (i3 90) < (v3 + v4) then
        rZ (i3 0) (some (i3 0))
      else
        rZ (i3 1) (some (i3 1))) := rfl
theorem fMd_isFull_j18_E {σ : Sg} : fMd_isFull_j18 σ = (
  rZ (i3 1) (some (i3 1))) := rfl
theorem fMd_isFull_E {x1 : Int32} {σ : Sg} : fMd_isFull x1 σ = (
  mgF 8 σ fun v1 =>
  if v1 = (i3 200) then
    fMd_isFull_j18 σ
  else
    bdR (fMd_hasRoom x1 σ) fun v2 =>
    if v2 = (i3 0) then
      fMd_isFull_j18 σ
    else
      rZ (i3 0) (some (i3 0))) := rfl
theorem fMd_puts_E {x1 : Int32} {x2 : Int32} {σ : Sg} : fMd_puts x1 x2 σ = (
  mgF 3 σ fun v1 =>
  bdW (fMd_numbers x1 x2 v1 σ) fun v2 σ3 =>
  bdW (fMd_enters x1 v2 (i3 0) σ3) fun v4 σ5 =>
  some (v2, σ5)) := rfl
theorem fMd_finish_j53_E {x1 : Int32} {x2 : Int32} {s0 : Int32} {σ : Sg} : fMd_finish_j53 x1 x2 s0 σ = (
  bdW (fMd_holds s0 σ) fun v1 σ2 =>
  if v1 = (i3 0) then
    some ((i3 0), σ2)
  else
    mpZ 43 x1 (i3 1) σ2 fun σ3 =>
    if x2 = (i3 0) then
      mgA 41 x1 σ3 fun v4 =>
      mgA 42 x1 σ3 fun v5 =>
      bdW (fMd_puts v4 v5 σ3) fun v6 σ7 =>
      some (v6, σ7)
    else
      some ((i3 0), σ3)) := rfl
theorem fMd_finish_j48_E {x1 : Int32} {x2 : Int32} {σ : Sg} : fMd_finish_j48 x1 x2 σ = (
  fMd_finish_j53 x1 x2 (i3 2) σ) := rfl
theorem fMd_finish_j52_E {x1 : Int32} {x2 : Int32} {σ : Sg} : fMd_finish_j52 x1 x2 σ = (
  fMd_finish_j53 x1 x2 (i3 0) σ) := rfl
theorem fMd_finish_j15_E {x1 : Int32} {x2 : Int32} {x3 : Int32} {σ : Sg} : fMd_finish_j15 x1 x2 x3 σ = (
  if x3 = (i3 0) then
    fMd_finish_j53 x1 x2 (i3 1) σ
  else
    if x2 = (i3 0) then
      mgF 3 σ fun v1 =>
      if v1 = (i3 0) then
        fMd_finish_j48 x1 x2 σ
      else
        mgA 41 x1 σ fun v2 =>
        bdR (fMd_isFull v2 σ) fun v3 =>
        if v3 = (i3 0) then
          fMd_finish_j52 x1 x2 σ
        else
          fMd_finish_j48 x1 x2 σ
    else
      fMd_finish_j52 x1 x2 σ) := rfl
theorem fMd_finish_E {x1 : Int32} {x2 : Int32} {σ : Sg} : fMd_finish x1 x2 σ = (
  bdR (fMd_isUpload x1 σ) fun v1 =>
  if v1 = (i3 0) then
    fMd_finish_j15 x1 x2 v1 σ
  else
    bdW (fMd_joins x1 σ) fun v2 σ3 =>
    fMd_finish_j15 x1 x2 v1 σ3) := rfl
theorem fMd_takes_b12_E {k12 : Int32 → Int32 → Sg → Option (Unit × Sg)} {x1 : Int32} {x2 : Int32} {σ : Sg} : fMd_takes_b12 k12 x1 x2 σ = (
  mgF 3 σ fun v1 =>
  if v1 ≤ x2 then
    bdW (fMd_cuts σ) fun v2 σ3 =>
    some ((), σ3)
  else
    mgA 10 (((i3 40) * x1) + x2) σ fun v4 =>
    mpA 4 x2 v4 σ fun σ5 =>
    k12 x1 (x2 + (i3 1)) σ5) := rfl
theorem fMd_takes_l12_S  {fu : Nat} {x1 : Int32} {x2 : Int32} {σ : Sg} : fMd_takes_l12 (fu + 1) x1 x2 σ = fMd_takes_b12 (fMd_takes_l12 fu) x1 x2 σ := rfl
theorem fMd_takes_E {x1 : Int32} {σ : Sg} : fMd_takes x1 σ = (
  mgA 9 x1 σ fun v1 =>
  mpF 3 v1 σ fun σ2 =>
  fMd_takes_l12 FU x1 (i3 0) σ2) := rfl
theorem fMd_follows_b118_E {k118 : Int32 → Int32 → Sg → Option (Int32 × Sg)} {x1 : Int32} {x6 : Int32} {σ : Sg} : fMd_follows_b118 k118 x1 x6 σ = (
  mgA 36 x1 σ fun v1 =>
  if v1 ≤ x6 then
    rZ (i3 1) (some ((i3 1), σ))
  else
    mgA 37 ((((i3 200) * x1) + x6) + (i3 1)) σ fun v2 =>
    mpA 37 (((i3 200) * x1) + x6) v2 σ fun σ3 =>
    k118 x1 (x6 + (i3 1)) σ3) := rfl
theorem fMd_follows_l118_S  {fu : Nat} {x1 : Int32} {x6 : Int32} {σ : Sg} : fMd_follows_l118 (fu + 1) x1 x6 σ = fMd_follows_b118 (fMd_follows_l118 fu) x1 x6 σ := rfl
theorem fMd_follows_j105_E {x1 : Int32} {σ : Sg} : fMd_follows_j105 x1 σ = (
  mgA 36 x1 σ fun v1 =>
  mpA 36 x1 (v1 - (i3 1)) σ fun σ2 =>
  fMd_follows_l118 FU x1 (i3 0) σ2) := rfl
theorem fMd_follows_j102_E {x1 : Int32} {s0 : Int32} {s1 : Int32} {s2 : Int32} {σ : Sg} : fMd_follows_j102 x1 s0 s1 s2 σ = (
  bdW (fMd_enters s2 s1 s0 σ) fun v1 σ2 =>
  fMd_follows_j105 x1 σ2) := rfl
theorem fMd_follows_j73_E {x1 : Int32} {x2 : Int32} {x3 : Int32} {x4 : Int32} {s0 : Int32} {σ : Sg} : fMd_follows_j73 x1 x2 x3 x4 s0 σ = (
  if s0 = (i3 0) then
    rZ (i3 0) (some ((i3 0), σ))
  else
    if x4 = (i3 0) then
      mgF 3 σ fun v1 =>
      if v1 = (i3 0) then
        fMd_follows_j102 x1 (i3 1) x3 x2 σ
      else
        fMd_follows_j102 x1 (i3 0) x3 x2 σ
    else
      fMd_follows_j105 x1 σ) := rfl
theorem fMd_follows_j72_E {x1 : Int32} {x2 : Int32} {x3 : Int32} {x4 : Int32} {σ : Sg} : fMd_follows_j72 x1 x2 x3 x4 σ = (
  fMd_follows_j73 x1 x2 x3 x4 (i3 0) σ) := rfl
theorem fMd_follows_j68_E {x1 : Int32} {x2 : Int32} {x3 : Int32} {x4 : Int32} {σ : Sg} : fMd_follows_j68 x1 x2 x3 x4 σ = (
  fMd_follows_j73 x1 x2 x3 x4 (i3 1) σ) := rfl
theorem fMd_follows_E {x1 : Int32} {σ : Sg} : fMd_follows x1 σ = (
  mgA 37 ((i3 200) * x1) σ fun v1 =>
  bdW (fMd_takes v1 σ) fun v2 σ3 =>
  mgA 35 (((i3 201) * ((i3 1) - x1)) + v1) σ3 fun v4 =>
  if v4 = (i3 0) then
    mgF 3 σ3 fun v5 =>
    if v5 = (i3 0) then
      mgA 26 ((i3 1) - x1) σ3 fun v6 =>
      if (i3 40) ≤ v6 then
        fMd_follows_j72 x1 ((i3 1) - x1) v1 v4 σ3
      else
        fMd_follows_j68 x1 ((i3 1) - x1) v1 v4 σ3
    else
      bdR (fMd_hasRoom ((i3 1) - x1) σ3) fun v7 =>
      if v7 = (i3 0) then
        fMd_follows_j72 x1 ((i3 1) - x1) v1 v4 σ3
      else
        fMd_follows_j68 x1 ((i3 1) - x1) v1 v4 σ3
  else
    fMd_follows_j68 x1 ((i3 1) - x1) v1 v4 σ3) := rfl
theorem fMd_follow_b37_E {k37 : Int32 → Int32 → Int32 → Sg → Option (Int32 × Sg)} {x1 : Int32} {x2 : Int32} {x3 : Int32} {σ : Sg} : fMd_follow_b37 k37 x1 x2 x3 σ = (
  if x2 ≤ x3 then
    some (x3, σ)
  else
    mgA 36 x1 σ fun v1 =>
    if v1 ≤ (i3 0) then
      some (x3, σ)
    else
      bdW (fMd_follows x1 σ) fun v2 σ3 =>
      if v2 = (i3 0) then
        some (x3, σ3)
      else
        k37 x1 x2 (x3 + (i3 1)) σ3) := rfl
theorem fMd_follow_l37_S  {fu : Nat} {x1 : Int32} {x2 : Int32} {x3 : Int32} {σ : Sg} : fMd_follow_l37 (fu + 1) x1 x2 x3 σ = fMd_follow_b37 (fMd_follow_l37 fu) x1 x2 x3 σ := rfl
theorem fMd_follow_j27_E {x1 : Int32} {x2 : Int32} {s0 : Int32} {σ : Sg} : fMd_follow_j27 x1 x2 s0 σ = (
  bdW (fMd_holds s0 σ) fun v1 σ2 =>
  if v1 = (i3 0) then
    some ((i3 0), σ2)
  else
    fMd_follow_l37 FU x1 x2 (i3 0) σ2) := rfl
theorem fMd_follow_E {x1 : Int32} {x2 : Int32} {σ : Sg} : fMd_follow x1 x2 σ = (
  bdR (fMd_isRegion x1) fun v1 =>
  if v1 = (i3 0) then
    fMd_follow_j27 x1 x2 (i3 1) σ
  else
    bdR (fMd_isIn x2 (i3 1) (i3 99)) fun v2 =>
    if v2 = (i3 0) then
      fMd_follow_j27 x1 x2 (i3 2) σ
    else
      fMd_follow_j27 x1 x2 (i3 0) σ) := rfl
theorem fMd_freeNode_j82_E {k10 : Int32 → Int32 → Int32 → Int32 → Sg → Option (Int32)} {k50 : Int32 → Int32 → Int32 → Int32 → Int32 → Int32 → Int32 → Sg → Option (Int32)} {x1 : Int32} {x2 : Int32} {x3 : Int32} {x4 : Int32} {x5 : Int32} {x7 : Int32} {s0 : Int32} {σ : Sg} : fMd_freeNode_j82 k10 k50 x1 x2 x3 x4 x5 x7 s0 σ = (
  k50 x1 x2 x3 x4 x5 s0 (x7 + (i3 1)) σ) := rfl
theorem fMd_freeNode_j81_E {k10 : Int32 → Int32 → Int32 → Int32 → Sg → Option (Int32)} {k50 : Int32 → Int32 → Int32 → Int32 → Int32 → Int32 → Int32 → Sg → Option (Int32)} {x1 : Int32} {x2 : Int32} {x3 : Int32} {x4 : Int32} {x5 : Int32} {x7 : Int32} {σ : Sg} : fMd_freeNode_j81 k10 k50 x1 x2 x3 x4 x5 x7 σ = (
  fMd_freeNode_j82 k10 k50 x1 x2 x3 x4 x5 x7 (i3 0) σ) := rfl
theorem fMd_freeNode_b50_E {k10 : Int32 → Int32 → Int32 → Int32 → Sg → Option (Int32)} {k50 : Int32 → Int32 → Int32 → Int32 → Int32 → Int32 → Int32 → Sg → Option (Int32)} {x1 : Int32} {x2 : Int32} {x3 : Int32} {x4 : Int32} {x5 : Int32} {x6 : Int32} {x7 : Int32} {σ : Sg} : fMd_freeNode_b50 k10 k50 x1 x2 x3 x4 x5 x6 x7 σ = (
  if (i3 5) ≤ x7 then
    if x6 = (i3 0) then
      k10 x1 x2 x3 (x4 + (i3 1)) σ
    else
      some x5
  else
    if x6 = (i3 0) then
      fMd_freeNode_j81 k10 k50 x1 x2 x3 x4 x5 x7 σ
    else
      mgA 23 (((i3 5) * x3) + x7) σ fun v1 =>
      if v1 = x5 then
        fMd_freeNode_j81 k10 k50 x1 x2 x3 x4 x5 x7 σ
      else
        fMd_freeNode_j82 k10 k50 x1 x2 x3 x4 x5 x7 (i3 1) σ) := rfl
theorem fMd_freeNode_l50_S {k10 : Int32 → Int32 → Int32 → Int32 → Sg → Option (Int32)} {fu : Nat} {x1 : Int32} {x2 : Int32} {x3 : Int32} {x4 : Int32} {x5 : Int32} {x6 : Int32} {x7 : Int32} {σ : Sg} : fMd_freeNode_l50 k10 (fu + 1) x1 x2 x3 x4 x5 x6 x7 σ = fMd_freeNode_b50 k10 (fMd_freeNode_l50 k10 fu) x1 x2 x3 x4 x5 x6 x7 σ := rfl
theorem fMd_freeNode_j45_E {k10 : Int32 → Int32 → Int32 → Int32 → Sg → Option (Int32)} {x1 : Int32} {x2 : Int32} {x3 : Int32} {x4 : Int32} {x5 : Int32} {s0 : Int32} {σ : Sg} : fMd_freeNode_j45 k10 x1 x2 x3 x4 x5 s0 σ = (
  fMd_freeNode_l50 k10 FU x1 x2 x3 x4 x5 s0 (i3 0) σ) := rfl
theorem fMd_freeNode_b10_E {k10 : Int32 → Int32 → Int32 → Int32 → Sg → Option (Int32)} {x1 : Int32} {x2 : Int32} {x3 : Int32} {x4 : Int32} {σ : Sg} : fMd_freeNode_b10 k10 x1 x2 x3 x4 σ = (
  if (i3 6) ≤ x4 then
    some m1
  else
    bdR (fMd_ordered x2 x4) fun v1 =>
    mgA 17 (((i3 6) * x1) + v1) σ fun v2 =>
    if v2 = (i3 0) then
      fMd_freeNode_j45 k10 x1 x2 x3 x4 v1 (i3 1) σ
    else
      fMd_freeNode_j45 k10 x1 x2 x3 x4 v1 (i3 0) σ) := rfl
theorem fMd_freeNode_l10_S  {fu : Nat} {x1 : Int32} {x2 : Int32} {x3 : Int32} {x4 : Int32} {σ : Sg} : fMd_freeNode_l10 (fu + 1) x1 x2 x3 x4 σ = fMd_freeNode_b10 (fMd_freeNode_l10 fu) x1 x2 x3 x4 σ := rfl
theorem fMd_freeNode_E {x1 : Int32} {x2 : Int32} {σ : Sg} : fMd_freeNode x1 x2 σ = (
  fMd_freeNode_l10 FU x1 x2 (((i3 90) * x1) + x2) (i3 0) σ) := rfl
theorem fMd_isPart_E {x1 : Int32} {x2 : Int32} {σ : Sg} : fMd_isPart x1 x2 σ = (
  bdR (fMd_isRegion x1) fun v1 =>
  if v1 = (i3 0) then
    rZ (i3 0) (some (i3 0))
  else
    mgA 18 x1 σ fun v2 =>
    bdR (fMd_isIn x2 (i3 0) (v2 - (i3 1))) fun v3 =>
    if v3 = (i3 0) then
      rZ (i3 0) (some (i3 0))
    else
      mgA 19 (((i3 90) * x1) + x2) σ fun v4 =>
      if v4 = (i3 0) then
        rZ (i3 1) (some (i3 1))
      else
        rZ (i3 0) (some (i3 0))) := rfl
theorem fMd_isWarm_j46_E {σ : Sg} : fMd_isWarm_j46 σ = (
  rZ (i3 1) (some (i3 1))) := rfl
theorem fMd_isWarm_E {x1 : Int32} {σ : Sg} : fMd_isWarm x1 σ = (
  mgA 30 x1 σ fun v1 =>
  if v1 < (i3 2) then
    fMd_isWarm_j46 σ
  else
    mgA 32 x1 σ fun v2 =>
    if v2 = m1 then
      rZ (i3 0) (some (i3 0))
    else
      mgF 11 σ fun v3 =>
      mgA 32 x1 σ fun v4 =>
      mgA 32 x1 σ fun v5 =>
      bdR (fMd_isIn v3 (v4 + (i3 2)) (v5 + (i3 4))) fun v6 =>
      if v6 = (i3 0) then
        rZ (i3 0) (some (i3 0))
      else
        fMd_isWarm_j46 σ) := rfl
theorem fMd_letter_j21_E {x1 : Int32} {x2 : Int32} {s0 : Int32} {σ : Sg} : fMd_letter_j21 x1 x2 s0 σ = (
  bdW (fMd_holds s0 σ) fun v1 σ2 =>
  if v1 = (i3 0) then
    rC (i3 32) (some ((i3 32), σ2))
  else
    bdR (fMd_letters x1) fun v3 =>
    if v3 ≤ x2 then
      rC (i3 32) (some ((i3 32), σ2))
    else
      bdR (fMd_letterOf x1 x2) fun v4 =>
      rC ((((((i3 97) + v4) - (i3 1))).toUInt32 % 65536).toInt32) (some (((((((i3 97) + v4) - (i3 1))).toUInt32 % 65536).toInt32), σ2))) := rfl
theorem fMd_letter_E {x1 : Int32} {x2 : Int32} {σ : Sg} : fMd_letter x1 x2 σ = (
  bdR (fMd_isKey x1) fun v1 =>
  if v1 = (i3 0) then
    fMd_letter_j21 x1 x2 (i3 1) σ
  else
    if (i3 0) ≤ x2 then
      fMd_letter_j21 x1 x2 (i3 0) σ
    else
      fMd_letter_j21 x1 x2 (i3 2) σ) := rfl
theorem fMd_list_j216_E {k84 : Int32 → Int32 → Int32 → Int32 → Int32 → Int32 → Sg → Option (Int32 × Sg)} {k113 : Int32 → Int32 → Int32 → Int32 → Int32 → Int32 → Int32 → Int32 → Sg → Option (Int32 × Sg)} {x1 : Int32} {x2 : Int32} {x4 : Int32} {x6 : Int32} {x7 : Int32} {x8 : Int32} {x10 : Int32} {s0 : Int32} {σ : Sg} : fMd_list_j216 k84 k113 x1 x2 x4 x6 x7 x8 x10 s0 σ = (
  k113 x1 x2 x4 x6 x7 x8 s0 (x10 + (i3 1)) σ) := rfl
theorem fMd_list_j202_E {k84 : Int32 → Int32 → Int32 → Int32 → Int32 → Int32 → Sg → Option (Int32 × Sg)} {k113 : Int32 → Int32 → Int32 → Int32 → Int32 → Int32 → Int32 → Int32 → Sg → Option (Int32 × Sg)} {x1 : Int32} {x2 : Int32} {x4 : Int32} {x6 : Int32} {x8 : Int32} {x9 : Int32} {x10 : Int32} {x11 : Int32} {x12 : Int32} {s0 : Int32} {σ : Sg} : fMd_list_j202 k84 k113 x1 x2 x4 x6 x8 x9 x10 x11 x12 s0 σ = (
  if x12 = (i3 0) then
    fMd_list_j216 k84 k113 x1 x2 x4 x6 s0 x8 x10 x9 σ
  else
    fMd_list_j216 k84 k113 x1 x2 x4 x6 s0 x8 x10 x11 σ) := rfl
theorem fMd_list_j183_E {k84 : Int32 → Int32 → Int32 → Int32 → Int32 → Int32 → Sg → Option (Int32 × Sg)} {k113 : Int32 → Int32 → Int32 → Int32 → Int32 → Int32 → Int32 → Int32 → Sg → Option (Int32 × Sg)} {x1 : Int32} {x2 : Int32} {x4 : Int32} {x6 : Int32} {x7 : Int32} {x8 : Int32} {x9 : Int32} {x10 : Int32} {x11 : Int32} {s0 : Int32} {σ : Sg} : fMd_list_j183 k84 k113 x1 x2 x4 x6 x7 x8 x9 x10 x11 s0 σ = (
  if s0 = (i3 0) then
    fMd_list_j202 k84 k113 x1 x2 x4 x6 x8 x9 x10 x11 s0 x7 σ
  else
    mgA 28 x10 σ fun v1 =>
    fMd_list_j202 k84 k113 x1 x2 x4 x6 x8 x9 x10 x11 s0 v1 σ) := rfl
theorem fMd_list_j182_E {k84 : Int32 → Int32 → Int32 → Int32 → Int32 → Int32 → Sg → Option (Int32 × Sg)} {k113 : Int32 → Int32 → Int32 → Int32 → Int32 → Int32 → Int32 → Int32 → Sg → Option (Int32 × Sg)} {x1 : Int32} {x2 : Int32} {x4 : Int32} {x6 : Int32} {x7 : Int32} {x8 : Int32} {x9 : Int32} {x10 : Int32} {x11 : Int32} {σ : Sg} : fMd_list_j182 k84 k113 x1 x2 x4 x6 x7 x8 x9 x10 x11 σ = (
  fMd_list_j183 k84 k113 x1 x2 x4 x6 x7 x8 x9 x10 x11 (i3 0) σ) := rfl
theorem fMd_list_j178_E {k84 : Int32 → Int32 → Int32 → Int32 → Int32 → Int32 → Sg → Option (Int32 × Sg)} {k113 : Int32 → Int32 → Int32 → Int32 → Int32 → Int32 → Int32 → Int32 → Sg → Option (Int32 × Sg)} {x1 : Int32} {x2 : Int32} {x4 : Int32} {x6 : Int32} {x7 : Int32} {x8 : Int32} {x9 : Int32} {x10 : Int32} {x11 : Int32} {σ : Sg} : fMd_list_j178 k84 k113 x1 x2 x4 x6 x7 x8 x9 x10 x11 σ = (
  fMd_list_j183 k84 k113 x1 x2 x4 x6 x7 x8 x9 x10 x11 (i3 1) σ) := rfl
theorem fMd_list_b113_E {k84 : Int32 → Int32 → Int32 → Int32 → Int32 → Int32 → Sg → Option (Int32 × Sg)} {k113 : Int32 → Int32 → Int32 → Int32 → Int32 → Int32 → Int32 → Int32 → Sg → Option (Int32 × Sg)} {x1 : Int32} {x2 : Int32} {x4 : Int32} {x6 : Int32} {x7 : Int32} {x8 : Int32} {x9 : Int32} {x10 : Int32} {σ : Sg} : fMd_list_b113 k84 k113 x1 x2 x4 x6 x7 x8 x9 x10 σ = (
  bdR (fMd_endOf x1 σ) fun v1 =>
  if v1 ≤ x10 then
    k84 x1 x2 x4 x9 x7 (x8 + (i3 1)) σ
  else
    mgA 28 x10 σ fun v2 =>
    bdR (fMd_asWord v2) fun v3 =>
    bdR (fMd_isObject x1 x10 σ) fun v4 =>
    if v4 = (i3 0) then
      fMd_list_j182 k84 k113 x1 x2 x4 x6 x7 x8 x9 x10 v3 σ
    else
      mgA 28 x10 σ fun v5 =>
      bdR (fMd_begins v5 x2) fun v6 =>
      if v6 = (i3 0) then
        fMd_list_j182 k84 k113 x1 x2 x4 x6 x7 x8 x9 x10 v3 σ
      else
        if v3 ≤ x6 then
          fMd_list_j182 k84 k113 x1 x2 x4 x6 x7 x8 x9 x10 v3 σ
        else
          if x7 = (i3 0) then
            fMd_list_j178 k84 k113 x1 x2 x4 x6 x7 x8 x9 x10 v3 σ
          else
            if x9 ≤ v3 then
              fMd_list_j182 k84 k113 x1 x2 x4 x6 x7 x8 x9 x10 v3 σ
            else
              fMd_list_j178 k84 k113 x1 x2 x4 x6 x7 x8 x9 x10 v3 σ) := rfl
theorem fMd_list_l113_S {k84 : Int32 → Int32 → Int32 → Int32 → Int32 → Int32 → Sg → Option (Int32 × Sg)} {fu : Nat} {x1 : Int32} {x2 : Int32} {x4 : Int32} {x6 : Int32} {x7 : Int32} {x8 : Int32} {x9 : Int32} {x10 : Int32} {σ : Sg} : fMd_list_l113 k84 (fu + 1) x1 x2 x4 x6 x7 x8 x9 x10 σ = fMd_list_b113 k84 (fMd_list_l113 k84 fu) x1 x2 x4 x6 x7 x8 x9 x10 σ := rfl
theorem fMd_list_j101_E {k84 : Int32 → Int32 → Int32 → Int32 → Int32 → Int32 → Sg → Option (Int32 × Sg)} {x1 : Int32} {x2 : Int32} {x4 : Int32} {x6 : Int32} {x8 : Int32} {σ : Sg} : fMd_list_j101 k84 x1 x2 x4 x6 x8 σ = (
  fMd_list_l113 k84 FU x1 x2 x4 x6 (i3 0) x8 (i3 0) ((i3 40) * x1) σ) := rfl
theorem fMd_list_b84_E {k84 : Int32 → Int32 → Int32 → Int32 → Int32 → Int32 → Sg → Option (Int32 × Sg)} {x1 : Int32} {x2 : Int32} {x4 : Int32} {x6 : Int32} {x7 : Int32} {x8 : Int32} {σ : Sg} : fMd_list_b84 k84 x1 x2 x4 x6 x7 x8 σ = (
  if x4 < x8 then
    some (x7, σ)
  else
    if x8 = (i3 0) then
      fMd_list_j101 k84 x1 x2 x4 x6 x8 σ
    else
      if x7 ≤ (i3 0) then
        some (x7, σ)
      else
        fMd_list_j101 k84 x1 x2 x4 x6 x8 σ) := rfl
theorem fMd_list_l84_S  {fu : Nat} {x1 : Int32} {x2 : Int32} {x4 : Int32} {x6 : Int32} {x7 : Int32} {x8 : Int32} {σ : Sg} : fMd_list_l84 (fu + 1) x1 x2 x4 x6 x7 x8 σ = fMd_list_b84 (fMd_list_l84 fu) x1 x2 x4 x6 x7 x8 σ := rfl
theorem fMd_list_j76_E {x1 : Int32} {x2 : Int32} {x4 : Int32} {s0 : Int32} {σ : Sg} : fMd_list_j76 x1 x2 x4 s0 σ = (
  fMd_list_l84 FU x1 x2 x4 s0 (i3 0) (i3 0) σ) := rfl
theorem fMd_list_j56_E {x1 : Int32} {x2 : Int32} {x3 : Int32} {x4 : Int32} {s0 : Int32} {σ : Sg} : fMd_list_j56 x1 x2 x3 x4 s0 σ = (
  bdW (fMd_holds s0 σ) fun v1 σ2 =>
  if v1 = (i3 0) then
    some ((i3 0), σ2)
  else
    if x3 = (i3 0) then
      fMd_list_j76 x1 x2 x4 (i3 0) σ2
    else
      bdR (fMd_asWord x3) fun v3 =>
      fMd_list_j76 x1 x2 x4 v3 σ2) := rfl
theorem fMd_list_j42_E {x1 : Int32} {x2 : Int32} {x3 : Int32} {x4 : Int32} {σ : Sg} : fMd_list_j42 x1 x2 x3 x4 σ = (
  fMd_list_j56 x1 x2 x3 x4 (i3 1) σ) := rfl
theorem fMd_list_j27_E {x1 : Int32} {x2 : Int32} {x3 : Int32} {x4 : Int32} {s0 : Int32} {σ : Sg} : fMd_list_j27 x1 x2 x3 x4 s0 σ = (
  bdR (fMd_isRegion x1) fun v1 =>
  if v1 = (i3 0) then
    fMd_list_j42 x1 x2 x3 x4 σ
  else
    if (i3 0) ≤ x4 then
      if s0 = (i3 0) then
        fMd_list_j56 x1 x2 x3 x4 (i3 2) σ
      else
        fMd_list_j56 x1 x2 x3 x4 (i3 0) σ
    else
      fMd_list_j42 x1 x2 x3 x4 σ) := rfl
theorem fMd_list_j22_E {x1 : Int32} {x2 : Int32} {x3 : Int32} {x4 : Int32} {σ : Sg} : fMd_list_j22 x1 x2 x3 x4 σ = (
  fMd_list_j27 x1 x2 x3 x4 (i3 1) σ) := rfl
theorem fMd_list_j26_E {x1 : Int32} {x2 : Int32} {x3 : Int32} {x4 : Int32} {σ : Sg} : fMd_list_j26 x1 x2 x3 x4 σ = (
  fMd_list_j27 x1 x2 x3 x4 (i3 0) σ) := rfl
theorem fMd_list_j11_E {x1 : Int32} {x2 : Int32} {x3 : Int32} {x4 : Int32} {σ : Sg} : fMd_list_j11 x1 x2 x3 x4 σ = (
  if x3 = (i3 0) then
    fMd_list_j22 x1 x2 x3 x4 σ
  else
    bdR (fMd_isKey x3) fun v1 =>
    if v1 = (i3 0) then
      fMd_list_j26 x1 x2 x3 x4 σ
    else
      fMd_list_j22 x1 x2 x3 x4 σ) := rfl
theorem fMd_list_E {x1 : Int32} {x2 : Int32} {x3 : Int32} {x4 : Int32} {σ : Sg} : fMd_list x1 x2 x3 x4 σ = (
  if x2 = (i3 0) then
    fMd_list_j11 x1 x2 x3 x4 σ
  else
    bdR (fMd_isKey x2) fun v1 =>
    if v1 = (i3 0) then
      fMd_list_j26 x1 x2 x3 x4 σ
    else
      fMd_list_j11 x1 x2 x3 x4 σ) := rfl
theorem fMd_lock_j70_E {x4 : Int32} {x6 : Int32} {s0 : Int32} {σ : Sg} : fMd_lock_j70 x4 x6 s0 σ = (
  bdW (fMd_holds s0 σ) fun v1 σ2 =>
  if v1 = (i3 0) then
    some ((i3 0), σ2)
  else
    mgA 31 x6 σ2 fun v3 =>
    mpA 31 x6 x4 σ2 fun σ4 =>
    some (v3, σ4)) := rfl
theorem fMd_lock_j25_E {x4 : Int32} {x5 : Int32} {s0 : Int32} {σ : Sg} : fMd_lock_j25 x4 x5 s0 σ = (
  if x5 = (i3 0) then
    fMd_lock_j70 x4 s0 (i3 1) σ
  else
    bdR (fMd_isIn x4 (i3 0) (i3 999)) fun v1 =>
    if v1 = (i3 0) then
      fMd_lock_j70 x4 s0 (i3 2) σ
    else
      mgA 31 s0 σ fun v2 =>
      if v2 ≤ x4 then
        fMd_lock_j70 x4 s0 (i3 0) σ
      else
        fMd_lock_j70 x4 s0 (i3 3) σ) := rfl
theorem fMd_lock_E {x1 : Int32} {x2 : Int32} {x3 : Int32} {x4 : Int32} {σ : Sg} : fMd_lock x1 x2 x3 x4 σ = (
  bdR (fMd_isVersion x1 x2 x3 σ) fun v1 =>
  if v1 = (i3 0) then
    fMd_lock_j25 x4 v1 (i3 0) σ
  else
    bdR (fMd_versionAt x1 x2 x3 σ) fun v2 =>
    fMd_lock_j25 x4 v1 v2 σ) := rfl
theorem fMd_mendable_j57_E {k18 : Int32 → Int32 → Int32 → Sg → Option (Int32)} {x3 : Int32} {x4 : Int32} {x5 : Int32} {σ : Sg} : fMd_mendable_j57 k18 x3 x4 x5 σ = (
  k18 x3 x4 (x5 + (i3 1)) σ) := rfl
theorem fMd_mendable_b18_E {k18 : Int32 → Int32 → Int32 → Sg → Option (Int32)} {x3 : Int32} {x4 : Int32} {x5 : Int32} {σ : Sg} : fMd_mendable_b18 k18 x3 x4 x5 σ = (
  if (i3 5) ≤ x5 then
    some m1
  else
    bdR (fMd_isGood x3 x5 σ) fun v1 =>
    if v1 = (i3 0) then
      mgA 25 (((i3 5) * x3) + x5) σ fun v2 =>
      if v2 = (i3 0) then
        if x4 = m1 then
          fMd_mendable_j57 k18 x3 x4 x5 σ
        else
          some x5
      else
        some x5
    else
      fMd_mendable_j57 k18 x3 x4 x5 σ) := rfl
theorem fMd_mendable_l18_S  {fu : Nat} {x3 : Int32} {x4 : Int32} {x5 : Int32} {σ : Sg} : fMd_mendable_l18 (fu + 1) x3 x4 x5 σ = fMd_mendable_b18 (fMd_mendable_l18 fu) x3 x4 x5 σ := rfl
theorem fMd_mendable_E {x1 : Int32} {x2 : Int32} {σ : Sg} : fMd_mendable x1 x2 σ = (
  bdR (fMd_freeNode x1 x2 σ) fun v1 =>
  fMd_mendable_l18 FU (((i3 90) * x1) + x2) v1 (i3 0) σ) := rfl
theorem fMd_mends_j170_E {s0 : Int32} {s1 : Int32} {s2 : Int32} {σ : Sg} : fMd_mends_j170 s0 s1 s2 σ = (
  bdW (fMd_lays s2 s1 s0 σ) fun v1 σ2 =>
  rZ (i3 1) (some ((i3 1), σ2))) := rfl
theorem fMd_mends_j99_E {k7 : Int32 → Int32 → Int32 → Int32 → Sg → Option (Int32 × Sg)} {x1 : Int32} {x2 : Int32} {x4 : Int32} {s0 : Int32} {σ : Sg} : fMd_mends_j99 k7 x1 x2 x4 s0 σ = (
  k7 x1 x2 s0 (x4 + (i3 1)) σ) := rfl
theorem fMd_mends_j87_E {k7 : Int32 → Int32 → Int32 → Int32 → Sg → Option (Int32 × Sg)} {x1 : Int32} {x3 : Int32} {x4 : Int32} {x5 : Int32} {x6 : Int32} {s0 : Int32} {σ : Sg} : fMd_mends_j87 k7 x1 x3 x4 x5 x6 s0 σ = (
  if x6 = (i3 0) then
    fMd_mends_j99 k7 x1 s0 x4 x3 σ
  else
    fMd_mends_j99 k7 x1 s0 x4 x5 σ) := rfl
theorem fMd_mends_j74_E {k7 : Int32 → Int32 → Int32 → Int32 → Sg → Option (Int32 × Sg)} {x1 : Int32} {x2 : Int32} {x3 : Int32} {x4 : Int32} {x5 : Int32} {s0 : Int32} {σ : Sg} : fMd_mends_j74 k7 x1 x2 x3 x4 x5 s0 σ = (
  if s0 = (i3 0) then
    fMd_mends_j87 k7 x1 x3 x4 x5 s0 x2 σ
  else
    fMd_mends_j87 k7 x1 x3 x4 x5 s0 x4 σ) := rfl
theorem fMd_mends_j73_E {k7 : Int32 → Int32 → Int32 → Int32 → Sg → Option (Int32 × Sg)} {x1 : Int32} {x2 : Int32} {x3 : Int32} {x4 : Int32} {x5 : Int32} {σ : Sg} : fMd_mends_j73 k7 x1 x2 x3 x4 x5 σ = (
  fMd_mends_j74 k7 x1 x2 x3 x4 x5 (i3 0) σ) := rfl
theorem fMd_mends_b7_E {k7 : Int32 → Int32 → Int32 → Int32 → Sg → Option (Int32 × Sg)} {x1 : Int32} {x2 : Int32} {x3 : Int32} {x4 : Int32} {σ : Sg} : fMd_mends_b7 k7 x1 x2 x3 x4 σ = (
  mgA 18 x1 σ fun v1 =>
  if v1 ≤ x4 then
    if x2 = m1 then
      rZ (i3 0) (some ((i3 0), σ))
    else
      bdR (fMd_mendable x1 x2 σ) fun v2 =>
      mgA 25 (((i3 5) * (((i3 90) * x1) + x2)) + v2) σ fun v3 =>
      if v3 = (i3 0) then
        bdR (fMd_freeNode x1 x2 σ) fun v4 =>
        fMd_mends_j170 v4 v2 (((i3 90) * x1) + x2) σ
      else
        mgA 23 (((i3 5) * (((i3 90) * x1) + x2)) + v2) σ fun v5 =>
        fMd_mends_j170 v5 v2 (((i3 90) * x1) + x2) σ
  else
    bdR (fMd_goodMany (((i3 90) * x1) + x4) σ) fun v6 =>
    mgA 19 (((i3 90) * x1) + x4) σ fun v7 =>
    if v7 = (i3 0) then
      if v6 ≤ (i3 2) then
        fMd_mends_j73 k7 x1 x2 x3 x4 v6 σ
      else
        if x3 ≤ v6 then
          fMd_mends_j73 k7 x1 x2 x3 x4 v6 σ
        else
          bdR (fMd_mendable x1 x4 σ) fun v8 =>
          if v8 = m1 then
            fMd_mends_j73 k7 x1 x2 x3 x4 v6 σ
          else
            fMd_mends_j74 k7 x1 x2 x3 x4 v6 (i3 1) σ
    else
      fMd_mends_j73 k7 x1 x2 x3 x4 v6 σ) := rfl
theorem fMd_mends_l7_S  {fu : Nat} {x1 : Int32} {x2 : Int32} {x3 : Int32} {x4 : Int32} {σ : Sg} : fMd_mends_l7 (fu + 1) x1 x2 x3 x4 σ = fMd_mends_b7 (fMd_mends_l7 fu) x1 x2 x3 x4 σ := rfl
theorem fMd_mends_E {x1 : Int32} {σ : Sg} : fMd_mends x1 σ = (
  fMd_mends_l7 FU x1 m1 (i3 5) (i3 0) σ) := rfl
theorem fMd_mend_b37_E {k37 : Int32 → Int32 → Int32 → Sg → Option (Int32 × Sg)} {x1 : Int32} {x2 : Int32} {x3 : Int32} {σ : Sg} : fMd_mend_b37 k37 x1 x2 x3 σ = (
  if x2 ≤ x3 then
    some (x3, σ)
  else
    bdW (fMd_mends x1 σ) fun v1 σ2 =>
    if v1 = (i3 0) then
      some (x3, σ2)
    else
      k37 x1 x2 (x3 + (i3 1)) σ2) := rfl
theorem fMd_mend_l37_S  {fu : Nat} {x1 : Int32} {x2 : Int32} {x3 : Int32} {σ : Sg} : fMd_mend_l37 (fu + 1) x1 x2 x3 σ = fMd_mend_b37 (fMd_mend_l37 fu) x1 x2 x3 σ := rfl
theorem fMd_mend_j27_E {x1 : Int32} {x2 : Int32} {s0 : Int32} {σ : Sg} : fMd_mend_j27 x1 x2 s0 σ = (
  bdW (fMd_holds s0 σ) fun v1 σ2 =>
  if v1 = (i3 0) then
    some ((i3 0), σ2)
  else
    fMd_mend_l37 FU x1 x2 (i3 0) σ2) := rfl
theorem fMd_mend_E {x1 : Int32} {x2 : Int32} {σ : Sg} : fMd_mend x1 x2 σ = (
  bdR (fMd_isRegion x1) fun v1 =>
  if v1 = (i3 0) then
    fMd_mend_j27 x1 x2 (i3 1) σ
  else
    bdR (fMd_isIn x2 (i3 1) (i3 99)) fun v2 =>
    if v2 = (i3 0) then
      fMd_mend_j27 x1 x2 (i3 2) σ
    else
      fMd_mend_j27 x1 x2 (i3 0) σ) := rfl
theorem fMd_node_j205_E {k91 : Int32 → Int32 → Int32 → Int32 → Int32 → Sg → Option (Int32 × Sg)} {x1 : Int32} {x2 : Int32} {x3 : Int32} {x6 : Int32} {s0 : Int32} {s1 : Int32} {σ : Sg} : fMd_node_j205 k91 x1 x2 x3 x6 s0 s1 σ = (
  k91 x1 x2 x3 (s1 + s0) (x6 + (i3 1)) σ) := rfl
theorem fMd_node_j192_E {k91 : Int32 → Int32 → Int32 → Int32 → Int32 → Sg → Option (Int32 × Sg)} {x1 : Int32} {x2 : Int32} {x3 : Int32} {x5 : Int32} {x6 : Int32} {x7 : Int32} {s0 : Int32} {s1 : Int32} {σ : Sg} : fMd_node_j192 k91 x1 x2 x3 x5 x6 x7 s0 s1 σ = (
  mpZ 25 s1 s0 σ fun σ1 =>
  if x7 = (i3 0) then
    fMd_node_j205 k91 x1 x2 x3 x6 (i3 0) x5 σ1
  else
    fMd_node_j205 k91 x1 x2 x3 x6 (i3 1) x5 σ1) := rfl
theorem fMd_node_j191_E {k91 : Int32 → Int32 → Int32 → Int32 → Int32 → Sg → Option (Int32 × Sg)} {x1 : Int32} {x2 : Int32} {x3 : Int32} {x5 : Int32} {x6 : Int32} {x7 : Int32} {s0 : Int32} {σ : Sg} : fMd_node_j191 k91 x1 x2 x3 x5 x6 x7 s0 σ = (
  fMd_node_j192 k91 x1 x2 x3 x5 x6 x7 (i3 0) s0 σ) := rfl
theorem fMd_node_j165_E {k91 : Int32 → Int32 → Int32 → Int32 → Int32 → Sg → Option (Int32 × Sg)} {x1 : Int32} {x2 : Int32} {x3 : Int32} {x5 : Int32} {x6 : Int32} {x7 : Int32} {s0 : Int32} {s1 : Int32} {σ : Sg} : fMd_node_j165 k91 x1 x2 x3 x5 x6 x7 s0 s1 σ = (
  mpA 23 s1 s0 σ fun σ1 =>
  mgA 25 x6 σ1 fun v2 =>
  if v2 = (i3 0) then
    fMd_node_j191 k91 x1 x2 x3 x5 x6 x7 x6 σ1
  else
    if x7 = (i3 0) then
      fMd_node_j192 k91 x1 x2 x3 x5 x6 x7 (i3 1) x6 σ1
    else
      fMd_node_j191 k91 x1 x2 x3 x5 x6 x7 x6 σ1) := rfl
theorem fMd_node_j141_E {k91 : Int32 → Int32 → Int32 → Int32 → Int32 → Sg → Option (Int32 × Sg)} {x1 : Int32} {x2 : Int32} {x3 : Int32} {x5 : Int32} {x6 : Int32} {s0 : Int32} {σ : Sg} : fMd_node_j141 k91 x1 x2 x3 x5 x6 s0 σ = (
  if s0 = (i3 0) then
    mgA 23 x6 σ fun v1 =>
    fMd_node_j165 k91 x1 x2 x3 x5 x6 s0 v1 x6 σ
  else
    fMd_node_j165 k91 x1 x2 x3 x5 x6 s0 m1 x6 σ) := rfl
theorem fMd_node_j140_E {k91 : Int32 → Int32 → Int32 → Int32 → Int32 → Sg → Option (Int32 × Sg)} {x1 : Int32} {x2 : Int32} {x3 : Int32} {x5 : Int32} {x6 : Int32} {σ : Sg} : fMd_node_j140 k91 x1 x2 x3 x5 x6 σ = (
  fMd_node_j141 k91 x1 x2 x3 x5 x6 (i3 0) σ) := rfl
theorem fMd_node_b91_E {k91 : Int32 → Int32 → Int32 → Int32 → Int32 → Sg → Option (Int32 × Sg)} {x1 : Int32} {x2 : Int32} {x3 : Int32} {x5 : Int32} {x6 : Int32} {σ : Sg} : fMd_node_b91 k91 x1 x2 x3 x5 x6 σ = (
  mgA 18 x1 σ fun v1 =>
  if ((i3 5) * (((i3 90) * x1) + v1)) ≤ x6 then
    some (x5, σ)
  else
    if x3 = (i3 0) then
      mgA 19 (x6 / (i3 5)) σ fun v2 =>
      if v2 = (i3 0) then
        mgA 23 x6 σ fun v3 =>
        if v3 = x2 then
          fMd_node_j141 k91 x1 x2 x3 x5 x6 (i3 1) σ
        else
          fMd_node_j140 k91 x1 x2 x3 x5 x6 σ
      else
        fMd_node_j140 k91 x1 x2 x3 x5 x6 σ
    else
      some (x5, σ)) := rfl
theorem fMd_node_l91_S  {fu : Nat} {x1 : Int32} {x2 : Int32} {x3 : Int32} {x5 : Int32} {x6 : Int32} {σ : Sg} : fMd_node_l91 (fu + 1) x1 x2 x3 x5 x6 σ = fMd_node_b91 (fMd_node_l91 fu) x1 x2 x3 x5 x6 σ := rfl
theorem fMd_node_j80_E {x1 : Int32} {x2 : Int32} {x3 : Int32} {s0 : Int32} {s1 : Int32} {σ : Sg} : fMd_node_j80 x1 x2 x3 s0 s1 σ = (
  mpZ 17 s1 s0 σ fun σ1 =>
  fMd_node_l91 FU x1 x2 x3 (i3 0) ((i3 450) * x1) σ1) := rfl
theorem fMd_node_j53_E {x1 : Int32} {x2 : Int32} {x3 : Int32} {s0 : Int32} {σ : Sg} : fMd_node_j53 x1 x2 x3 s0 σ = (
  bdW (fMd_holds s0 σ) fun v1 σ2 =>
  if v1 = (i3 0) then
    some ((i3 0), σ2)
  else
    if x3 = (i3 0) then
      fMd_node_j80 x1 x2 x3 (i3 1) (((i3 6) * x1) + x2) σ2
    else
      fMd_node_j80 x1 x2 x3 (i3 0) (((i3 6) * x1) + x2) σ2) := rfl
theorem fMd_node_j21_E {x1 : Int32} {x2 : Int32} {x3 : Int32} {s0 : Int32} {σ : Sg} : fMd_node_j21 x1 x2 x3 s0 σ = (
  if s0 = (i3 0) then
    fMd_node_j53 x1 x2 x3 (i3 1) σ
  else
    mgA 17 (((i3 6) * x1) + x2) σ fun v1 =>
    if v1 = x3 then
      fMd_node_j53 x1 x2 x3 (i3 0) σ
    else
      fMd_node_j53 x1 x2 x3 (i3 2) σ) := rfl
theorem fMd_node_j20_E {x1 : Int32} {x2 : Int32} {x3 : Int32} {σ : Sg} : fMd_node_j20 x1 x2 x3 σ = (
  fMd_node_j21 x1 x2 x3 (i3 0) σ) := rfl
theorem fMd_node_E {x1 : Int32} {x2 : Int32} {x3 : Int32} {σ : Sg} : fMd_node x1 x2 x3 σ = (
  bdR (fMd_isRegion x1) fun v1 =>
  if v1 = (i3 0) then
    fMd_node_j20 x1 x2 x3 σ
  else
    bdR (fMd_isIn x2 (i3 0) (i3 5)) fun v2 =>
    if v2 = (i3 0) then
      fMd_node_j20 x1 x2 x3 σ
    else
      fMd_node_j21 x1 x2 x3 (i3 1) σ) := rfl
theorem fMd_part_j21_E {x1 : Int32} {x2 : Int32} {x3 : Int32} {x4 : Int32} {s0 : Int32} {σ : Sg} : fMd_part_j21 x1 x2 x3 x4 s0 σ = (
  bdW (fMd_holds s0 σ) fun v1 σ2 =>
  if v1 = (i3 0) then
    some ((i3 0), σ2)
  else
    bdR (fMd_versionAt x1 x2 x3 σ2) fun v3 =>
    mgA 33 v3 σ2 fun v4 =>
    if v4 ≤ x4 then
      some (m1, σ2)
    else
      mgA 34 (((i3 20) * v3) + x4) σ2 fun v5 =>
      some (v5, σ2)) := rfl
theorem fMd_part_j20_E {x1 : Int32} {x2 : Int32} {x3 : Int32} {x4 : Int32} {σ : Sg} : fMd_part_j20 x1 x2 x3 x4 σ = (
  fMd_part_j21 x1 x2 x3 x4 (i3 1) σ) := rfl
theorem fMd_part_E {x1 : Int32} {x2 : Int32} {x3 : Int32} {x4 : Int32} {σ : Sg} : fMd_part x1 x2 x3 x4 σ = (
  bdR (fMd_isVersion x1 x2 x3 σ) fun v1 =>
  if v1 = (i3 0) then
    fMd_part_j20 x1 x2 x3 x4 σ
  else
    if x4 < (i3 0) then
      fMd_part_j20 x1 x2 x3 x4 σ
    else
      fMd_part_j21 x1 x2 x3 x4 (i3 0) σ) := rfl
theorem fMd_partIs_j29_E {x1 : Int32} {x2 : Int32} {x3 : Int32} {s0 : Int32} {σ : Sg} : fMd_partIs_j29 x1 x2 x3 s0 σ = (
  bdW (fMd_holds s0 σ) fun v1 σ2 =>
  if v1 = (i3 0) then
    some ((i3 0), σ2)
  else
    if x3 = (i3 0) then
      mgA 20 (((i3 90) * x1) + x2) σ2 fun v3 =>
      some (v3, σ2)
    else
      if x3 = (i3 1) then
        mgA 21 (((i3 90) * x1) + x2) σ2 fun v4 =>
        some (v4, σ2)
      else
        if x3 = (i3 2) then
          bdR (fMd_goodMany (((i3 90) * x1) + x2) σ2) fun v5 =>
          some (v5, σ2)
        else
          mgA 23 ((((i3 5) * (((i3 90) * x1) + x2)) + x3) - (i3 3)) σ2 fun v6 =>
          some (v6, σ2)) := rfl
theorem fMd_partIs_E {x1 : Int32} {x2 : Int32} {x3 : Int32} {σ : Sg} : fMd_partIs x1 x2 x3 σ = (
  bdR (fMd_isPart x1 x2 σ) fun v1 =>
  if v1 = (i3 0) then
    fMd_partIs_j29 x1 x2 x3 (i3 1) σ
  else
    bdR (fMd_isIn x3 (i3 0) (i3 7)) fun v2 =>
    if v2 = (i3 0) then
      fMd_partIs_j29 x1 x2 x3 (i3 2) σ
    else
      fMd_partIs_j29 x1 x2 x3 (i3 0) σ) := rfl
theorem fMd_pass_b136_E {k26 : Int32 → Int32 → Sg → Option (Int32 × Sg)} {k136 : Int32 → Int32 → Int32 → Sg → Option (Int32 × Sg)} {x1 : Int32} {x2 : Int32} {x3 : Int32} {σ : Sg} : fMd_pass_b136 k26 k136 x1 x2 x3 σ = (
  mgF 13 σ fun v1 =>
  if v1 ≤ x3 then
    k26 x1 (x2 + (i3 1)) σ
  else
    bdW (fMd_ages (i3 0) x3 σ) fun v2 σ3 =>
    bdW (fMd_ages (i3 1) x3 σ3) fun v4 σ5 =>
    k136 x1 x2 (x3 + (i3 1)) σ5) := rfl
theorem fMd_pass_l136_S {k26 : Int32 → Int32 → Sg → Option (Int32 × Sg)} {fu : Nat} {x1 : Int32} {x2 : Int32} {x3 : Int32} {σ : Sg} : fMd_pass_l136 k26 (fu + 1) x1 x2 x3 σ = fMd_pass_b136 k26 (fMd_pass_l136 k26 fu) x1 x2 x3 σ := rfl
theorem fMd_pass_j109_E {k26 : Int32 → Int32 → Sg → Option (Int32 × Sg)} {k33 : Int32 → Int32 → Int32 → Sg → Option (Int32 × Sg)} {k44 : Int32 → Int32 → Int32 → Int32 → Sg → Option (Int32 × Sg)} {x1 : Int32} {x2 : Int32} {x3 : Int32} {x4 : Int32} {s0 : Int32} {s1 : Int32} {s2 : Int32} {s3 : Int32} {σ : Sg} : fMd_pass_j109 k26 k33 k44 x1 x2 x3 x4 s0 s1 s2 s3 σ = (
  mpA 12 s3 (s2 + (s1 * s0)) σ fun σ1 =>
  k44 x1 x2 x3 (x4 + (i3 1)) σ1) := rfl
theorem fMd_pass_b44_E {k26 : Int32 → Int32 → Sg → Option (Int32 × Sg)} {k33 : Int32 → Int32 → Int32 → Sg → Option (Int32 × Sg)} {k44 : Int32 → Int32 → Int32 → Int32 → Sg → Option (Int32 × Sg)} {x1 : Int32} {x2 : Int32} {x3 : Int32} {x4 : Int32} {σ : Sg} : fMd_pass_b44 k26 k33 k44 x1 x2 x3 x4 σ = (
  bdR (fMd_endOf x3 σ) fun v1 =>
  if v1 ≤ x4 then
    k33 x1 x2 (x3 + (i3 1)) σ
  else
    mgA 30 x4 σ fun v2 =>
    mgA 12 v2 σ fun v3 =>
    mgA 27 x4 σ fun v4 =>
    mgA 9 v4 σ fun v5 =>
    mgA 30 x4 σ fun v6 =>
    if v6 = (i3 0) then
      fMd_pass_j109 k26 k33 k44 x1 x2 x3 x4 (i3 4) v5 v3 v2 σ
    else
      mgA 30 x4 σ fun v7 =>
      if v7 = (i3 1) then
        fMd_pass_j109 k26 k33 k44 x1 x2 x3 x4 (i3 2) v5 v3 v2 σ
      else
        fMd_pass_j109 k26 k33 k44 x1 x2 x3 x4 (i3 1) v5 v3 v2 σ) := rfl
theorem fMd_pass_l44_S {k26 : Int32 → Int32 → Sg → Option (Int32 × Sg)} {k33 : Int32 → Int32 → Int32 → Sg → Option (Int32 × Sg)} {fu : Nat} {x1 : Int32} {x2 : Int32} {x3 : Int32} {x4 : Int32} {σ : Sg} : fMd_pass_l44 k26 k33 (fu + 1) x1 x2 x3 x4 σ = fMd_pass_b44 k26 k33 (fMd_pass_l44 k26 k33 fu) x1 x2 x3 x4 σ := rfl
theorem fMd_pass_b33_E {k26 : Int32 → Int32 → Sg → Option (Int32 × Sg)} {k33 : Int32 → Int32 → Int32 → Sg → Option (Int32 × Sg)} {x1 : Int32} {x2 : Int32} {x3 : Int32} {σ : Sg} : fMd_pass_b33 k26 k33 x1 x2 x3 σ = (
  if (i3 2) ≤ x3 then
    mgF 11 σ fun v1 =>
    mpF 11 (v1 + (i3 1)) σ fun σ2 =>
    fMd_pass_l136 k26 FU x1 x2 (i3 0) σ2
  else
    fMd_pass_l44 k26 k33 FU x1 x2 x3 ((i3 40) * x3) σ) := rfl
theorem fMd_pass_l33_S {k26 : Int32 → Int32 → Sg → Option (Int32 × Sg)} {fu : Nat} {x1 : Int32} {x2 : Int32} {x3 : Int32} {σ : Sg} : fMd_pass_l33 k26 (fu + 1) x1 x2 x3 σ = fMd_pass_b33 k26 (fMd_pass_l33 k26 fu) x1 x2 x3 σ := rfl
theorem fMd_pass_b26_E {k26 : Int32 → Int32 → Sg → Option (Int32 × Sg)} {x1 : Int32} {x2 : Int32} {σ : Sg} : fMd_pass_b26 k26 x1 x2 σ = (
  if x1 ≤ x2 then
    mgF 11 σ fun v1 =>
    some (v1, σ)
  else
    fMd_pass_l33 k26 FU x1 x2 (i3 0) σ) := rfl
theorem fMd_pass_l26_S  {fu : Nat} {x1 : Int32} {x2 : Int32} {σ : Sg} : fMd_pass_l26 (fu + 1) x1 x2 σ = fMd_pass_b26 (fMd_pass_l26 fu) x1 x2 σ := rfl
theorem fMd_pass_j16_E {x1 : Int32} {s0 : Int32} {σ : Sg} : fMd_pass_j16 x1 s0 σ = (
  bdW (fMd_holds s0 σ) fun v1 σ2 =>
  if v1 = (i3 0) then
    some ((i3 0), σ2)
  else
    fMd_pass_l26 FU x1 (i3 0) σ2) := rfl
theorem fMd_pass_E {x1 : Int32} {σ : Sg} : fMd_pass x1 σ = (
  bdR (fMd_isIn x1 (i3 1) (i3 30)) fun v1 =>
  if v1 = (i3 0) then
    fMd_pass_j16 x1 (i3 1) σ
  else
    fMd_pass_j16 x1 (i3 0) σ) := rfl
theorem fMd_pieced_b4_E {k4 : Int32 → Int32 → Int32 → Sg → Option (Int32)} {x1 : Int32} {x2 : Int32} {x3 : Int32} {σ : Sg} : fMd_pieced_b4 k4 x1 x2 x3 σ = (
  if (i3 9) ≤ x3 then
    some x2
  else
    mgA 44 (((i3 9) * x1) + x3) σ fun v1 =>
    k4 x1 (x2 + v1) (x3 + (i3 1)) σ) := rfl
theorem fMd_pieced_l4_S  {fu : Nat} {x1 : Int32} {x2 : Int32} {x3 : Int32} {σ : Sg} : fMd_pieced_l4 (fu + 1) x1 x2 x3 σ = fMd_pieced_b4 (fMd_pieced_l4 fu) x1 x2 x3 σ := rfl
theorem fMd_pieced_E {x1 : Int32} {σ : Sg} : fMd_pieced x1 σ = (
  fMd_pieced_l4 FU x1 (i3 0) (i3 0) σ) := rfl
theorem fMd_piece_b123_E {k123 : Int32 → Int32 → Int32 → Sg → Option (Int32 × Sg)} {x1 : Int32} {x6 : Int32} {x7 : Int32} {σ : Sg} : fMd_piece_b123 k123 x1 x6 x7 σ = (
  mgF 1 σ fun v1 =>
  if v1 ≤ x7 then
    mpF 1 (i3 0) σ fun σ2 =>
    bdR (fMd_pieced x1 σ2) fun v3 =>
    some (v3, σ2)
  else
    mgA 2 x7 σ fun v4 =>
    mpA 45 (((i3 40) * x6) + x7) v4 σ fun σ5 =>
    k123 x1 x6 (x7 + (i3 1)) σ5) := rfl
theorem fMd_piece_l123_S  {fu : Nat} {x1 : Int32} {x6 : Int32} {x7 : Int32} {σ : Sg} : fMd_piece_l123 (fu + 1) x1 x6 x7 σ = fMd_piece_b123 (fMd_piece_l123 fu) x1 x6 x7 σ := rfl
theorem fMd_piece_j91_E {x1 : Int32} {x2 : Int32} {s0 : Int32} {σ : Sg} : fMd_piece_j91 x1 x2 s0 σ = (
  bdW (fMd_holds s0 σ) fun v1 σ2 =>
  if v1 = (i3 0) then
    some ((i3 0), σ2)
  else
    mgF 1 σ2 fun v3 =>
    mpA 44 ((((i3 9) * x1) + x2) - (i3 1)) v3 σ2 fun σ4 =>
    fMd_piece_l123 FU x1 ((((i3 9) * x1) + x2) - (i3 1)) (i3 0) σ4) := rfl
theorem fMd_piece_j86_E {x1 : Int32} {x2 : Int32} {σ : Sg} : fMd_piece_j86 x1 x2 σ = (
  fMd_piece_j91 x1 x2 (i3 3) σ) := rfl
theorem fMd_piece_j47_E {x1 : Int32} {x2 : Int32} {x3 : Int32} {x4 : Int32} {s0 : Int32} {σ : Sg} : fMd_piece_j47 x1 x2 x3 x4 s0 σ = (
  if x3 = (i3 0) then
    fMd_piece_j91 x1 x2 (i3 1) σ
  else
    if x4 = (i3 0) then
      fMd_piece_j91 x1 x2 (i3 2) σ
    else
      mgF 1 σ fun v1 =>
      if v1 = (i3 0) then
        fMd_piece_j86 x1 x2 σ
      else
        mgF 1 σ fun v2 =>
        if (s0 + v2) ≤ (i3 40) then
          fMd_piece_j91 x1 x2 (i3 0) σ
        else
          fMd_piece_j86 x1 x2 σ) := rfl
theorem fMd_piece_j46_E {x1 : Int32} {x2 : Int32} {x3 : Int32} {x4 : Int32} {σ : Sg} : fMd_piece_j46 x1 x2 x3 x4 σ = (
  fMd_piece_j47 x1 x2 x3 x4 (i3 0) σ) := rfl
theorem fMd_piece_E {x1 : Int32} {x2 : Int32} {σ : Sg} : fMd_piece x1 x2 σ = (
  bdR (fMd_isUpload x1 σ) fun v1 =>
  bdR (fMd_isIn x2 (i3 1) (i3 9)) fun v2 =>
  if v1 = (i3 0) then
    fMd_piece_j46 x1 x2 v1 v2 σ
  else
    if v2 = (i3 0) then
      fMd_piece_j46 x1 x2 v1 v2 σ
    else
      bdR (fMd_pieced x1 σ) fun v3 =>
      mgA 44 ((((i3 9) * x1) + x2) - (i3 1)) σ fun v4 =>
      fMd_piece_j47 x1 x2 v1 v2 (v3 - v4) σ) := rfl
theorem fMd_put_j146_E {x1 : Int32} {x2 : Int32} {x7 : Int32} {s0 : Int32} {σ : Sg} : fMd_put_j146 x1 x2 x7 s0 σ = (
  bdW (fMd_holds s0 σ) fun v1 σ2 =>
  if v1 = (i3 0) then
    some ((i3 0), σ2)
  else
    if x7 = (i3 0) then
      some ((i3 0), σ2)
    else
      mpF 1 (i3 0) σ2 fun σ3 =>
      bdW (fMd_puts x1 x2 σ3) fun v4 σ5 =>
      some (v4, σ5)) := rfl
theorem fMd_put_j141_E {x1 : Int32} {x2 : Int32} {x7 : Int32} {σ : Sg} : fMd_put_j141 x1 x2 x7 σ = (
  fMd_put_j146 x1 x2 x7 (i3 3) σ) := rfl
theorem fMd_put_j145_E {x1 : Int32} {x2 : Int32} {x7 : Int32} {σ : Sg} : fMd_put_j145 x1 x2 x7 σ = (
  fMd_put_j146 x1 x2 x7 (i3 0) σ) := rfl
theorem fMd_put_j96_E {x1 : Int32} {x2 : Int32} {x4 : Int32} {x5 : Int32} {s0 : Int32} {σ : Sg} : fMd_put_j96 x1 x2 x4 x5 s0 σ = (
  bdW (fMd_atHand σ) fun v1 σ2 =>
  if x4 = (i3 0) then
    fMd_put_j146 x1 x2 s0 (i3 1) σ2
  else
    if x5 = (i3 0) then
      fMd_put_j146 x1 x2 s0 (i3 2) σ2
    else
      mgF 1 σ2 fun v3 =>
      if v3 = (i3 0) then
        fMd_put_j141 x1 x2 s0 σ2
      else
        if s0 = (i3 0) then
          fMd_put_j145 x1 x2 s0 σ2
        else
          bdR (fMd_isFull x1 σ2) fun v4 =>
          if v4 = (i3 0) then
            fMd_put_j145 x1 x2 s0 σ2
          else
            fMd_put_j141 x1 x2 s0 σ2) := rfl
theorem fMd_put_j91_E {x1 : Int32} {x2 : Int32} {x4 : Int32} {x5 : Int32} {σ : Sg} : fMd_put_j91 x1 x2 x4 x5 σ = (
  fMd_put_j96 x1 x2 x4 x5 (i3 1) σ) := rfl
theorem fMd_put_j95_E {x1 : Int32} {x2 : Int32} {x4 : Int32} {x5 : Int32} {σ : Sg} : fMd_put_j95 x1 x2 x4 x5 σ = (
  fMd_put_j96 x1 x2 x4 x5 (i3 0) σ) := rfl
theorem fMd_put_j45_E {x1 : Int32} {x2 : Int32} {x3 : Int32} {x4 : Int32} {x5 : Int32} {s0 : Int32} {σ : Sg} : fMd_put_j45 x1 x2 x3 x4 x5 s0 σ = (
  if x3 = m1 then
    fMd_put_j91 x1 x2 x4 x5 σ
  else
    if x3 = (i3 0) then
      if s0 = m1 then
        fMd_put_j91 x1 x2 x4 x5 σ
      else
        bdR (fMd_isMark s0 σ) fun v1 =>
        if v1 = (i3 0) then
          fMd_put_j95 x1 x2 x4 x5 σ
        else
          fMd_put_j91 x1 x2 x4 x5 σ
    else
      if s0 = m1 then
        fMd_put_j95 x1 x2 x4 x5 σ
      else
        mgA 27 s0 σ fun v2 =>
        if v2 = x3 then
          fMd_put_j91 x1 x2 x4 x5 σ
        else
          fMd_put_j95 x1 x2 x4 x5 σ) := rfl
theorem fMd_put_j44_E {x1 : Int32} {x2 : Int32} {x3 : Int32} {x4 : Int32} {x5 : Int32} {σ : Sg} : fMd_put_j44 x1 x2 x3 x4 x5 σ = (
  fMd_put_j45 x1 x2 x3 x4 x5 m1 σ) := rfl
theorem fMd_put_j23_E {x1 : Int32} {x2 : Int32} {x3 : Int32} {x4 : Int32} {s0 : Int32} {σ : Sg} : fMd_put_j23 x1 x2 x3 x4 s0 σ = (
  if x4 = (i3 0) then
    fMd_put_j44 x1 x2 x3 x4 s0 σ
  else
    if s0 = (i3 0) then
      fMd_put_j44 x1 x2 x3 x4 s0 σ
    else
      bdR (fMd_latest x1 x2 σ) fun v1 =>
      fMd_put_j45 x1 x2 x3 x4 s0 v1 σ) := rfl
theorem fMd_put_j22_E {x1 : Int32} {x2 : Int32} {x3 : Int32} {x4 : Int32} {σ : Sg} : fMd_put_j22 x1 x2 x3 x4 σ = (
  fMd_put_j23 x1 x2 x3 x4 (i3 0) σ) := rfl
theorem fMd_put_E {x1 : Int32} {x2 : Int32} {x3 : Int32} {σ : Sg} : fMd_put x1 x2 x3 σ = (
  bdR (fMd_isRegion x1) fun v1 =>
  bdR (fMd_isKey x2) fun v2 =>
  if v2 = (i3 0) then
    fMd_put_j22 x1 x2 x3 v1 σ
  else
    if x3 < m1 then
      fMd_put_j22 x1 x2 x3 v1 σ
    else
      fMd_put_j23 x1 x2 x3 v1 (i3 1) σ) := rfl
theorem fMd_read_j83_E {x1 : Int32} {x4 : Int32} {s0 : Int32} {σ : Sg} : fMd_read_j83 x1 x4 s0 σ = (
  if s0 = m1 then
    some (m2, σ)
  else
    bdR (fMd_isMark s0 σ) fun v1 =>
    if v1 = (i3 0) then
      bdR (fMd_isWarm s0 σ) fun v2 =>
      if v2 = (i3 0) then
        some (m3, σ)
      else
        mgA 27 s0 σ fun v3 =>
        mgA 9 v3 σ fun v4 =>
        if x4 < v4 then
          bdW (fMd_byteOf x1 s0 x4 σ) fun v5 σ6 =>
          some (v5, σ6)
        else
          some (m1, σ)
    else
      some (m2, σ)) := rfl
theorem fMd_read_j55_E {x1 : Int32} {x2 : Int32} {x3 : Int32} {x4 : Int32} {s0 : Int32} {σ : Sg} : fMd_read_j55 x1 x2 x3 x4 s0 σ = (
  bdW (fMd_holds s0 σ) fun v1 σ2 =>
  if v1 = (i3 0) then
    some ((i3 0), σ2)
  else
    if x3 = (i3 0) then
      bdR (fMd_latest x1 x2 σ2) fun v3 =>
      fMd_read_j83 x1 x4 v3 σ2
    else
      bdR (fMd_versionAt x1 x2 x3 σ2) fun v4 =>
      fMd_read_j83 x1 x4 v4 σ2) := rfl
theorem fMd_read_j31_E {x1 : Int32} {x2 : Int32} {x3 : Int32} {x4 : Int32} {s0 : Int32} {σ : Sg} : fMd_read_j31 x1 x2 x3 x4 s0 σ = (
  if s0 = (i3 0) then
    fMd_read_j55 x1 x2 x3 x4 (i3 1) σ
  else
    bdR (fMd_isKey x2) fun v1 =>
    if v1 = (i3 0) then
      fMd_read_j55 x1 x2 x3 x4 (i3 2) σ
    else
      fMd_read_j55 x1 x2 x3 x4 (i3 0) σ) := rfl
theorem fMd_read_j30_E {x1 : Int32} {x2 : Int32} {x3 : Int32} {x4 : Int32} {σ : Sg} : fMd_read_j30 x1 x2 x3 x4 σ = (
  fMd_read_j31 x1 x2 x3 x4 (i3 0) σ) := rfl
theorem fMd_read_j26_E {x1 : Int32} {x2 : Int32} {x3 : Int32} {x4 : Int32} {σ : Sg} : fMd_read_j26 x1 x2 x3 x4 σ = (
  fMd_read_j31 x1 x2 x3 x4 (i3 1) σ) := rfl
theorem fMd_read_E {x1 : Int32} {x2 : Int32} {x3 : Int32} {x4 : Int32} {σ : Sg} : fMd_read x1 x2 x3 x4 σ = (
  bdR (fMd_isRegion x1) fun v1 =>
  if v1 = (i3 0) then
    fMd_read_j30 x1 x2 x3 x4 σ
  else
    if x4 < (i3 0) then
      fMd_read_j30 x1 x2 x3 x4 σ
    else
      if x3 = (i3 0) then
        fMd_read_j26 x1 x2 x3 x4 σ
      else
        bdR (fMd_isVersion x1 x2 x3 σ) fun v2 =>
        if v2 = (i3 0) then
          fMd_read_j30 x1 x2 x3 x4 σ
        else
          fMd_read_j26 x1 x2 x3 x4 σ) := rfl
theorem fMd_rot_j83_E {x5 : Int32} {s0 : Int32} {s1 : Int32} {σ : Sg} : fMd_rot_j83 x5 s0 s1 σ = (
  mpZ 25 s1 s0 σ fun σ1 =>
  rZ x5 (some (x5, σ1))) := rfl
theorem fMd_rot_j28_E {x1 : Int32} {x2 : Int32} {x3 : Int32} {s0 : Int32} {σ : Sg} : fMd_rot_j28 x1 x2 x3 s0 σ = (
  bdW (fMd_holds s0 σ) fun v1 σ2 =>
  if v1 = (i3 0) then
    rZ (i3 0) (some ((i3 0), σ2))
  else
    bdR (fMd_isGood (((i3 90) * x1) + x2) x3 σ2) fun v3 =>
    mgA 23 (((i3 5) * (((i3 90) * x1) + x2)) + x3) σ2 fun v4 =>
    if v4 = m1 then
      fMd_rot_j83 v3 (i3 0) (((i3 5) * (((i3 90) * x1) + x2)) + x3) σ2
    else
      fMd_rot_j83 v3 (i3 1) (((i3 5) * (((i3 90) * x1) + x2)) + x3) σ2) := rfl
theorem fMd_rot_E {x1 : Int32} {x2 : Int32} {x3 : Int32} {σ : Sg} : fMd_rot x1 x2 x3 σ = (
  bdR (fMd_isPart x1 x2 σ) fun v1 =>
  if v1 = (i3 0) then
    fMd_rot_j28 x1 x2 x3 (i3 1) σ
  else
    bdR (fMd_isIn x3 (i3 0) (i3 4)) fun v2 =>
    if v2 = (i3 0) then
      fMd_rot_j28 x1 x2 x3 (i3 2) σ
    else
      fMd_rot_j28 x1 x2 x3 (i3 0) σ) := rfl
theorem fMd_rule_j61_E {x1 : Int32} {x2 : Int32} {x3 : Int32} {s0 : Int32} {σ : Sg} : fMd_rule_j61 x1 x2 x3 s0 σ = (
  bdW (fMd_holds s0 σ) fun v1 σ2 =>
  if v1 = (i3 0) then
    some ((i3 0), σ2)
  else
    mgF 13 σ2 fun v3 =>
    mpA 14 v3 x1 σ2 fun σ4 =>
    mgF 13 σ4 fun v5 =>
    mpA 15 v5 x2 σ4 fun σ6 =>
    mgF 13 σ6 fun v7 =>
    mpA 16 v7 x3 σ6 fun σ8 =>
    mgF 13 σ8 fun v9 =>
    mpF 13 (v9 + (i3 1)) σ8 fun σ10 =>
    mgF 13 σ10 fun v11 =>
    some (v11, σ10)) := rfl
theorem fMd_rule_j35_E {x1 : Int32} {x2 : Int32} {x3 : Int32} {s0 : Int32} {σ : Sg} : fMd_rule_j35 x1 x2 x3 s0 σ = (
  if s0 = (i3 0) then
    fMd_rule_j61 x1 x2 x3 (i3 1) σ
  else
    mgF 13 σ fun v1 =>
    if v1 = (i3 6) then
      fMd_rule_j61 x1 x2 x3 (i3 2) σ
    else
      fMd_rule_j61 x1 x2 x3 (i3 0) σ) := rfl
theorem fMd_rule_j34_E {x1 : Int32} {x2 : Int32} {x3 : Int32} {σ : Sg} : fMd_rule_j34 x1 x2 x3 σ = (
  fMd_rule_j35 x1 x2 x3 (i3 0) σ) := rfl
theorem fMd_rule_j11_E {x1 : Int32} {x2 : Int32} {x3 : Int32} {σ : Sg} : fMd_rule_j11 x1 x2 x3 σ = (
  bdR (fMd_isIn x2 (i3 0) (i3 99)) fun v1 =>
  if v1 = (i3 0) then
    fMd_rule_j34 x1 x2 x3 σ
  else
    bdR (fMd_isIn x3 (i3 1) (i3 3)) fun v2 =>
    if v2 = (i3 0) then
      fMd_rule_j34 x1 x2 x3 σ
    else
      fMd_rule_j35 x1 x2 x3 (i3 1) σ) := rfl
theorem fMd_rule_E {x1 : Int32} {x2 : Int32} {x3 : Int32} {σ : Sg} : fMd_rule x1 x2 x3 σ = (
  if x1 = (i3 0) then
    fMd_rule_j11 x1 x2 x3 σ
  else
    bdR (fMd_isKey x1) fun v1 =>
    if v1 = (i3 0) then
      fMd_rule_j34 x1 x2 x3 σ
    else
      fMd_rule_j11 x1 x2 x3 σ) := rfl
theorem fMd_sweep_j130_E {k40 : Int32 → Int32 → Int32 → Int32 → Sg → Option (Int32 × Sg)} {x1 : Int32} {x2 : Int32} {x4 : Int32} {s0 : Int32} {s1 : Int32} {σ : Sg} : fMd_sweep_j130 k40 x1 x2 x4 s0 s1 σ = (
  k40 x1 x2 (s1 + s0) (x4 + (i3 1)) σ) := rfl
theorem fMd_sweep_j118_E {k40 : Int32 → Int32 → Int32 → Int32 → Sg → Option (Int32 × Sg)} {x1 : Int32} {x2 : Int32} {x3 : Int32} {x4 : Int32} {x6 : Int32} {s0 : Int32} {s1 : Int32} {σ : Sg} : fMd_sweep_j118 k40 x1 x2 x3 x4 x6 s0 s1 σ = (
  mpZ 19 s1 s0 σ fun σ1 =>
  if x6 = (i3 0) then
    fMd_sweep_j130 k40 x1 x2 x4 (i3 0) x3 σ1
  else
    fMd_sweep_j130 k40 x1 x2 x4 (i3 1) x3 σ1) := rfl
theorem fMd_sweep_j113_E {k40 : Int32 → Int32 → Int32 → Int32 → Sg → Option (Int32 × Sg)} {x1 : Int32} {x2 : Int32} {x3 : Int32} {x4 : Int32} {x6 : Int32} {s0 : Int32} {σ : Sg} : fMd_sweep_j113 k40 x1 x2 x3 x4 x6 s0 σ = (
  fMd_sweep_j118 k40 x1 x2 x3 x4 x6 (i3 1) s0 σ) := rfl
theorem fMd_sweep_j90_E {k40 : Int32 → Int32 → Int32 → Int32 → Sg → Option (Int32 × Sg)} {x1 : Int32} {x2 : Int32} {x3 : Int32} {x4 : Int32} {x5 : Int32} {s0 : Int32} {σ : Sg} : fMd_sweep_j90 k40 x1 x2 x3 x4 x5 s0 σ = (
  mgA 19 x5 σ fun v1 =>
  if v1 = (i3 0) then
    if s0 = (i3 0) then
      fMd_sweep_j118 k40 x1 x2 x3 x4 s0 (i3 0) x5 σ
    else
      fMd_sweep_j113 k40 x1 x2 x3 x4 s0 x5 σ
  else
    fMd_sweep_j113 k40 x1 x2 x3 x4 s0 x5 σ) := rfl
theorem fMd_sweep_j89_E {k40 : Int32 → Int32 → Int32 → Int32 → Sg → Option (Int32 × Sg)} {x1 : Int32} {x2 : Int32} {x3 : Int32} {x4 : Int32} {x5 : Int32} {σ : Sg} : fMd_sweep_j89 k40 x1 x2 x3 x4 x5 σ = (
  fMd_sweep_j90 k40 x1 x2 x3 x4 x5 (i3 0) σ) := rfl
theorem fMd_sweep_b40_E {k40 : Int32 → Int32 → Int32 → Int32 → Sg → Option (Int32 × Sg)} {x1 : Int32} {x2 : Int32} {x3 : Int32} {x4 : Int32} {σ : Sg} : fMd_sweep_b40 k40 x1 x2 x3 x4 σ = (
  mgA 18 x1 σ fun v1 =>
  if v1 ≤ x4 then
    some (x3, σ)
  else
    if x2 ≤ x3 then
      some (x3, σ)
    else
      mgA 19 (((i3 90) * x1) + x4) σ fun v2 =>
      if v2 = (i3 0) then
        mgA 20 (((i3 90) * x1) + x4) σ fun v3 =>
        if v3 = (i3 0) then
          fMd_sweep_j90 k40 x1 x2 x3 x4 (((i3 90) * x1) + x4) (i3 1) σ
        else
          fMd_sweep_j89 k40 x1 x2 x3 x4 (((i3 90) * x1) + x4) σ
      else
        fMd_sweep_j89 k40 x1 x2 x3 x4 (((i3 90) * x1) + x4) σ) := rfl
theorem fMd_sweep_l40_S  {fu : Nat} {x1 : Int32} {x2 : Int32} {x3 : Int32} {x4 : Int32} {σ : Sg} : fMd_sweep_l40 (fu + 1) x1 x2 x3 x4 σ = fMd_sweep_b40 (fMd_sweep_l40 fu) x1 x2 x3 x4 σ := rfl
theorem fMd_sweep_j27_E {x1 : Int32} {x2 : Int32} {s0 : Int32} {σ : Sg} : fMd_sweep_j27 x1 x2 s0 σ = (
  bdW (fMd_holds s0 σ) fun v1 σ2 =>
  if v1 = (i3 0) then
    some ((i3 0), σ2)
  else
    fMd_sweep_l40 FU x1 x2 (i3 0) (i3 0) σ2) := rfl
theorem fMd_sweep_E {x1 : Int32} {x2 : Int32} {σ : Sg} : fMd_sweep x1 x2 σ = (
  bdR (fMd_isRegion x1) fun v1 =>
  if v1 = (i3 0) then
    fMd_sweep_j27 x1 x2 (i3 1) σ
  else
    bdR (fMd_isIn x2 (i3 1) (i3 99)) fun v2 =>
    if v2 = (i3 0) then
      fMd_sweep_j27 x1 x2 (i3 2) σ
    else
      fMd_sweep_j27 x1 x2 (i3 0) σ) := rfl
theorem fMd_thrown_E {σ : Sg} : fMd_thrown σ = (
  mgF 0 σ fun v1 =>
  some v1) := rfl
theorem fMd_upload_j37_E {x1 : Int32} {x2 : Int32} {s0 : Int32} {σ : Sg} : fMd_upload_j37 x1 x2 s0 σ = (
  bdW (fMd_holds s0 σ) fun v1 σ2 =>
  if v1 = (i3 0) then
    some ((i3 0), σ2)
  else
    mgF 40 σ2 fun v3 =>
    mpA 41 v3 x1 σ2 fun σ4 =>
    mgF 40 σ4 fun v5 =>
    mpA 42 v5 x2 σ4 fun σ6 =>
    mgF 40 σ6 fun v7 =>
    mpF 40 (v7 + (i3 1)) σ6 fun σ8 =>
    mgF 40 σ8 fun v9 =>
    some ((v9 - (i3 1)), σ8)) := rfl
theorem fMd_upload_E {x1 : Int32} {x2 : Int32} {σ : Sg} : fMd_upload x1 x2 σ = (
  bdR (fMd_isRegion x1) fun v1 =>
  if v1 = (i3 0) then
    fMd_upload_j37 x1 x2 (i3 1) σ
  else
    bdR (fMd_isKey x2) fun v2 =>
    if v2 = (i3 0) then
      fMd_upload_j37 x1 x2 (i3 2) σ
    else
      mgF 40 σ fun v3 =>
      if v3 = (i3 12) then
        fMd_upload_j37 x1 x2 (i3 3) σ
      else
        fMd_upload_j37 x1 x2 (i3 0) σ) := rfl
theorem fMd_version_j83_E {k45 : Int32 → Int32 → Int32 → Int32 → Int32 → Sg → Option (Int32 × Sg)} {x1 : Int32} {x2 : Int32} {x3 : Int32} {x4 : Int32} {x5 : Int32} {σ : Sg} : fMd_version_j83 k45 x1 x2 x3 x4 x5 σ = (
  k45 x1 x2 x3 x4 (x5 + (i3 1)) σ) := rfl
theorem fMd_version_b45_E {k45 : Int32 → Int32 → Int32 → Int32 → Int32 → Sg → Option (Int32 × Sg)} {x1 : Int32} {x2 : Int32} {x3 : Int32} {x4 : Int32} {x5 : Int32} {σ : Sg} : fMd_version_b45 k45 x1 x2 x3 x4 x5 σ = (
  bdR (fMd_endOf x1 σ) fun v1 =>
  if v1 ≤ x5 then
    some ((i3 0), σ)
  else
    mgA 28 x5 σ fun v2 =>
    if v2 = x2 then
      if x4 = x3 then
        mgA 27 x5 σ fun v3 =>
        some (v3, σ)
      else
        fMd_version_j83 k45 x1 x2 x3 (x4 + (i3 1)) x5 σ
    else
      fMd_version_j83 k45 x1 x2 x3 x4 x5 σ) := rfl
theorem fMd_version_l45_S  {fu : Nat} {x1 : Int32} {x2 : Int32} {x3 : Int32} {x4 : Int32} {x5 : Int32} {σ : Sg} : fMd_version_l45 (fu + 1) x1 x2 x3 x4 x5 σ = fMd_version_b45 (fMd_version_l45 fu) x1 x2 x3 x4 x5 σ := rfl
theorem fMd_version_j28_E {x1 : Int32} {x2 : Int32} {x3 : Int32} {s0 : Int32} {σ : Sg} : fMd_version_j28 x1 x2 x3 s0 σ = (
  bdW (fMd_holds s0 σ) fun v1 σ2 =>
  if v1 = (i3 0) then
    some ((i3 0), σ2)
  else
    fMd_version_l45 FU x1 x2 x3 (i3 0) ((i3 40) * x1) σ2) := rfl
theorem fMd_version_j12_E {x1 : Int32} {x2 : Int32} {x3 : Int32} {σ : Sg} : fMd_version_j12 x1 x2 x3 σ = (
  fMd_version_j28 x1 x2 x3 (i3 1) σ) := rfl
theorem fMd_version_E {x1 : Int32} {x2 : Int32} {x3 : Int32} {σ : Sg} : fMd_version x1 x2 x3 σ = (
  bdR (fMd_isRegion x1) fun v1 =>
  if v1 = (i3 0) then
    fMd_version_j12 x1 x2 x3 σ
  else
    if (i3 0) ≤ x3 then
      bdR (fMd_isKey x2) fun v2 =>
      if v2 = (i3 0) then
        fMd_version_j28 x1 x2 x3 (i3 2) σ
      else
        fMd_version_j28 x1 x2 x3 (i3 0) σ
    else
      fMd_version_j12 x1 x2 x3 σ) := rfl

theorem ml_Jxa1e45_1 : Cond.methodLink RJxa1e45 1 objectInit ∈ TBG := tb_mem 67 (by decide +kernel) (by decide +kernel)
theorem ml_Jxc12de_1 : Cond.methodLink RJxc12de 1 yJxa1e45_init_da8c8 ∈ TBG := tb_mem 64 (by decide +kernel) (by decide +kernel)
theorem mf_Abc_init : MFI yJxa1e45_init_da8c8 cJxa1e45_init_da8c8 1 0 := ⟨tb_mem 66 (by decide +kernel) (by decide +kernel), tb_mem 65 (by decide +kernel) (by decide +kernel), rfl, tb_mem 4 (by decide +kernel) (by decide +kernel), ⟨by decide, by decide⟩, by decide +kernel⟩
theorem inK_12 : ∀ w ∈ u_ws RJx4a65c TJx4a65c 3, w ∈ TBG := by
  have h : (u_ws RJx4a65c TJx4a65c 3).all (fun w => goodWord w && decide (w ∈ lw_tbl)) = true := by decide +kernel
  intro w hw
  have h1 := List.all_eq_true.mp h w hw
  rw [Bool.and_eq_true] at h1
  exact List.mem_filter.mpr ⟨of_decide_eq_true h1.2, h1.1⟩
theorem fl_Jxc12de_7 : FLK RJxc12de 7 12 0 := ⟨_, tyJx4a65c, "java/util/AbstractList", rfl, by decide, by decide, by decide, rfl, inK_12, tyJx4a65c_ok, nmJx4a65c, fun _ _ _ x h => h, Or.inl (tb_mem 72 (by decide +kernel) (by decide +kernel))⟩
theorem fp_Jxc12de_12_0 : FPT RJxc12de 12 0 .int false := ⟨_, rfl, by decide +kernel, rfl, fun h => by cases h⟩
theorem ml_Jx4a65c_1 : Cond.methodLink RJx4a65c 1 yJxc12de_init_da8c8 ∈ TBG := tb_mem 61 (by decide +kernel) (by decide +kernel)
theorem mf_Abl_init : MFI yJxc12de_init_da8c8 cJxc12de_init_da8c8 1 0 := ⟨tb_mem 63 (by decide +kernel) (by decide +kernel), tb_mem 62 (by decide +kernel) (by decide +kernel), rfl, tb_mem 5 (by decide +kernel) (by decide +kernel), ⟨by decide, by decide⟩, by decide +kernel⟩
theorem fs_Jx4a65c_39 : Cond.fieldLink RJx4a65c 39 RJx4a65c "DEFAULTCAPACITY_EMPTY_ELEMENTDATA" "[Ljava/lang/Object;" ∈ TBG := tb_mem 68 (by decide +kernel) (by decide +kernel)
theorem fl_Jx4a65c_9 : FLK RJx4a65c 9 12 1 := ⟨_, tyJx4a65c, "java/util/ArrayList", rfl, by decide, by decide, by decide, rfl, inK_12, tyJx4a65c_ok, nmJx4a65c, fun _ _ _ x h => h, Or.inl (tb_mem 70 (by decide +kernel) (by decide +kernel))⟩
theorem fp_Jx4a65c_12_1 : FPT RJx4a65c 12 1 (.array (.object "java/lang/Object")) false := ⟨_, rfl, by decide +kernel, rfl, fun h => by cases h⟩
theorem inK_3 : ∀ w ∈ u_ws RX2 TX2 3, w ∈ TBG := by
  have h : (u_ws RX2 TX2 3).all (fun w => goodWord w && decide (w ∈ lw_tbl)) = true := by decide +kernel
  intro w hw
  have h1 := List.all_eq_true.mp h w hw
  rw [Bool.and_eq_true] at h1
  exact List.mem_filter.mpr ⟨of_decide_eq_true h1.2, h1.1⟩
theorem fl_X2_9 : FLK RX2 9 3 0 := ⟨_, tyX2, "BlobHarbor$Cut", rfl, by decide, by decide, by decide, rfl, inK_3, tyX2_ok, nmX2, fun _ _ _ x h => h, Or.inl (tb_mem 89 (by decide +kernel) (by decide +kernel))⟩
theorem fp_X2_3_0 : FPT RX2 3 0 (.array .int) true := ⟨_, rfl, by decide +kernel, rfl, fun _ => rfl⟩
theorem fl_X2_15 : FLK RX2 15 3 1 := ⟨_, tyX2, "BlobHarbor$Cut", rfl, by decide, by decide, by decide, rfl, inK_3, tyX2_ok, nmX2, fun _ _ _ x h => h, Or.inl (tb_mem 90 (by decide +kernel) (by decide +kernel))⟩
theorem fp_X2_3_1 : FPT RX2 3 1 (.array .int) true := ⟨_, rfl, by decide +kernel, rfl, fun _ => rfl⟩
theorem ml_X2_3 : Cond.methodLink RX2 3 objectInit ∈ TBG := tb_mem 88 (by decide +kernel) (by decide +kernel)
theorem inK_2 : ∀ w ∈ u_ws RX1 TX1 4, w ∈ TBG := by
  have h : (u_ws RX1 TX1 4).all (fun w => goodWord w && decide (w ∈ lw_tbl)) = true := by decide +kernel
  intro w hw
  have h1 := List.all_eq_true.mp h w hw
  rw [Bool.and_eq_true] at h1
  exact List.mem_filter.mpr ⟨of_decide_eq_true h1.2, h1.1⟩
theorem fl_X1_9 : FLK RX1 9 2 0 := ⟨_, tyX1, "BlobHarbor$Code", rfl, by decide, by decide, by decide, rfl, inK_2, tyX1_ok, nmX1, fun _ _ _ x h => h, Or.inl (tb_mem 107 (by decide +kernel) (by decide +kernel))⟩
theorem fp_X1_2_0 : FPT RX1 2 0 (.array .byte) true := ⟨_, rfl, by decide +kernel, rfl, fun _ => rfl⟩
theorem fl_X1_15 : FLK RX1 15 2 1 := ⟨_, tyX1, "BlobHarbor$Code", rfl, by decide, by decide, by decide, rfl, inK_2, tyX1_ok, nmX1, fun _ _ _ x h => h, Or.inl (tb_mem 108 (by decide +kernel) (by decide +kernel))⟩
theorem fp_X1_2_1 : FPT RX1 2 1 (.array .byte) true := ⟨_, rfl, by decide +kernel, rfl, fun _ => rfl⟩
theorem fl_X1_18 : FLK RX1 18 2 2 := ⟨_, tyX1, "BlobHarbor$Code", rfl, by decide, by decide, by decide, rfl, inK_2, tyX1_ok, nmX1, fun _ _ _ x h => h, Or.inl (tb_mem 109 (by decide +kernel) (by decide +kernel))⟩
theorem fp_X1_2_2 : FPT RX1 2 2 (.array .int) true := ⟨_, rfl, by decide +kernel, rfl, fun _ => rfl⟩
theorem fl_X1_22 : FLK RX1 22 2 3 := ⟨_, tyX1, "BlobHarbor$Code", rfl, by decide, by decide, by decide, rfl, inK_2, tyX1_ok, nmX1, fun _ _ _ x h => h, Or.inl (tb_mem 110 (by decide +kernel) (by decide +kernel))⟩
theorem fp_X1_2_3 : FPT RX1 2 3 (.array .int) true := ⟨_, rfl, by decide +kernel, rfl, fun _ => rfl⟩
theorem ml_X1_3 : Cond.methodLink RX1 3 objectInit ∈ TBG := tb_mem 106 (by decide +kernel) (by decide +kernel)
theorem inK_8 : ∀ w ∈ u_ws RX8 TX8 5, w ∈ TBG := by
  have h : (u_ws RX8 TX8 5).all (fun w => goodWord w && decide (w ∈ lw_tbl)) = true := by decide +kernel
  intro w hw
  have h1 := List.all_eq_true.mp h w hw
  rw [Bool.and_eq_true] at h1
  exact List.mem_filter.mpr ⟨of_decide_eq_true h1.2, h1.1⟩
theorem fl_X8_9 : FLK RX8 9 8 0 := ⟨_, tyX8, "BlobHarbor$Store", rfl, by decide, by decide, by decide, rfl, inK_8, tyX8_ok, nmX8, fun _ _ _ x h => h, Or.inl (tb_mem 121 (by decide +kernel) (by decide +kernel))⟩
theorem fp_X8_8_0 : FPT RX8 8 0 (.array .boolean) true := ⟨_, rfl, by decide +kernel, rfl, fun _ => rfl⟩
theorem ml_X8_17 : Cond.methodLink RX8 17 yJx4a65c_init_da8c8 ∈ TBG := tb_mem 58 (by decide +kernel) (by decide +kernel)
theorem mf_Al_init : MFI yJx4a65c_init_da8c8 cJx4a65c_init_da8c8 1 0 := ⟨tb_mem 60 (by decide +kernel) (by decide +kernel), tb_mem 59 (by decide +kernel) (by decide +kernel), rfl, tb_mem 6 (by decide +kernel) (by decide +kernel), ⟨by decide, by decide⟩, by decide +kernel⟩
theorem fl_X8_18 : FLK RX8 18 8 1 := ⟨_, tyX8, "BlobHarbor$Store", rfl, by decide, by decide, by decide, rfl, inK_8, tyX8_ok, nmX8, fun _ _ _ x h => h, Or.inl (tb_mem 122 (by decide +kernel) (by decide +kernel))⟩
theorem fp_X8_8_1 : FPT RX8 8 1 (.object "java/util/ArrayList") true := ⟨_, rfl, by decide +kernel, rfl, fun _ => rfl⟩
theorem ml_X8_24 : ∃ h, Cond.methodLinkNest RX8 24 yX2_init h ∈ NST := ⟨"BlobHarbor", ns_mem 85 (by decide +kernel) (by decide +kernel)⟩
theorem mf_Cut_init : MFI yX2_init cX2_init 1 0 := ⟨tb_mem 87 (by decide +kernel) (by decide +kernel), tb_mem 86 (by decide +kernel) (by decide +kernel), rfl, tb_mem 7 (by decide +kernel) (by decide +kernel), ⟨by decide, by decide⟩, by decide +kernel⟩
theorem fl_X8_25 : FLK RX8 25 8 2 := ⟨_, tyX8, "BlobHarbor$Store", rfl, by decide, by decide, by decide, rfl, inK_8, tyX8_ok, nmX8, fun _ _ _ x h => h, Or.inl (tb_mem 123 (by decide +kernel) (by decide +kernel))⟩
theorem fp_X8_8_2 : FPT RX8 8 2 (.object "BlobHarbor$Cut") true := ⟨_, rfl, by decide +kernel, rfl, fun _ => rfl⟩
theorem ml_X8_31 : ∃ h, Cond.methodLinkNest RX8 31 yX1_init h ∈ NST := ⟨"BlobHarbor", ns_mem 103 (by decide +kernel) (by decide +kernel)⟩
theorem mf_Code_init : MFI yX1_init cX1_init 1 0 := ⟨tb_mem 105 (by decide +kernel) (by decide +kernel), tb_mem 104 (by decide +kernel) (by decide +kernel), rfl, tb_mem 8 (by decide +kernel) (by decide +kernel), ⟨by decide, by decide⟩, by decide +kernel⟩
theorem fl_X8_32 : FLK RX8 32 8 3 := ⟨_, tyX8, "BlobHarbor$Store", rfl, by decide, by decide, by decide, rfl, inK_8, tyX8_ok, nmX8, fun _ _ _ x h => h, Or.inl (tb_mem 124 (by decide +kernel) (by decide +kernel))⟩
theorem fp_X8_8_3 : FPT RX8 8 3 (.object "BlobHarbor$Code") true := ⟨_, rfl, by decide +kernel, rfl, fun _ => rfl⟩
theorem fl_X8_36 : FLK RX8 36 8 4 := ⟨_, tyX8, "BlobHarbor$Store", rfl, by decide, by decide, by decide, rfl, inK_8, tyX8_ok, nmX8, fun _ _ _ x h => h, Or.inl (tb_mem 125 (by decide +kernel) (by decide +kernel))⟩
theorem fp_X8_8_4 : FPT RX8 8 4 (.array .int) true := ⟨_, rfl, by decide +kernel, rfl, fun _ => rfl⟩
theorem cl_X8_29 : CLK RX8 29 2 := ⟨_, tyX1, rfl, by decide, by decide, rfl, inK_2, tyX1_ok, by decide +kernel, by decide, tb_mem 101 (by decide +kernel) (by decide +kernel), tb_mem 102 (by decide +kernel) (by decide +kernel), tb_mem 8 (by decide +kernel) (by decide +kernel)⟩
theorem cl_X8_22 : CLK RX8 22 3 := ⟨_, tyX2, rfl, by decide, by decide, rfl, inK_3, tyX2_ok, by decide +kernel, by decide, tb_mem 83 (by decide +kernel) (by decide +kernel), tb_mem 84 (by decide +kernel) (by decide +kernel), tb_mem 7 (by decide +kernel) (by decide +kernel)⟩
theorem cl_X8_15 : CLK RX8 15 12 := ⟨_, tyJx4a65c, rfl, by decide, by decide, rfl, inK_12, tyJx4a65c_ok, by decide +kernel, by decide, tb_mem 56 (by decide +kernel) (by decide +kernel), tb_mem 57 (by decide +kernel) (by decide +kernel), tb_mem 6 (by decide +kernel) (by decide +kernel)⟩
theorem ml_X8_3 : Cond.methodLink RX8 3 objectInit ∈ TBG := tb_mem 55 (by decide +kernel) (by decide +kernel)
theorem ml_X6_11 : Cond.methodLink RX6 11 yX8_init ∈ TBG := tb_mem 52 (by decide +kernel) (by decide +kernel)
theorem mf_Store_init : MFI yX8_init cX8_init 2 0 := ⟨tb_mem 54 (by decide +kernel) (by decide +kernel), tb_mem 53 (by decide +kernel) (by decide +kernel), rfl, tb_mem 3 (by decide +kernel) (by decide +kernel), ⟨by decide, by decide⟩, by decide +kernel⟩
theorem inK_6 : ∀ w ∈ u_ws RX6 TX6 4, w ∈ TBG := by
  have h : (u_ws RX6 TX6 4).all (fun w => goodWord w && decide (w ∈ lw_tbl)) = true := by decide +kernel
  intro w hw
  have h1 := List.all_eq_true.mp h w hw
  rw [Bool.and_eq_true] at h1
  exact List.mem_filter.mpr ⟨of_decide_eq_true h1.2, h1.1⟩
theorem fl_X6_12 : FLK RX6 12 6 0 := ⟨_, tyX6, "BlobHarbor$Region", rfl, by decide, by decide, by decide, rfl, inK_6, tyX6_ok, nmX6, fun _ _ _ x h => h, Or.inl (tb_mem 139 (by decide +kernel) (by decide +kernel))⟩
theorem fp_X6_6_0 : FPT RX6 6 0 (.object "BlobHarbor$Store") true := ⟨_, rfl, by decide +kernel, rfl, fun _ => rfl⟩
theorem ml_X6_20 : Cond.methodLink RX6 20 yJx4a65c_init_da8c8 ∈ TBG := tb_mem 138 (by decide +kernel) (by decide +kernel)
theorem fl_X6_21 : FLK RX6 21 6 1 := ⟨_, tyX6, "BlobHarbor$Region", rfl, by decide, by decide, by decide, rfl, inK_6, tyX6_ok, nmX6, fun _ _ _ x h => h, Or.inl (tb_mem 141 (by decide +kernel) (by decide +kernel))⟩
theorem fp_X6_6_1 : FPT RX6 6 1 (.object "java/util/ArrayList") true := ⟨_, rfl, by decide +kernel, rfl, fun _ => rfl⟩
theorem fl_X6_25 : FLK RX6 25 6 2 := ⟨_, tyX6, "BlobHarbor$Region", rfl, by decide, by decide, by decide, rfl, inK_6, tyX6_ok, nmX6, fun _ _ _ x h => h, Or.inl (tb_mem 142 (by decide +kernel) (by decide +kernel))⟩
theorem fp_X6_6_2 : FPT RX6 6 2 (.object "java/util/ArrayList") true := ⟨_, rfl, by decide +kernel, rfl, fun _ => rfl⟩
theorem fl_X6_28 : FLK RX6 28 6 3 := ⟨_, tyX6, "BlobHarbor$Region", rfl, by decide, by decide, by decide, rfl, inK_6, tyX6_ok, nmX6, fun _ _ _ x h => h, Or.inl (tb_mem 144 (by decide +kernel) (by decide +kernel))⟩
theorem fp_X6_6_3 : FPT RX6 6 3 (.array .boolean) true := ⟨_, rfl, by decide +kernel, rfl, fun _ => rfl⟩
theorem cl_X6_18 : CLK RX6 18 12 := ⟨_, tyJx4a65c, rfl, by decide, by decide, rfl, inK_12, tyJx4a65c_ok, by decide +kernel, by decide, tb_mem 137 (by decide +kernel) (by decide +kernel), tb_mem 57 (by decide +kernel) (by decide +kernel), tb_mem 6 (by decide +kernel) (by decide +kernel)⟩
theorem cl_X6_9 : CLK RX6 9 8 := ⟨_, tyX8, rfl, by decide, by decide, rfl, inK_8, tyX8_ok, by decide +kernel, by decide, tb_mem 50 (by decide +kernel) (by decide +kernel), tb_mem 51 (by decide +kernel) (by decide +kernel), tb_mem 3 (by decide +kernel) (by decide +kernel)⟩
theorem ml_X6_3 : Cond.methodLink RX6 3 objectInit ∈ TBG := tb_mem 49 (by decide +kernel) (by decide +kernel)
theorem inK_1 : ∀ w ∈ u_ws RX0 TX0 2, w ∈ TBG := by
  have h : (u_ws RX0 TX0 2).all (fun w => goodWord w && decide (w ∈ lw_tbl)) = true := by decide +kernel
  intro w hw
  have h1 := List.all_eq_true.mp h w hw
  rw [Bool.and_eq_true] at h1
  exact List.mem_filter.mpr ⟨of_decide_eq_true h1.2, h1.1⟩
theorem fl_X0_9 : FLK RX0 9 1 0 := ⟨_, tyX0, "BlobHarbor$Bytes", rfl, by decide, by decide, by decide, rfl, inK_1, tyX0_ok, nmX0, fun _ _ _ x h => h, Or.inl (tb_mem 160 (by decide +kernel) (by decide +kernel))⟩
theorem fp_X0_1_0 : FPT RX0 1 0 (.array .byte) true := ⟨_, rfl, by decide +kernel, rfl, fun _ => rfl⟩
theorem ml_X0_3 : Cond.methodLink RX0 3 objectInit ∈ TBG := tb_mem 159 (by decide +kernel) (by decide +kernel)
theorem ml_X11_9 : ∃ h, Cond.methodLinkNest RX11 9 yX6_init h ∈ NST := ⟨"BlobHarbor", ns_mem 46 (by decide +kernel) (by decide +kernel)⟩
theorem mf_Region_init : MFI yX6_init cX6_init 1 0 := ⟨tb_mem 48 (by decide +kernel) (by decide +kernel), tb_mem 47 (by decide +kernel) (by decide +kernel), rfl, tb_mem 2 (by decide +kernel) (by decide +kernel), ⟨by decide, by decide⟩, by decide +kernel⟩
theorem inK_11 : ∀ w ∈ u_ws RX11 TX11 10, w ∈ TBG := by
  have h : (u_ws RX11 TX11 10).all (fun w => goodWord w && decide (w ∈ lw_tbl)) = true := by decide +kernel
  intro w hw
  have h1 := List.all_eq_true.mp h w hw
  rw [Bool.and_eq_true] at h1
  exact List.mem_filter.mpr ⟨of_decide_eq_true h1.2, h1.1⟩
theorem fl_X11_10 : FLK RX11 10 11 0 := ⟨_, tyX11, "BlobHarbor", rfl, by decide, by decide, by decide, rfl, inK_11, tyX11_ok, nmX11, fun _ _ _ x h => h, Or.inl (tb_mem 175 (by decide +kernel) (by decide +kernel))⟩
theorem fp_X11_11_0 : FPT RX11 11 0 (.object "BlobHarbor$Region") true := ⟨_, rfl, by decide +kernel, rfl, fun _ => rfl⟩
theorem fl_X11_16 : FLK RX11 16 11 1 := ⟨_, tyX11, "BlobHarbor", rfl, by decide, by decide, by decide, rfl, inK_11, tyX11_ok, nmX11, fun _ _ _ x h => h, Or.inl (tb_mem 176 (by decide +kernel) (by decide +kernel))⟩
theorem fp_X11_11_1 : FPT RX11 11 1 (.object "BlobHarbor$Region") true := ⟨_, rfl, by decide +kernel, rfl, fun _ => rfl⟩
theorem ml_X11_21 : ∃ h, Cond.methodLinkNest RX11 21 yX0_init h ∈ NST := ⟨"BlobHarbor", ns_mem 156 (by decide +kernel) (by decide +kernel)⟩
theorem mf_Bytes_init : MFI yX0_init cX0_init 1 0 := ⟨tb_mem 158 (by decide +kernel) (by decide +kernel), tb_mem 157 (by decide +kernel) (by decide +kernel), rfl, tb_mem 9 (by decide +kernel) (by decide +kernel), ⟨by decide, by decide⟩, by decide +kernel⟩
theorem fl_X11_22 : FLK RX11 22 11 2 := ⟨_, tyX11, "BlobHarbor", rfl, by decide, by decide, by decide, rfl, inK_11, tyX11_ok, nmX11, fun _ _ _ x h => h, Or.inl (tb_mem 177 (by decide +kernel) (by decide +kernel))⟩
theorem fp_X11_11_2 : FPT RX11 11 2 (.object "BlobHarbor$Bytes") true := ⟨_, rfl, by decide +kernel, rfl, fun _ => rfl⟩
theorem fl_X11_26 : FLK RX11 26 11 3 := ⟨_, tyX11, "BlobHarbor", rfl, by decide, by decide, by decide, rfl, inK_11, tyX11_ok, nmX11, fun _ _ _ x h => h, Or.inl (tb_mem 178 (by decide +kernel) (by decide +kernel))⟩
theorem fp_X11_11_3 : FPT RX11 11 3 (.object "BlobHarbor$Bytes") true := ⟨_, rfl, by decide +kernel, rfl, fun _ => rfl⟩
theorem fl_X11_29 : FLK RX11 29 11 4 := ⟨_, tyX11, "BlobHarbor", rfl, by decide, by decide, by decide, rfl, inK_11, tyX11_ok, nmX11, fun _ _ _ x h => h, Or.inl (tb_mem 179 (by decide +kernel) (by decide +kernel))⟩
theorem fp_X11_11_4 : FPT RX11 11 4 (.object "BlobHarbor$Bytes") true := ⟨_, rfl, by decide +kernel, rfl, fun _ => rfl⟩
theorem ml_X11_34 : Cond.methodLink RX11 34 yJx4a65c_init_da8c8 ∈ TBG := tb_mem 174 (by decide +kernel) (by decide +kernel)
theorem fl_X11_35 : FLK RX11 35 11 5 := ⟨_, tyX11, "BlobHarbor", rfl, by decide, by decide, by decide, rfl, inK_11, tyX11_ok, nmX11, fun _ _ _ x h => h, Or.inl (tb_mem 180 (by decide +kernel) (by decide +kernel))⟩
theorem fp_X11_11_5 : FPT RX11 11 5 (.object "java/util/ArrayList") true := ⟨_, rfl, by decide +kernel, rfl, fun _ => rfl⟩
theorem fl_X11_39 : FLK RX11 39 11 6 := ⟨_, tyX11, "BlobHarbor", rfl, by decide, by decide, by decide, rfl, inK_11, tyX11_ok, nmX11, fun _ _ _ x h => h, Or.inl (tb_mem 181 (by decide +kernel) (by decide +kernel))⟩
theorem fp_X11_11_6 : FPT RX11 11 6 (.object "java/util/ArrayList") true := ⟨_, rfl, by decide +kernel, rfl, fun _ => rfl⟩
theorem fl_X11_42 : FLK RX11 42 11 7 := ⟨_, tyX11, "BlobHarbor", rfl, by decide, by decide, by decide, rfl, inK_11, tyX11_ok, nmX11, fun _ _ _ x h => h, Or.inl (tb_mem 182 (by decide +kernel) (by decide +kernel))⟩
theorem fp_X11_11_7 : FPT RX11 11 7 (.array .int) true := ⟨_, rfl, by decide +kernel, rfl, fun _ => rfl⟩
theorem cl_X11_32 : CLK RX11 32 12 := ⟨_, tyJx4a65c, rfl, by decide, by decide, rfl, inK_12, tyJx4a65c_ok, by decide +kernel, by decide, tb_mem 173 (by decide +kernel) (by decide +kernel), tb_mem 57 (by decide +kernel) (by decide +kernel), tb_mem 6 (by decide +kernel) (by decide +kernel)⟩
theorem cl_X11_19 : CLK RX11 19 1 := ⟨_, tyX0, rfl, by decide, by decide, rfl, inK_1, tyX0_ok, by decide +kernel, by decide, tb_mem 154 (by decide +kernel) (by decide +kernel), tb_mem 155 (by decide +kernel) (by decide +kernel), tb_mem 9 (by decide +kernel) (by decide +kernel)⟩
theorem cl_X11_7 : CLK RX11 7 6 := ⟨_, tyX6, rfl, by decide, by decide, rfl, inK_6, tyX6_ok, by decide +kernel, by decide, tb_mem 44 (by decide +kernel) (by decide +kernel), tb_mem 45 (by decide +kernel) (by decide +kernel), tb_mem 2 (by decide +kernel) (by decide +kernel)⟩
theorem ml_X11_1 : Cond.methodLink RX11 1 objectInit ∈ TBG := tb_mem 41 (by decide +kernel) (by decide +kernel)
theorem ml_X11_115 : Cond.methodLink RX11 115 yX11_checkIndex ∈ TBG := tb_mem 373 (by decide +kernel) (by decide +kernel)
theorem mf_Hb_checkIndex : MFS yX11_checkIndex cX11_checkIndex 1 none 1 := ⟨tb_mem 375 (by decide +kernel) (by decide +kernel), tb_mem 374 (by decide +kernel) (by decide +kernel), tb_mem 1 (by decide +kernel) (by decide +kernel), ⟨by decide, by decide⟩, by decide +kernel⟩
theorem fl_Jx4a65c_48 : FLK RJx4a65c 48 12 2 := ⟨_, tyJx4a65c, "java/util/ArrayList", rfl, by decide, by decide, by decide, rfl, inK_12, tyJx4a65c_ok, nmJx4a65c, fun _ _ _ x h => h, Or.inl (tb_mem 71 (by decide +kernel) (by decide +kernel))⟩
theorem ml_J15_105 : Cond.methodLink RJ15 105 yJ3_checkIndex_8e157 ∈ TBG := tb_mem 233 (by decide +kernel) (by decide +kernel)
theorem mf_Pc_checkIndex : MFS yJ3_checkIndex_8e157 cJ3_checkIndex_8e157 3 (some .int) 3 := ⟨tb_mem 235 (by decide +kernel) (by decide +kernel), tb_mem 234 (by decide +kernel) (by decide +kernel), tb_mem 19 (by decide +kernel) (by decide +kernel), ⟨by decide, by decide⟩, by decide +kernel⟩
theorem ml_Jx4a65c_118 : Cond.methodLink RJx4a65c 118 yJ15_checkIndex_7cf53 ∈ TBG := tb_mem 230 (by decide +kernel) (by decide +kernel)
theorem mf_Ob_checkIndex : MFS yJ15_checkIndex_7cf53 cJ15_checkIndex_7cf53 2 (some .int) 2 := ⟨tb_mem 232 (by decide +kernel) (by decide +kernel), tb_mem 231 (by decide +kernel) (by decide +kernel), tb_mem 18 (by decide +kernel) (by decide +kernel), ⟨by decide, by decide⟩, by decide +kernel⟩
theorem ml_Jx4a65c_123 : Cond.methodLink RJx4a65c 123 yJx4a65c_elementData_915e3 ∈ TBG := tb_mem 236 (by decide +kernel) (by decide +kernel)
theorem mf_Al_elementData : MFV yJx4a65c_elementData_915e3 cJx4a65c_elementData_915e3 2 (some (.object "java/lang/Object")) 1 := ⟨tb_mem 239 (by decide +kernel) (by decide +kernel), tb_mem 237 (by decide +kernel) (by decide +kernel), tb_mem 238 (by decide +kernel) (by decide +kernel), tb_mem 6 (by decide +kernel) (by decide +kernel), ⟨by decide, by decide⟩, by decide +kernel⟩
theorem ml_X6_32 : Cond.methodLink RX6 32 yJx4a65c_size_8abf5 ∈ TBG := tb_mem 222 (by decide +kernel) (by decide +kernel)
theorem mf_Al_size : MFV yJx4a65c_size_8abf5 cJx4a65c_size_8abf5 1 (some .int) 0 := ⟨tb_mem 225 (by decide +kernel) (by decide +kernel), tb_mem 223 (by decide +kernel) (by decide +kernel), tb_mem 224 (by decide +kernel) (by decide +kernel), tb_mem 6 (by decide +kernel) (by decide +kernel), ⟨by decide, by decide⟩, by decide +kernel⟩
theorem ml_X6_36 : Cond.methodLink RX6 36 yJx4a65c_get_915e3 ∈ TBG := tb_mem 226 (by decide +kernel) (by decide +kernel)
theorem mf_Al_get : MFV yJx4a65c_get_915e3 cJx4a65c_get_915e3 2 (some (.object "java/lang/Object")) 1 := ⟨tb_mem 229 (by decide +kernel) (by decide +kernel), tb_mem 227 (by decide +kernel) (by decide +kernel), tb_mem 228 (by decide +kernel) (by decide +kernel), tb_mem 6 (by decide +kernel) (by decide +kernel), ⟨by decide, by decide⟩, by decide +kernel⟩
theorem inK_10 : ∀ w ∈ u_ws RX10 TX10 5, w ∈ TBG := by
  have h : (u_ws RX10 TX10 5).all (fun w => goodWord w && decide (w ∈ lw_tbl)) = true := by decide +kernel
  intro w hw
  have h1 := List.all_eq_true.mp h w hw
  rw [Bool.and_eq_true] at h1
  exact List.mem_filter.mpr ⟨of_decide_eq_true h1.2, h1.1⟩
theorem fl_X6_42 : FLK RX6 42 10 0 := ⟨_, tyX10, "BlobHarbor$Version", rfl, by decide, by decide, by decide, rfl, inK_10, tyX10_ok, nmX10, fun _ _ _ x h => h, Or.inr ⟨"BlobHarbor", ns_mem 683 (by decide +kernel) (by decide +kernel)⟩⟩
theorem inK_4 : ∀ w ∈ u_ws RX3 TX3 4, w ∈ TBG := by
  have h : (u_ws RX3 TX3 4).all (fun w => goodWord w && decide (w ∈ lw_tbl)) = true := by decide +kernel
  intro w hw
  have h1 := List.all_eq_true.mp h w hw
  rw [Bool.and_eq_true] at h1
  exact List.mem_filter.mpr ⟨of_decide_eq_true h1.2, h1.1⟩
theorem fl_X6_46 : FLK RX6 46 4 0 := ⟨_, tyX3, "BlobHarbor$Entry", rfl, by decide, by decide, by decide, rfl, inK_4, tyX3_ok, nmX3, fun _ _ _ x h => h, Or.inr ⟨"BlobHarbor", ns_mem 472 (by decide +kernel) (by decide +kernel)⟩⟩
theorem fl_X6_52 : FLK RX6 52 4 1 := ⟨_, tyX3, "BlobHarbor$Entry", rfl, by decide, by decide, by decide, rfl, inK_4, tyX3_ok, nmX3, fun _ _ _ x h => h, Or.inr ⟨"BlobHarbor", ns_mem 474 (by decide +kernel) (by decide +kernel)⟩⟩
theorem cw_X6_40 : Cond.classLink RX6 40 "BlobHarbor$Version" ∈ TBG := tb_mem 240 (by decide +kernel) (by decide +kernel)
theorem ml_X11_303 : Cond.methodLink RX11 303 yX6_find ∈ TBG := tb_mem 972 (by decide +kernel) (by decide +kernel)
theorem mf_Region_find : MFV yX6_find cX6_find 5 (some (.object "BlobHarbor$Version")) 2 := ⟨tb_mem 975 (by decide +kernel) (by decide +kernel), tb_mem 973 (by decide +kernel) (by decide +kernel), tb_mem 974 (by decide +kernel) (by decide +kernel), tb_mem 2 (by decide +kernel) (by decide +kernel), ⟨by decide, by decide⟩, by decide +kernel⟩
theorem ml_X11_72 : Cond.methodLink RX11 72 yX11_checkArgument ∈ TBG := tb_mem 268 (by decide +kernel) (by decide +kernel)
theorem mf_Hb_checkArgument : MFS yX11_checkArgument cX11_checkArgument 1 none 1 := ⟨tb_mem 270 (by decide +kernel) (by decide +kernel), tb_mem 269 (by decide +kernel) (by decide +kernel), tb_mem 1 (by decide +kernel) (by decide +kernel), ⟨by decide, by decide⟩, by decide +kernel⟩
theorem fl_X3_10 : FLK RX3 10 4 3 := ⟨_, tyX3, "BlobHarbor$Entry", rfl, by decide, by decide, by decide, rfl, inK_4, tyX3_ok, nmX3, fun _ _ _ x h => h, Or.inl (tb_mem 479 (by decide +kernel) (by decide +kernel))⟩
theorem fl_X3_26 : FLK RX3 26 1 1 := ⟨_, tyX0, "BlobHarbor$Bytes", rfl, by decide, by decide, by decide, rfl, inK_1, tyX0_ok, nmX0, fun _ _ _ x h => h, Or.inr ⟨"BlobHarbor", ns_mem 161 (by decide +kernel) (by decide +kernel)⟩⟩
theorem ml_X11_65 : Cond.methodLink RX11 65 yX11_regionOf ∈ TBG := tb_mem 369 (by decide +kernel) (by decide +kernel)
theorem mf_Hb_regionOf : MFV yX11_regionOf cX11_regionOf 2 (some (.object "BlobHarbor$Region")) 1 := ⟨tb_mem 372 (by decide +kernel) (by decide +kernel), tb_mem 371 (by decide +kernel) (by decide +kernel), tb_sel (k := 10) 1 (by decide +kernel), tb_mem 1 (by decide +kernel) (by decide +kernel), ⟨by decide, by decide⟩, by decide +kernel⟩
theorem ml_X11_91 : Cond.methodLink RX11 91 yX11_versionOf ∈ TBG := tb_mem 969 (by decide +kernel) (by decide +kernel)
theorem mf_Hb_versionOf : MFS yX11_versionOf cX11_versionOf 4 (some (.object "BlobHarbor$Version")) 3 := ⟨tb_mem 971 (by decide +kernel) (by decide +kernel), tb_mem 970 (by decide +kernel) (by decide +kernel), tb_mem 1 (by decide +kernel) (by decide +kernel), ⟨by decide, by decide⟩, by decide +kernel⟩
theorem ml_X11_46 : Cond.methodLink RX11 46 yX11_checkRange ∈ TBG := tb_mem 265 (by decide +kernel) (by decide +kernel)
theorem mf_Hb_checkRange : MFS yX11_checkRange cX11_checkRange 3 none 3 := ⟨tb_mem 267 (by decide +kernel) (by decide +kernel), tb_mem 266 (by decide +kernel) (by decide +kernel), tb_mem 1 (by decide +kernel) (by decide +kernel), ⟨by decide, by decide⟩, by decide +kernel⟩
theorem fl_X11_196 : FLK RX11 196 10 0 := ⟨_, tyX10, "BlobHarbor$Version", rfl, by decide, by decide, by decide, rfl, inK_10, tyX10_ok, nmX10, fun _ _ _ x h => h, Or.inr ⟨"BlobHarbor", ns_mem 684 (by decide +kernel) (by decide +kernel)⟩⟩
theorem ml_X11_212 : Cond.methodLink RX11 212 yX3_isMark ∈ TBG := tb_mem 244 (by decide +kernel) (by decide +kernel)
theorem mf_Entry_isMark : MFV yX3_isMark cX3_isMark 1 (some .boolean) 0 := ⟨tb_mem 247 (by decide +kernel) (by decide +kernel), tb_mem 245 (by decide +kernel) (by decide +kernel), tb_mem 246 (by decide +kernel) (by decide +kernel), tb_mem 20 (by decide +kernel) (by decide +kernel), ⟨by decide, by decide⟩, by decide +kernel⟩
theorem fl_X11_200 : FLK RX11 200 4 3 := ⟨_, tyX3, "BlobHarbor$Entry", rfl, by decide, by decide, by decide, rfl, inK_4, tyX3_ok, nmX3, fun _ _ _ x h => h, Or.inr ⟨"BlobHarbor", ns_mem 481 (by decide +kernel) (by decide +kernel)⟩⟩
theorem fl_X11_50 : FLK RX11 50 1 1 := ⟨_, tyX0, "BlobHarbor$Bytes", rfl, by decide, by decide, by decide, rfl, inK_1, tyX0_ok, nmX0, fun _ _ _ x h => h, Or.inr ⟨"BlobHarbor", ns_mem 164 (by decide +kernel) (by decide +kernel)⟩⟩
theorem fl_X11_205 : FLK RX11 205 10 1 := ⟨_, tyX10, "BlobHarbor$Version", rfl, by decide, by decide, by decide, rfl, inK_10, tyX10_ok, nmX10, fun _ _ _ x h => h, Or.inr ⟨"BlobHarbor", ns_mem 688 (by decide +kernel) (by decide +kernel)⟩⟩
theorem fl_X11_208 : FLK RX11 208 10 2 := ⟨_, tyX10, "BlobHarbor$Version", rfl, by decide, by decide, by decide, rfl, inK_10, tyX10_ok, nmX10, fun _ _ _ x h => h, Or.inr ⟨"BlobHarbor", ns_mem 692 (by decide +kernel) (by decide +kernel)⟩⟩
theorem fl_X11_211 : FLK RX11 211 4 2 := ⟨_, tyX3, "BlobHarbor$Entry", rfl, by decide, by decide, by decide, rfl, inK_4, tyX3_ok, nmX3, fun _ _ _ x h => h, Or.inr ⟨"BlobHarbor", ns_mem 478 (by decide +kernel) (by decide +kernel)⟩⟩
theorem fl_X11_112 : FLK RX11 112 10 3 := ⟨_, tyX10, "BlobHarbor$Version", rfl, by decide, by decide, by decide, rfl, inK_10, tyX10_ok, nmX10, fun _ _ _ x h => h, Or.inr ⟨"BlobHarbor", ns_mem 694 (by decide +kernel) (by decide +kernel)⟩⟩
theorem ml_X8_184 : Cond.methodLink RX8 184 yJ7_fill_53178 ∈ TBG := tb_mem 1383 (by decide +kernel) (by decide +kernel)
theorem mf_Ar_fill : MFS yJ7_fill_53178 cJ7_fill_53178 4 none 2 := ⟨tb_mem 520 (by decide +kernel) (by decide +kernel), tb_mem 519 (by decide +kernel) (by decide +kernel), tb_mem 24 (by decide +kernel) (by decide +kernel), ⟨by decide, by decide⟩, by decide +kernel⟩
theorem ml_X8_40 : Cond.methodLink RX8 40 yJx4a65c_size_8abf5 ∈ TBG := tb_mem 433 (by decide +kernel) (by decide +kernel)
theorem ml_X8_44 : Cond.methodLink RX8 44 yJx4a65c_get_915e3 ∈ TBG := tb_mem 446 (by decide +kernel) (by decide +kernel)
theorem inK_5 : ∀ w ∈ u_ws RX5 TX5 8, w ∈ TBG := by
  have h : (u_ws RX5 TX5 8).all (fun w => goodWord w && decide (w ∈ lw_tbl)) = true := by decide +kernel
  intro w hw
  have h1 := List.all_eq_true.mp h w hw
  rw [Bool.and_eq_true] at h1
  exact List.mem_filter.mpr ⟨of_decide_eq_true h1.2, h1.1⟩
theorem fl_X8_54 : FLK RX8 54 5 7 := ⟨_, tyX5, "BlobHarbor$Part", rfl, by decide, by decide, by decide, rfl, inK_5, tyX5_ok, nmX5, fun _ _ _ x h => h, Or.inr ⟨"BlobHarbor", ns_mem 533 (by decide +kernel) (by decide +kernel)⟩⟩
theorem cw_X8_48 : Cond.classLink RX8 48 "BlobHarbor$Part" ∈ TBG := tb_mem 447 (by decide +kernel) (by decide +kernel)
theorem fl_X5_18 : FLK RX5 18 5 4 := ⟨_, tyX5, "BlobHarbor$Part", rfl, by decide, by decide, by decide, rfl, inK_5, tyX5_ok, nmX5, fun _ _ _ x h => h, Or.inl (tb_mem 529 (by decide +kernel) (by decide +kernel))⟩
theorem ml_X5_45 : Cond.methodLink RX5 45 yX5_nodeOf ∈ TBG := tb_mem 626 (by decide +kernel) (by decide +kernel)
theorem mf_Part_nodeOf : MFV yX5_nodeOf cX5_nodeOf 2 (some .int) 1 := ⟨tb_mem 629 (by decide +kernel) (by decide +kernel), tb_mem 627 (by decide +kernel) (by decide +kernel), tb_mem 628 (by decide +kernel) (by decide +kernel), tb_mem 23 (by decide +kernel) (by decide +kernel), ⟨by decide, by decide⟩, by decide +kernel⟩
theorem fl_X5_22 : FLK RX5 22 5 5 := ⟨_, tyX5, "BlobHarbor$Part", rfl, by decide, by decide, by decide, rfl, inK_5, tyX5_ok, nmX5, fun _ _ _ x h => h, Or.inl (tb_mem 530 (by decide +kernel) (by decide +kernel))⟩
theorem ml_X1_48 : Cond.methodLink RX1 48 yX5_isGood ∈ TBG := tb_mem 1051 (by decide +kernel) (by decide +kernel)
theorem mf_Part_isGood : MFV yX5_isGood cX5_isGood 2 (some .boolean) 1 := ⟨tb_mem 625 (by decide +kernel) (by decide +kernel), tb_mem 623 (by decide +kernel) (by decide +kernel), tb_mem 624 (by decide +kernel) (by decide +kernel), tb_mem 23 (by decide +kernel) (by decide +kernel), ⟨by decide, by decide⟩, by decide +kernel⟩
theorem fl_X5_15 : FLK RX5 15 5 3 := ⟨_, tyX5, "BlobHarbor$Part", rfl, by decide, by decide, by decide, rfl, inK_5, tyX5_ok, nmX5, fun _ _ _ x h => h, Or.inl (tb_mem 528 (by decide +kernel) (by decide +kernel))⟩
theorem fs_X1_29 : Cond.fieldLink RX1 29 RX1 "FACTORS" "[I" ∈ TBG := tb_mem 653 (by decide +kernel) (by decide +kernel)
theorem ml_X1_41 : Cond.methodLink RX1 41 yX1_factor ∈ TBG := tb_mem 650 (by decide +kernel) (by decide +kernel)
theorem mf_Code_factor : MFS yX1_factor cX1_factor 3 (some .int) 2 := ⟨tb_mem 652 (by decide +kernel) (by decide +kernel), tb_mem 651 (by decide +kernel) (by decide +kernel), tb_mem 8 (by decide +kernel) (by decide +kernel), ⟨by decide, by decide⟩, by decide +kernel⟩
theorem ml_X1_65 : Cond.methodLink RX1 65 yX1_cell ∈ TBG := tb_mem 1064 (by decide +kernel) (by decide +kernel)
theorem mf_Code_cell : MFV yX1_cell cX1_cell 4 (some .int) 3 := ⟨tb_mem 1067 (by decide +kernel) (by decide +kernel), tb_mem 1066 (by decide +kernel) (by decide +kernel), tb_sel (k := 4) 21 (by decide +kernel), tb_mem 8 (by decide +kernel) (by decide +kernel), ⟨by decide, by decide⟩, by decide +kernel⟩
theorem ml_X1_25 : Cond.methodLink RX1 25 yX1_times ∈ TBG := tb_mem 655 (by decide +kernel) (by decide +kernel)
theorem mf_Code_times : MFS yX1_times cX1_times 4 (some .int) 2 := ⟨tb_mem 657 (by decide +kernel) (by decide +kernel), tb_mem 656 (by decide +kernel) (by decide +kernel), tb_mem 8 (by decide +kernel) (by decide +kernel), ⟨by decide, by decide⟩, by decide +kernel⟩
theorem ml_X1_59 : Cond.methodLink RX1 59 yX1_determinant ∈ TBG := tb_mem 1060 (by decide +kernel) (by decide +kernel)
theorem mf_Code_determinant : MFV yX1_determinant cX1_determinant 7 (some .int) 1 := ⟨tb_mem 1063 (by decide +kernel) (by decide +kernel), tb_mem 1062 (by decide +kernel) (by decide +kernel), tb_sel (k := 4) 20 (by decide +kernel), tb_mem 8 (by decide +kernel) (by decide +kernel), ⟨by decide, by decide⟩, by decide +kernel⟩
theorem ml_X1_62 : Cond.methodLink RX1 62 yX1_inverse ∈ TBG := tb_mem 1068 (by decide +kernel) (by decide +kernel)
theorem mf_Code_inverse : MFS yX1_inverse cX1_inverse 3 (some .int) 1 := ⟨tb_mem 1070 (by decide +kernel) (by decide +kernel), tb_mem 1069 (by decide +kernel) (by decide +kernel), tb_mem 8 (by decide +kernel) (by decide +kernel), ⟨by decide, by decide⟩, by decide +kernel⟩
theorem ml_X1_52 : Cond.methodLink RX1 52 yX5_shardByte ∈ TBG := tb_mem 1052 (by decide +kernel) (by decide +kernel)
theorem mf_Part_shardByte : MFV yX5_shardByte cX5_shardByte 4 (some .int) 2 := ⟨tb_mem 1055 (by decide +kernel) (by decide +kernel), tb_mem 1053 (by decide +kernel) (by decide +kernel), tb_mem 1054 (by decide +kernel) (by decide +kernel), tb_mem 23 (by decide +kernel) (by decide +kernel), ⟨by decide, by decide⟩, by decide +kernel⟩
theorem ml_X1_44 : Cond.methodLink RX1 44 yX1_findLowest ∈ TBG := tb_mem 1047 (by decide +kernel) (by decide +kernel)
theorem mf_Code_findLowest : MFV yX1_findLowest cX1_findLowest 4 (some .boolean) 1 := ⟨tb_mem 1050 (by decide +kernel) (by decide +kernel), tb_mem 1049 (by decide +kernel) (by decide +kernel), tb_sel (k := 4) 18 (by decide +kernel), tb_mem 8 (by decide +kernel) (by decide +kernel), ⟨by decide, by decide⟩, by decide +kernel⟩
theorem ml_X1_55 : Cond.methodLink RX1 55 yX1_solve ∈ TBG := tb_mem 1056 (by decide +kernel) (by decide +kernel)
theorem mf_Code_solve : MFV yX1_solve cX1_solve 5 (some .int) 3 := ⟨tb_mem 1059 (by decide +kernel) (by decide +kernel), tb_mem 1058 (by decide +kernel) (by decide +kernel), tb_sel (k := 4) 19 (by decide +kernel), tb_mem 8 (by decide +kernel) (by decide +kernel), ⟨by decide, by decide⟩, by decide +kernel⟩
theorem fl_X8_169 : FLK RX8 169 10 1 := ⟨_, tyX10, "BlobHarbor$Version", rfl, by decide, by decide, by decide, rfl, inK_10, tyX10_ok, nmX10, fun _ _ _ x h => h, Or.inr ⟨"BlobHarbor", ns_mem 689 (by decide +kernel) (by decide +kernel)⟩⟩
theorem fl_X8_173 : FLK RX8 173 10 0 := ⟨_, tyX10, "BlobHarbor$Version", rfl, by decide, by decide, by decide, rfl, inK_10, tyX10_ok, nmX10, fun _ _ _ x h => h, Or.inr ⟨"BlobHarbor", ns_mem 685 (by decide +kernel) (by decide +kernel)⟩⟩
theorem fl_X8_177 : FLK RX8 177 4 3 := ⟨_, tyX3, "BlobHarbor$Entry", rfl, by decide, by decide, by decide, rfl, inK_4, tyX3_ok, nmX3, fun _ _ _ x h => h, Or.inr ⟨"BlobHarbor", ns_mem 482 (by decide +kernel) (by decide +kernel)⟩⟩
theorem fl_X8_183 : FLK RX8 183 1 1 := ⟨_, tyX0, "BlobHarbor$Bytes", rfl, by decide, by decide, by decide, rfl, inK_1, tyX0_ok, nmX0, fun _ _ _ x h => h, Or.inr ⟨"BlobHarbor", ns_mem 167 (by decide +kernel) (by decide +kernel)⟩⟩
theorem ml_X8_145 : Cond.methodLink RX8 145 yX8_partAt ∈ TBG := tb_mem 989 (by decide +kernel) (by decide +kernel)
theorem mf_Store_partAt : MFV yX8_partAt cX8_partAt 2 (some (.object "BlobHarbor$Part")) 1 := ⟨tb_mem 992 (by decide +kernel) (by decide +kernel), tb_mem 990 (by decide +kernel) (by decide +kernel), tb_mem 991 (by decide +kernel) (by decide +kernel), tb_mem 3 (by decide +kernel) (by decide +kernel), ⟨by decide, by decide⟩, by decide +kernel⟩
theorem ml_X8_150 : Cond.methodLink RX8 150 yX1_decode ∈ TBG := tb_mem 1043 (by decide +kernel) (by decide +kernel)
theorem mf_Code_decode : MFV yX1_decode cX1_decode 5 (some .boolean) 1 := ⟨tb_mem 1046 (by decide +kernel) (by decide +kernel), tb_mem 1044 (by decide +kernel) (by decide +kernel), tb_mem 1045 (by decide +kernel) (by decide +kernel), tb_mem 8 (by decide +kernel) (by decide +kernel), ⟨by decide, by decide⟩, by decide +kernel⟩
theorem fl_X8_149 : FLK RX8 149 5 1 := ⟨_, tyX5, "BlobHarbor$Part", rfl, by decide, by decide, by decide, rfl, inK_5, tyX5_ok, nmX5, fun _ _ _ x h => h, Or.inr ⟨"BlobHarbor", ns_mem 524 (by decide +kernel) (by decide +kernel)⟩⟩
theorem ml_X8_154 : Cond.methodLink RX8 154 yX1_plainByte ∈ TBG := tb_mem 1071 (by decide +kernel) (by decide +kernel)
theorem mf_Code_plainByte : MFV yX1_plainByte cX1_plainByte 2 (some .int) 1 := ⟨tb_mem 649 (by decide +kernel) (by decide +kernel), tb_mem 647 (by decide +kernel) (by decide +kernel), tb_mem 648 (by decide +kernel) (by decide +kernel), tb_mem 8 (by decide +kernel) (by decide +kernel), ⟨by decide, by decide⟩, by decide +kernel⟩
theorem ml_X8_87 : Cond.methodLink RX8 87 yX0_at ∈ TBG := tb_mem 461 (by decide +kernel) (by decide +kernel)
theorem mf_Bytes_at : MFV yX0_at cX0_at 2 (some .int) 1 := ⟨tb_mem 255 (by decide +kernel) (by decide +kernel), tb_mem 253 (by decide +kernel) (by decide +kernel), tb_mem 254 (by decide +kernel) (by decide +kernel), tb_mem 9 (by decide +kernel) (by decide +kernel), ⟨by decide, by decide⟩, by decide +kernel⟩
theorem fl_X8_112 : FLK RX8 112 5 6 := ⟨_, tyX5, "BlobHarbor$Part", rfl, by decide, by decide, by decide, rfl, inK_5, tyX5_ok, nmX5, fun _ _ _ x h => h, Or.inr ⟨"BlobHarbor", ns_mem 531 (by decide +kernel) (by decide +kernel)⟩⟩
theorem ml_X6_131 : Cond.methodLink RX6 131 yX8_beginTally ∈ TBG := tb_mem 1379 (by decide +kernel) (by decide +kernel)
theorem mf_Store_beginTally : MFV yX8_beginTally cX8_beginTally 1 none 0 := ⟨tb_mem 1382 (by decide +kernel) (by decide +kernel), tb_mem 1380 (by decide +kernel) (by decide +kernel), tb_mem 1381 (by decide +kernel) (by decide +kernel), tb_mem 3 (by decide +kernel) (by decide +kernel), ⟨by decide, by decide⟩, by decide +kernel⟩
theorem ml_X6_141 : Cond.methodLink RX6 141 yX8_isTallied ∈ TBG := tb_mem 1392 (by decide +kernel) (by decide +kernel)
theorem mf_Store_isTallied : MFV yX8_isTallied cX8_isTallied 2 (some .boolean) 0 := ⟨tb_mem 1395 (by decide +kernel) (by decide +kernel), tb_mem 1393 (by decide +kernel) (by decide +kernel), tb_mem 1394 (by decide +kernel) (by decide +kernel), tb_mem 3 (by decide +kernel) (by decide +kernel), ⟨by decide, by decide⟩, by decide +kernel⟩
theorem ml_X6_134 : Cond.methodLink RX6 134 yX8_isAsPut ∈ TBG := tb_mem 1384 (by decide +kernel) (by decide +kernel)
theorem mf_Store_isAsPut : MFV yX8_isAsPut cX8_isAsPut 7 (some .boolean) 1 := ⟨tb_mem 1387 (by decide +kernel) (by decide +kernel), tb_mem 1385 (by decide +kernel) (by decide +kernel), tb_mem 1386 (by decide +kernel) (by decide +kernel), tb_mem 3 (by decide +kernel) (by decide +kernel), ⟨by decide, by decide⟩, by decide +kernel⟩
theorem fl_X6_82 : FLK RX6 82 10 1 := ⟨_, tyX10, "BlobHarbor$Version", rfl, by decide, by decide, by decide, rfl, inK_10, tyX10_ok, nmX10, fun _ _ _ x h => h, Or.inr ⟨"BlobHarbor", ns_mem 687 (by decide +kernel) (by decide +kernel)⟩⟩
theorem ml_X6_138 : Cond.methodLink RX6 138 yX8_tallyUp ∈ TBG := tb_mem 1388 (by decide +kernel) (by decide +kernel)
theorem mf_Store_tallyUp : MFV yX8_tallyUp cX8_tallyUp 4 none 1 := ⟨tb_mem 1391 (by decide +kernel) (by decide +kernel), tb_mem 1389 (by decide +kernel) (by decide +kernel), tb_mem 1390 (by decide +kernel) (by decide +kernel), tb_mem 3 (by decide +kernel) (by decide +kernel), ⟨by decide, by decide⟩, by decide +kernel⟩
theorem ml_X11_280 : Cond.methodLink RX11 280 yX6_isSound ∈ TBG := tb_mem 1375 (by decide +kernel) (by decide +kernel)
theorem mf_Region_isSound : MFV yX6_isSound cX6_isSound 3 (some .boolean) 0 := ⟨tb_mem 1378 (by decide +kernel) (by decide +kernel), tb_mem 1376 (by decide +kernel) (by decide +kernel), tb_mem 1377 (by decide +kernel) (by decide +kernel), tb_mem 2 (by decide +kernel) (by decide +kernel), ⟨by decide, by decide⟩, by decide +kernel⟩
theorem fl_X0_15 : FLK RX0 15 1 1 := ⟨_, tyX0, "BlobHarbor$Bytes", rfl, by decide, by decide, by decide, rfl, inK_1, tyX0_ok, nmX0, fun _ _ _ x h => h, Or.inl (tb_mem 165 (by decide +kernel) (by decide +kernel))⟩
theorem ml_X0_19 : Cond.methodLink RX0 19 yX0_at ∈ TBG := tb_mem 252 (by decide +kernel) (by decide +kernel)
theorem ml_X11_75 : Cond.methodLink RX11 75 yX6_latest ∈ TBG := tb_mem 218 (by decide +kernel) (by decide +kernel)
theorem mf_Region_latest : MFV yX6_latest cX6_latest 3 (some (.object "BlobHarbor$Version")) 1 := ⟨tb_mem 221 (by decide +kernel) (by decide +kernel), tb_mem 219 (by decide +kernel) (by decide +kernel), tb_mem 220 (by decide +kernel) (by decide +kernel), tb_mem 2 (by decide +kernel) (by decide +kernel), ⟨by decide, by decide⟩, by decide +kernel⟩
theorem ml_X11_87 : Cond.methodLink RX11 87 yX11_isObject ∈ TBG := tb_mem 241 (by decide +kernel) (by decide +kernel)
theorem mf_Hb_isObject : MFS yX11_isObject cX11_isObject 1 (some .boolean) 1 := ⟨tb_mem 243 (by decide +kernel) (by decide +kernel), tb_mem 242 (by decide +kernel) (by decide +kernel), tb_mem 1 (by decide +kernel) (by decide +kernel), ⟨by decide, by decide⟩, by decide +kernel⟩
theorem ml_X11_276 : Cond.methodLink RX11 276 yX0_isSame ∈ TBG := tb_mem 248 (by decide +kernel) (by decide +kernel)
theorem mf_Bytes_isSame : MFV yX0_isSame cX0_isSame 3 (some .boolean) 1 := ⟨tb_mem 251 (by decide +kernel) (by decide +kernel), tb_mem 249 (by decide +kernel) (by decide +kernel), tb_mem 250 (by decide +kernel) (by decide +kernel), tb_mem 9 (by decide +kernel) (by decide +kernel), ⟨by decide, by decide⟩, by decide +kernel⟩
theorem fl_X10_26 : FLK RX10 26 10 2 := ⟨_, tyX10, "BlobHarbor$Version", rfl, by decide, by decide, by decide, rfl, inK_10, tyX10_ok, nmX10, fun _ _ _ x h => h, Or.inl (tb_mem 690 (by decide +kernel) (by decide +kernel))⟩
theorem fl_X10_15 : FLK RX10 15 10 4 := ⟨_, tyX10, "BlobHarbor$Version", rfl, by decide, by decide, by decide, rfl, inK_10, tyX10_ok, nmX10, fun _ _ _ x h => h, Or.inl (tb_mem 695 (by decide +kernel) (by decide +kernel))⟩
theorem ml_X10_29 : Cond.methodLink RX10 29 yX10_opensOn ∈ TBG := tb_mem 1035 (by decide +kernel) (by decide +kernel)
theorem mf_Version_opensOn : MFV yX10_opensOn cX10_opensOn 1 (some .int) 0 := ⟨tb_mem 1038 (by decide +kernel) (by decide +kernel), tb_mem 1036 (by decide +kernel) (by decide +kernel), tb_mem 1037 (by decide +kernel) (by decide +kernel), tb_mem 21 (by decide +kernel) (by decide +kernel), ⟨by decide, by decide⟩, by decide +kernel⟩
theorem ml_X11_122 : Cond.methodLink RX11 122 yX10_isCold ∈ TBG := tb_mem 1023 (by decide +kernel) (by decide +kernel)
theorem mf_Version_isCold : MFV yX10_isCold cX10_isCold 1 (some .boolean) 0 := ⟨tb_mem 1026 (by decide +kernel) (by decide +kernel), tb_mem 1024 (by decide +kernel) (by decide +kernel), tb_mem 1025 (by decide +kernel) (by decide +kernel), tb_mem 21 (by decide +kernel) (by decide +kernel), ⟨by decide, by decide⟩, by decide +kernel⟩
theorem ml_X11_54 : Cond.methodLink RX11 54 yX11_checkState ∈ TBG := tb_mem 338 (by decide +kernel) (by decide +kernel)
theorem mf_Hb_checkState : MFS yX11_checkState cX11_checkState 1 none 1 := ⟨tb_mem 340 (by decide +kernel) (by decide +kernel), tb_mem 339 (by decide +kernel) (by decide +kernel), tb_mem 1 (by decide +kernel) (by decide +kernel), ⟨by decide, by decide⟩, by decide +kernel⟩
theorem fl_X11_95 : FLK RX11 95 11 9 := ⟨_, tyX11, "BlobHarbor", rfl, by decide, by decide, by decide, rfl, inK_11, tyX11_ok, nmX11, fun _ _ _ x h => h, Or.inl (tb_mem 184 (by decide +kernel) (by decide +kernel))⟩
theorem fl_X11_129 : FLK RX11 129 10 4 := ⟨_, tyX10, "BlobHarbor$Version", rfl, by decide, by decide, by decide, rfl, inK_10, tyX10_ok, nmX10, fun _ _ _ x h => h, Or.inr ⟨"BlobHarbor", ns_mem 696 (by decide +kernel) (by decide +kernel)⟩⟩
theorem fp_X11_10_4 : FPT RX11 10 4 .int false := ⟨_, rfl, by decide +kernel, rfl, fun h => by cases h⟩
theorem ml_X11_132 : Cond.methodLink RX11 132 yX10_opensOn ∈ TBG := tb_mem 1080 (by decide +kernel) (by decide +kernel)
theorem ml_X11_126 : Cond.methodLink RX11 126 yX10_isAskedFor ∈ TBG := tb_mem 1079 (by decide +kernel) (by decide +kernel)
theorem mf_Version_isAskedFor : MFV yX10_isAskedFor cX10_isAskedFor 2 (some .boolean) 1 := ⟨tb_mem 1034 (by decide +kernel) (by decide +kernel), tb_mem 1032 (by decide +kernel) (by decide +kernel), tb_mem 1033 (by decide +kernel) (by decide +kernel), tb_mem 21 (by decide +kernel) (by decide +kernel), ⟨by decide, by decide⟩, by decide +kernel⟩
theorem fl_X7_19 : FLK RX7 19 4 0 := ⟨_, tyX3, "BlobHarbor$Entry", rfl, by decide, by decide, by decide, rfl, inK_4, tyX3_ok, nmX3, fun _ _ _ x h => h, Or.inr ⟨"BlobHarbor", ns_mem 471 (by decide +kernel) (by decide +kernel)⟩⟩
theorem inK_7 : ∀ w ∈ u_ws RX7 TX7 3, w ∈ TBG := by
  have h : (u_ws RX7 TX7 3).all (fun w => goodWord w && decide (w ∈ lw_tbl)) = true := by decide +kernel
  intro w hw
  have h1 := List.all_eq_true.mp h w hw
  rw [Bool.and_eq_true] at h1
  exact List.mem_filter.mpr ⟨of_decide_eq_true h1.2, h1.1⟩
theorem fl_X7_7 : FLK RX7 7 7 0 := ⟨_, tyX7, "BlobHarbor$Rule", rfl, by decide, by decide, by decide, rfl, inK_7, tyX7_ok, nmX7, fun _ _ _ x h => h, Or.inl (tb_mem 1290 (by decide +kernel) (by decide +kernel))⟩
theorem ml_X7_24 : Cond.methodLink RX7 24 yX4_begins ∈ TBG := tb_mem 1324 (by decide +kernel) (by decide +kernel)
theorem mf_Keys_begins : MFS yX4_begins cX4_begins 2 (some .boolean) 2 := ⟨tb_mem 1175 (by decide +kernel) (by decide +kernel), tb_mem 1174 (by decide +kernel) (by decide +kernel), tb_mem 17 (by decide +kernel) (by decide +kernel), ⟨by decide, by decide⟩, by decide +kernel⟩
theorem fl_X7_30 : FLK RX7 30 4 2 := ⟨_, tyX3, "BlobHarbor$Entry", rfl, by decide, by decide, by decide, rfl, inK_4, tyX3_ok, nmX3, fun _ _ _ x h => h, Or.inr ⟨"BlobHarbor", ns_mem 477 (by decide +kernel) (by decide +kernel)⟩⟩
theorem fl_X7_13 : FLK RX7 13 7 1 := ⟨_, tyX7, "BlobHarbor$Rule", rfl, by decide, by decide, by decide, rfl, inK_7, tyX7_ok, nmX7, fun _ _ _ x h => h, Or.inl (tb_mem 1291 (by decide +kernel) (by decide +kernel))⟩
theorem fl_X10_9 : FLK RX10 9 10 3 := ⟨_, tyX10, "BlobHarbor$Version", rfl, by decide, by decide, by decide, rfl, inK_10, tyX10_ok, nmX10, fun _ _ _ x h => h, Or.inl (tb_mem 693 (by decide +kernel) (by decide +kernel))⟩
theorem fp_X8_5_6 : FPT RX8 5 6 .int false := ⟨_, rfl, by decide +kernel, rfl, fun h => by cases h⟩
theorem fl_Jx4a65c_63 : FLK RJx4a65c 63 12 0 := ⟨_, tyJx4a65c, "java/util/ArrayList", rfl, by decide, by decide, by decide, rfl, inK_12, tyJx4a65c_ok, nmJx4a65c, fl_same, Or.inl (tb_mem 73 (by decide +kernel) (by decide +kernel))⟩
theorem fp_Jx4a65c_12_0 : FPT RJx4a65c 12 0 .int false := ⟨_, rfl, by decide +kernel, rfl, fun h => by cases h⟩
theorem fp_Jx4a65c_12_2 : FPT RJx4a65c 12 2 .int false := ⟨_, rfl, by decide +kernel, rfl, fun h => by cases h⟩
theorem ml_Jx4a65c_112 : Cond.methodLink RJx4a65c 112 arraycopyName ∈ TBG := tb_mem 953 (by decide +kernel) (by decide +kernel)
theorem ml_Jx4a65c_144 : Cond.methodLink RJx4a65c 144 yJx4a65c_fastRemove_b59b0 ∈ TBG := tb_mem 997 (by decide +kernel) (by decide +kernel)
theorem mf_Al_fastRemove : MFV yJx4a65c_fastRemove_b59b0 cJx4a65c_fastRemove_b59b0 4 none 2 := ⟨tb_mem 1000 (by decide +kernel) (by decide +kernel), tb_mem 999 (by decide +kernel) (by decide +kernel), tb_sel (k := 3) 16 (by decide +kernel), tb_mem 6 (by decide +kernel) (by decide +kernel), ⟨by decide, by decide⟩, by decide +kernel⟩
theorem ml_X6_86 : Cond.methodLink RX6 86 yX8_letGo ∈ TBG := tb_mem 985 (by decide +kernel) (by decide +kernel)

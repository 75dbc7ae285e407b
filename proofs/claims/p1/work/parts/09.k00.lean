/-! laid by program -/
theorem zin_RA : ∀ w ∈ u_ws "RootAlgebra" zT_RA 11, w ∈ lw_tbl := by decide +kernel
theorem zgd_RA : ∀ w ∈ u_ws "RootAlgebra" zT_RA 11, goodWord w = true := by decide +kernel
theorem zC_RA : kCl 0 "RootAlgebra" zT_RA 11 zt_RA := ⟨rfl, fun w h => wA_in (zin_RA w h) (zgd_RA w h), by decide +kernel, by decide +kernel⟩
theorem z0_RA : ∀ j, j < 11 → defaultValue (zt_RA j) = vp_V [.null, .null, .null, .null, .null, .null, .null, .int 0, .int 0, .int 0, .int 0] j := by decide +kernel
theorem zin_Big : ∀ w ∈ u_ws "RootAlgebra$Big" zT_Big 3, w ∈ lw_tbl := by decide +kernel
theorem zgd_Big : ∀ w ∈ u_ws "RootAlgebra$Big" zT_Big 3, goodWord w = true := by decide +kernel
theorem zC_Big : kCl 1 "RootAlgebra$Big" zT_Big 3 zt_Big := ⟨rfl, fun w h => wA_in (zin_Big w h) (zgd_Big w h), by decide +kernel, by decide +kernel⟩
theorem z0_Big : ∀ j, j < 3 → defaultValue (zt_Big j) = vp_V [.null, .int 0, .int 0] j := by decide +kernel
theorem zin_Desk : ∀ w ∈ u_ws "RootAlgebra$Desk" zT_Desk 12, w ∈ lw_tbl := by decide +kernel
theorem zgd_Desk : ∀ w ∈ u_ws "RootAlgebra$Desk" zT_Desk 12, goodWord w = true := by decide +kernel
theorem zC_Desk : kCl 2 "RootAlgebra$Desk" zT_Desk 12 zt_Desk := ⟨rfl, fun w h => wA_in (zin_Desk w h) (zgd_Desk w h), by decide +kernel, by decide +kernel⟩
theorem z0_Desk : ∀ j, j < 12 → defaultValue (zt_Desk j) = vp_V [.null, .null, .null, .null, .null, .null, .null, .null, .null, .int 0, .int 0, .int 0] j := by decide +kernel
theorem zin_Factors : ∀ w ∈ u_ws "RootAlgebra$Factors" zT_Factors 20, w ∈ lw_tbl := by decide +kernel
theorem zgd_Factors : ∀ w ∈ u_ws "RootAlgebra$Factors" zT_Factors 20, goodWord w = true := by decide +kernel
theorem zC_Factors : kCl 3 "RootAlgebra$Factors" zT_Factors 20 zt_Factors := ⟨rfl, fun w h => wA_in (zin_Factors w h) (zgd_Factors w h), by decide +kernel, by decide +kernel⟩
theorem z0_Factors : ∀ j, j < 20 → defaultValue (zt_Factors j) = vp_V [.null, .null, .null, .null, .null, .null, .null, .null, .null, .null, .null, .null, .null, .null, .null, .null, .int 0, .int 0, .int 0, .int 0] j := by decide +kernel
theorem zin_Field : ∀ w ∈ u_ws "RootAlgebra$Field" zT_Field 7, w ∈ lw_tbl := by decide +kernel
theorem zgd_Field : ∀ w ∈ u_ws "RootAlgebra$Field" zT_Field 7, goodWord w = true := by decide +kernel
theorem zC_Field : kCl 4 "RootAlgebra$Field" zT_Field 7 zt_Field := ⟨rfl, fun w h => wA_in (zin_Field w h) (zgd_Field w h), by decide +kernel, by decide +kernel⟩
theorem z0_Field : ∀ j, j < 7 → defaultValue (zt_Field j) = vp_V [.int 0, .null, .null, .null, .null, .null, .null] j := by decide +kernel
theorem zin_Gauge : ∀ w ∈ u_ws "RootAlgebra$Gauge" zT_Gauge 17, w ∈ lw_tbl := by decide +kernel
theorem zgd_Gauge : ∀ w ∈ u_ws "RootAlgebra$Gauge" zT_Gauge 17, goodWord w = true := by decide +kernel
theorem zC_Gauge : kCl 5 "RootAlgebra$Gauge" zT_Gauge 17 zt_Gauge := ⟨rfl, fun w h => wA_in (zin_Gauge w h) (zgd_Gauge w h), by decide +kernel, by decide +kernel⟩
theorem z0_Gauge : ∀ j, j < 17 → defaultValue (zt_Gauge j) = vp_V [.null, .null, .null, .null, .null, .null, .null, .null, .null, .null, .null, .null, .null, .int 0, .int 0, .int 0, .int 0] j := by decide +kernel
theorem zin_Isolator : ∀ w ∈ u_ws "RootAlgebra$Isolator" zT_Isolator 11, w ∈ lw_tbl := by decide +kernel
theorem zgd_Isolator : ∀ w ∈ u_ws "RootAlgebra$Isolator" zT_Isolator 11, goodWord w = true := by decide +kernel
theorem zC_Isolator : kCl 6 "RootAlgebra$Isolator" zT_Isolator 11 zt_Isolator := ⟨rfl, fun w h => wA_in (zin_Isolator w h) (zgd_Isolator w h), by decide +kernel, by decide +kernel⟩
theorem z0_Isolator : ∀ j, j < 11 → defaultValue (zt_Isolator j) = vp_V [.null, .null, .null, .null, .null, .null, .int 0, .int 0, .int 0, .int 0, .int 0] j := by decide +kernel
theorem zin_Padic : ∀ w ∈ u_ws "RootAlgebra$Padic" zT_Padic 3, w ∈ lw_tbl := by decide +kernel
theorem zgd_Padic : ∀ w ∈ u_ws "RootAlgebra$Padic" zT_Padic 3, goodWord w = true := by decide +kernel
theorem zC_Padic : kCl 7 "RootAlgebra$Padic" zT_Padic 3 zt_Padic := ⟨rfl, fun w h => wA_in (zin_Padic w h) (zgd_Padic w h), by decide +kernel, by decide +kernel⟩
theorem z0_Padic : ∀ j, j < 3 → defaultValue (zt_Padic j) = vp_V [.int 0, .long 0, .null] j := by decide +kernel
theorem zin_Poly : ∀ w ∈ u_ws "RootAlgebra$Poly" zT_Poly 2, w ∈ lw_tbl := by decide +kernel
theorem zgd_Poly : ∀ w ∈ u_ws "RootAlgebra$Poly" zT_Poly 2, goodWord w = true := by decide +kernel
theorem zC_Poly : kCl 8 "RootAlgebra$Poly" zT_Poly 2 zt_Poly := ⟨rfl, fun w h => wA_in (zin_Poly w h) (zgd_Poly w h), by decide +kernel, by decide +kernel⟩
theorem z0_Poly : ∀ j, j < 2 → defaultValue (zt_Poly j) = vp_V [.null, .int 0] j := by decide +kernel
theorem zin_Reader : ∀ w ∈ u_ws "RootAlgebra$Reader" zT_Reader 7, w ∈ lw_tbl := by decide +kernel
theorem zgd_Reader : ∀ w ∈ u_ws "RootAlgebra$Reader" zT_Reader 7, goodWord w = true := by decide +kernel
theorem zC_Reader : kCl 9 "RootAlgebra$Reader" zT_Reader 7 zt_Reader := ⟨rfl, fun w h => wA_in (zin_Reader w h) (zgd_Reader w h), by decide +kernel, by decide +kernel⟩
theorem z0_Reader : ∀ j, j < 7 → defaultValue (zt_Reader j) = vp_V [.null, .null, .int 0, .int 0, .int 0, .int 0, .int 0] j := by decide +kernel

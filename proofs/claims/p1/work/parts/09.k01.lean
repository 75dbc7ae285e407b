/-! laid by program -/
theorem zin_Sums : ∀ w ∈ u_ws "RootAlgebra$Sums" zT_Sums 4, w ∈ lw_tbl := by decide +kernel
theorem zgd_Sums : ∀ w ∈ u_ws "RootAlgebra$Sums" zT_Sums 4, goodWord w = true := by decide +kernel
theorem zC_Sums : kCl 10 "RootAlgebra$Sums" zT_Sums 4 zt_Sums := ⟨rfl, fun w h => wA_in (zin_Sums w h) (zgd_Sums w h), by decide +kernel, by decide +kernel⟩
theorem z0_Sums : ∀ j, j < 4 → defaultValue (zt_Sums j) = vp_V [.null, .null, .null, .null] j := by decide +kernel
theorem zin_Value : ∀ w ∈ u_ws "RootAlgebra$Value" zT_Value 7, w ∈ lw_tbl := by decide +kernel
theorem zgd_Value : ∀ w ∈ u_ws "RootAlgebra$Value" zT_Value 7, goodWord w = true := by decide +kernel
theorem zC_Value : kCl 11 "RootAlgebra$Value" zT_Value 7 zt_Value := ⟨rfl, fun w h => wA_in (zin_Value w h) (zgd_Value w h), by decide +kernel, by decide +kernel⟩
theorem z0_Value : ∀ j, j < 7 → defaultValue (zt_Value j) = vp_V [.null, .null, .int 0, .int 0, .int 0, .int 0, .int 0] j := by decide +kernel
theorem zin_Md : ∀ w ∈ u_ws "RootAlgebraModel" zT_Md 65, w ∈ lw_tbl := by decide +kernel
theorem zgd_Md : ∀ w ∈ u_ws "RootAlgebraModel" zT_Md 65, goodWord w = true := by decide +kernel
theorem zC_Md : kCl 12 "RootAlgebraModel" zT_Md 65 zt_Md := ⟨rfl, fun w h => wA_in (zin_Md w h) (zgd_Md w h), by decide +kernel, by decide +kernel⟩
theorem z0_Md : ∀ j, j < 65 → defaultValue (zt_Md j) = vp_V [.int 0, .null, .int 0, .null, .int 0, .int 0, .int 0, .null, .null, .null, .null, .null, .null, .null, .null, .null, .null, .null, .null, .int 0, .null, .null, .null, .null, .null, .null, .null, .null, .null, .null, .long 0, .int 0, .null, .null, .null, .null, .null, .null, .null, .null, .null, .null, .int 0, .int 0, .null, .int 0, .int 0, .int 0, .int 0, .int 0, .int 0, .null, .int 0, .null, .null, .int 0, .null, .null, .int 0, .int 0, .int 0, .int 0, .int 0, .null, .null] j := by decide +kernel

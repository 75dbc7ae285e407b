/-! names; laid by program -/
abbrev b_RA_out : ByteArray := prog_1_method_12_code
def y_RA_out : MethodName := ⟨"RootAlgebra", "out", "(I)J"⟩
/-! -/

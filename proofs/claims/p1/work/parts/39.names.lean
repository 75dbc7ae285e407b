/-! names; laid by program -/
abbrev b_Law_law : ByteArray := code
def y_Law_law : MethodName := ⟨"RootAlgebraLaw", "law", "([I)Z"⟩
/-! -/

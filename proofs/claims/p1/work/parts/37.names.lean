/-! names; laid by program -/
abbrev b_Law_coefficient : ByteArray := method_6_code
def y_Law_coefficient : MethodName := ⟨"RootAlgebraLaw", "coefficient", "(LRootAlgebra;II[J)I"⟩
abbrev b_Law_compare : ByteArray := method_9_code
def y_Law_compare : MethodName := ⟨"RootAlgebraLaw", "compare", "(LRootAlgebra;II[J)I"⟩
abbrev b_Law_degree : ByteArray := method_5_code
def y_Law_degree : MethodName := ⟨"RootAlgebraLaw", "degree", "(LRootAlgebra;I[J)I"⟩
abbrev b_Law_drop : ByteArray := method_13_code
def y_Law_drop : MethodName := ⟨"RootAlgebraLaw", "drop", "(LRootAlgebra;I[J)I"⟩
abbrev b_Law_feed : ByteArray := method_3_code
def y_Law_feed : MethodName := ⟨"RootAlgebraLaw", "feed", "(LRootAlgebra;IJ[J)I"⟩
abbrev b_Law_floor : ByteArray := method_10_code
def y_Law_floor : MethodName := ⟨"RootAlgebraLaw", "floor", "(LRootAlgebra;II[J)I"⟩
abbrev b_Law_index : ByteArray := method_7_code
def y_Law_index : MethodName := ⟨"RootAlgebraLaw", "index", "(LRootAlgebra;I[J)I"⟩
abbrev b_Law_look : ByteArray := method_4_code
def y_Law_look : MethodName := ⟨"RootAlgebraLaw", "look", "(LRootAlgebra;I[J)I"⟩
abbrev b_Law_out : ByteArray := method_12_code
def y_Law_out : MethodName := ⟨"RootAlgebraLaw", "out", "(LRootAlgebra;I[J)I"⟩
abbrev b_Law_roots : ByteArray := method_8_code
def y_Law_roots : MethodName := ⟨"RootAlgebraLaw", "roots", "(LRootAlgebra;I[J)I"⟩
abbrev b_Law_write : ByteArray := method_11_code
def y_Law_write : MethodName := ⟨"RootAlgebraLaw", "write", "(LRootAlgebra;I[J)I"⟩
/-! -/

/-! words of the tables, by their places; laid by program -/
set_option maxRecDepth 20000 in
theorem mw_0 : Cond.methodLink "RootAlgebra$Big" 1 Lib.objectInit ∈ wA := wA_in (zt_1 _ (List.mem_of_getElem? (i := 36) rfl)) rfl
set_option maxRecDepth 20000 in
theorem mw_1 : Cond.instanceMethod Lib.objectInit ∈ wA := wA_in (zt_1 _ (List.mem_of_getElem? (i := 29) rfl)) rfl
set_option maxRecDepth 20000 in
theorem mw_2 : Cond.code Lib.objectInit ⟨#[0xb1]⟩ 1 none ∈ wA := wA_in (zt_1 _ (List.mem_of_getElem? (i := 30) rfl)) rfl
set_option maxRecDepth 20000 in
theorem mw_3 : Cond.arrayClass .int ∈ wA := wA_in (zt_1 _ (List.mem_of_getElem? (i := 54) rfl)) rfl
set_option maxRecDepth 20000 in
theorem mw_4 : Cond.fieldLink "RootAlgebra$Big" 7 "RootAlgebra$Big" "words" "[I" ∈ wA := wA_in (zt_1 _ (List.mem_of_getElem? (i := 37) rfl)) rfl
set_option maxRecDepth 20000 in
theorem mw_5 : Cond.methodLink "RootAlgebra$Value" 3 Lib.objectInit ∈ wA := wA_in (zt_1 _ (List.mem_of_getElem? (i := 61) rfl)) rfl
set_option maxRecDepth 20000 in
theorem mw_6 : Cond.fieldLink "RootAlgebra$Value" 9 "RootAlgebra$Value" "c" "[I" ∈ wA := wA_in (zt_1 _ (List.mem_of_getElem? (i := 64) rfl)) rfl
set_option maxRecDepth 20000 in
theorem mw_7 : Cond.classLink "RootAlgebra$Value" 15 "RootAlgebra$Big" ∈ wA := wA_in (zt_1 _ (List.mem_of_getElem? (i := 62) rfl)) rfl
set_option maxRecDepth 20000 in
theorem mw_8 : Cond.instantiable "RootAlgebra$Big" 3 ∈ wA := wA_in (zt_1 _ (List.mem_of_getElem? (i := 32) rfl)) rfl
set_option maxRecDepth 20000 in
theorem mw_9 : Cond.initialized "RootAlgebra$Big" ∈ wA := wA_in (zt_1 _ (List.mem_of_getElem? (i := 2) rfl)) rfl
set_option maxRecDepth 20000 in
theorem mw_10 : Cond.code y_Big_init b_Big_init 2 none ∈ wA := wA_in (zt_1 _ (List.mem_of_getElem? (i := 35) rfl)) rfl
set_option maxRecDepth 20000 in
theorem mw_11 : Cond.methodLink "RootAlgebra$Value" 17 y_Big_init ∈ wA := wA_in (zt_1 _ (List.mem_of_getElem? (i := 63) rfl)) rfl
set_option maxRecDepth 20000 in
theorem mw_12 : Cond.instanceMethod y_Big_init ∈ wA := wA_in (zt_1 _ (List.mem_of_getElem? (i := 34) rfl)) rfl
set_option maxRecDepth 20000 in
theorem mw_13 : Cond.fieldLink "RootAlgebra$Value" 20 "RootAlgebra$Value" "low" "LRootAlgebra$Big;" ∈ wA := wA_in (zt_1 _ (List.mem_of_getElem? (i := 71) rfl)) rfl
set_option maxRecDepth 20000 in
theorem mw_14 : Cond.fieldLink "RootAlgebra$Big" 13 "RootAlgebra$Big" "sign" "I" ∈ wA := wA_in (zt_1 _ (List.mem_of_getElem? (i := 39) rfl)) rfl
set_option maxRecDepth 20000 in
theorem mw_15 : Cond.fieldLink "RootAlgebra$Big" 17 "RootAlgebra$Big" "size" "I" ∈ wA := wA_in (zt_1 _ (List.mem_of_getElem? (i := 38) rfl)) rfl
set_option maxRecDepth 20000 in
theorem mw_16 : Cond.fieldLink "RootAlgebra$Value" 31 "RootAlgebra$Value" "index" "I" ∈ wA := wA_in (zt_1 _ (List.mem_of_getElem? (i := 80) rfl)) rfl
set_option maxRecDepth 20000 in
theorem mw_17 : Cond.fieldLink "RootAlgebra$Value" 34 "RootAlgebra$Value" "roots" "I" ∈ wA := wA_in (zt_1 _ (List.mem_of_getElem? (i := 84) rfl)) rfl
set_option maxRecDepth 20000 in
theorem mw_18 : Cond.fieldLink "RootAlgebra$Value" 37 "RootAlgebra$Value" "negatives" "I" ∈ wA := wA_in (zt_1 _ (List.mem_of_getElem? (i := 87) rfl)) rfl
set_option maxRecDepth 20000 in
theorem mw_19 : Cond.fieldLink "RootAlgebra$Value" 40 "RootAlgebra$Value" "scale" "I" ∈ wA := wA_in (zt_1 _ (List.mem_of_getElem? (i := 90) rfl)) rfl
set_option maxRecDepth 20000 in
theorem mw_20 : Cond.code y_Big_setLong b_Big_setLong 6 none ∈ wA := wA_in (zt_1 _ (List.mem_of_getElem? (i := 117) rfl)) rfl
set_option maxRecDepth 20000 in
theorem mw_21 : Cond.methodLink "RootAlgebra$Value" 43 y_Big_setLong ∈ wA := wA_in (zt_1 _ (List.mem_of_getElem? (i := 114) rfl)) rfl
set_option maxRecDepth 20000 in
theorem mw_22 : Cond.instanceMethod y_Big_setLong ∈ wA := wA_in (zt_1 _ (List.mem_of_getElem? (i := 115) rfl)) rfl
set_option maxRecDepth 20000 in
theorem mw_23 : Cond.selects "RootAlgebra$Big" y_Big_setLong y_Big_setLong ∈ wA := wA_in (zt_1 _ (List.mem_of_getElem? (i := 116) rfl)) rfl
set_option maxRecDepth 20000 in
theorem mw_24 : Cond.fieldLink "RootAlgebra$Value" 24 "RootAlgebra$Value" "degree" "I" ∈ wA := wA_in (zt_1 _ (List.mem_of_getElem? (i := 75) rfl)) rfl
set_option maxRecDepth 20000 in
theorem mw_25 : Cond.code y_Value_finishFraction b_Value_finishFraction 1 none ∈ wA := wA_in (zt_1 _ (List.mem_of_getElem? (i := 113) rfl)) rfl
set_option maxRecDepth 20000 in
theorem mw_26 : Cond.initialized "RootAlgebra$Value" ∈ wA := wA_in (zt_1 _ (List.mem_of_getElem? (i := 3) rfl)) rfl
set_option maxRecDepth 20000 in
theorem mw_27 : Cond.methodLink "RootAlgebra$Value" 28 y_Value_finishFraction ∈ wA := wA_in (zt_1 _ (List.mem_of_getElem? (i := 110) rfl)) rfl
set_option maxRecDepth 20000 in
theorem mw_28 : Cond.instanceMethod y_Value_finishFraction ∈ wA := wA_in (zt_1 _ (List.mem_of_getElem? (i := 111) rfl)) rfl
set_option maxRecDepth 20000 in
theorem mw_29 : Cond.selects "RootAlgebra$Value" y_Value_finishFraction y_Value_finishFraction ∈ wA := wA_in (zt_1 _ (List.mem_of_getElem? (i := 112) rfl)) rfl
set_option maxRecDepth 20000 in
theorem mw_30 : Cond.methodLink "RootAlgebra$Poly" 1 Lib.objectInit ∈ wA := wA_in (zt_1 _ (List.mem_of_getElem? (i := 163) rfl)) rfl
set_option maxRecDepth 20000 in
theorem mw_31 : Cond.classLink "RootAlgebra$Poly" 9 "RootAlgebra$Big" ∈ wA := wA_in (zt_1 _ (List.mem_of_getElem? (i := 164) rfl)) rfl
set_option maxRecDepth 20000 in
theorem mw_32 : Cond.fieldLink "RootAlgebra$Poly" 11 "RootAlgebra$Poly" "c" "[LRootAlgebra$Big;" ∈ wA := wA_in (zt_1 _ (List.mem_of_getElem? (i := 167) rfl)) rfl
set_option maxRecDepth 20000 in
theorem mw_33 : Cond.methodLink "RootAlgebra$Poly" 15 y_Big_init ∈ wA := wA_in (zt_1 _ (List.mem_of_getElem? (i := 166) rfl)) rfl
set_option maxRecDepth 20000 in
theorem mw_34 : Cond.methodLink "RootAlgebra$Field" 1 Lib.objectInit ∈ wA := wA_in (zt_1 _ (List.mem_of_getElem? (i := 216) rfl)) rfl
set_option maxRecDepth 20000 in
theorem mw_35 : Cond.fieldLink "RootAlgebra$Field" 7 "RootAlgebra$Field" "p" "I" ∈ wA := wA_in (zt_1 _ (List.mem_of_getElem? (i := 217) rfl)) rfl
set_option maxRecDepth 20000 in
theorem mw_36 : Cond.arrayClass .long ∈ wA := wA_in (zt_2 _ (List.mem_of_getElem? (i := 2) rfl)) rfl
set_option maxRecDepth 20000 in
theorem mw_37 : Cond.fieldLink "RootAlgebra$Field" 13 "RootAlgebra$Field" "product" "[J" ∈ wA := wA_in (zt_1 _ (List.mem_of_getElem? (i := 219) rfl)) rfl
set_option maxRecDepth 20000 in
theorem mw_38 : Cond.fieldLink "RootAlgebra$Field" 17 "RootAlgebra$Field" "power" "[J" ∈ wA := wA_in (zt_1 _ (List.mem_of_getElem? (i := 220) rfl)) rfl
set_option maxRecDepth 20000 in
theorem mw_39 : Cond.fieldLink "RootAlgebra$Field" 20 "RootAlgebra$Field" "common" "[J" ∈ wA := wA_in (zt_1 _ (List.mem_of_getElem? (i := 221) rfl)) rfl
set_option maxRecDepth 20000 in
theorem mw_40 : Cond.fieldLink "RootAlgebra$Field" 23 "RootAlgebra$Field" "spareCommon" "[J" ∈ wA := wA_in (zt_1 _ (List.mem_of_getElem? (i := 223) rfl)) rfl
set_option maxRecDepth 20000 in
theorem mw_41 : Cond.fieldLink "RootAlgebra$Field" 26 "RootAlgebra$Field" "cofactor" "[J" ∈ wA := wA_in (zt_1 _ (List.mem_of_getElem? (i := 224) rfl)) rfl
set_option maxRecDepth 20000 in
theorem mw_42 : Cond.fieldLink "RootAlgebra$Field" 29 "RootAlgebra$Field" "spareCofactor" "[J" ∈ wA := wA_in (zt_1 _ (List.mem_of_getElem? (i := 226) rfl)) rfl
set_option maxRecDepth 20000 in
theorem mw_43 : Cond.methodLink "RootAlgebra$Padic" 7 Lib.objectInit ∈ wA := wA_in (zt_2 _ (List.mem_of_getElem? (i := 8) rfl)) rfl
set_option maxRecDepth 20000 in
theorem mw_44 : Cond.fieldLink "RootAlgebra$Padic" 13 "RootAlgebra$Padic" "p" "I" ∈ wA := wA_in (zt_2 _ (List.mem_of_getElem? (i := 11) rfl)) rfl
set_option maxRecDepth 20000 in
theorem mw_45 : Cond.classLink "RootAlgebra$Padic" 17 "RootAlgebra$Big" ∈ wA := wA_in (zt_2 _ (List.mem_of_getElem? (i := 9) rfl)) rfl
set_option maxRecDepth 20000 in
theorem mw_46 : Cond.methodLink "RootAlgebra$Padic" 19 y_Big_init ∈ wA := wA_in (zt_2 _ (List.mem_of_getElem? (i := 10) rfl)) rfl
set_option maxRecDepth 20000 in
theorem mw_47 : Cond.fieldLink "RootAlgebra$Padic" 22 "RootAlgebra$Padic" "rest" "LRootAlgebra$Big;" ∈ wA := wA_in (zt_2 _ (List.mem_of_getElem? (i := 13) rfl)) rfl
set_option maxRecDepth 20000 in
theorem mw_48 : Cond.methodLink "RootAlgebra$Reader" 3 Lib.objectInit ∈ wA := wA_in (zt_1 _ (List.mem_of_getElem? (i := 123) rfl)) rfl
set_option maxRecDepth 20000 in
theorem mw_49 : Cond.fieldLink "RootAlgebra$Reader" 9 "RootAlgebra$Reader" "tape" "[B" ∈ wA := wA_in (zt_1 _ (List.mem_of_getElem? (i := 126) rfl)) rfl
set_option maxRecDepth 20000 in
theorem mw_50 : Cond.fieldLink "RootAlgebra$Reader" 15 "RootAlgebra$Reader" "code" "[I" ∈ wA := wA_in (zt_1 _ (List.mem_of_getElem? (i := 124) rfl)) rfl
set_option maxRecDepth 20000 in
theorem mw_51 : Cond.methodLink "RootAlgebra$Gauge" 1 Lib.objectInit ∈ wA := wA_in (zt_2 _ (List.mem_of_getElem? (i := 145) rfl)) rfl
set_option maxRecDepth 20000 in
theorem mw_52 : Cond.classLink "RootAlgebra$Gauge" 7 "RootAlgebra$Big" ∈ wA := wA_in (zt_2 _ (List.mem_of_getElem? (i := 146) rfl)) rfl
set_option maxRecDepth 20000 in
theorem mw_53 : Cond.methodLink "RootAlgebra$Gauge" 11 y_Big_init ∈ wA := wA_in (zt_2 _ (List.mem_of_getElem? (i := 147) rfl)) rfl
set_option maxRecDepth 20000 in
theorem mw_54 : Cond.fieldLink "RootAlgebra$Gauge" 14 "RootAlgebra$Gauge" "left" "LRootAlgebra$Big;" ∈ wA := wA_in (zt_2 _ (List.mem_of_getElem? (i := 148) rfl)) rfl
set_option maxRecDepth 20000 in
theorem mw_55 : Cond.fieldLink "RootAlgebra$Gauge" 18 "RootAlgebra$Gauge" "right" "LRootAlgebra$Big;" ∈ wA := wA_in (zt_2 _ (List.mem_of_getElem? (i := 149) rfl)) rfl
set_option maxRecDepth 20000 in
theorem mw_56 : Cond.fieldLink "RootAlgebra$Gauge" 21 "RootAlgebra$Gauge" "here" "LRootAlgebra$Big;" ∈ wA := wA_in (zt_2 _ (List.mem_of_getElem? (i := 150) rfl)) rfl
set_option maxRecDepth 20000 in
theorem mw_57 : Cond.fieldLink "RootAlgebra$Gauge" 24 "RootAlgebra$Gauge" "beside" "LRootAlgebra$Big;" ∈ wA := wA_in (zt_2 _ (List.mem_of_getElem? (i := 151) rfl)) rfl
set_option maxRecDepth 20000 in
theorem mw_58 : Cond.fieldLink "RootAlgebra$Gauge" 27 "RootAlgebra$Gauge" "at" "LRootAlgebra$Big;" ∈ wA := wA_in (zt_2 _ (List.mem_of_getElem? (i := 152) rfl)) rfl
set_option maxRecDepth 20000 in
theorem mw_59 : Cond.fieldLink "RootAlgebra$Gauge" 30 "RootAlgebra$Gauge" "point" "LRootAlgebra$Big;" ∈ wA := wA_in (zt_2 _ (List.mem_of_getElem? (i := 153) rfl)) rfl
set_option maxRecDepth 20000 in
theorem mw_60 : Cond.fieldLink "RootAlgebra$Gauge" 33 "RootAlgebra$Gauge" "term" "LRootAlgebra$Big;" ∈ wA := wA_in (zt_2 _ (List.mem_of_getElem? (i := 154) rfl)) rfl
set_option maxRecDepth 20000 in
theorem mw_61 : Cond.fieldLink "RootAlgebra$Gauge" 36 "RootAlgebra$Gauge" "spare" "LRootAlgebra$Big;" ∈ wA := wA_in (zt_2 _ (List.mem_of_getElem? (i := 155) rfl)) rfl
set_option maxRecDepth 20000 in
theorem mw_62 : Cond.fieldLink "RootAlgebra$Gauge" 39 "RootAlgebra$Gauge" "mid" "LRootAlgebra$Big;" ∈ wA := wA_in (zt_2 _ (List.mem_of_getElem? (i := 156) rfl)) rfl
set_option maxRecDepth 20000 in
theorem mw_63 : Cond.fieldLink "RootAlgebra$Gauge" 42 "RootAlgebra$Gauge" "one" "LRootAlgebra$Big;" ∈ wA := wA_in (zt_2 _ (List.mem_of_getElem? (i := 157) rfl)) rfl
set_option maxRecDepth 20000 in
theorem mw_64 : Cond.fieldLink "RootAlgebra$Gauge" 45 "RootAlgebra$Gauge" "other" "LRootAlgebra$Big;" ∈ wA := wA_in (zt_2 _ (List.mem_of_getElem? (i := 158) rfl)) rfl
set_option maxRecDepth 20000 in
theorem mw_65 : Cond.methodLink "RootAlgebra$Sums" 1 Lib.objectInit ∈ wA := wA_in (zt_1 _ (List.mem_of_getElem? (i := 189) rfl)) rfl
set_option maxRecDepth 20000 in
theorem mw_66 : Cond.classLink "RootAlgebra$Sums" 9 "RootAlgebra$Big" ∈ wA := wA_in (zt_1 _ (List.mem_of_getElem? (i := 190) rfl)) rfl
set_option maxRecDepth 20000 in
theorem mw_67 : Cond.fieldLink "RootAlgebra$Sums" 11 "RootAlgebra$Sums" "left" "[LRootAlgebra$Big;" ∈ wA := wA_in (zt_1 _ (List.mem_of_getElem? (i := 192) rfl)) rfl
set_option maxRecDepth 20000 in
theorem mw_68 : Cond.fieldLink "RootAlgebra$Sums" 17 "RootAlgebra$Sums" "right" "[LRootAlgebra$Big;" ∈ wA := wA_in (zt_1 _ (List.mem_of_getElem? (i := 193) rfl)) rfl
set_option maxRecDepth 20000 in
theorem mw_69 : Cond.fieldLink "RootAlgebra$Sums" 20 "RootAlgebra$Sums" "both" "[LRootAlgebra$Big;" ∈ wA := wA_in (zt_1 _ (List.mem_of_getElem? (i := 194) rfl)) rfl
set_option maxRecDepth 20000 in
theorem mw_70 : Cond.methodLink "RootAlgebra$Sums" 23 y_Big_init ∈ wA := wA_in (zt_1 _ (List.mem_of_getElem? (i := 191) rfl)) rfl
set_option maxRecDepth 20000 in
theorem mw_71 : Cond.fieldLink "RootAlgebra$Sums" 26 "RootAlgebra$Sums" "term" "LRootAlgebra$Big;" ∈ wA := wA_in (zt_1 _ (List.mem_of_getElem? (i := 195) rfl)) rfl
set_option maxRecDepth 20000 in
theorem mw_72 : Cond.methodLink "RootAlgebra$Isolator" 1 Lib.objectInit ∈ wA := wA_in (zt_2 _ (List.mem_of_getElem? (i := 91) rfl)) rfl
set_option maxRecDepth 20000 in
theorem mw_73 : Cond.classLink "RootAlgebra$Isolator" 9 "RootAlgebra$Big" ∈ wA := wA_in (zt_2 _ (List.mem_of_getElem? (i := 92) rfl)) rfl
set_option maxRecDepth 20000 in
theorem mw_74 : Cond.fieldLink "RootAlgebra$Isolator" 11 "RootAlgebra$Isolator" "f" "[LRootAlgebra$Big;" ∈ wA := wA_in (zt_2 _ (List.mem_of_getElem? (i := 94) rfl)) rfl
set_option maxRecDepth 20000 in
theorem mw_75 : Cond.fieldLink "RootAlgebra$Isolator" 17 "RootAlgebra$Isolator" "g" "[LRootAlgebra$Big;" ∈ wA := wA_in (zt_2 _ (List.mem_of_getElem? (i := 95) rfl)) rfl
set_option maxRecDepth 20000 in
theorem mw_76 : Cond.methodLink "RootAlgebra$Isolator" 20 y_Big_init ∈ wA := wA_in (zt_2 _ (List.mem_of_getElem? (i := 93) rfl)) rfl
set_option maxRecDepth 20000 in
theorem mw_77 : Cond.fieldLink "RootAlgebra$Isolator" 25 "RootAlgebra$Isolator" "cell" "LRootAlgebra$Big;" ∈ wA := wA_in (zt_2 _ (List.mem_of_getElem? (i := 96) rfl)) rfl
set_option maxRecDepth 20000 in
theorem mw_78 : Cond.fieldLink "RootAlgebra$Isolator" 29 "RootAlgebra$Isolator" "low" "[LRootAlgebra$Big;" ∈ wA := wA_in (zt_2 _ (List.mem_of_getElem? (i := 97) rfl)) rfl
set_option maxRecDepth 20000 in
theorem mw_79 : Cond.fieldLink "RootAlgebra$Isolator" 32 "RootAlgebra$Isolator" "scale" "[I" ∈ wA := wA_in (zt_2 _ (List.mem_of_getElem? (i := 101) rfl)) rfl
set_option maxRecDepth 20000 in
theorem mw_80 : Cond.arrayClass .boolean ∈ wA := wA_in (zt_2 _ (List.mem_of_getElem? (i := 139) rfl)) rfl
set_option maxRecDepth 20000 in
theorem mw_81 : Cond.fieldLink "RootAlgebra$Isolator" 36 "RootAlgebra$Isolator" "exact" "[Z" ∈ wA := wA_in (zt_2 _ (List.mem_of_getElem? (i := 105) rfl)) rfl
set_option maxRecDepth 20000 in
theorem mw_82 : Cond.methodLink "RootAlgebra$Factors" 5 Lib.objectInit ∈ wA := wA_in (zt_1 _ (List.mem_of_getElem? (i := 210) rfl)) rfl
set_option maxRecDepth 20000 in
theorem mw_83 : Cond.classLink "RootAlgebra$Factors" 11 "RootAlgebra$Field" ∈ wA := wA_in (zt_1 _ (List.mem_of_getElem? (i := 211) rfl)) rfl
set_option maxRecDepth 20000 in
theorem mw_84 : Cond.instantiable "RootAlgebra$Field" 7 ∈ wA := wA_in (zt_1 _ (List.mem_of_getElem? (i := 212) rfl)) rfl
set_option maxRecDepth 20000 in
theorem mw_85 : Cond.initialized "RootAlgebra$Field" ∈ wA := wA_in (zt_1 _ (List.mem_of_getElem? (i := 9) rfl)) rfl
set_option maxRecDepth 20000 in
theorem mw_86 : Cond.code y_Field_init b_Field_init 1 none ∈ wA := wA_in (zt_1 _ (List.mem_of_getElem? (i := 215) rfl)) rfl
set_option maxRecDepth 20000 in
theorem mw_87 : Cond.methodLink "RootAlgebra$Factors" 13 y_Field_init ∈ wA := wA_in (zt_1 _ (List.mem_of_getElem? (i := 213) rfl)) rfl
set_option maxRecDepth 20000 in
theorem mw_88 : Cond.instanceMethod y_Field_init ∈ wA := wA_in (zt_1 _ (List.mem_of_getElem? (i := 214) rfl)) rfl
set_option maxRecDepth 20000 in
theorem mw_89 : Cond.fieldLink "RootAlgebra$Factors" 14 "RootAlgebra$Factors" "field" "LRootAlgebra$Field;" ∈ wA := wA_in (zt_2 _ (List.mem_of_getElem? (i := 25) rfl)) rfl
set_option maxRecDepth 20000 in
theorem mw_90 : Cond.classLink "RootAlgebra$Factors" 20 "RootAlgebra$Padic" ∈ wA := wA_in (zt_2 _ (List.mem_of_getElem? (i := 3) rfl)) rfl
set_option maxRecDepth 20000 in
theorem mw_91 : Cond.instantiable "RootAlgebra$Padic" 3 ∈ wA := wA_in (zt_2 _ (List.mem_of_getElem? (i := 4) rfl)) rfl
set_option maxRecDepth 20000 in
theorem mw_92 : Cond.initialized "RootAlgebra$Padic" ∈ wA := wA_in (zt_1 _ (List.mem_of_getElem? (i := 10) rfl)) rfl
set_option maxRecDepth 20000 in
theorem mw_93 : Cond.code y_Padic_init b_Padic_init 1 none ∈ wA := wA_in (zt_2 _ (List.mem_of_getElem? (i := 7) rfl)) rfl
set_option maxRecDepth 20000 in
theorem mw_94 : Cond.methodLink "RootAlgebra$Factors" 22 y_Padic_init ∈ wA := wA_in (zt_2 _ (List.mem_of_getElem? (i := 5) rfl)) rfl
set_option maxRecDepth 20000 in
theorem mw_95 : Cond.instanceMethod y_Padic_init ∈ wA := wA_in (zt_2 _ (List.mem_of_getElem? (i := 6) rfl)) rfl
set_option maxRecDepth 20000 in
theorem mw_96 : Cond.fieldLink "RootAlgebra$Factors" 23 "RootAlgebra$Factors" "padic" "LRootAlgebra$Padic;" ∈ wA := wA_in (zt_2 _ (List.mem_of_getElem? (i := 26) rfl)) rfl
set_option maxRecDepth 20000 in
theorem mw_97 : Cond.classLink "RootAlgebra$Factors" 27 "RootAlgebra$Big" ∈ wA := wA_in (zt_2 _ (List.mem_of_getElem? (i := 21) rfl)) rfl
set_option maxRecDepth 20000 in
theorem mw_98 : Cond.methodLink "RootAlgebra$Factors" 29 y_Big_init ∈ wA := wA_in (zt_2 _ (List.mem_of_getElem? (i := 22) rfl)) rfl
set_option maxRecDepth 20000 in
theorem mw_99 : Cond.fieldLink "RootAlgebra$Factors" 32 "RootAlgebra$Factors" "modulus" "LRootAlgebra$Big;" ∈ wA := wA_in (zt_2 _ (List.mem_of_getElem? (i := 27) rfl)) rfl
set_option maxRecDepth 20000 in
theorem mw_100 : Cond.fieldLink "RootAlgebra$Factors" 36 "RootAlgebra$Factors" "whole" "[J" ∈ wA := wA_in (zt_2 _ (List.mem_of_getElem? (i := 28) rfl)) rfl
set_option maxRecDepth 20000 in
theorem mw_101 : Cond.fieldLink "RootAlgebra$Factors" 40 "RootAlgebra$Factors" "spare" "[J" ∈ wA := wA_in (zt_2 _ (List.mem_of_getElem? (i := 29) rfl)) rfl
set_option maxRecDepth 20000 in
theorem mw_102 : Cond.fieldLink "RootAlgebra$Factors" 43 "RootAlgebra$Factors" "base" "[J" ∈ wA := wA_in (zt_2 _ (List.mem_of_getElem? (i := 30) rfl)) rfl
set_option maxRecDepth 20000 in
theorem mw_103 : Cond.fieldLink "RootAlgebra$Factors" 46 "RootAlgebra$Factors" "row" "[J" ∈ wA := wA_in (zt_2 _ (List.mem_of_getElem? (i := 31) rfl)) rfl
set_option maxRecDepth 20000 in
theorem mw_104 : Cond.fieldLink "RootAlgebra$Factors" 49 "RootAlgebra$Factors" "mix" "[J" ∈ wA := wA_in (zt_2 _ (List.mem_of_getElem? (i := 32) rfl)) rfl
set_option maxRecDepth 20000 in
theorem mw_105 : Cond.fieldLink "RootAlgebra$Factors" 52 "RootAlgebra$Factors" "error" "[J" ∈ wA := wA_in (zt_2 _ (List.mem_of_getElem? (i := 33) rfl)) rfl
set_option maxRecDepth 20000 in
theorem mw_106 : Cond.classLink "RootAlgebra$Factors" 55 "[[J" ∈ wA := wA_in (zt_2 _ (List.mem_of_getElem? (i := 23) rfl)) rfl
set_option maxRecDepth 20000 in
theorem mw_107 : Cond.fieldLink "RootAlgebra$Factors" 57 "RootAlgebra$Factors" "matrix" "[[J" ∈ wA := wA_in (zt_2 _ (List.mem_of_getElem? (i := 34) rfl)) rfl
set_option maxRecDepth 20000 in
theorem mw_108 : Cond.fieldLink "RootAlgebra$Factors" 60 "RootAlgebra$Factors" "basis" "[[J" ∈ wA := wA_in (zt_2 _ (List.mem_of_getElem? (i := 35) rfl)) rfl
set_option maxRecDepth 20000 in
theorem mw_109 : Cond.fieldLink "RootAlgebra$Factors" 63 "RootAlgebra$Factors" "pieces" "[[J" ∈ wA := wA_in (zt_2 _ (List.mem_of_getElem? (i := 36) rfl)) rfl
set_option maxRecDepth 20000 in
theorem mw_110 : Cond.fieldLink "RootAlgebra$Factors" 66 "RootAlgebra$Factors" "inverses" "[[J" ∈ wA := wA_in (zt_2 _ (List.mem_of_getElem? (i := 37) rfl)) rfl
set_option maxRecDepth 20000 in
theorem mw_111 : Cond.fieldLink "RootAlgebra$Factors" 69 "RootAlgebra$Factors" "lifts" "[[J" ∈ wA := wA_in (zt_2 _ (List.mem_of_getElem? (i := 38) rfl)) rfl
set_option maxRecDepth 20000 in
theorem mw_112 : Cond.fieldLink "RootAlgebra$Factors" 72 "RootAlgebra$Factors" "product" "[J" ∈ wA := wA_in (zt_2 _ (List.mem_of_getElem? (i := 39) rfl)) rfl
set_option maxRecDepth 20000 in
theorem mw_113 : Cond.fieldLink "RootAlgebra$Factors" 75 "RootAlgebra$Factors" "sizes" "[I" ∈ wA := wA_in (zt_2 _ (List.mem_of_getElem? (i := 40) rfl)) rfl
set_option maxRecDepth 20000 in
theorem mw_114 : Cond.methodLink "RootAlgebra$Desk" 3 Lib.objectInit ∈ wA := wA_in (zt_1 _ (List.mem_of_getElem? (i := 155) rfl)) rfl
set_option maxRecDepth 20000 in
theorem mw_115 : Cond.classLink "RootAlgebra$Desk" 11 "RootAlgebra$Value" ∈ wA := wA_in (zt_1 _ (List.mem_of_getElem? (i := 156) rfl)) rfl
set_option maxRecDepth 20000 in
theorem mw_116 : Cond.fieldLink "RootAlgebra$Desk" 13 "RootAlgebra$Desk" "stack" "[LRootAlgebra$Value;" ∈ wA := wA_in (zt_2 _ (List.mem_of_getElem? (i := 201) rfl)) rfl
set_option maxRecDepth 20000 in
theorem mw_117 : Cond.instantiable "RootAlgebra$Value" 7 ∈ wA := wA_in (zt_1 _ (List.mem_of_getElem? (i := 57) rfl)) rfl
set_option maxRecDepth 20000 in
theorem mw_118 : Cond.code y_Value_init b_Value_init 1 none ∈ wA := wA_in (zt_1 _ (List.mem_of_getElem? (i := 60) rfl)) rfl
set_option maxRecDepth 20000 in
theorem mw_119 : Cond.methodLink "RootAlgebra$Desk" 17 y_Value_init ∈ wA := wA_in (zt_1 _ (List.mem_of_getElem? (i := 157) rfl)) rfl
set_option maxRecDepth 20000 in
theorem mw_120 : Cond.instanceMethod y_Value_init ∈ wA := wA_in (zt_1 _ (List.mem_of_getElem? (i := 59) rfl)) rfl
set_option maxRecDepth 20000 in
theorem mw_121 : Cond.fieldLink "RootAlgebra$Desk" 18 "RootAlgebra$Desk" "found" "LRootAlgebra$Value;" ∈ wA := wA_in (zt_2 _ (List.mem_of_getElem? (i := 202) rfl)) rfl
set_option maxRecDepth 20000 in
theorem mw_122 : Cond.classLink "RootAlgebra$Desk" 22 "RootAlgebra$Poly" ∈ wA := wA_in (zt_1 _ (List.mem_of_getElem? (i := 158) rfl)) rfl
set_option maxRecDepth 20000 in
theorem mw_123 : Cond.instantiable "RootAlgebra$Poly" 2 ∈ wA := wA_in (zt_1 _ (List.mem_of_getElem? (i := 159) rfl)) rfl
set_option maxRecDepth 20000 in
theorem mw_124 : Cond.initialized "RootAlgebra$Poly" ∈ wA := wA_in (zt_1 _ (List.mem_of_getElem? (i := 6) rfl)) rfl
set_option maxRecDepth 20000 in
theorem mw_125 : Cond.code y_Poly_init b_Poly_init 2 none ∈ wA := wA_in (zt_1 _ (List.mem_of_getElem? (i := 162) rfl)) rfl
set_option maxRecDepth 20000 in
theorem mw_126 : Cond.methodLink "RootAlgebra$Desk" 24 y_Poly_init ∈ wA := wA_in (zt_1 _ (List.mem_of_getElem? (i := 160) rfl)) rfl
set_option maxRecDepth 20000 in
theorem mw_127 : Cond.instanceMethod y_Poly_init ∈ wA := wA_in (zt_1 _ (List.mem_of_getElem? (i := 161) rfl)) rfl
set_option maxRecDepth 20000 in
theorem mw_128 : Cond.fieldLink "RootAlgebra$Desk" 25 "RootAlgebra$Desk" "poly" "LRootAlgebra$Poly;" ∈ wA := wA_in (zt_2 _ (List.mem_of_getElem? (i := 203) rfl)) rfl
set_option maxRecDepth 20000 in
theorem mw_129 : Cond.fieldLink "RootAlgebra$Desk" 29 "RootAlgebra$Desk" "candidate" "LRootAlgebra$Poly;" ∈ wA := wA_in (zt_2 _ (List.mem_of_getElem? (i := 204) rfl)) rfl
set_option maxRecDepth 20000 in
theorem mw_130 : Cond.fieldLink "RootAlgebra$Desk" 32 "RootAlgebra$Desk" "work" "LRootAlgebra$Poly;" ∈ wA := wA_in (zt_2 _ (List.mem_of_getElem? (i := 205) rfl)) rfl
set_option maxRecDepth 20000 in
theorem mw_131 : Cond.classLink "RootAlgebra$Desk" 35 "RootAlgebra$Sums" ∈ wA := wA_in (zt_1 _ (List.mem_of_getElem? (i := 184) rfl)) rfl
set_option maxRecDepth 20000 in
theorem mw_132 : Cond.instantiable "RootAlgebra$Sums" 4 ∈ wA := wA_in (zt_1 _ (List.mem_of_getElem? (i := 185) rfl)) rfl
set_option maxRecDepth 20000 in
theorem mw_133 : Cond.initialized "RootAlgebra$Sums" ∈ wA := wA_in (zt_1 _ (List.mem_of_getElem? (i := 7) rfl)) rfl
set_option maxRecDepth 20000 in
theorem mw_134 : Cond.code y_Sums_init b_Sums_init 2 none ∈ wA := wA_in (zt_1 _ (List.mem_of_getElem? (i := 188) rfl)) rfl
set_option maxRecDepth 20000 in
theorem mw_135 : Cond.methodLink "RootAlgebra$Desk" 37 y_Sums_init ∈ wA := wA_in (zt_1 _ (List.mem_of_getElem? (i := 186) rfl)) rfl
set_option maxRecDepth 20000 in
theorem mw_136 : Cond.instanceMethod y_Sums_init ∈ wA := wA_in (zt_1 _ (List.mem_of_getElem? (i := 187) rfl)) rfl
set_option maxRecDepth 20000 in
theorem mw_137 : Cond.fieldLink "RootAlgebra$Desk" 38 "RootAlgebra$Desk" "sums" "LRootAlgebra$Sums;" ∈ wA := wA_in (zt_2 _ (List.mem_of_getElem? (i := 206) rfl)) rfl
set_option maxRecDepth 20000 in
theorem mw_138 : Cond.classLink "RootAlgebra$Desk" 42 "RootAlgebra$Factors" ∈ wA := wA_in (zt_1 _ (List.mem_of_getElem? (i := 205) rfl)) rfl
set_option maxRecDepth 20000 in
theorem mw_139 : Cond.instantiable "RootAlgebra$Factors" 20 ∈ wA := wA_in (zt_1 _ (List.mem_of_getElem? (i := 206) rfl)) rfl
set_option maxRecDepth 20000 in
theorem mw_140 : Cond.initialized "RootAlgebra$Factors" ∈ wA := wA_in (zt_1 _ (List.mem_of_getElem? (i := 8) rfl)) rfl
set_option maxRecDepth 20000 in
theorem mw_141 : Cond.code y_Factors_init b_Factors_init 1 none ∈ wA := wA_in (zt_1 _ (List.mem_of_getElem? (i := 209) rfl)) rfl
set_option maxRecDepth 20000 in
theorem mw_142 : Cond.methodLink "RootAlgebra$Desk" 44 y_Factors_init ∈ wA := wA_in (zt_1 _ (List.mem_of_getElem? (i := 207) rfl)) rfl
set_option maxRecDepth 20000 in
theorem mw_143 : Cond.instanceMethod y_Factors_init ∈ wA := wA_in (zt_1 _ (List.mem_of_getElem? (i := 208) rfl)) rfl
set_option maxRecDepth 20000 in
theorem mw_144 : Cond.fieldLink "RootAlgebra$Desk" 45 "RootAlgebra$Desk" "factors" "LRootAlgebra$Factors;" ∈ wA := wA_in (zt_2 _ (List.mem_of_getElem? (i := 207) rfl)) rfl

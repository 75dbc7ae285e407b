/-! words of the tables, by their places; laid by program -/
theorem mw_0 : Cond.methodLink "RootAlgebra$Big" 1 Lib.objectInit ∈ wA := wA_in (List.mem_append_right _ (List.mem_of_getElem? (i := 36) (by decide +kernel))) rfl
theorem mw_1 : Cond.instanceMethod Lib.objectInit ∈ wA := wA_in (List.mem_append_right _ (List.mem_of_getElem? (i := 29) (by decide +kernel))) rfl
theorem mw_2 : Cond.code Lib.objectInit ⟨#[0xb1]⟩ 1 none ∈ wA := wA_in (List.mem_append_right _ (List.mem_of_getElem? (i := 30) (by decide +kernel))) rfl
theorem mw_3 : Cond.arrayClass .int ∈ wA := wA_in (List.mem_append_right _ (List.mem_of_getElem? (i := 54) (by decide +kernel))) rfl
theorem mw_4 : Cond.fieldLink "RootAlgebra$Big" 7 "RootAlgebra$Big" "words" "[I" ∈ wA := wA_in (List.mem_append_right _ (List.mem_of_getElem? (i := 37) (by decide +kernel))) rfl
theorem mw_5 : Cond.methodLink "RootAlgebra$Value" 3 Lib.objectInit ∈ wA := wA_in (List.mem_append_right _ (List.mem_of_getElem? (i := 61) (by decide +kernel))) rfl
theorem mw_6 : Cond.fieldLink "RootAlgebra$Value" 9 "RootAlgebra$Value" "c" "[I" ∈ wA := wA_in (List.mem_append_right _ (List.mem_of_getElem? (i := 64) (by decide +kernel))) rfl
theorem mw_7 : Cond.classLink "RootAlgebra$Value" 15 "RootAlgebra$Big" ∈ wA := wA_in (List.mem_append_right _ (List.mem_of_getElem? (i := 62) (by decide +kernel))) rfl
theorem mw_8 : Cond.instantiable "RootAlgebra$Big" 3 ∈ wA := wA_in (List.mem_append_right _ (List.mem_of_getElem? (i := 32) (by decide +kernel))) rfl
theorem mw_9 : Cond.initialized "RootAlgebra$Big" ∈ wA := wA_in (List.mem_append_right _ (List.mem_of_getElem? (i := 2) (by decide +kernel))) rfl
theorem mw_10 : Cond.code y_Big_init b_Big_init 2 none ∈ wA := wA_in (List.mem_append_right _ (List.mem_of_getElem? (i := 35) (by decide +kernel))) rfl
theorem mw_11 : Cond.methodLink "RootAlgebra$Value" 17 y_Big_init ∈ wA := wA_in (List.mem_append_right _ (List.mem_of_getElem? (i := 63) (by decide +kernel))) rfl
theorem mw_12 : Cond.instanceMethod y_Big_init ∈ wA := wA_in (List.mem_append_right _ (List.mem_of_getElem? (i := 34) (by decide +kernel))) rfl
theorem mw_13 : Cond.fieldLink "RootAlgebra$Value" 20 "RootAlgebra$Value" "low" "LRootAlgebra$Big;" ∈ wA := wA_in (List.mem_append_right _ (List.mem_of_getElem? (i := 71) (by decide +kernel))) rfl
theorem mw_14 : Cond.fieldLink "RootAlgebra$Big" 13 "RootAlgebra$Big" "sign" "I" ∈ wA := wA_in (List.mem_append_right _ (List.mem_of_getElem? (i := 39) (by decide +kernel))) rfl
theorem mw_15 : Cond.fieldLink "RootAlgebra$Big" 17 "RootAlgebra$Big" "size" "I" ∈ wA := wA_in (List.mem_append_right _ (List.mem_of_getElem? (i := 38) (by decide +kernel))) rfl
theorem mw_16 : Cond.fieldLink "RootAlgebra$Value" 31 "RootAlgebra$Value" "index" "I" ∈ wA := wA_in (List.mem_append_right _ (List.mem_of_getElem? (i := 80) (by decide +kernel))) rfl
theorem mw_17 : Cond.fieldLink "RootAlgebra$Value" 34 "RootAlgebra$Value" "roots" "I" ∈ wA := wA_in (List.mem_append_right _ (List.mem_of_getElem? (i := 84) (by decide +kernel))) rfl
theorem mw_18 : Cond.fieldLink "RootAlgebra$Value" 37 "RootAlgebra$Value" "negatives" "I" ∈ wA := wA_in (List.mem_append_right _ (List.mem_of_getElem? (i := 87) (by decide +kernel))) rfl
theorem mw_19 : Cond.fieldLink "RootAlgebra$Value" 40 "RootAlgebra$Value" "scale" "I" ∈ wA := wA_in (List.mem_append_right _ (List.mem_of_getElem? (i := 90) (by decide +kernel))) rfl
theorem mw_20 : Cond.code y_Big_setLong b_Big_setLong 6 none ∈ wA := wA_in (List.mem_append_right _ (List.mem_of_getElem? (i := 117) (by decide +kernel))) rfl
theorem mw_21 : Cond.methodLink "RootAlgebra$Value" 43 y_Big_setLong ∈ wA := wA_in (List.mem_append_right _ (List.mem_of_getElem? (i := 114) (by decide +kernel))) rfl
theorem mw_22 : Cond.instanceMethod y_Big_setLong ∈ wA := wA_in (List.mem_append_right _ (List.mem_of_getElem? (i := 115) (by decide +kernel))) rfl
theorem mw_23 : Cond.selects "RootAlgebra$Big" y_Big_setLong y_Big_setLong ∈ wA := wA_in (List.mem_append_right _ (List.mem_of_getElem? (i := 116) (by decide +kernel))) rfl
theorem mw_24 : Cond.fieldLink "RootAlgebra$Value" 24 "RootAlgebra$Value" "degree" "I" ∈ wA := wA_in (List.mem_append_right _ (List.mem_of_getElem? (i := 75) (by decide +kernel))) rfl
theorem mw_25 : Cond.code y_Value_finishFraction b_Value_finishFraction 1 none ∈ wA := wA_in (List.mem_append_right _ (List.mem_of_getElem? (i := 113) (by decide +kernel))) rfl
theorem mw_26 : Cond.initialized "RootAlgebra$Value" ∈ wA := wA_in (List.mem_append_right _ (List.mem_of_getElem? (i := 3) (by decide +kernel))) rfl
theorem mw_27 : Cond.methodLink "RootAlgebra$Value" 28 y_Value_finishFraction ∈ wA := wA_in (List.mem_append_right _ (List.mem_of_getElem? (i := 110) (by decide +kernel))) rfl
theorem mw_28 : Cond.instanceMethod y_Value_finishFraction ∈ wA := wA_in (List.mem_append_right _ (List.mem_of_getElem? (i := 111) (by decide +kernel))) rfl
theorem mw_29 : Cond.selects "RootAlgebra$Value" y_Value_finishFraction y_Value_finishFraction ∈ wA := wA_in (List.mem_append_right _ (List.mem_of_getElem? (i := 112) (by decide +kernel))) rfl
theorem mw_30 : Cond.methodLink "RootAlgebra$Poly" 1 Lib.objectInit ∈ wA := wA_in (List.mem_append_right _ (List.mem_of_getElem? (i := 163) (by decide +kernel))) rfl
theorem mw_31 : Cond.classLink "RootAlgebra$Poly" 9 "RootAlgebra$Big" ∈ wA := wA_in (List.mem_append_right _ (List.mem_of_getElem? (i := 164) (by decide +kernel))) rfl
theorem mw_32 : Cond.fieldLink "RootAlgebra$Poly" 11 "RootAlgebra$Poly" "c" "[LRootAlgebra$Big;" ∈ wA := wA_in (List.mem_append_right _ (List.mem_of_getElem? (i := 167) (by decide +kernel))) rfl
theorem mw_33 : Cond.methodLink "RootAlgebra$Poly" 15 y_Big_init ∈ wA := wA_in (List.mem_append_right _ (List.mem_of_getElem? (i := 166) (by decide +kernel))) rfl
theorem mw_34 : Cond.methodLink "RootAlgebra$Field" 1 Lib.objectInit ∈ wA := wA_in (List.mem_append_right _ (List.mem_of_getElem? (i := 216) (by decide +kernel))) rfl
theorem mw_35 : Cond.fieldLink "RootAlgebra$Field" 7 "RootAlgebra$Field" "p" "I" ∈ wA := wA_in (List.mem_append_right _ (List.mem_of_getElem? (i := 217) (by decide +kernel))) rfl
theorem mw_36 : Cond.arrayClass .long ∈ wA := wA_in (List.mem_append_right _ (List.mem_of_getElem? (i := 242) (by decide +kernel))) rfl
theorem mw_37 : Cond.fieldLink "RootAlgebra$Field" 13 "RootAlgebra$Field" "product" "[J" ∈ wA := wA_in (List.mem_append_right _ (List.mem_of_getElem? (i := 219) (by decide +kernel))) rfl
theorem mw_38 : Cond.fieldLink "RootAlgebra$Field" 17 "RootAlgebra$Field" "power" "[J" ∈ wA := wA_in (List.mem_append_right _ (List.mem_of_getElem? (i := 220) (by decide +kernel))) rfl
theorem mw_39 : Cond.fieldLink "RootAlgebra$Field" 20 "RootAlgebra$Field" "common" "[J" ∈ wA := wA_in (List.mem_append_right _ (List.mem_of_getElem? (i := 221) (by decide +kernel))) rfl
theorem mw_40 : Cond.fieldLink "RootAlgebra$Field" 23 "RootAlgebra$Field" "spareCommon" "[J" ∈ wA := wA_in (List.mem_append_right _ (List.mem_of_getElem? (i := 223) (by decide +kernel))) rfl
theorem mw_41 : Cond.fieldLink "RootAlgebra$Field" 26 "RootAlgebra$Field" "cofactor" "[J" ∈ wA := wA_in (List.mem_append_right _ (List.mem_of_getElem? (i := 224) (by decide +kernel))) rfl
theorem mw_42 : Cond.fieldLink "RootAlgebra$Field" 29 "RootAlgebra$Field" "spareCofactor" "[J" ∈ wA := wA_in (List.mem_append_right _ (List.mem_of_getElem? (i := 226) (by decide +kernel))) rfl
theorem mw_43 : Cond.methodLink "RootAlgebra$Padic" 7 Lib.objectInit ∈ wA := wA_in (List.mem_append_right _ (List.mem_of_getElem? (i := 248) (by decide +kernel))) rfl
theorem mw_44 : Cond.fieldLink "RootAlgebra$Padic" 13 "RootAlgebra$Padic" "p" "I" ∈ wA := wA_in (List.mem_append_right _ (List.mem_of_getElem? (i := 251) (by decide +kernel))) rfl
theorem mw_45 : Cond.classLink "RootAlgebra$Padic" 17 "RootAlgebra$Big" ∈ wA := wA_in (List.mem_append_right _ (List.mem_of_getElem? (i := 249) (by decide +kernel))) rfl
theorem mw_46 : Cond.methodLink "RootAlgebra$Padic" 19 y_Big_init ∈ wA := wA_in (List.mem_append_right _ (List.mem_of_getElem? (i := 250) (by decide +kernel))) rfl
theorem mw_47 : Cond.fieldLink "RootAlgebra$Padic" 22 "RootAlgebra$Padic" "rest" "LRootAlgebra$Big;" ∈ wA := wA_in (List.mem_append_right _ (List.mem_of_getElem? (i := 253) (by decide +kernel))) rfl
theorem mw_48 : Cond.methodLink "RootAlgebra$Reader" 3 Lib.objectInit ∈ wA := wA_in (List.mem_append_right _ (List.mem_of_getElem? (i := 123) (by decide +kernel))) rfl
theorem mw_49 : Cond.fieldLink "RootAlgebra$Reader" 9 "RootAlgebra$Reader" "tape" "[B" ∈ wA := wA_in (List.mem_append_right _ (List.mem_of_getElem? (i := 126) (by decide +kernel))) rfl
theorem mw_50 : Cond.fieldLink "RootAlgebra$Reader" 15 "RootAlgebra$Reader" "code" "[I" ∈ wA := wA_in (List.mem_append_right _ (List.mem_of_getElem? (i := 124) (by decide +kernel))) rfl
theorem mw_51 : Cond.methodLink "RootAlgebra$Gauge" 1 Lib.objectInit ∈ wA := wA_in (List.mem_append_right _ (List.mem_of_getElem? (i := 385) (by decide +kernel))) rfl
theorem mw_52 : Cond.classLink "RootAlgebra$Gauge" 7 "RootAlgebra$Big" ∈ wA := wA_in (List.mem_append_right _ (List.mem_of_getElem? (i := 386) (by decide +kernel))) rfl
theorem mw_53 : Cond.methodLink "RootAlgebra$Gauge" 11 y_Big_init ∈ wA := wA_in (List.mem_append_right _ (List.mem_of_getElem? (i := 387) (by decide +kernel))) rfl
theorem mw_54 : Cond.fieldLink "RootAlgebra$Gauge" 14 "RootAlgebra$Gauge" "left" "LRootAlgebra$Big;" ∈ wA := wA_in (List.mem_append_right _ (List.mem_of_getElem? (i := 388) (by decide +kernel))) rfl
theorem mw_55 : Cond.fieldLink "RootAlgebra$Gauge" 18 "RootAlgebra$Gauge" "right" "LRootAlgebra$Big;" ∈ wA := wA_in (List.mem_append_right _ (List.mem_of_getElem? (i := 389) (by decide +kernel))) rfl
theorem mw_56 : Cond.fieldLink "RootAlgebra$Gauge" 21 "RootAlgebra$Gauge" "here" "LRootAlgebra$Big;" ∈ wA := wA_in (List.mem_append_right _ (List.mem_of_getElem? (i := 390) (by decide +kernel))) rfl
theorem mw_57 : Cond.fieldLink "RootAlgebra$Gauge" 24 "RootAlgebra$Gauge" "beside" "LRootAlgebra$Big;" ∈ wA := wA_in (List.mem_append_right _ (List.mem_of_getElem? (i := 391) (by decide +kernel))) rfl
theorem mw_58 : Cond.fieldLink "RootAlgebra$Gauge" 27 "RootAlgebra$Gauge" "at" "LRootAlgebra$Big;" ∈ wA := wA_in (List.mem_append_right _ (List.mem_of_getElem? (i := 392) (by decide +kernel))) rfl
theorem mw_59 : Cond.fieldLink "RootAlgebra$Gauge" 30 "RootAlgebra$Gauge" "point" "LRootAlgebra$Big;" ∈ wA := wA_in (List.mem_append_right _ (List.mem_of_getElem? (i := 393) (by decide +kernel))) rfl
theorem mw_60 : Cond.fieldLink "RootAlgebra$Gauge" 33 "RootAlgebra$Gauge" "term" "LRootAlgebra$Big;" ∈ wA := wA_in (List.mem_append_right _ (List.mem_of_getElem? (i := 394) (by decide +kernel))) rfl
theorem mw_61 : Cond.fieldLink "RootAlgebra$Gauge" 36 "RootAlgebra$Gauge" "spare" "LRootAlgebra$Big;" ∈ wA := wA_in (List.mem_append_right _ (List.mem_of_getElem? (i := 395) (by decide +kernel))) rfl
theorem mw_62 : Cond.fieldLink "RootAlgebra$Gauge" 39 "RootAlgebra$Gauge" "mid" "LRootAlgebra$Big;" ∈ wA := wA_in (List.mem_append_right _ (List.mem_of_getElem? (i := 396) (by decide +kernel))) rfl
theorem mw_63 : Cond.fieldLink "RootAlgebra$Gauge" 42 "RootAlgebra$Gauge" "one" "LRootAlgebra$Big;" ∈ wA := wA_in (List.mem_append_right _ (List.mem_of_getElem? (i := 397) (by decide +kernel))) rfl
theorem mw_64 : Cond.fieldLink "RootAlgebra$Gauge" 45 "RootAlgebra$Gauge" "other" "LRootAlgebra$Big;" ∈ wA := wA_in (List.mem_append_right _ (List.mem_of_getElem? (i := 398) (by decide +kernel))) rfl
theorem mw_65 : Cond.methodLink "RootAlgebra$Sums" 1 Lib.objectInit ∈ wA := wA_in (List.mem_append_right _ (List.mem_of_getElem? (i := 189) (by decide +kernel))) rfl
theorem mw_66 : Cond.classLink "RootAlgebra$Sums" 9 "RootAlgebra$Big" ∈ wA := wA_in (List.mem_append_right _ (List.mem_of_getElem? (i := 190) (by decide +kernel))) rfl
theorem mw_67 : Cond.fieldLink "RootAlgebra$Sums" 11 "RootAlgebra$Sums" "left" "[LRootAlgebra$Big;" ∈ wA := wA_in (List.mem_append_right _ (List.mem_of_getElem? (i := 192) (by decide +kernel))) rfl
theorem mw_68 : Cond.fieldLink "RootAlgebra$Sums" 17 "RootAlgebra$Sums" "right" "[LRootAlgebra$Big;" ∈ wA := wA_in (List.mem_append_right _ (List.mem_of_getElem? (i := 193) (by decide +kernel))) rfl
theorem mw_69 : Cond.fieldLink "RootAlgebra$Sums" 20 "RootAlgebra$Sums" "both" "[LRootAlgebra$Big;" ∈ wA := wA_in (List.mem_append_right _ (List.mem_of_getElem? (i := 194) (by decide +kernel))) rfl
theorem mw_70 : Cond.methodLink "RootAlgebra$Sums" 23 y_Big_init ∈ wA := wA_in (List.mem_append_right _ (List.mem_of_getElem? (i := 191) (by decide +kernel))) rfl
theorem mw_71 : Cond.fieldLink "RootAlgebra$Sums" 26 "RootAlgebra$Sums" "term" "LRootAlgebra$Big;" ∈ wA := wA_in (List.mem_append_right _ (List.mem_of_getElem? (i := 195) (by decide +kernel))) rfl
theorem mw_72 : Cond.methodLink "RootAlgebra$Isolator" 1 Lib.objectInit ∈ wA := wA_in (List.mem_append_right _ (List.mem_of_getElem? (i := 331) (by decide +kernel))) rfl
theorem mw_73 : Cond.classLink "RootAlgebra$Isolator" 9 "RootAlgebra$Big" ∈ wA := wA_in (List.mem_append_right _ (List.mem_of_getElem? (i := 332) (by decide +kernel))) rfl
theorem mw_74 : Cond.fieldLink "RootAlgebra$Isolator" 11 "RootAlgebra$Isolator" "f" "[LRootAlgebra$Big;" ∈ wA := wA_in (List.mem_append_right _ (List.mem_of_getElem? (i := 334) (by decide +kernel))) rfl
theorem mw_75 : Cond.fieldLink "RootAlgebra$Isolator" 17 "RootAlgebra$Isolator" "g" "[LRootAlgebra$Big;" ∈ wA := wA_in (List.mem_append_right _ (List.mem_of_getElem? (i := 335) (by decide +kernel))) rfl
theorem mw_76 : Cond.methodLink "RootAlgebra$Isolator" 20 y_Big_init ∈ wA := wA_in (List.mem_append_right _ (List.mem_of_getElem? (i := 333) (by decide +kernel))) rfl
theorem mw_77 : Cond.fieldLink "RootAlgebra$Isolator" 25 "RootAlgebra$Isolator" "cell" "LRootAlgebra$Big;" ∈ wA := wA_in (List.mem_append_right _ (List.mem_of_getElem? (i := 336) (by decide +kernel))) rfl
theorem mw_78 : Cond.fieldLink "RootAlgebra$Isolator" 29 "RootAlgebra$Isolator" "low" "[LRootAlgebra$Big;" ∈ wA := wA_in (List.mem_append_right _ (List.mem_of_getElem? (i := 337) (by decide +kernel))) rfl
theorem mw_79 : Cond.fieldLink "RootAlgebra$Isolator" 32 "RootAlgebra$Isolator" "scale" "[I" ∈ wA := wA_in (List.mem_append_right _ (List.mem_of_getElem? (i := 341) (by decide +kernel))) rfl
theorem mw_80 : Cond.arrayClass .boolean ∈ wA := wA_in (List.mem_append_right _ (List.mem_of_getElem? (i := 379) (by decide +kernel))) rfl
theorem mw_81 : Cond.fieldLink "RootAlgebra$Isolator" 36 "RootAlgebra$Isolator" "exact" "[Z" ∈ wA := wA_in (List.mem_append_right _ (List.mem_of_getElem? (i := 345) (by decide +kernel))) rfl
theorem mw_82 : Cond.methodLink "RootAlgebra$Factors" 5 Lib.objectInit ∈ wA := wA_in (List.mem_append_right _ (List.mem_of_getElem? (i := 210) (by decide +kernel))) rfl
theorem mw_83 : Cond.classLink "RootAlgebra$Factors" 11 "RootAlgebra$Field" ∈ wA := wA_in (List.mem_append_right _ (List.mem_of_getElem? (i := 211) (by decide +kernel))) rfl
theorem mw_84 : Cond.instantiable "RootAlgebra$Field" 7 ∈ wA := wA_in (List.mem_append_right _ (List.mem_of_getElem? (i := 212) (by decide +kernel))) rfl
theorem mw_85 : Cond.initialized "RootAlgebra$Field" ∈ wA := wA_in (List.mem_append_right _ (List.mem_of_getElem? (i := 9) (by decide +kernel))) rfl
theorem mw_86 : Cond.code y_Field_init b_Field_init 1 none ∈ wA := wA_in (List.mem_append_right _ (List.mem_of_getElem? (i := 215) (by decide +kernel))) rfl
theorem mw_87 : Cond.methodLink "RootAlgebra$Factors" 13 y_Field_init ∈ wA := wA_in (List.mem_append_right _ (List.mem_of_getElem? (i := 213) (by decide +kernel))) rfl
theorem mw_88 : Cond.instanceMethod y_Field_init ∈ wA := wA_in (List.mem_append_right _ (List.mem_of_getElem? (i := 214) (by decide +kernel))) rfl
theorem mw_89 : Cond.fieldLink "RootAlgebra$Factors" 14 "RootAlgebra$Factors" "field" "LRootAlgebra$Field;" ∈ wA := wA_in (List.mem_append_right _ (List.mem_of_getElem? (i := 265) (by decide +kernel))) rfl
theorem mw_90 : Cond.classLink "RootAlgebra$Factors" 20 "RootAlgebra$Padic" ∈ wA := wA_in (List.mem_append_right _ (List.mem_of_getElem? (i := 243) (by decide +kernel))) rfl
theorem mw_91 : Cond.instantiable "RootAlgebra$Padic" 3 ∈ wA := wA_in (List.mem_append_right _ (List.mem_of_getElem? (i := 244) (by decide +kernel))) rfl
theorem mw_92 : Cond.initialized "RootAlgebra$Padic" ∈ wA := wA_in (List.mem_append_right _ (List.mem_of_getElem? (i := 10) (by decide +kernel))) rfl
theorem mw_93 : Cond.code y_Padic_init b_Padic_init 1 none ∈ wA := wA_in (List.mem_append_right _ (List.mem_of_getElem? (i := 247) (by decide +kernel))) rfl
theorem mw_94 : Cond.methodLink "RootAlgebra$Factors" 22 y_Padic_init ∈ wA := wA_in (List.mem_append_right _ (List.mem_of_getElem? (i := 245) (by decide +kernel))) rfl
theorem mw_95 : Cond.instanceMethod y_Padic_init ∈ wA := wA_in (List.mem_append_right _ (List.mem_of_getElem? (i := 246) (by decide +kernel))) rfl
theorem mw_96 : Cond.fieldLink "RootAlgebra$Factors" 23 "RootAlgebra$Factors" "padic" "LRootAlgebra$Padic;" ∈ wA := wA_in (List.mem_append_right _ (List.mem_of_getElem? (i := 266) (by decide +kernel))) rfl
theorem mw_97 : Cond.classLink "RootAlgebra$Factors" 27 "RootAlgebra$Big" ∈ wA := wA_in (List.mem_append_right _ (List.mem_of_getElem? (i := 261) (by decide +kernel))) rfl
theorem mw_98 : Cond.methodLink "RootAlgebra$Factors" 29 y_Big_init ∈ wA := wA_in (List.mem_append_right _ (List.mem_of_getElem? (i := 262) (by decide +kernel))) rfl
theorem mw_99 : Cond.fieldLink "RootAlgebra$Factors" 32 "RootAlgebra$Factors" "modulus" "LRootAlgebra$Big;" ∈ wA := wA_in (List.mem_append_right _ (List.mem_of_getElem? (i := 267) (by decide +kernel))) rfl
theorem mw_100 : Cond.fieldLink "RootAlgebra$Factors" 36 "RootAlgebra$Factors" "whole" "[J" ∈ wA := wA_in (List.mem_append_right _ (List.mem_of_getElem? (i := 268) (by decide +kernel))) rfl
theorem mw_101 : Cond.fieldLink "RootAlgebra$Factors" 40 "RootAlgebra$Factors" "spare" "[J" ∈ wA := wA_in (List.mem_append_right _ (List.mem_of_getElem? (i := 269) (by decide +kernel))) rfl
theorem mw_102 : Cond.fieldLink "RootAlgebra$Factors" 43 "RootAlgebra$Factors" "base" "[J" ∈ wA := wA_in (List.mem_append_right _ (List.mem_of_getElem? (i := 270) (by decide +kernel))) rfl
theorem mw_103 : Cond.fieldLink "RootAlgebra$Factors" 46 "RootAlgebra$Factors" "row" "[J" ∈ wA := wA_in (List.mem_append_right _ (List.mem_of_getElem? (i := 271) (by decide +kernel))) rfl
theorem mw_104 : Cond.fieldLink "RootAlgebra$Factors" 49 "RootAlgebra$Factors" "mix" "[J" ∈ wA := wA_in (List.mem_append_right _ (List.mem_of_getElem? (i := 272) (by decide +kernel))) rfl
theorem mw_105 : Cond.fieldLink "RootAlgebra$Factors" 52 "RootAlgebra$Factors" "error" "[J" ∈ wA := wA_in (List.mem_append_right _ (List.mem_of_getElem? (i := 273) (by decide +kernel))) rfl
theorem mw_106 : Cond.classLink "RootAlgebra$Factors" 55 "[[J" ∈ wA := wA_in (List.mem_append_right _ (List.mem_of_getElem? (i := 263) (by decide +kernel))) rfl
theorem mw_107 : Cond.fieldLink "RootAlgebra$Factors" 57 "RootAlgebra$Factors" "matrix" "[[J" ∈ wA := wA_in (List.mem_append_right _ (List.mem_of_getElem? (i := 274) (by decide +kernel))) rfl
theorem mw_108 : Cond.fieldLink "RootAlgebra$Factors" 60 "RootAlgebra$Factors" "basis" "[[J" ∈ wA := wA_in (List.mem_append_right _ (List.mem_of_getElem? (i := 275) (by decide +kernel))) rfl
theorem mw_109 : Cond.fieldLink "RootAlgebra$Factors" 63 "RootAlgebra$Factors" "pieces" "[[J" ∈ wA := wA_in (List.mem_append_right _ (List.mem_of_getElem? (i := 276) (by decide +kernel))) rfl
theorem mw_110 : Cond.fieldLink "RootAlgebra$Factors" 66 "RootAlgebra$Factors" "inverses" "[[J" ∈ wA := wA_in (List.mem_append_right _ (List.mem_of_getElem? (i := 277) (by decide +kernel))) rfl
theorem mw_111 : Cond.fieldLink "RootAlgebra$Factors" 69 "RootAlgebra$Factors" "lifts" "[[J" ∈ wA := wA_in (List.mem_append_right _ (List.mem_of_getElem? (i := 278) (by decide +kernel))) rfl
theorem mw_112 : Cond.fieldLink "RootAlgebra$Factors" 72 "RootAlgebra$Factors" "product" "[J" ∈ wA := wA_in (List.mem_append_right _ (List.mem_of_getElem? (i := 279) (by decide +kernel))) rfl
theorem mw_113 : Cond.fieldLink "RootAlgebra$Factors" 75 "RootAlgebra$Factors" "sizes" "[I" ∈ wA := wA_in (List.mem_append_right _ (List.mem_of_getElem? (i := 280) (by decide +kernel))) rfl
theorem mw_114 : Cond.methodLink "RootAlgebra$Desk" 3 Lib.objectInit ∈ wA := wA_in (List.mem_append_right _ (List.mem_of_getElem? (i := 155) (by decide +kernel))) rfl
theorem mw_115 : Cond.classLink "RootAlgebra$Desk" 11 "RootAlgebra$Value" ∈ wA := wA_in (List.mem_append_right _ (List.mem_of_getElem? (i := 156) (by decide +kernel))) rfl
theorem mw_116 : Cond.fieldLink "RootAlgebra$Desk" 13 "RootAlgebra$Desk" "stack" "[LRootAlgebra$Value;" ∈ wA := wA_in (List.mem_append_right _ (List.mem_of_getElem? (i := 441) (by decide +kernel))) rfl
theorem mw_117 : Cond.instantiable "RootAlgebra$Value" 7 ∈ wA := wA_in (List.mem_append_right _ (List.mem_of_getElem? (i := 57) (by decide +kernel))) rfl
theorem mw_118 : Cond.code y_Value_init b_Value_init 1 none ∈ wA := wA_in (List.mem_append_right _ (List.mem_of_getElem? (i := 60) (by decide +kernel))) rfl
theorem mw_119 : Cond.methodLink "RootAlgebra$Desk" 17 y_Value_init ∈ wA := wA_in (List.mem_append_right _ (List.mem_of_getElem? (i := 157) (by decide +kernel))) rfl
theorem mw_120 : Cond.instanceMethod y_Value_init ∈ wA := wA_in (List.mem_append_right _ (List.mem_of_getElem? (i := 59) (by decide +kernel))) rfl
theorem mw_121 : Cond.fieldLink "RootAlgebra$Desk" 18 "RootAlgebra$Desk" "found" "LRootAlgebra$Value;" ∈ wA := wA_in (List.mem_append_right _ (List.mem_of_getElem? (i := 442) (by decide +kernel))) rfl
theorem mw_122 : Cond.classLink "RootAlgebra$Desk" 22 "RootAlgebra$Poly" ∈ wA := wA_in (List.mem_append_right _ (List.mem_of_getElem? (i := 158) (by decide +kernel))) rfl
theorem mw_123 : Cond.instantiable "RootAlgebra$Poly" 2 ∈ wA := wA_in (List.mem_append_right _ (List.mem_of_getElem? (i := 159) (by decide +kernel))) rfl
theorem mw_124 : Cond.initialized "RootAlgebra$Poly" ∈ wA := wA_in (List.mem_append_right _ (List.mem_of_getElem? (i := 6) (by decide +kernel))) rfl
theorem mw_125 : Cond.code y_Poly_init b_Poly_init 2 none ∈ wA := wA_in (List.mem_append_right _ (List.mem_of_getElem? (i := 162) (by decide +kernel))) rfl
theorem mw_126 : Cond.methodLink "RootAlgebra$Desk" 24 y_Poly_init ∈ wA := wA_in (List.mem_append_right _ (List.mem_of_getElem? (i := 160) (by decide +kernel))) rfl
theorem mw_127 : Cond.instanceMethod y_Poly_init ∈ wA := wA_in (List.mem_append_right _ (List.mem_of_getElem? (i := 161) (by decide +kernel))) rfl
theorem mw_128 : Cond.fieldLink "RootAlgebra$Desk" 25 "RootAlgebra$Desk" "poly" "LRootAlgebra$Poly;" ∈ wA := wA_in (List.mem_append_right _ (List.mem_of_getElem? (i := 443) (by decide +kernel))) rfl
theorem mw_129 : Cond.fieldLink "RootAlgebra$Desk" 29 "RootAlgebra$Desk" "candidate" "LRootAlgebra$Poly;" ∈ wA := wA_in (List.mem_append_right _ (List.mem_of_getElem? (i := 444) (by decide +kernel))) rfl
theorem mw_130 : Cond.fieldLink "RootAlgebra$Desk" 32 "RootAlgebra$Desk" "work" "LRootAlgebra$Poly;" ∈ wA := wA_in (List.mem_append_right _ (List.mem_of_getElem? (i := 445) (by decide +kernel))) rfl
theorem mw_131 : Cond.classLink "RootAlgebra$Desk" 35 "RootAlgebra$Sums" ∈ wA := wA_in (List.mem_append_right _ (List.mem_of_getElem? (i := 184) (by decide +kernel))) rfl
theorem mw_132 : Cond.instantiable "RootAlgebra$Sums" 4 ∈ wA := wA_in (List.mem_append_right _ (List.mem_of_getElem? (i := 185) (by decide +kernel))) rfl
theorem mw_133 : Cond.initialized "RootAlgebra$Sums" ∈ wA := wA_in (List.mem_append_right _ (List.mem_of_getElem? (i := 7) (by decide +kernel))) rfl
theorem mw_134 : Cond.code y_Sums_init b_Sums_init 2 none ∈ wA := wA_in (List.mem_append_right _ (List.mem_of_getElem? (i := 188) (by decide +kernel))) rfl
theorem mw_135 : Cond.methodLink "RootAlgebra$Desk" 37 y_Sums_init ∈ wA := wA_in (List.mem_append_right _ (List.mem_of_getElem? (i := 186) (by decide +kernel))) rfl
theorem mw_136 : Cond.instanceMethod y_Sums_init ∈ wA := wA_in (List.mem_append_right _ (List.mem_of_getElem? (i := 187) (by decide +kernel))) rfl
theorem mw_137 : Cond.fieldLink "RootAlgebra$Desk" 38 "RootAlgebra$Desk" "sums" "LRootAlgebra$Sums;" ∈ wA := wA_in (List.mem_append_right _ (List.mem_of_getElem? (i := 446) (by decide +kernel))) rfl
theorem mw_138 : Cond.classLink "RootAlgebra$Desk" 42 "RootAlgebra$Factors" ∈ wA := wA_in (List.mem_append_right _ (List.mem_of_getElem? (i := 205) (by decide +kernel))) rfl
theorem mw_139 : Cond.instantiable "RootAlgebra$Factors" 20 ∈ wA := wA_in (List.mem_append_right _ (List.mem_of_getElem? (i := 206) (by decide +kernel))) rfl
theorem mw_140 : Cond.initialized "RootAlgebra$Factors" ∈ wA := wA_in (List.mem_append_right _ (List.mem_of_getElem? (i := 8) (by decide +kernel))) rfl
theorem mw_141 : Cond.code y_Factors_init b_Factors_init 1 none ∈ wA := wA_in (List.mem_append_right _ (List.mem_of_getElem? (i := 209) (by decide +kernel))) rfl
theorem mw_142 : Cond.methodLink "RootAlgebra$Desk" 44 y_Factors_init ∈ wA := wA_in (List.mem_append_right _ (List.mem_of_getElem? (i := 207) (by decide +kernel))) rfl
theorem mw_143 : Cond.instanceMethod y_Factors_init ∈ wA := wA_in (List.mem_append_right _ (List.mem_of_getElem? (i := 208) (by decide +kernel))) rfl
theorem mw_144 : Cond.fieldLink "RootAlgebra$Desk" 45 "RootAlgebra$Desk" "factors" "LRootAlgebra$Factors;" ∈ wA := wA_in (List.mem_append_right _ (List.mem_of_getElem? (i := 447) (by decide +kernel))) rfl
theorem mw_145 : Cond.classLink "RootAlgebra$Desk" 49 "RootAlgebra$Isolator" ∈ wA := wA_in (List.mem_append_right _ (List.mem_of_getElem? (i := 326) (by decide +kernel))) rfl
theorem mw_146 : Cond.instantiable "RootAlgebra$Isolator" 11 ∈ wA := wA_in (List.mem_append_right _ (List.mem_of_getElem? (i := 327) (by decide +kernel))) rfl
theorem mw_147 : Cond.initialized "RootAlgebra$Isolator" ∈ wA := wA_in (List.mem_append_right _ (List.mem_of_getElem? (i := 11) (by decide +kernel))) rfl
theorem mw_148 : Cond.code y_Isolator_init b_Isolator_init 2 none ∈ wA := wA_in (List.mem_append_right _ (List.mem_of_getElem? (i := 330) (by decide +kernel))) rfl
theorem mw_149 : Cond.methodLink "RootAlgebra$Desk" 51 y_Isolator_init ∈ wA := wA_in (List.mem_append_right _ (List.mem_of_getElem? (i := 328) (by decide +kernel))) rfl
theorem mw_150 : Cond.instanceMethod y_Isolator_init ∈ wA := wA_in (List.mem_append_right _ (List.mem_of_getElem? (i := 329) (by decide +kernel))) rfl
theorem mw_151 : Cond.fieldLink "RootAlgebra$Desk" 52 "RootAlgebra$Desk" "isolator" "LRootAlgebra$Isolator;" ∈ wA := wA_in (List.mem_append_right _ (List.mem_of_getElem? (i := 448) (by decide +kernel))) rfl
theorem mw_152 : Cond.classLink "RootAlgebra$Desk" 56 "RootAlgebra$Gauge" ∈ wA := wA_in (List.mem_append_right _ (List.mem_of_getElem? (i := 380) (by decide +kernel))) rfl
theorem mw_153 : Cond.instantiable "RootAlgebra$Gauge" 17 ∈ wA := wA_in (List.mem_append_right _ (List.mem_of_getElem? (i := 381) (by decide +kernel))) rfl
theorem mw_154 : Cond.initialized "RootAlgebra$Gauge" ∈ wA := wA_in (List.mem_append_right _ (List.mem_of_getElem? (i := 12) (by decide +kernel))) rfl
theorem mw_155 : Cond.code y_Gauge_init b_Gauge_init 1 none ∈ wA := wA_in (List.mem_append_right _ (List.mem_of_getElem? (i := 384) (by decide +kernel))) rfl
theorem mw_156 : Cond.methodLink "RootAlgebra$Desk" 58 y_Gauge_init ∈ wA := wA_in (List.mem_append_right _ (List.mem_of_getElem? (i := 382) (by decide +kernel))) rfl
theorem mw_157 : Cond.instanceMethod y_Gauge_init ∈ wA := wA_in (List.mem_append_right _ (List.mem_of_getElem? (i := 383) (by decide +kernel))) rfl
theorem mw_158 : Cond.fieldLink "RootAlgebra$Desk" 59 "RootAlgebra$Desk" "gauge" "LRootAlgebra$Gauge;" ∈ wA := wA_in (List.mem_append_right _ (List.mem_of_getElem? (i := 449) (by decide +kernel))) rfl
theorem mw_159 : Cond.methodLink "RootAlgebra" 1 Lib.objectInit ∈ wA := wA_in (List.mem_append_right _ (List.mem_of_getElem? (i := 28) (by decide +kernel))) rfl
theorem mw_160 : Cond.arrayClass .byte ∈ wA := wA_in (List.mem_append_right _ (List.mem_of_getElem? (i := 53) (by decide +kernel))) rfl
theorem mw_161 : Cond.fieldLink "RootAlgebra" 9 "RootAlgebra" "tape" "[B" ∈ wA := wA_in (List.mem_append_right _ (List.mem_of_getElem? (i := 480) (by decide +kernel))) rfl
theorem mw_162 : Cond.fieldLink "RootAlgebra" 13 "RootAlgebra" "text" "[B" ∈ wA := wA_in (List.mem_append_right _ (List.mem_of_getElem? (i := 481) (by decide +kernel))) rfl
theorem mw_163 : Cond.fieldLink "RootAlgebra" 16 "RootAlgebra" "digits" "[B" ∈ wA := wA_in (List.mem_append_right _ (List.mem_of_getElem? (i := 482) (by decide +kernel))) rfl
theorem mw_164 : Cond.classLink "RootAlgebra" 19 "RootAlgebra$Big" ∈ wA := wA_in (List.mem_append_right _ (List.mem_of_getElem? (i := 31) (by decide +kernel))) rfl
theorem mw_165 : Cond.methodLink "RootAlgebra" 21 y_Big_init ∈ wA := wA_in (List.mem_append_right _ (List.mem_of_getElem? (i := 33) (by decide +kernel))) rfl
theorem mw_166 : Cond.fieldLink "RootAlgebra" 24 "RootAlgebra" "rest" "LRootAlgebra$Big;" ∈ wA := wA_in (List.mem_append_right _ (List.mem_of_getElem? (i := 483) (by decide +kernel))) rfl
theorem mw_167 : Cond.classLink "RootAlgebra" 28 "RootAlgebra$Value" ∈ wA := wA_in (List.mem_append_right _ (List.mem_of_getElem? (i := 55) (by decide +kernel))) rfl
theorem mw_168 : Cond.fieldLink "RootAlgebra" 30 "RootAlgebra" "values" "[LRootAlgebra$Value;" ∈ wA := wA_in (List.mem_append_right _ (List.mem_of_getElem? (i := 484) (by decide +kernel))) rfl
theorem mw_169 : Cond.methodLink "RootAlgebra" 34 y_Value_init ∈ wA := wA_in (List.mem_append_right _ (List.mem_of_getElem? (i := 58) (by decide +kernel))) rfl
theorem mw_170 : Cond.code y_Value_setFraction b_Value_setFraction 3 none ∈ wA := wA_in (List.mem_append_right _ (List.mem_of_getElem? (i := 109) (by decide +kernel))) rfl
theorem mw_171 : Cond.methodLink "RootAlgebra" 35 y_Value_setFraction ∈ wA := wA_in (List.mem_append_right _ (List.mem_of_getElem? (i := 106) (by decide +kernel))) rfl
theorem mw_172 : Cond.instanceMethod y_Value_setFraction ∈ wA := wA_in (List.mem_append_right _ (List.mem_of_getElem? (i := 107) (by decide +kernel))) rfl
theorem mw_173 : Cond.selects "RootAlgebra$Value" y_Value_setFraction y_Value_setFraction ∈ wA := wA_in (List.mem_append_right _ (List.mem_of_getElem? (i := 108) (by decide +kernel))) rfl
theorem mw_174 : Cond.classLink "RootAlgebra" 39 "RootAlgebra$Reader" ∈ wA := wA_in (List.mem_append_right _ (List.mem_of_getElem? (i := 118) (by decide +kernel))) rfl
theorem mw_175 : Cond.instantiable "RootAlgebra$Reader" 7 ∈ wA := wA_in (List.mem_append_right _ (List.mem_of_getElem? (i := 119) (by decide +kernel))) rfl
theorem mw_176 : Cond.initialized "RootAlgebra$Reader" ∈ wA := wA_in (List.mem_append_right _ (List.mem_of_getElem? (i := 4) (by decide +kernel))) rfl
theorem mw_177 : Cond.code y_Reader_init b_Reader_init 2 none ∈ wA := wA_in (List.mem_append_right _ (List.mem_of_getElem? (i := 122) (by decide +kernel))) rfl
theorem mw_178 : Cond.methodLink "RootAlgebra" 41 y_Reader_init ∈ wA := wA_in (List.mem_append_right _ (List.mem_of_getElem? (i := 120) (by decide +kernel))) rfl
theorem mw_179 : Cond.instanceMethod y_Reader_init ∈ wA := wA_in (List.mem_append_right _ (List.mem_of_getElem? (i := 121) (by decide +kernel))) rfl
theorem mw_180 : Cond.fieldLink "RootAlgebra" 44 "RootAlgebra" "reader" "LRootAlgebra$Reader;" ∈ wA := wA_in (List.mem_append_right _ (List.mem_of_getElem? (i := 485) (by decide +kernel))) rfl
theorem mw_181 : Cond.classLink "RootAlgebra" 48 "RootAlgebra$Desk" ∈ wA := wA_in (List.mem_append_right _ (List.mem_of_getElem? (i := 150) (by decide +kernel))) rfl
theorem mw_182 : Cond.instantiable "RootAlgebra$Desk" 12 ∈ wA := wA_in (List.mem_append_right _ (List.mem_of_getElem? (i := 151) (by decide +kernel))) rfl
theorem mw_183 : Cond.initialized "RootAlgebra$Desk" ∈ wA := wA_in (List.mem_append_right _ (List.mem_of_getElem? (i := 5) (by decide +kernel))) rfl
theorem mw_184 : Cond.code y_Desk_init b_Desk_init 2 none ∈ wA := wA_in (List.mem_append_right _ (List.mem_of_getElem? (i := 154) (by decide +kernel))) rfl
theorem mw_185 : Cond.methodLink "RootAlgebra" 50 y_Desk_init ∈ wA := wA_in (List.mem_append_right _ (List.mem_of_getElem? (i := 152) (by decide +kernel))) rfl
theorem mw_186 : Cond.instanceMethod y_Desk_init ∈ wA := wA_in (List.mem_append_right _ (List.mem_of_getElem? (i := 153) (by decide +kernel))) rfl
theorem mw_187 : Cond.fieldLink "RootAlgebra" 51 "RootAlgebra" "desk" "LRootAlgebra$Desk;" ∈ wA := wA_in (List.mem_append_right _ (List.mem_of_getElem? (i := 486) (by decide +kernel))) rfl
theorem mw_188 : Cond.fieldLink "RootAlgebra" 55 "RootAlgebra" "place" "I" ∈ wA := wA_in (List.mem_append_right _ (List.mem_of_getElem? (i := 489) (by decide +kernel))) rfl
theorem mw_189 : Cond.code y_RA_isName b_RA_isName 2 (some .boolean) ∈ wA := wA_in (List.mem_append_right _ (List.mem_of_getElem? (i := 1249) (by decide +kernel))) rfl
theorem mw_190 : Cond.initialized "RootAlgebra" ∈ wA := wA_in (List.mem_append_right _ (List.mem_of_getElem? (i := 1) (by decide +kernel))) rfl
theorem mw_191 : Cond.methodLink "RootAlgebra" 123 y_RA_isName ∈ wA := wA_in (List.mem_append_right _ (List.mem_of_getElem? (i := 1246) (by decide +kernel))) rfl
theorem mw_192 : Cond.instanceMethod y_RA_isName ∈ wA := wA_in (List.mem_append_right _ (List.mem_of_getElem? (i := 1248) (by decide +kernel))) rfl
theorem mw_193 : Cond.selects "RootAlgebra" y_RA_isName y_RA_isName ∈ wA := wA_in (List.mem_append_left _ (by decide +kernel)) rfl
theorem mw_194 : Cond.fieldLink "RootAlgebra" 126 "RootAlgebra$Value" "degree" "I" ∈ wA := wA_in (List.mem_append_right _ (List.mem_of_getElem? (i := 77) (by decide +kernel))) rfl
theorem mw_195 : Cond.fieldLink "RootAlgebra" 132 "RootAlgebra$Value" "c" "[I" ∈ wA := wA_in (List.mem_append_right _ (List.mem_of_getElem? (i := 68) (by decide +kernel))) rfl
theorem mw_196 : Cond.fieldLink "RootAlgebra" 135 "RootAlgebra$Value" "index" "I" ∈ wA := wA_in (List.mem_append_right _ (List.mem_of_getElem? (i := 82) (by decide +kernel))) rfl
theorem mw_197 : Cond.fieldLink "RootAlgebra" 138 "RootAlgebra$Value" "roots" "I" ∈ wA := wA_in (List.mem_append_right _ (List.mem_of_getElem? (i := 85) (by decide +kernel))) rfl
theorem mw_198 : Cond.code y_RA_namesWithValue b_RA_namesWithValue 3 (some .int) ∈ wA := wA_in (List.mem_append_right _ (List.mem_of_getElem? (i := 1238) (by decide +kernel))) rfl
theorem mw_199 : Cond.methodLink "RootAlgebra" 117 y_RA_namesWithValue ∈ wA := wA_in (List.mem_append_right _ (List.mem_of_getElem? (i := 1235) (by decide +kernel))) rfl
theorem mw_200 : Cond.instanceMethod y_RA_namesWithValue ∈ wA := wA_in (List.mem_append_right _ (List.mem_of_getElem? (i := 1237) (by decide +kernel))) rfl
theorem mw_201 : Cond.selects "RootAlgebra" y_RA_namesWithValue y_RA_namesWithValue ∈ wA := wA_in (List.mem_append_left _ (by decide +kernel)) rfl
theorem mw_202 : Cond.fieldLink "RootAlgebra" 62 "RootAlgebra" "fed" "I" ∈ wA := wA_in (List.mem_append_right _ (List.mem_of_getElem? (i := 487) (by decide +kernel))) rfl
theorem mw_203 : Cond.fieldLink "RootAlgebra" 120 "RootAlgebra" "written" "I" ∈ wA := wA_in (List.mem_append_right _ (List.mem_of_getElem? (i := 488) (by decide +kernel))) rfl
theorem mw_204 : Cond.fieldLink "RootAlgebra" 114 "RootAlgebra" "done" "I" ∈ wA := wA_in (List.mem_append_right _ (List.mem_of_getElem? (i := 490) (by decide +kernel))) rfl
theorem mw_205 : Cond.fieldLink "RootAlgebra$Reader" 29 "RootAlgebra$Reader" "at" "I" ∈ wA := wA_in (List.mem_append_right _ (List.mem_of_getElem? (i := 129) (by decide +kernel))) rfl
theorem mw_206 : Cond.fieldLink "RootAlgebra$Reader" 25 "RootAlgebra$Reader" "length" "I" ∈ wA := wA_in (List.mem_append_right _ (List.mem_of_getElem? (i := 127) (by decide +kernel))) rfl
theorem mw_207 : Cond.fieldLink "RootAlgebra$Reader" 50 "RootAlgebra$Reader" "target" "I" ∈ wA := wA_in (List.mem_append_right _ (List.mem_of_getElem? (i := 133) (by decide +kernel))) rfl
theorem mw_208 : Cond.code y_Reader_next b_Reader_next 1 (some .int) ∈ wA := wA_in (List.mem_append_right _ (List.mem_of_getElem? (i := 532) (by decide +kernel))) rfl
theorem mw_209 : Cond.methodLink "RootAlgebra$Reader" 42 y_Reader_next ∈ wA := wA_in (List.mem_append_right _ (List.mem_of_getElem? (i := 529) (by decide +kernel))) rfl
theorem mw_210 : Cond.instanceMethod y_Reader_next ∈ wA := wA_in (List.mem_append_right _ (List.mem_of_getElem? (i := 531) (by decide +kernel))) rfl
theorem mw_211 : Cond.selects "RootAlgebra$Reader" y_Reader_next y_Reader_next ∈ wA := wA_in (List.mem_append_left _ (by decide +kernel)) rfl
theorem mw_212 : Cond.code y_Reader_factor b_Reader_factor 5 (some .boolean) ∈ wA := wA_in (List.mem_append_right _ (List.mem_of_getElem? (i := 544) (by decide +kernel))) rfl
theorem mw_213 : Cond.methodLink "RootAlgebra$Reader" 56 y_Reader_factor ∈ wA := wA_in (List.mem_append_right _ (List.mem_of_getElem? (i := 541) (by decide +kernel))) rfl
theorem mw_214 : Cond.instanceMethod y_Reader_factor ∈ wA := wA_in (List.mem_append_right _ (List.mem_of_getElem? (i := 543) (by decide +kernel))) rfl
theorem mw_215 : Cond.selects "RootAlgebra$Reader" y_Reader_factor y_Reader_factor ∈ wA := wA_in (List.mem_append_left _ (by decide +kernel)) rfl
theorem mw_216 : Cond.code y_Reader_product b_Reader_product 4 (some .boolean) ∈ wA := wA_in (List.mem_append_right _ (List.mem_of_getElem? (i := 540) (by decide +kernel))) rfl
theorem mw_217 : Cond.methodLink "RootAlgebra$Reader" 53 y_Reader_product ∈ wA := wA_in (List.mem_append_right _ (List.mem_of_getElem? (i := 537) (by decide +kernel))) rfl
theorem mw_218 : Cond.instanceMethod y_Reader_product ∈ wA := wA_in (List.mem_append_right _ (List.mem_of_getElem? (i := 539) (by decide +kernel))) rfl
theorem mw_219 : Cond.selects "RootAlgebra$Reader" y_Reader_product y_Reader_product ∈ wA := wA_in (List.mem_append_left _ (by decide +kernel)) rfl
theorem mw_220 : Cond.methodLink "RootAlgebra$Reader" 19 Lib.Math.min.name ∈ wA := wA_in (List.mem_append_right _ (List.mem_of_getElem? (i := 522) (by decide +kernel))) rfl
theorem mw_221 : Cond.static Lib.Math.min.name ∈ wA := wA_in (List.mem_append_right _ (List.mem_of_getElem? (i := 523) (by decide +kernel))) rfl
theorem mw_222 : Cond.initialized "java/lang/Math" ∈ wA := wA_in (List.mem_append_right _ (List.mem_of_getElem? (i := 19) (by decide +kernel))) rfl
theorem mw_223 : Cond.code Lib.Math.min.name Lib.Math.min.code 2 (some .int) ∈ wA := wA_in (List.mem_append_right _ (List.mem_of_getElem? (i := 524) (by decide +kernel))) rfl
theorem mw_224 : Cond.fieldLink "RootAlgebra$Reader" 32 "RootAlgebra$Reader" "size" "I" ∈ wA := wA_in (List.mem_append_right _ (List.mem_of_getElem? (i := 131) (by decide +kernel))) rfl
theorem mw_225 : Cond.code y_Reader_readTarget b_Reader_readTarget 3 none ∈ wA := wA_in (List.mem_append_right _ (List.mem_of_getElem? (i := 528) (by decide +kernel))) rfl
theorem mw_226 : Cond.methodLink "RootAlgebra$Reader" 35 y_Reader_readTarget ∈ wA := wA_in (List.mem_append_right _ (List.mem_of_getElem? (i := 525) (by decide +kernel))) rfl
theorem mw_227 : Cond.instanceMethod y_Reader_readTarget ∈ wA := wA_in (List.mem_append_right _ (List.mem_of_getElem? (i := 527) (by decide +kernel))) rfl
theorem mw_228 : Cond.selects "RootAlgebra$Reader" y_Reader_readTarget y_Reader_readTarget ∈ wA := wA_in (List.mem_append_left _ (by decide +kernel)) rfl
theorem mw_229 : Cond.code y_Reader_sum b_Reader_sum 4 (some .boolean) ∈ wA := wA_in (List.mem_append_right _ (List.mem_of_getElem? (i := 536) (by decide +kernel))) rfl
theorem mw_230 : Cond.methodLink "RootAlgebra$Reader" 38 y_Reader_sum ∈ wA := wA_in (List.mem_append_right _ (List.mem_of_getElem? (i := 533) (by decide +kernel))) rfl
theorem mw_231 : Cond.instanceMethod y_Reader_sum ∈ wA := wA_in (List.mem_append_right _ (List.mem_of_getElem? (i := 535) (by decide +kernel))) rfl
theorem mw_232 : Cond.selects "RootAlgebra$Reader" y_Reader_sum y_Reader_sum ∈ wA := wA_in (List.mem_append_left _ (by decide +kernel)) rfl
theorem mw_233 : Cond.code y_Reader_reads b_Reader_reads 2 (some .boolean) ∈ wA := wA_in (List.mem_append_right _ (List.mem_of_getElem? (i := 521) (by decide +kernel))) rfl
theorem mw_234 : Cond.methodLink "RootAlgebra" 68 y_Reader_reads ∈ wA := wA_in (List.mem_append_right _ (List.mem_of_getElem? (i := 518) (by decide +kernel))) rfl
theorem mw_235 : Cond.instanceMethod y_Reader_reads ∈ wA := wA_in (List.mem_append_right _ (List.mem_of_getElem? (i := 519) (by decide +kernel))) rfl
theorem mw_236 : Cond.selects "RootAlgebra$Reader" y_Reader_reads y_Reader_reads ∈ wA := wA_in (List.mem_append_right _ (List.mem_of_getElem? (i := 520) (by decide +kernel))) rfl
theorem mw_237 : Cond.fieldLink "RootAlgebra" 72 "RootAlgebra$Reader" "at" "I" ∈ wA := wA_in (List.mem_append_right _ (List.mem_of_getElem? (i := 130) (by decide +kernel))) rfl
theorem mw_238 : Cond.code y_Big_trim b_Big_trim 1 none ∈ wA := wA_in (List.mem_append_right _ (List.mem_of_getElem? (i := 609) (by decide +kernel))) rfl
theorem mw_239 : Cond.methodLink "RootAlgebra$Big" 32 y_Big_trim ∈ wA := wA_in (List.mem_append_right _ (List.mem_of_getElem? (i := 606) (by decide +kernel))) rfl
theorem mw_240 : Cond.instanceMethod y_Big_trim ∈ wA := wA_in (List.mem_append_right _ (List.mem_of_getElem? (i := 608) (by decide +kernel))) rfl
theorem mw_241 : Cond.selects "RootAlgebra$Big" y_Big_trim y_Big_trim ∈ wA := wA_in (List.mem_append_left _ (by decide +kernel)) rfl
theorem mw_242 : Cond.code y_Big_divide b_Big_divide 7 (some .int) ∈ wA := wA_in (List.mem_append_right _ (List.mem_of_getElem? (i := 681) (by decide +kernel))) rfl
theorem mw_243 : Cond.methodLink "RootAlgebra$Big" 56 y_Big_divide ∈ wA := wA_in (List.mem_append_right _ (List.mem_of_getElem? (i := 678) (by decide +kernel))) rfl
theorem mw_244 : Cond.instanceMethod y_Big_divide ∈ wA := wA_in (List.mem_append_right _ (List.mem_of_getElem? (i := 679) (by decide +kernel))) rfl
theorem mw_245 : Cond.selects "RootAlgebra$Big" y_Big_divide y_Big_divide ∈ wA := wA_in (List.mem_append_right _ (List.mem_of_getElem? (i := 680) (by decide +kernel))) rfl
theorem mw_246 : Cond.methodLink "RootAlgebra$Big" 20 Lib.Math.min.name ∈ wA := wA_in (List.mem_append_right _ (List.mem_of_getElem? (i := 604) (by decide +kernel))) rfl
theorem mw_247 : Cond.methodLink "RootAlgebra$Big" 26 arraycopyName ∈ wA := wA_in (List.mem_append_right _ (List.mem_of_getElem? (i := 605) (by decide +kernel))) rfl
theorem mw_248 : Cond.native arraycopyName ∈ wA := wA_in (List.mem_append_right _ (List.mem_of_getElem? (i := 599) (by decide +kernel))) rfl
theorem mw_249 : Cond.static arraycopyName ∈ wA := wA_in (List.mem_append_right _ (List.mem_of_getElem? (i := 598) (by decide +kernel))) rfl
theorem mw_250 : Cond.initialized "java/lang/System" ∈ wA := wA_in (List.mem_append_right _ (List.mem_of_getElem? (i := 20) (by decide +kernel))) rfl
theorem mw_251 : Cond.constantLong "RootAlgebra$Big" 35 4294967295 ∈ wA := wA_in (List.mem_append_right _ (List.mem_of_getElem? (i := 623) (by decide +kernel))) rfl
theorem mw_252 : Cond.fieldLink "RootAlgebra" 169 "RootAlgebra$Big" "sign" "I" ∈ wA := wA_in (List.mem_append_right _ (List.mem_of_getElem? (i := 45) (by decide +kernel))) rfl
theorem mw_253 : Cond.constant "RootAlgebra" 172 1000000000 ∈ wA := wA_in (List.mem_append_right _ (List.mem_of_getElem? (i := 1320) (by decide +kernel))) rfl
theorem mw_254 : Cond.methodLink "RootAlgebra" 173 y_Big_divide ∈ wA := wA_in (List.mem_append_right _ (List.mem_of_getElem? (i := 1321) (by decide +kernel))) rfl
theorem mw_255 : Cond.code y_RA_put b_RA_put 2 none ∈ wA := wA_in (List.mem_append_right _ (List.mem_of_getElem? (i := 1319) (by decide +kernel))) rfl
theorem mw_256 : Cond.methodLink "RootAlgebra" 162 y_RA_put ∈ wA := wA_in (List.mem_append_right _ (List.mem_of_getElem? (i := 1316) (by decide +kernel))) rfl
theorem mw_257 : Cond.instanceMethod y_RA_put ∈ wA := wA_in (List.mem_append_right _ (List.mem_of_getElem? (i := 1318) (by decide +kernel))) rfl
theorem mw_258 : Cond.selects "RootAlgebra" y_RA_put y_RA_put ∈ wA := wA_in (List.mem_append_left _ (by decide +kernel)) rfl
theorem mw_259 : Cond.methodLink "RootAlgebra" 165 y_Big_setLong ∈ wA := wA_in (List.mem_append_right _ (List.mem_of_getElem? (i := 1329) (by decide +kernel))) rfl
theorem mw_260 : Cond.code y_RA_putRest b_RA_putRest 5 none ∈ wA := wA_in (List.mem_append_right _ (List.mem_of_getElem? (i := 1315) (by decide +kernel))) rfl
theorem mw_261 : Cond.methodLink "RootAlgebra" 159 y_RA_putRest ∈ wA := wA_in (List.mem_append_right _ (List.mem_of_getElem? (i := 1312) (by decide +kernel))) rfl
theorem mw_262 : Cond.instanceMethod y_RA_putRest ∈ wA := wA_in (List.mem_append_right _ (List.mem_of_getElem? (i := 1314) (by decide +kernel))) rfl
theorem mw_263 : Cond.selects "RootAlgebra" y_RA_putRest y_RA_putRest ∈ wA := wA_in (List.mem_append_left _ (by decide +kernel)) rfl
theorem mw_264 : Cond.code y_Big_scale b_Big_scale 10 none ∈ wA := wA_in (List.mem_append_right _ (List.mem_of_getElem? (i := 834) (by decide +kernel))) rfl
theorem mw_265 : Cond.methodLink "RootAlgebra$Gauge" 150 y_Big_scale ∈ wA := wA_in (List.mem_append_right _ (List.mem_of_getElem? (i := 1310) (by decide +kernel))) rfl
theorem mw_266 : Cond.instanceMethod y_Big_scale ∈ wA := wA_in (List.mem_append_right _ (List.mem_of_getElem? (i := 832) (by decide +kernel))) rfl
theorem mw_267 : Cond.selects "RootAlgebra$Big" y_Big_scale y_Big_scale ∈ wA := wA_in (List.mem_append_right _ (List.mem_of_getElem? (i := 833) (by decide +kernel))) rfl
theorem mw_268 : Cond.fieldLink "RootAlgebra$Gauge" 48 "RootAlgebra$Value" "degree" "I" ∈ wA := wA_in (List.mem_append_right _ (List.mem_of_getElem? (i := 73) (by decide +kernel))) rfl
theorem mw_269 : Cond.fieldLink "RootAlgebra$Gauge" 54 "RootAlgebra$Value" "c" "[I" ∈ wA := wA_in (List.mem_append_right _ (List.mem_of_getElem? (i := 65) (by decide +kernel))) rfl
theorem mw_270 : Cond.methodLink "RootAlgebra$Gauge" 58 y_Big_setLong ∈ wA := wA_in (List.mem_append_right _ (List.mem_of_getElem? (i := 669) (by decide +kernel))) rfl
theorem mw_271 : Cond.code y_Gauge_timesTen b_Gauge_timesTen 4 none ∈ wA := wA_in (List.mem_append_right _ (List.mem_of_getElem? (i := 1309) (by decide +kernel))) rfl
theorem mw_272 : Cond.methodLink "RootAlgebra$Gauge" 147 y_Gauge_timesTen ∈ wA := wA_in (List.mem_append_right _ (List.mem_of_getElem? (i := 1306) (by decide +kernel))) rfl
theorem mw_273 : Cond.instanceMethod y_Gauge_timesTen ∈ wA := wA_in (List.mem_append_right _ (List.mem_of_getElem? (i := 1308) (by decide +kernel))) rfl
theorem mw_274 : Cond.selects "RootAlgebra$Gauge" y_Gauge_timesTen y_Gauge_timesTen ∈ wA := wA_in (List.mem_append_left _ (by decide +kernel)) rfl
theorem mw_275 : Cond.code y_Big_divideDown b_Big_divideDown 3 none ∈ wA := wA_in (List.mem_append_right _ (List.mem_of_getElem? (i := 677) (by decide +kernel))) rfl
theorem mw_276 : Cond.methodLink "RootAlgebra$Gauge" 65 y_Big_divideDown ∈ wA := wA_in (List.mem_append_right _ (List.mem_of_getElem? (i := 674) (by decide +kernel))) rfl
theorem mw_277 : Cond.instanceMethod y_Big_divideDown ∈ wA := wA_in (List.mem_append_right _ (List.mem_of_getElem? (i := 675) (by decide +kernel))) rfl
theorem mw_278 : Cond.selects "RootAlgebra$Big" y_Big_divideDown y_Big_divideDown ∈ wA := wA_in (List.mem_append_right _ (List.mem_of_getElem? (i := 676) (by decide +kernel))) rfl
theorem mw_279 : Cond.fieldLink "RootAlgebra" 141 "RootAlgebra$Desk" "gauge" "LRootAlgebra$Gauge;" ∈ wA := wA_in (List.mem_append_right _ (List.mem_of_getElem? (i := 450) (by decide +kernel))) rfl
theorem mw_280 : Cond.code y_Gauge_wholePart b_Gauge_wholePart 5 (some (.object "RootAlgebra$Big")) ∈ wA := wA_in (List.mem_append_right _ (List.mem_of_getElem? (i := 1305) (by decide +kernel))) rfl
theorem mw_281 : Cond.methodLink "RootAlgebra" 151 y_Gauge_wholePart ∈ wA := wA_in (List.mem_append_right _ (List.mem_of_getElem? (i := 1302) (by decide +kernel))) rfl
theorem mw_282 : Cond.instanceMethod y_Gauge_wholePart ∈ wA := wA_in (List.mem_append_right _ (List.mem_of_getElem? (i := 1303) (by decide +kernel))) rfl
theorem mw_283 : Cond.selects "RootAlgebra$Gauge" y_Gauge_wholePart y_Gauge_wholePart ∈ wA := wA_in (List.mem_append_right _ (List.mem_of_getElem? (i := 1304) (by decide +kernel))) rfl
theorem mw_284 : Cond.code y_Big_set b_Big_set 2 none ∈ wA := wA_in (List.mem_append_right _ (List.mem_of_getElem? (i := 603) (by decide +kernel))) rfl
theorem mw_285 : Cond.methodLink "RootAlgebra" 155 y_Big_set ∈ wA := wA_in (List.mem_append_right _ (List.mem_of_getElem? (i := 1311) (by decide +kernel))) rfl
theorem mw_286 : Cond.instanceMethod y_Big_set ∈ wA := wA_in (List.mem_append_right _ (List.mem_of_getElem? (i := 601) (by decide +kernel))) rfl
theorem mw_287 : Cond.selects "RootAlgebra$Big" y_Big_set y_Big_set ∈ wA := wA_in (List.mem_append_right _ (List.mem_of_getElem? (i := 602) (by decide +kernel))) rfl
theorem mw_288 : Cond.code y_Value_hasPolynomialOf b_Value_hasPolynomialOf 3 (some .boolean) ∈ wA := wA_in (List.mem_append_right _ (List.mem_of_getElem? (i := 661) (by decide +kernel))) rfl
theorem mw_289 : Cond.methodLink "RootAlgebra$Gauge" 127 y_Value_hasPolynomialOf ∈ wA := wA_in (List.mem_append_right _ (List.mem_of_getElem? (i := 658) (by decide +kernel))) rfl
theorem mw_290 : Cond.instanceMethod y_Value_hasPolynomialOf ∈ wA := wA_in (List.mem_append_right _ (List.mem_of_getElem? (i := 659) (by decide +kernel))) rfl
theorem mw_291 : Cond.selects "RootAlgebra$Value" y_Value_hasPolynomialOf y_Value_hasPolynomialOf ∈ wA := wA_in (List.mem_append_right _ (List.mem_of_getElem? (i := 660) (by decide +kernel))) rfl
theorem mw_292 : Cond.fieldLink "RootAlgebra$Gauge" 131 "RootAlgebra$Value" "index" "I" ∈ wA := wA_in (List.mem_append_right _ (List.mem_of_getElem? (i := 81) (by decide +kernel))) rfl
theorem mw_293 : Cond.code y_Integer_compare b_Integer_compare 2 (some .int) ∈ wA := wA_in (List.mem_append_right _ (List.mem_of_getElem? (i := 664) (by decide +kernel))) rfl
theorem mw_294 : Cond.initialized "java/lang/Integer" ∈ wA := wA_in (List.mem_append_right _ (List.mem_of_getElem? (i := 21) (by decide +kernel))) rfl
theorem mw_295 : Cond.methodLink "RootAlgebra$Gauge" 134 y_Integer_compare ∈ wA := wA_in (List.mem_append_right _ (List.mem_of_getElem? (i := 662) (by decide +kernel))) rfl
theorem mw_296 : Cond.static y_Integer_compare ∈ wA := wA_in (List.mem_append_right _ (List.mem_of_getElem? (i := 663) (by decide +kernel))) rfl
theorem mw_297 : Cond.code y_Gauge_order b_Gauge_order 5 (some .int) ∈ wA := wA_in (List.mem_append_right _ (List.mem_of_getElem? (i := 657) (by decide +kernel))) rfl
theorem mw_298 : Cond.methodLink "RootAlgebra" 145 y_Gauge_order ∈ wA := wA_in (List.mem_append_right _ (List.mem_of_getElem? (i := 1294) (by decide +kernel))) rfl
theorem mw_299 : Cond.instanceMethod y_Gauge_order ∈ wA := wA_in (List.mem_append_right _ (List.mem_of_getElem? (i := 655) (by decide +kernel))) rfl
theorem mw_300 : Cond.selects "RootAlgebra$Gauge" y_Gauge_order y_Gauge_order ∈ wA := wA_in (List.mem_append_right _ (List.mem_of_getElem? (i := 656) (by decide +kernel))) rfl
theorem mw_301 : Cond.fieldLink "RootAlgebraModel" 20 "RootAlgebraModel" "has" "[Z" ∈ wA := wA_in (List.mem_append_right _ (List.mem_of_getElem? (i := 1366) (by decide +kernel))) rfl
theorem mw_302 : Cond.fieldLink "RootAlgebraModel" 24 "RootAlgebraModel" "valueDegree" "[I" ∈ wA := wA_in (List.mem_append_right _ (List.mem_of_getElem? (i := 1367) (by decide +kernel))) rfl
theorem mw_303 : Cond.fieldLink "RootAlgebraModel" 27 "RootAlgebraModel" "valueC" "[J" ∈ wA := wA_in (List.mem_append_right _ (List.mem_of_getElem? (i := 1368) (by decide +kernel))) rfl
theorem mw_304 : Cond.fieldLink "RootAlgebraModel" 31 "RootAlgebraModel" "valueIndex" "[I" ∈ wA := wA_in (List.mem_append_right _ (List.mem_of_getElem? (i := 1369) (by decide +kernel))) rfl
theorem mw_305 : Cond.fieldLink "RootAlgebraModel" 34 "RootAlgebraModel" "valueRoots" "[I" ∈ wA := wA_in (List.mem_append_right _ (List.mem_of_getElem? (i := 1370) (by decide +kernel))) rfl
theorem mw_306 : Cond.fieldLink "RootAlgebraModel" 59 "RootAlgebraModel" "baseOf" "[I" ∈ wA := wA_in (List.mem_append_right _ (List.mem_of_getElem? (i := 1379) (by decide +kernel))) rfl
theorem mw_307 : Cond.fieldLink "RootAlgebraModel" 65 "RootAlgebraModel" "cell" "[I" ∈ wA := wA_in (List.mem_append_right _ (List.mem_of_getElem? (i := 1381) (by decide +kernel))) rfl
theorem mw_308 : Cond.methodLink "RootAlgebraModel" 1 Lib.objectInit ∈ wA := wA_in (List.mem_append_right _ (List.mem_of_getElem? (i := 1349) (by decide +kernel))) rfl
theorem mw_309 : Cond.fieldLink "RootAlgebraModel" 7 "RootAlgebraModel" "tape" "[I" ∈ wA := wA_in (List.mem_append_right _ (List.mem_of_getElem? (i := 1360) (by decide +kernel))) rfl
theorem mw_310 : Cond.fieldLink "RootAlgebraModel" 13 "RootAlgebraModel" "text" "[I" ∈ wA := wA_in (List.mem_append_right _ (List.mem_of_getElem? (i := 1362) (by decide +kernel))) rfl
theorem mw_311 : Cond.fieldLink "RootAlgebraModel" 16 "RootAlgebraModel" "place" "I" ∈ wA := wA_in (List.mem_append_right _ (List.mem_of_getElem? (i := 1364) (by decide +kernel))) rfl
theorem mw_312 : Cond.constant "RootAlgebraModel" 37 81840 ∈ wA := wA_in (List.mem_append_right _ (List.mem_of_getElem? (i := 1350) (by decide +kernel))) rfl
theorem mw_313 : Cond.fieldLink "RootAlgebraModel" 38 "RootAlgebraModel" "d" "[J" ∈ wA := wA_in (List.mem_append_right _ (List.mem_of_getElem? (i := 1371) (by decide +kernel))) rfl
theorem mw_314 : Cond.fieldLink "RootAlgebraModel" 41 "RootAlgebraModel" "size" "[I" ∈ wA := wA_in (List.mem_append_right _ (List.mem_of_getElem? (i := 1372) (by decide +kernel))) rfl
theorem mw_315 : Cond.fieldLink "RootAlgebraModel" 44 "RootAlgebraModel" "sgn" "[I" ∈ wA := wA_in (List.mem_append_right _ (List.mem_of_getElem? (i := 1373) (by decide +kernel))) rfl
theorem mw_316 : Cond.fieldLink "RootAlgebraModel" 47 "RootAlgebraModel" "hold" "[J" ∈ wA := wA_in (List.mem_append_right _ (List.mem_of_getElem? (i := 1374) (by decide +kernel))) rfl
theorem mw_317 : Cond.fieldLink "RootAlgebraModel" 50 "RootAlgebraModel" "divisor" "[J" ∈ wA := wA_in (List.mem_append_right _ (List.mem_of_getElem? (i := 1375) (by decide +kernel))) rfl
theorem mw_318 : Cond.fieldLink "RootAlgebraModel" 53 "RootAlgebraModel" "dividend" "[J" ∈ wA := wA_in (List.mem_append_right _ (List.mem_of_getElem? (i := 1376) (by decide +kernel))) rfl
theorem mw_319 : Cond.fieldLink "RootAlgebraModel" 56 "RootAlgebraModel" "rowDegree" "[I" ∈ wA := wA_in (List.mem_append_right _ (List.mem_of_getElem? (i := 1377) (by decide +kernel))) rfl
theorem mw_320 : Cond.fieldLink "RootAlgebraModel" 62 "RootAlgebraModel" "degreeOf" "[I" ∈ wA := wA_in (List.mem_append_right _ (List.mem_of_getElem? (i := 1380) (by decide +kernel))) rfl
theorem mw_321 : Cond.fieldLink "RootAlgebraModel" 68 "RootAlgebraModel" "fine" "[I" ∈ wA := wA_in (List.mem_append_right _ (List.mem_of_getElem? (i := 1382) (by decide +kernel))) rfl
theorem mw_322 : Cond.fieldLink "RootAlgebraModel" 71 "RootAlgebraModel" "w" "[J" ∈ wA := wA_in (List.mem_append_right _ (List.mem_of_getElem? (i := 1383) (by decide +kernel))) rfl
theorem mw_323 : Cond.fieldLink "RootAlgebraModel" 74 "RootAlgebraModel" "t" "[J" ∈ wA := wA_in (List.mem_append_right _ (List.mem_of_getElem? (i := 1384) (by decide +kernel))) rfl
theorem mw_324 : Cond.fieldLink "RootAlgebraModel" 77 "RootAlgebraModel" "u" "[J" ∈ wA := wA_in (List.mem_append_right _ (List.mem_of_getElem? (i := 1385) (by decide +kernel))) rfl
theorem mw_325 : Cond.fieldLink "RootAlgebraModel" 80 "RootAlgebraModel" "zero" "[J" ∈ wA := wA_in (List.mem_append_right _ (List.mem_of_getElem? (i := 1386) (by decide +kernel))) rfl
theorem mw_326 : Cond.fieldLink "RootAlgebraModel" 83 "RootAlgebraModel" "cells" "[J" ∈ wA := wA_in (List.mem_append_right _ (List.mem_of_getElem? (i := 1387) (by decide +kernel))) rfl
theorem mw_327 : Cond.fieldLink "RootAlgebraModel" 86 "RootAlgebraModel" "deg" "[I" ∈ wA := wA_in (List.mem_append_right _ (List.mem_of_getElem? (i := 1388) (by decide +kernel))) rfl
theorem mw_328 : Cond.fieldLink "RootAlgebraModel" 89 "RootAlgebraModel" "chance" "J" ∈ wA := wA_in (List.mem_append_right _ (List.mem_of_getElem? (i := 1389) (by decide +kernel))) rfl
theorem mw_329 : Cond.fieldLink "RootAlgebraModel" 93 "RootAlgebraModel" "times" "[I" ∈ wA := wA_in (List.mem_append_right _ (List.mem_of_getElem? (i := 1391) (by decide +kernel))) rfl
theorem mw_330 : Cond.fieldLink "RootAlgebraModel" 96 "RootAlgebraModel" "taken" "[I" ∈ wA := wA_in (List.mem_append_right _ (List.mem_of_getElem? (i := 1392) (by decide +kernel))) rfl
theorem mw_331 : Cond.fieldLink "RootAlgebraModel" 99 "RootAlgebraModel" "unit" "[J" ∈ wA := wA_in (List.mem_append_right _ (List.mem_of_getElem? (i := 1393) (by decide +kernel))) rfl
theorem mw_332 : Cond.fieldLink "RootAlgebraModel" 102 "RootAlgebraModel" "matrix" "[J" ∈ wA := wA_in (List.mem_append_right _ (List.mem_of_getElem? (i := 1394) (by decide +kernel))) rfl
theorem mw_333 : Cond.fieldLink "RootAlgebraModel" 105 "RootAlgebraModel" "power" "[J" ∈ wA := wA_in (List.mem_append_right _ (List.mem_of_getElem? (i := 1395) (by decide +kernel))) rfl
theorem mw_334 : Cond.fieldLink "RootAlgebraModel" 108 "RootAlgebraModel" "next" "[J" ∈ wA := wA_in (List.mem_append_right _ (List.mem_of_getElem? (i := 1396) (by decide +kernel))) rfl
theorem mw_335 : Cond.fieldLink "RootAlgebraModel" 111 "RootAlgebraModel" "one" "[J" ∈ wA := wA_in (List.mem_append_right _ (List.mem_of_getElem? (i := 1397) (by decide +kernel))) rfl
theorem mw_336 : Cond.fieldLink "RootAlgebraModel" 114 "RootAlgebraModel" "factor" "[J" ∈ wA := wA_in (List.mem_append_right _ (List.mem_of_getElem? (i := 1398) (by decide +kernel))) rfl
theorem mw_337 : Cond.fieldLink "RootAlgebraModel" 117 "RootAlgebraModel" "pa" "[J" ∈ wA := wA_in (List.mem_append_right _ (List.mem_of_getElem? (i := 1399) (by decide +kernel))) rfl
theorem mw_338 : Cond.fieldLink "RootAlgebraModel" 120 "RootAlgebraModel" "pb" "[J" ∈ wA := wA_in (List.mem_append_right _ (List.mem_of_getElem? (i := 1400) (by decide +kernel))) rfl
theorem mw_339 : Cond.fieldLink "RootAlgebraModel" 123 "RootAlgebraModel" "candidate" "[J" ∈ wA := wA_in (List.mem_append_right _ (List.mem_of_getElem? (i := 1403) (by decide +kernel))) rfl
theorem mw_340 : Cond.fieldLink "RootAlgebraModel" 126 "RootAlgebraModel" "given" "[J" ∈ wA := wA_in (List.mem_append_right _ (List.mem_of_getElem? (i := 1410) (by decide +kernel))) rfl
theorem mw_341 : Cond.fieldLink "RootAlgebraModel" 129 "RootAlgebraModel" "sign" "[I" ∈ wA := wA_in (List.mem_append_right _ (List.mem_of_getElem? (i := 1412) (by decide +kernel))) rfl
theorem mw_342 : Cond.fieldLink "RootAlgebraModel" 132 "RootAlgebraModel" "brings" "[J" ∈ wA := wA_in (List.mem_append_right _ (List.mem_of_getElem? (i := 1413) (by decide +kernel))) rfl
theorem mw_343 : Cond.fieldLink "RootAlgebraModel" 135 "RootAlgebraModel" "coefficient" "[J" ∈ wA := wA_in (List.mem_append_right _ (List.mem_of_getElem? (i := 1415) (by decide +kernel))) rfl
theorem mw_344 : Cond.fieldLink "RootAlgebraModel" 138 "RootAlgebraModel" "coefficientMany" "[I" ∈ wA := wA_in (List.mem_append_right _ (List.mem_of_getElem? (i := 1416) (by decide +kernel))) rfl
theorem mw_345 : Cond.fieldLink "RootAlgebraModel" 141 "RootAlgebraModel" "waiting" "[I" ∈ wA := wA_in (List.mem_append_right _ (List.mem_of_getElem? (i := 1422) (by decide +kernel))) rfl
theorem mw_346 : Cond.fieldLink "RootAlgebraModel" 144 "RootAlgebraModel" "waitingWith" "[J" ∈ wA := wA_in (List.mem_append_right _ (List.mem_of_getElem? (i := 1423) (by decide +kernel))) rfl
theorem mw_347 : Cond.code y_Md_number b_Md_number 4 none ∈ wA := wA_in (List.mem_append_right _ (List.mem_of_getElem? (i := 1354) (by decide +kernel))) rfl
theorem mw_348 : Cond.initialized "RootAlgebraModel" ∈ wA := wA_in (List.mem_append_right _ (List.mem_of_getElem? (i := 13) (by decide +kernel))) rfl
theorem mw_349 : Cond.methodLink "RootAlgebraModel" 147 y_Md_number ∈ wA := wA_in (List.mem_append_right _ (List.mem_of_getElem? (i := 1351) (by decide +kernel))) rfl
theorem mw_350 : Cond.instanceMethod y_Md_number ∈ wA := wA_in (List.mem_append_right _ (List.mem_of_getElem? (i := 1353) (by decide +kernel))) rfl
theorem mw_351 : Cond.selects "RootAlgebraModel" y_Md_number y_Md_number ∈ wA := wA_in (List.mem_append_left _ (by decide +kernel)) rfl
theorem mw_352 : Cond.code y_Md_seats b_Md_seats 1 none ∈ wA := wA_in (List.mem_append_right _ (List.mem_of_getElem? (i := 1358) (by decide +kernel))) rfl
theorem mw_353 : Cond.methodLink "RootAlgebraModel" 151 y_Md_seats ∈ wA := wA_in (List.mem_append_right _ (List.mem_of_getElem? (i := 1355) (by decide +kernel))) rfl
theorem mw_354 : Cond.instanceMethod y_Md_seats ∈ wA := wA_in (List.mem_append_right _ (List.mem_of_getElem? (i := 1357) (by decide +kernel))) rfl
theorem mw_355 : Cond.selects "RootAlgebraModel" y_Md_seats y_Md_seats ∈ wA := wA_in (List.mem_append_left _ (by decide +kernel)) rfl
theorem mw_356 : Cond.fieldLink "RootAlgebraModel" 154 "RootAlgebraModel" "thrown" "I" ∈ wA := wA_in (List.mem_append_right _ (List.mem_of_getElem? (i := 1359) (by decide +kernel))) rfl
theorem mw_357 : Cond.constantLong "RootAlgebraModel" 592 16 ∈ wA := wA_in (List.mem_append_right _ (List.mem_of_getElem? (i := 1998) (by decide +kernel))) rfl
theorem mw_358 : Cond.code y_Md_in b_Md_in 6 (some .boolean) ∈ wA := wA_in (List.mem_append_right _ (List.mem_of_getElem? (i := 1575) (by decide +kernel))) rfl
theorem mw_359 : Cond.methodLink "RootAlgebraModel" 446 y_Md_in ∈ wA := wA_in (List.mem_append_right _ (List.mem_of_getElem? (i := 1573) (by decide +kernel))) rfl
theorem mw_360 : Cond.static y_Md_in ∈ wA := wA_in (List.mem_append_right _ (List.mem_of_getElem? (i := 1574) (by decide +kernel))) rfl
theorem mw_361 : Cond.code y_Md_isName b_Md_isName 1 (some .boolean) ∈ wA := wA_in (List.mem_append_right _ (List.mem_of_getElem? (i := 1997) (by decide +kernel))) rfl
theorem mw_362 : Cond.methodLink "RootAlgebraModel" 594 y_Md_isName ∈ wA := wA_in (List.mem_append_right _ (List.mem_of_getElem? (i := 1995) (by decide +kernel))) rfl
theorem mw_363 : Cond.static y_Md_isName ∈ wA := wA_in (List.mem_append_right _ (List.mem_of_getElem? (i := 1996) (by decide +kernel))) rfl
theorem mw_364 : Cond.code y_Md_fails b_Md_fails 3 (some .boolean) ∈ wA := wA_in (List.mem_append_right _ (List.mem_of_getElem? (i := 1984) (by decide +kernel))) rfl
theorem mw_365 : Cond.methodLink "RootAlgebraModel" 581 y_Md_fails ∈ wA := wA_in (List.mem_append_right _ (List.mem_of_getElem? (i := 1981) (by decide +kernel))) rfl
theorem mw_366 : Cond.instanceMethod y_Md_fails ∈ wA := wA_in (List.mem_append_right _ (List.mem_of_getElem? (i := 1983) (by decide +kernel))) rfl
theorem mw_367 : Cond.selects "RootAlgebraModel" y_Md_fails y_Md_fails ∈ wA := wA_in (List.mem_append_left _ (by decide +kernel)) rfl
theorem mw_368 : Cond.code y_Md_bars b_Md_bars 2 (some .boolean) ∈ wA := wA_in (List.mem_append_right _ (List.mem_of_getElem? (i := 2006) (by decide +kernel))) rfl
theorem mw_369 : Cond.methodLink "RootAlgebraModel" 597 y_Md_bars ∈ wA := wA_in (List.mem_append_right _ (List.mem_of_getElem? (i := 2003) (by decide +kernel))) rfl
theorem mw_370 : Cond.instanceMethod y_Md_bars ∈ wA := wA_in (List.mem_append_right _ (List.mem_of_getElem? (i := 2005) (by decide +kernel))) rfl
theorem mw_371 : Cond.selects "RootAlgebraModel" y_Md_bars y_Md_bars ∈ wA := wA_in (List.mem_append_left _ (by decide +kernel)) rfl
theorem mw_372 : Cond.constantLong "RootAlgebraModel" 611 15 ∈ wA := wA_in (List.mem_append_right _ (List.mem_of_getElem? (i := 2048) (by decide +kernel))) rfl
theorem mw_373 : Cond.fieldLink "RootAlgebraModel" 589 "RootAlgebraModel" "written" "I" ∈ wA := wA_in (List.mem_append_right _ (List.mem_of_getElem? (i := 1363) (by decide +kernel))) rfl
theorem mw_374 : Cond.constantLong "RootAlgebraModel" 587 4 ∈ wA := wA_in (List.mem_append_right _ (List.mem_of_getElem? (i := 1990) (by decide +kernel))) rfl
theorem mw_375 : Cond.fieldLink "RootAlgebraModel" 484 "RootAlgebraModel" "taped" "I" ∈ wA := wA_in (List.mem_append_right _ (List.mem_of_getElem? (i := 1361) (by decide +kernel))) rfl
theorem mw_376 : Cond.fieldLink "RootAlgebraModel" 576 "RootAlgebraModel" "done" "I" ∈ wA := wA_in (List.mem_append_right _ (List.mem_of_getElem? (i := 1365) (by decide +kernel))) rfl
theorem mw_377 : Cond.constantLong "RootAlgebraModel" 579 8 ∈ wA := wA_in (List.mem_append_right _ (List.mem_of_getElem? (i := 1980) (by decide +kernel))) rfl
theorem mw_378 : Cond.constantLong "RootAlgebraModel" 585 255 ∈ wA := wA_in (List.mem_append_right _ (List.mem_of_getElem? (i := 1985) (by decide +kernel))) rfl
theorem mw_379 : Cond.fieldLink "RootAlgebraModel" 481 "RootAlgebraModel" "at" "I" ∈ wA := wA_in (List.mem_append_right _ (List.mem_of_getElem? (i := 1418) (by decide +kernel))) rfl
theorem mw_380 : Cond.constantLong "RootAlgebraModel" 493 48 ∈ wA := wA_in (List.mem_append_right _ (List.mem_of_getElem? (i := 1580) (by decide +kernel))) rfl
theorem mw_381 : Cond.constantLong "RootAlgebraModel" 495 57 ∈ wA := wA_in (List.mem_append_right _ (List.mem_of_getElem? (i := 1581) (by decide +kernel))) rfl
theorem mw_382 : Cond.constantLong "RootAlgebraModel" 510 97 ∈ wA := wA_in (List.mem_append_right _ (List.mem_of_getElem? (i := 1571) (by decide +kernel))) rfl
theorem mw_383 : Cond.constantLong "RootAlgebraModel" 512 112 ∈ wA := wA_in (List.mem_append_right _ (List.mem_of_getElem? (i := 1572) (by decide +kernel))) rfl
theorem mw_384 : Cond.fieldLink "RootAlgebraModel" 487 "RootAlgebraModel" "signs" "I" ∈ wA := wA_in (List.mem_append_right _ (List.mem_of_getElem? (i := 1411) (by decide +kernel))) rfl
theorem mw_385 : Cond.fieldLink "RootAlgebraModel" 501 "RootAlgebraModel" "coefficients" "I" ∈ wA := wA_in (List.mem_append_right _ (List.mem_of_getElem? (i := 1414) (by decide +kernel))) rfl
theorem mw_386 : Cond.fieldLink "RootAlgebraModel" 504 "RootAlgebraModel" "target" "I" ∈ wA := wA_in (List.mem_append_right _ (List.mem_of_getElem? (i := 1417) (by decide +kernel))) rfl
theorem mw_387 : Cond.fieldLink "RootAlgebraModel" 507 "RootAlgebraModel" "open" "I" ∈ wA := wA_in (List.mem_append_right _ (List.mem_of_getElem? (i := 1419) (by decide +kernel))) rfl
theorem mw_388 : Cond.code y_Md_peek b_Md_peek 1 (some .int) ∈ wA := wA_in (List.mem_append_right _ (List.mem_of_getElem? (i := 1570) (by decide +kernel))) rfl
theorem mw_389 : Cond.methodLink "RootAlgebraModel" 490 y_Md_peek ∈ wA := wA_in (List.mem_append_right _ (List.mem_of_getElem? (i := 1567) (by decide +kernel))) rfl
theorem mw_390 : Cond.instanceMethod y_Md_peek ∈ wA := wA_in (List.mem_append_right _ (List.mem_of_getElem? (i := 1569) (by decide +kernel))) rfl
theorem mw_391 : Cond.selects "RootAlgebraModel" y_Md_peek y_Md_peek ∈ wA := wA_in (List.mem_append_left _ (by decide +kernel)) rfl
theorem mw_392 : Cond.code y_Md_opens b_Md_opens 4 (some .boolean) ∈ wA := wA_in (List.mem_append_right _ (List.mem_of_getElem? (i := 1579) (by decide +kernel))) rfl
theorem mw_393 : Cond.methodLink "RootAlgebraModel" 514 y_Md_opens ∈ wA := wA_in (List.mem_append_right _ (List.mem_of_getElem? (i := 1576) (by decide +kernel))) rfl
theorem mw_394 : Cond.instanceMethod y_Md_opens ∈ wA := wA_in (List.mem_append_right _ (List.mem_of_getElem? (i := 1578) (by decide +kernel))) rfl
theorem mw_395 : Cond.selects "RootAlgebraModel" y_Md_opens y_Md_opens ∈ wA := wA_in (List.mem_append_left _ (by decide +kernel)) rfl
theorem mw_396 : Cond.code y_Md_isLine b_Md_isLine 4 (some .boolean) ∈ wA := wA_in (List.mem_append_right _ (List.mem_of_getElem? (i := 1566) (by decide +kernel))) rfl
theorem mw_397 : Cond.methodLink "RootAlgebraModel" 570 y_Md_isLine ∈ wA := wA_in (List.mem_append_right _ (List.mem_of_getElem? (i := 1563) (by decide +kernel))) rfl
theorem mw_398 : Cond.instanceMethod y_Md_isLine ∈ wA := wA_in (List.mem_append_right _ (List.mem_of_getElem? (i := 1565) (by decide +kernel))) rfl
theorem mw_399 : Cond.selects "RootAlgebraModel" y_Md_isLine y_Md_isLine ∈ wA := wA_in (List.mem_append_left _ (by decide +kernel)) rfl
theorem mw_400 : Cond.code y_Md_against b_Md_against 6 (some .int) ∈ wA := wA_in (List.mem_append_right _ (List.mem_of_getElem? (i := 1932) (by decide +kernel))) rfl
theorem mw_401 : Cond.methodLink "RootAlgebraModel" 475 y_Md_against ∈ wA := wA_in (List.mem_append_right _ (List.mem_of_getElem? (i := 1929) (by decide +kernel))) rfl
theorem mw_402 : Cond.instanceMethod y_Md_against ∈ wA := wA_in (List.mem_append_right _ (List.mem_of_getElem? (i := 1931) (by decide +kernel))) rfl
theorem mw_403 : Cond.selects "RootAlgebraModel" y_Md_against y_Md_against ∈ wA := wA_in (List.mem_append_left _ (by decide +kernel)) rfl
theorem mw_404 : Cond.constantLong "RootAlgebraModel" 157 268435455 ∈ wA := wA_in (List.mem_append_right _ (List.mem_of_getElem? (i := 1623) (by decide +kernel))) rfl
theorem mw_405 : Cond.code y_Md_fix b_Md_fix 2 none ∈ wA := wA_in (List.mem_append_right _ (List.mem_of_getElem? (i := 1627) (by decide +kernel))) rfl
theorem mw_406 : Cond.methodLink "RootAlgebraModel" 159 y_Md_fix ∈ wA := wA_in (List.mem_append_right _ (List.mem_of_getElem? (i := 1624) (by decide +kernel))) rfl
theorem mw_407 : Cond.instanceMethod y_Md_fix ∈ wA := wA_in (List.mem_append_right _ (List.mem_of_getElem? (i := 1626) (by decide +kernel))) rfl
theorem mw_408 : Cond.selects "RootAlgebraModel" y_Md_fix y_Md_fix ∈ wA := wA_in (List.mem_append_left _ (by decide +kernel)) rfl
theorem mw_409 : Cond.code y_Md_lands b_Md_lands 5 none ∈ wA := wA_in (List.mem_append_right _ (List.mem_of_getElem? (i := 1639) (by decide +kernel))) rfl
theorem mw_410 : Cond.methodLink "RootAlgebraModel" 171 y_Md_lands ∈ wA := wA_in (List.mem_append_right _ (List.mem_of_getElem? (i := 1636) (by decide +kernel))) rfl
theorem mw_411 : Cond.instanceMethod y_Md_lands ∈ wA := wA_in (List.mem_append_right _ (List.mem_of_getElem? (i := 1638) (by decide +kernel))) rfl
theorem mw_412 : Cond.selects "RootAlgebraModel" y_Md_lands y_Md_lands ∈ wA := wA_in (List.mem_append_left _ (by decide +kernel)) rfl
theorem mw_413 : Cond.constantLong "RootAlgebraModel" 182 134217728 ∈ wA := wA_in (List.mem_append_right _ (List.mem_of_getElem? (i := 1656) (by decide +kernel))) rfl
theorem mw_414 : Cond.code y_Md_digit b_Md_digit 3 (some .long) ∈ wA := wA_in (List.mem_append_right _ (List.mem_of_getElem? (i := 1660) (by decide +kernel))) rfl
theorem mw_415 : Cond.methodLink "RootAlgebraModel" 167 y_Md_digit ∈ wA := wA_in (List.mem_append_right _ (List.mem_of_getElem? (i := 1657) (by decide +kernel))) rfl
theorem mw_416 : Cond.instanceMethod y_Md_digit ∈ wA := wA_in (List.mem_append_right _ (List.mem_of_getElem? (i := 1659) (by decide +kernel))) rfl
theorem mw_417 : Cond.selects "RootAlgebraModel" y_Md_digit y_Md_digit ∈ wA := wA_in (List.mem_append_left _ (by decide +kernel)) rfl
theorem mw_418 : Cond.constantLong "RootAlgebraModel" 499 10 ∈ wA := wA_in (List.mem_append_right _ (List.mem_of_getElem? (i := 1587) (by decide +kernel))) rfl
theorem mw_419 : Cond.code y_Md_put b_Md_put 7 none ∈ wA := wA_in (List.mem_append_right _ (List.mem_of_getElem? (i := 1622) (by decide +kernel))) rfl
theorem mw_420 : Cond.methodLink "RootAlgebraModel" 175 y_Md_put ∈ wA := wA_in (List.mem_append_right _ (List.mem_of_getElem? (i := 1619) (by decide +kernel))) rfl
theorem mw_421 : Cond.instanceMethod y_Md_put ∈ wA := wA_in (List.mem_append_right _ (List.mem_of_getElem? (i := 1621) (by decide +kernel))) rfl
theorem mw_422 : Cond.selects "RootAlgebraModel" y_Md_put y_Md_put ∈ wA := wA_in (List.mem_append_left _ (by decide +kernel)) rfl
theorem mw_423 : Cond.code y_Md_divided b_Md_divided 19 none ∈ wA := wA_in (List.mem_append_right _ (List.mem_of_getElem? (i := 1655) (by decide +kernel))) rfl
theorem mw_424 : Cond.methodLink "RootAlgebraModel" 188 y_Md_divided ∈ wA := wA_in (List.mem_append_right _ (List.mem_of_getElem? (i := 1652) (by decide +kernel))) rfl
theorem mw_425 : Cond.instanceMethod y_Md_divided ∈ wA := wA_in (List.mem_append_right _ (List.mem_of_getElem? (i := 1654) (by decide +kernel))) rfl
theorem mw_426 : Cond.selects "RootAlgebraModel" y_Md_divided y_Md_divided ∈ wA := wA_in (List.mem_append_left _ (by decide +kernel)) rfl
theorem mw_427 : Cond.code y_Md_letter b_Md_letter 2 none ∈ wA := wA_in (List.mem_append_right _ (List.mem_of_getElem? (i := 2035) (by decide +kernel))) rfl
theorem mw_428 : Cond.methodLink "RootAlgebraModel" 608 y_Md_letter ∈ wA := wA_in (List.mem_append_right _ (List.mem_of_getElem? (i := 2032) (by decide +kernel))) rfl
theorem mw_429 : Cond.instanceMethod y_Md_letter ∈ wA := wA_in (List.mem_append_right _ (List.mem_of_getElem? (i := 2034) (by decide +kernel))) rfl
theorem mw_430 : Cond.selects "RootAlgebraModel" y_Md_letter y_Md_letter ∈ wA := wA_in (List.mem_append_left _ (by decide +kernel)) rfl
theorem mw_431 : Cond.code y_Md_says b_Md_says 6 none ∈ wA := wA_in (List.mem_append_right _ (List.mem_of_getElem? (i := 2031) (by decide +kernel))) rfl
theorem mw_432 : Cond.methodLink "RootAlgebraModel" 605 y_Md_says ∈ wA := wA_in (List.mem_append_right _ (List.mem_of_getElem? (i := 2028) (by decide +kernel))) rfl
theorem mw_433 : Cond.instanceMethod y_Md_says ∈ wA := wA_in (List.mem_append_right _ (List.mem_of_getElem? (i := 2030) (by decide +kernel))) rfl
theorem mw_434 : Cond.selects "RootAlgebraModel" y_Md_says y_Md_says ∈ wA := wA_in (List.mem_append_left _ (by decide +kernel)) rfl
theorem mw_435 : Cond.constantLong "RootAlgebraModel" 600 30 ∈ wA := wA_in (List.mem_append_right _ (List.mem_of_getElem? (i := 2023) (by decide +kernel))) rfl
theorem mw_436 : Cond.code y_Md_multiplied b_Md_multiplied 10 none ∈ wA := wA_in (List.mem_append_right _ (List.mem_of_getElem? (i := 1635) (by decide +kernel))) rfl
theorem mw_437 : Cond.methodLink "RootAlgebraModel" 194 y_Md_multiplied ∈ wA := wA_in (List.mem_append_right _ (List.mem_of_getElem? (i := 1632) (by decide +kernel))) rfl
theorem mw_438 : Cond.instanceMethod y_Md_multiplied ∈ wA := wA_in (List.mem_append_right _ (List.mem_of_getElem? (i := 1634) (by decide +kernel))) rfl
theorem mw_439 : Cond.selects "RootAlgebraModel" y_Md_multiplied y_Md_multiplied ∈ wA := wA_in (List.mem_append_left _ (by decide +kernel)) rfl
theorem gc_0 : kCI "RootAlgebra$Value" 17 y_Big_init b_Big_init 2 none 1 := ⟨mw_10, mw_9, mw_11, by decide +kernel⟩
theorem gc_1 : kCI "RootAlgebra$Value" 43 y_Big_setLong b_Big_setLong 6 none 1 := ⟨mw_20, mw_9, mw_21, by decide +kernel⟩
theorem gc_2 : kCI "RootAlgebra$Value" 28 y_Value_finishFraction b_Value_finishFraction 1 none 0 := ⟨mw_25, mw_26, mw_27, by decide +kernel⟩
theorem gc_3 : kCI "RootAlgebra$Poly" 15 y_Big_init b_Big_init 2 none 1 := ⟨mw_10, mw_9, mw_33, by decide +kernel⟩
theorem gc_4 : kCI "RootAlgebra$Padic" 19 y_Big_init b_Big_init 2 none 1 := ⟨mw_10, mw_9, mw_46, by decide +kernel⟩
theorem gc_5 : kCI "RootAlgebra$Gauge" 11 y_Big_init b_Big_init 2 none 1 := ⟨mw_10, mw_9, mw_53, by decide +kernel⟩
theorem gc_6 : kCI "RootAlgebra$Sums" 23 y_Big_init b_Big_init 2 none 1 := ⟨mw_10, mw_9, mw_70, by decide +kernel⟩
theorem gc_7 : kCI "RootAlgebra$Isolator" 20 y_Big_init b_Big_init 2 none 1 := ⟨mw_10, mw_9, mw_76, by decide +kernel⟩
theorem gc_8 : kCI "RootAlgebra$Factors" 13 y_Field_init b_Field_init 1 none 0 := ⟨mw_86, mw_85, mw_87, by decide +kernel⟩
theorem gc_9 : kCI "RootAlgebra$Factors" 22 y_Padic_init b_Padic_init 1 none 0 := ⟨mw_93, mw_92, mw_94, by decide +kernel⟩
theorem gc_10 : kCI "RootAlgebra$Factors" 29 y_Big_init b_Big_init 2 none 1 := ⟨mw_10, mw_9, mw_98, by decide +kernel⟩
theorem gc_11 : kCI "RootAlgebra$Desk" 17 y_Value_init b_Value_init 1 none 0 := ⟨mw_118, mw_26, mw_119, by decide +kernel⟩
theorem gc_12 : kCI "RootAlgebra$Desk" 24 y_Poly_init b_Poly_init 2 none 0 := ⟨mw_125, mw_124, mw_126, by decide +kernel⟩
theorem gc_13 : kCI "RootAlgebra$Desk" 37 y_Sums_init b_Sums_init 2 none 0 := ⟨mw_134, mw_133, mw_135, by decide +kernel⟩
theorem gc_14 : kCI "RootAlgebra$Desk" 44 y_Factors_init b_Factors_init 1 none 0 := ⟨mw_141, mw_140, mw_142, by decide +kernel⟩
theorem gc_15 : kCI "RootAlgebra$Desk" 51 y_Isolator_init b_Isolator_init 2 none 0 := ⟨mw_148, mw_147, mw_149, by decide +kernel⟩
theorem gc_16 : kCI "RootAlgebra$Desk" 58 y_Gauge_init b_Gauge_init 1 none 0 := ⟨mw_155, mw_154, mw_156, by decide +kernel⟩
theorem gc_17 : kCI "RootAlgebra" 21 y_Big_init b_Big_init 2 none 1 := ⟨mw_10, mw_9, mw_165, by decide +kernel⟩
theorem gc_18 : kCI "RootAlgebra" 34 y_Value_init b_Value_init 1 none 0 := ⟨mw_118, mw_26, mw_169, by decide +kernel⟩
theorem gc_19 : kCI "RootAlgebra" 35 y_Value_setFraction b_Value_setFraction 3 none 2 := ⟨mw_170, mw_26, mw_171, by decide +kernel⟩
theorem gc_20 : kCI "RootAlgebra" 41 y_Reader_init b_Reader_init 2 none 1 := ⟨mw_177, mw_176, mw_178, by decide +kernel⟩
theorem gc_21 : kCI "RootAlgebra" 50 y_Desk_init b_Desk_init 2 none 0 := ⟨mw_184, mw_183, mw_185, by decide +kernel⟩
theorem gc_22 : kCI "RootAlgebra" 123 y_RA_isName b_RA_isName 2 (some .boolean) 1 := ⟨mw_189, mw_190, mw_191, by decide +kernel⟩
theorem gc_23 : kCI "RootAlgebra" 117 y_RA_namesWithValue b_RA_namesWithValue 3 (some .int) 0 := ⟨mw_198, mw_190, mw_199, by decide +kernel⟩
theorem gc_24 : kCI "RootAlgebra$Reader" 42 y_Reader_next b_Reader_next 1 (some .int) 0 := ⟨mw_208, mw_176, mw_209, by decide +kernel⟩
theorem gc_25 : kCI "RootAlgebra$Reader" 56 y_Reader_factor b_Reader_factor 5 (some .boolean) 1 := ⟨mw_212, mw_176, mw_213, by decide +kernel⟩
theorem gc_26 : kCI "RootAlgebra$Reader" 53 y_Reader_product b_Reader_product 4 (some .boolean) 1 := ⟨mw_216, mw_176, mw_217, by decide +kernel⟩
theorem gc_27 : kCI "RootAlgebra$Reader" 35 y_Reader_readTarget b_Reader_readTarget 3 none 0 := ⟨mw_225, mw_176, mw_226, by decide +kernel⟩
theorem gc_28 : kCI "RootAlgebra$Reader" 38 y_Reader_sum b_Reader_sum 4 (some .boolean) 1 := ⟨mw_229, mw_176, mw_230, by decide +kernel⟩
theorem gc_29 : kCI "RootAlgebra" 68 y_Reader_reads b_Reader_reads 2 (some .boolean) 1 := ⟨mw_233, mw_176, mw_234, by decide +kernel⟩
theorem gc_30 : kCI "RootAlgebra$Big" 32 y_Big_trim b_Big_trim 1 none 0 := ⟨mw_238, mw_9, mw_239, by decide +kernel⟩
theorem gc_31 : kCI "RootAlgebra$Big" 56 y_Big_divide b_Big_divide 7 (some .int) 1 := ⟨mw_242, mw_9, mw_243, by decide +kernel⟩
theorem gc_32 : kCI "RootAlgebra" 173 y_Big_divide b_Big_divide 7 (some .int) 1 := ⟨mw_242, mw_9, mw_254, by decide +kernel⟩
theorem gc_33 : kCI "RootAlgebra" 162 y_RA_put b_RA_put 2 none 1 := ⟨mw_255, mw_190, mw_256, by decide +kernel⟩
theorem gc_34 : kCI "RootAlgebra" 165 y_Big_setLong b_Big_setLong 6 none 1 := ⟨mw_20, mw_9, mw_259, by decide +kernel⟩
theorem gc_35 : kCI "RootAlgebra" 159 y_RA_putRest b_RA_putRest 5 none 0 := ⟨mw_260, mw_190, mw_261, by decide +kernel⟩
theorem gc_36 : kCI "RootAlgebra$Gauge" 150 y_Big_scale b_Big_scale 10 none 1 := ⟨mw_264, mw_9, mw_265, by decide +kernel⟩
theorem gc_37 : kCI "RootAlgebra$Gauge" 58 y_Big_setLong b_Big_setLong 6 none 1 := ⟨mw_20, mw_9, mw_270, by decide +kernel⟩
theorem gc_38 : kCI "RootAlgebra$Gauge" 147 y_Gauge_timesTen b_Gauge_timesTen 4 none 2 := ⟨mw_271, mw_154, mw_272, by decide +kernel⟩
theorem gc_39 : kCI "RootAlgebra$Gauge" 65 y_Big_divideDown b_Big_divideDown 3 none 1 := ⟨mw_275, mw_9, mw_276, by decide +kernel⟩
theorem gc_40 : kCI "RootAlgebra" 151 y_Gauge_wholePart b_Gauge_wholePart 5 (some (.object "RootAlgebra$Big")) 2 := ⟨mw_280, mw_154, mw_281, by decide +kernel⟩
theorem gc_41 : kCI "RootAlgebra" 155 y_Big_set b_Big_set 2 none 1 := ⟨mw_284, mw_9, mw_285, by decide +kernel⟩
theorem gc_42 : kCI "RootAlgebra$Gauge" 127 y_Value_hasPolynomialOf b_Value_hasPolynomialOf 3 (some .boolean) 1 := ⟨mw_288, mw_26, mw_289, by decide +kernel⟩
theorem gc_43 : kCI "RootAlgebra$Gauge" 134 y_Integer_compare b_Integer_compare 2 (some .int) 2 := ⟨mw_293, mw_294, mw_295, by decide +kernel⟩
theorem gc_44 : kCI "RootAlgebra" 145 y_Gauge_order b_Gauge_order 5 (some .int) 2 := ⟨mw_297, mw_154, mw_298, by decide +kernel⟩
theorem gc_45 : kCI "RootAlgebraModel" 147 y_Md_number b_Md_number 4 none 2 := ⟨mw_347, mw_348, mw_349, by decide +kernel⟩
theorem gc_46 : kCI "RootAlgebraModel" 151 y_Md_seats b_Md_seats 1 none 0 := ⟨mw_352, mw_348, mw_353, by decide +kernel⟩
theorem gc_47 : kCI "RootAlgebraModel" 446 y_Md_in b_Md_in 6 (some .boolean) 3 := ⟨mw_358, mw_348, mw_359, by decide +kernel⟩
theorem gc_48 : kCI "RootAlgebraModel" 594 y_Md_isName b_Md_isName 1 (some .boolean) 1 := ⟨mw_361, mw_348, mw_362, by decide +kernel⟩
theorem gc_49 : kCI "RootAlgebraModel" 581 y_Md_fails b_Md_fails 3 (some .boolean) 2 := ⟨mw_364, mw_348, mw_365, by decide +kernel⟩
theorem gc_50 : kCI "RootAlgebraModel" 597 y_Md_bars b_Md_bars 2 (some .boolean) 1 := ⟨mw_368, mw_348, mw_369, by decide +kernel⟩
theorem gc_51 : kCI "RootAlgebraModel" 490 y_Md_peek b_Md_peek 1 (some .int) 0 := ⟨mw_388, mw_348, mw_389, by decide +kernel⟩
theorem gc_52 : kCI "RootAlgebraModel" 514 y_Md_opens b_Md_opens 4 (some .boolean) 1 := ⟨mw_392, mw_348, mw_393, by decide +kernel⟩
theorem gc_53 : kCI "RootAlgebraModel" 570 y_Md_isLine b_Md_isLine 4 (some .boolean) 0 := ⟨mw_396, mw_348, mw_397, by decide +kernel⟩
theorem gc_54 : kCI "RootAlgebraModel" 475 y_Md_against b_Md_against 6 (some .int) 2 := ⟨mw_400, mw_348, mw_401, by decide +kernel⟩
theorem gc_55 : kCI "RootAlgebraModel" 159 y_Md_fix b_Md_fix 2 none 1 := ⟨mw_405, mw_348, mw_406, by decide +kernel⟩
theorem gc_56 : kCI "RootAlgebraModel" 171 y_Md_lands b_Md_lands 5 none 3 := ⟨mw_409, mw_348, mw_410, by decide +kernel⟩
theorem gc_57 : kCI "RootAlgebraModel" 167 y_Md_digit b_Md_digit 3 (some .long) 2 := ⟨mw_414, mw_348, mw_415, by decide +kernel⟩
theorem gc_58 : kCI "RootAlgebraModel" 175 y_Md_put b_Md_put 7 none 2 := ⟨mw_419, mw_348, mw_420, by decide +kernel⟩
theorem gc_59 : kCI "RootAlgebraModel" 188 y_Md_divided b_Md_divided 19 none 4 := ⟨mw_423, mw_348, mw_424, by decide +kernel⟩
theorem gc_60 : kCI "RootAlgebraModel" 608 y_Md_letter b_Md_letter 2 none 1 := ⟨mw_427, mw_348, mw_428, by decide +kernel⟩
theorem gc_61 : kCI "RootAlgebraModel" 605 y_Md_says b_Md_says 6 none 0 := ⟨mw_431, mw_348, mw_432, by decide +kernel⟩
theorem gc_62 : kCI "RootAlgebraModel" 194 y_Md_multiplied b_Md_multiplied 10 none 3 := ⟨mw_436, mw_348, mw_437, by decide +kernel⟩
theorem gi_Big_init : kI y_Big_init := ⟨rfl, mw_12⟩
theorem gi_Desk_init : kI y_Desk_init := ⟨rfl, mw_186⟩
theorem gi_Factors_init : kI y_Factors_init := ⟨rfl, mw_143⟩
theorem gi_Field_init : kI y_Field_init := ⟨rfl, mw_88⟩
theorem gi_Gauge_init : kI y_Gauge_init := ⟨rfl, mw_157⟩
theorem gi_Isolator_init : kI y_Isolator_init := ⟨rfl, mw_150⟩
theorem gi_Padic_init : kI y_Padic_init := ⟨rfl, mw_95⟩
theorem gi_Poly_init : kI y_Poly_init := ⟨rfl, mw_127⟩
theorem gi_Reader_init : kI y_Reader_init := ⟨rfl, mw_179⟩
theorem gi_Sums_init : kI y_Sums_init := ⟨rfl, mw_136⟩
theorem gi_Value_init : kI y_Value_init := ⟨rfl, mw_120⟩
theorem gv_Big_divide : kV "RootAlgebra$Big" y_Big_divide := ⟨mw_244, mw_245⟩
theorem gv_Big_divideDown : kV "RootAlgebra$Big" y_Big_divideDown := ⟨mw_277, mw_278⟩
theorem gv_Big_scale : kV "RootAlgebra$Big" y_Big_scale := ⟨mw_266, mw_267⟩
theorem gv_Big_set : kV "RootAlgebra$Big" y_Big_set := ⟨mw_286, mw_287⟩
theorem gv_Big_setLong : kV "RootAlgebra$Big" y_Big_setLong := ⟨mw_22, mw_23⟩
theorem gv_Big_trim : kV "RootAlgebra$Big" y_Big_trim := ⟨mw_240, mw_241⟩
theorem gv_Gauge_order : kV "RootAlgebra$Gauge" y_Gauge_order := ⟨mw_299, mw_300⟩
theorem gv_Gauge_timesTen : kV "RootAlgebra$Gauge" y_Gauge_timesTen := ⟨mw_273, mw_274⟩
theorem gv_Gauge_wholePart : kV "RootAlgebra$Gauge" y_Gauge_wholePart := ⟨mw_282, mw_283⟩
theorem gv_Md_against : kV "RootAlgebraModel" y_Md_against := ⟨mw_402, mw_403⟩
theorem gv_Md_bars : kV "RootAlgebraModel" y_Md_bars := ⟨mw_370, mw_371⟩
theorem gv_Md_digit : kV "RootAlgebraModel" y_Md_digit := ⟨mw_416, mw_417⟩
theorem gv_Md_divided : kV "RootAlgebraModel" y_Md_divided := ⟨mw_425, mw_426⟩
theorem gv_Md_fails : kV "RootAlgebraModel" y_Md_fails := ⟨mw_366, mw_367⟩
theorem gv_Md_fix : kV "RootAlgebraModel" y_Md_fix := ⟨mw_407, mw_408⟩
theorem gv_Md_isLine : kV "RootAlgebraModel" y_Md_isLine := ⟨mw_398, mw_399⟩
theorem gv_Md_lands : kV "RootAlgebraModel" y_Md_lands := ⟨mw_411, mw_412⟩
theorem gv_Md_letter : kV "RootAlgebraModel" y_Md_letter := ⟨mw_429, mw_430⟩
theorem gv_Md_multiplied : kV "RootAlgebraModel" y_Md_multiplied := ⟨mw_438, mw_439⟩
theorem gv_Md_number : kV "RootAlgebraModel" y_Md_number := ⟨mw_350, mw_351⟩
theorem gv_Md_opens : kV "RootAlgebraModel" y_Md_opens := ⟨mw_394, mw_395⟩
theorem gv_Md_peek : kV "RootAlgebraModel" y_Md_peek := ⟨mw_390, mw_391⟩
theorem gv_Md_put : kV "RootAlgebraModel" y_Md_put := ⟨mw_421, mw_422⟩
theorem gv_Md_says : kV "RootAlgebraModel" y_Md_says := ⟨mw_433, mw_434⟩
theorem gv_Md_seats : kV "RootAlgebraModel" y_Md_seats := ⟨mw_354, mw_355⟩
theorem gv_RA_isName : kV "RootAlgebra" y_RA_isName := ⟨mw_192, mw_193⟩
theorem gv_RA_namesWithValue : kV "RootAlgebra" y_RA_namesWithValue := ⟨mw_200, mw_201⟩
theorem gv_RA_put : kV "RootAlgebra" y_RA_put := ⟨mw_257, mw_258⟩
theorem gv_RA_putRest : kV "RootAlgebra" y_RA_putRest := ⟨mw_262, mw_263⟩
theorem gv_Reader_factor : kV "RootAlgebra$Reader" y_Reader_factor := ⟨mw_214, mw_215⟩
theorem gv_Reader_next : kV "RootAlgebra$Reader" y_Reader_next := ⟨mw_210, mw_211⟩
theorem gv_Reader_product : kV "RootAlgebra$Reader" y_Reader_product := ⟨mw_218, mw_219⟩
theorem gv_Reader_readTarget : kV "RootAlgebra$Reader" y_Reader_readTarget := ⟨mw_227, mw_228⟩
theorem gv_Reader_reads : kV "RootAlgebra$Reader" y_Reader_reads := ⟨mw_235, mw_236⟩
theorem gv_Reader_sum : kV "RootAlgebra$Reader" y_Reader_sum := ⟨mw_231, mw_232⟩
theorem gv_Value_finishFraction : kV "RootAlgebra$Value" y_Value_finishFraction := ⟨mw_28, mw_29⟩
theorem gv_Value_hasPolynomialOf : kV "RootAlgebra$Value" y_Value_hasPolynomialOf := ⟨mw_290, mw_291⟩
theorem gv_Value_setFraction : kV "RootAlgebra$Value" y_Value_setFraction := ⟨mw_172, mw_173⟩
theorem gs_Integer_compare : kS y_Integer_compare := mw_296
theorem gs_Md_in : kS y_Md_in := mw_360
theorem gs_Md_isName : kS y_Md_isName := mw_363
theorem zin_RA : ∀ w ∈ u_ws "RootAlgebra" zT_RA 11, w ∈ lw_tbl := by decide +kernel
theorem zgd_RA : ∀ w ∈ u_ws "RootAlgebra" zT_RA 11, goodWord w = true := by decide +kernel
theorem zC_RA : kCl 0 "RootAlgebra" zT_RA 11 zt_RA := ⟨rfl, fun w h => wA_in (zin_RA w h) (zgd_RA w h), by decide +kernel, by decide +kernel⟩
theorem z0_RA : ∀ j, j < 11 → defaultValue (zt_RA j) = vp_V [.null, .null, .null, .null, .null, .null, .null, .int 0, .int 0, .int 0, .int 0] j := by decide +kernel
theorem zin_Big : ∀ w ∈ u_ws "RootAlgebra$Big" zT_Big 3, w ∈ lw_tbl := by decide +kernel
theorem zgd_Big : ∀ w ∈ u_ws "RootAlgebra$Big" zT_Big 3, goodWord w = true := by decide +kernel
theorem zC_Big : kCl 1 "RootAlgebra$Big" zT_Big 3 zt_Big := ⟨rfl, fun w h => wA_in (zin_Big w h) (zgd_Big w h), by decide +kernel, by decide +kernel⟩
theorem z0_Big : ∀ j, j < 3 → defaultValue (zt_Big j) = vp_V [.null, .int 0, .int 0] j := by decide +kernel
theorem zin_Desk : ∀ w ∈ u_ws "RootAlgebra$Desk" zT_Desk 12, w ∈ lw_tbl := by decide +kernel
theorem zgd_Desk : ∀ w ∈ u_ws "RootAlgebra$Desk" zT_Desk 12, goodWord w = true := by decide +kernel
theorem zC_Desk : kCl 2 "RootAlgebra$Desk" zT_Desk 12 zt_Desk := ⟨rfl, fun w h => wA_in (zin_Desk w h) (zgd_Desk w h), by decide +kernel, by decide +kernel⟩
theorem z0_Desk : ∀ j, j < 12 → defaultValue (zt_Desk j) = vp_V [.null, .null, .null, .null, .null, .null, .null, .null, .null, .int 0, .int 0, .int 0] j := by decide +kernel
theorem zin_Factors : ∀ w ∈ u_ws "RootAlgebra$Factors" zT_Factors 20, w ∈ lw_tbl := by decide +kernel
theorem zgd_Factors : ∀ w ∈ u_ws "RootAlgebra$Factors" zT_Factors 20, goodWord w = true := by decide +kernel
theorem zC_Factors : kCl 3 "RootAlgebra$Factors" zT_Factors 20 zt_Factors := ⟨rfl, fun w h => wA_in (zin_Factors w h) (zgd_Factors w h), by decide +kernel, by decide +kernel⟩
theorem z0_Factors : ∀ j, j < 20 → defaultValue (zt_Factors j) = vp_V [.null, .null, .null, .null, .null, .null, .null, .null, .null, .null, .null, .null, .null, .null, .null, .null, .int 0, .int 0, .int 0, .int 0] j := by decide +kernel
theorem zin_Field : ∀ w ∈ u_ws "RootAlgebra$Field" zT_Field 7, w ∈ lw_tbl := by decide +kernel
theorem zgd_Field : ∀ w ∈ u_ws "RootAlgebra$Field" zT_Field 7, goodWord w = true := by decide +kernel
theorem zC_Field : kCl 4 "RootAlgebra$Field" zT_Field 7 zt_Field := ⟨rfl, fun w h => wA_in (zin_Field w h) (zgd_Field w h), by decide +kernel, by decide +kernel⟩
theorem z0_Field : ∀ j, j < 7 → defaultValue (zt_Field j) = vp_V [.int 0, .null, .null, .null, .null, .null, .null] j := by decide +kernel
theorem zin_Gauge : ∀ w ∈ u_ws "RootAlgebra$Gauge" zT_Gauge 17, w ∈ lw_tbl := by decide +kernel
theorem zgd_Gauge : ∀ w ∈ u_ws "RootAlgebra$Gauge" zT_Gauge 17, goodWord w = true := by decide +kernel
theorem zC_Gauge : kCl 5 "RootAlgebra$Gauge" zT_Gauge 17 zt_Gauge := ⟨rfl, fun w h => wA_in (zin_Gauge w h) (zgd_Gauge w h), by decide +kernel, by decide +kernel⟩
theorem z0_Gauge : ∀ j, j < 17 → defaultValue (zt_Gauge j) = vp_V [.null, .null, .null, .null, .null, .null, .null, .null, .null, .null, .null, .null, .null, .int 0, .int 0, .int 0, .int 0] j := by decide +kernel
theorem zin_Isolator : ∀ w ∈ u_ws "RootAlgebra$Isolator" zT_Isolator 11, w ∈ lw_tbl := by decide +kernel
theorem zgd_Isolator : ∀ w ∈ u_ws "RootAlgebra$Isolator" zT_Isolator 11, goodWord w = true := by decide +kernel
theorem zC_Isolator : kCl 6 "RootAlgebra$Isolator" zT_Isolator 11 zt_Isolator := ⟨rfl, fun w h => wA_in (zin_Isolator w h) (zgd_Isolator w h), by decide +kernel, by decide +kernel⟩
theorem z0_Isolator : ∀ j, j < 11 → defaultValue (zt_Isolator j) = vp_V [.null, .null, .null, .null, .null, .null, .int 0, .int 0, .int 0, .int 0, .int 0] j := by decide +kernel
theorem zin_Padic : ∀ w ∈ u_ws "RootAlgebra$Padic" zT_Padic 3, w ∈ lw_tbl := by decide +kernel
theorem zgd_Padic : ∀ w ∈ u_ws "RootAlgebra$Padic" zT_Padic 3, goodWord w = true := by decide +kernel
theorem zC_Padic : kCl 7 "RootAlgebra$Padic" zT_Padic 3 zt_Padic := ⟨rfl, fun w h => wA_in (zin_Padic w h) (zgd_Padic w h), by decide +kernel, by decide +kernel⟩
theorem z0_Padic : ∀ j, j < 3 → defaultValue (zt_Padic j) = vp_V [.int 0, .long 0, .null] j := by decide +kernel
theorem zin_Poly : ∀ w ∈ u_ws "RootAlgebra$Poly" zT_Poly 2, w ∈ lw_tbl := by decide +kernel
theorem zgd_Poly : ∀ w ∈ u_ws "RootAlgebra$Poly" zT_Poly 2, goodWord w = true := by decide +kernel
theorem zC_Poly : kCl 8 "RootAlgebra$Poly" zT_Poly 2 zt_Poly := ⟨rfl, fun w h => wA_in (zin_Poly w h) (zgd_Poly w h), by decide +kernel, by decide +kernel⟩
theorem z0_Poly : ∀ j, j < 2 → defaultValue (zt_Poly j) = vp_V [.null, .int 0] j := by decide +kernel
theorem zin_Reader : ∀ w ∈ u_ws "RootAlgebra$Reader" zT_Reader 7, w ∈ lw_tbl := by decide +kernel
theorem zgd_Reader : ∀ w ∈ u_ws "RootAlgebra$Reader" zT_Reader 7, goodWord w = true := by decide +kernel
theorem zC_Reader : kCl 9 "RootAlgebra$Reader" zT_Reader 7 zt_Reader := ⟨rfl, fun w h => wA_in (zin_Reader w h) (zgd_Reader w h), by decide +kernel, by decide +kernel⟩
theorem z0_Reader : ∀ j, j < 7 → defaultValue (zt_Reader j) = vp_V [.null, .null, .int 0, .int 0, .int 0, .int 0, .int 0] j := by decide +kernel
theorem zin_Sums : ∀ w ∈ u_ws "RootAlgebra$Sums" zT_Sums 4, w ∈ lw_tbl := by decide +kernel
theorem zgd_Sums : ∀ w ∈ u_ws "RootAlgebra$Sums" zT_Sums 4, goodWord w = true := by decide +kernel
theorem zC_Sums : kCl 10 "RootAlgebra$Sums" zT_Sums 4 zt_Sums := ⟨rfl, fun w h => wA_in (zin_Sums w h) (zgd_Sums w h), by decide +kernel, by decide +kernel⟩
theorem z0_Sums : ∀ j, j < 4 → defaultValue (zt_Sums j) = vp_V [.null, .null, .null, .null] j := by decide +kernel
theorem zin_Value : ∀ w ∈ u_ws "RootAlgebra$Value" zT_Value 7, w ∈ lw_tbl := by decide +kernel
theorem zgd_Value : ∀ w ∈ u_ws "RootAlgebra$Value" zT_Value 7, goodWord w = true := by decide +kernel
theorem zC_Value : kCl 11 "RootAlgebra$Value" zT_Value 7 zt_Value := ⟨rfl, fun w h => wA_in (zin_Value w h) (zgd_Value w h), by decide +kernel, by decide +kernel⟩
theorem z0_Value : ∀ j, j < 7 → defaultValue (zt_Value j) = vp_V [.null, .null, .int 0, .int 0, .int 0, .int 0, .int 0] j := by decide +kernel
theorem zin_Md : ∀ w ∈ u_ws "RootAlgebraModel" zT_Md 65, w ∈ lw_tbl := by decide +kernel
theorem zgd_Md : ∀ w ∈ u_ws "RootAlgebraModel" zT_Md 65, goodWord w = true := by decide +kernel
theorem zC_Md : kCl 12 "RootAlgebraModel" zT_Md 65 zt_Md := ⟨rfl, fun w h => wA_in (zin_Md w h) (zgd_Md w h), by decide +kernel, by decide +kernel⟩
theorem z0_Md : ∀ j, j < 65 → defaultValue (zt_Md j) = vp_V [.int 0, .null, .int 0, .null, .int 0, .int 0, .int 0, .null, .null, .null, .null, .null, .null, .null, .null, .null, .null, .null, .null, .int 0, .null, .null, .null, .null, .null, .null, .null, .null, .null, .null, .long 0, .int 0, .null, .null, .null, .null, .null, .null, .null, .null, .null, .null, .int 0, .int 0, .null, .int 0, .int 0, .int 0, .int 0, .int 0, .int 0, .null, .int 0, .null, .null, .int 0, .null, .null, .int 0, .int 0, .int 0, .int 0, .int 0, .null, .null] j := by decide +kernel

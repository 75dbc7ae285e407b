/-! words of the tables, by their places; laid by program -/
set_option maxRecDepth 20000 in
theorem mw_145 : Cond.classLink "RootAlgebra$Desk" 49 "RootAlgebra$Isolator" ∈ wA := wA_in (zt_2 _ (List.mem_of_getElem? (i := 86) rfl)) rfl
set_option maxRecDepth 20000 in
theorem mw_146 : Cond.instantiable "RootAlgebra$Isolator" 11 ∈ wA := wA_in (zt_2 _ (List.mem_of_getElem? (i := 87) rfl)) rfl
set_option maxRecDepth 20000 in
theorem mw_147 : Cond.initialized "RootAlgebra$Isolator" ∈ wA := wA_in (zt_1 _ (List.mem_of_getElem? (i := 11) rfl)) rfl
set_option maxRecDepth 20000 in
theorem mw_148 : Cond.code y_Isolator_init b_Isolator_init 2 none ∈ wA := wA_in (zt_2 _ (List.mem_of_getElem? (i := 90) rfl)) rfl
set_option maxRecDepth 20000 in
theorem mw_149 : Cond.methodLink "RootAlgebra$Desk" 51 y_Isolator_init ∈ wA := wA_in (zt_2 _ (List.mem_of_getElem? (i := 88) rfl)) rfl
set_option maxRecDepth 20000 in
theorem mw_150 : Cond.instanceMethod y_Isolator_init ∈ wA := wA_in (zt_2 _ (List.mem_of_getElem? (i := 89) rfl)) rfl
set_option maxRecDepth 20000 in
theorem mw_151 : Cond.fieldLink "RootAlgebra$Desk" 52 "RootAlgebra$Desk" "isolator" "LRootAlgebra$Isolator;" ∈ wA := wA_in (zt_2 _ (List.mem_of_getElem? (i := 208) rfl)) rfl
set_option maxRecDepth 20000 in
theorem mw_152 : Cond.classLink "RootAlgebra$Desk" 56 "RootAlgebra$Gauge" ∈ wA := wA_in (zt_2 _ (List.mem_of_getElem? (i := 140) rfl)) rfl
set_option maxRecDepth 20000 in
theorem mw_153 : Cond.instantiable "RootAlgebra$Gauge" 17 ∈ wA := wA_in (zt_2 _ (List.mem_of_getElem? (i := 141) rfl)) rfl
set_option maxRecDepth 20000 in
theorem mw_154 : Cond.initialized "RootAlgebra$Gauge" ∈ wA := wA_in (zt_1 _ (List.mem_of_getElem? (i := 12) rfl)) rfl
set_option maxRecDepth 20000 in
theorem mw_155 : Cond.code y_Gauge_init b_Gauge_init 1 none ∈ wA := wA_in (zt_2 _ (List.mem_of_getElem? (i := 144) rfl)) rfl
set_option maxRecDepth 20000 in
theorem mw_156 : Cond.methodLink "RootAlgebra$Desk" 58 y_Gauge_init ∈ wA := wA_in (zt_2 _ (List.mem_of_getElem? (i := 142) rfl)) rfl
set_option maxRecDepth 20000 in
theorem mw_157 : Cond.instanceMethod y_Gauge_init ∈ wA := wA_in (zt_2 _ (List.mem_of_getElem? (i := 143) rfl)) rfl
set_option maxRecDepth 20000 in
theorem mw_158 : Cond.fieldLink "RootAlgebra$Desk" 59 "RootAlgebra$Desk" "gauge" "LRootAlgebra$Gauge;" ∈ wA := wA_in (zt_2 _ (List.mem_of_getElem? (i := 209) rfl)) rfl
set_option maxRecDepth 20000 in
theorem mw_159 : Cond.methodLink "RootAlgebra" 1 Lib.objectInit ∈ wA := wA_in (zt_1 _ (List.mem_of_getElem? (i := 28) rfl)) rfl
set_option maxRecDepth 20000 in
theorem mw_160 : Cond.arrayClass .byte ∈ wA := wA_in (zt_1 _ (List.mem_of_getElem? (i := 53) rfl)) rfl
set_option maxRecDepth 20000 in
theorem mw_161 : Cond.fieldLink "RootAlgebra" 9 "RootAlgebra" "tape" "[B" ∈ wA := wA_in (zt_3 _ (List.mem_of_getElem? (i := 0) rfl)) rfl
set_option maxRecDepth 20000 in
theorem mw_162 : Cond.fieldLink "RootAlgebra" 13 "RootAlgebra" "text" "[B" ∈ wA := wA_in (zt_3 _ (List.mem_of_getElem? (i := 1) rfl)) rfl
set_option maxRecDepth 20000 in
theorem mw_163 : Cond.fieldLink "RootAlgebra" 16 "RootAlgebra" "digits" "[B" ∈ wA := wA_in (zt_3 _ (List.mem_of_getElem? (i := 2) rfl)) rfl
set_option maxRecDepth 20000 in
theorem mw_164 : Cond.classLink "RootAlgebra" 19 "RootAlgebra$Big" ∈ wA := wA_in (zt_1 _ (List.mem_of_getElem? (i := 31) rfl)) rfl
set_option maxRecDepth 20000 in
theorem mw_165 : Cond.methodLink "RootAlgebra" 21 y_Big_init ∈ wA := wA_in (zt_1 _ (List.mem_of_getElem? (i := 33) rfl)) rfl
set_option maxRecDepth 20000 in
theorem mw_166 : Cond.fieldLink "RootAlgebra" 24 "RootAlgebra" "rest" "LRootAlgebra$Big;" ∈ wA := wA_in (zt_3 _ (List.mem_of_getElem? (i := 3) rfl)) rfl
set_option maxRecDepth 20000 in
theorem mw_167 : Cond.classLink "RootAlgebra" 28 "RootAlgebra$Value" ∈ wA := wA_in (zt_1 _ (List.mem_of_getElem? (i := 55) rfl)) rfl
set_option maxRecDepth 20000 in
theorem mw_168 : Cond.fieldLink "RootAlgebra" 30 "RootAlgebra" "values" "[LRootAlgebra$Value;" ∈ wA := wA_in (zt_3 _ (List.mem_of_getElem? (i := 4) rfl)) rfl
set_option maxRecDepth 20000 in
theorem mw_169 : Cond.methodLink "RootAlgebra" 34 y_Value_init ∈ wA := wA_in (zt_1 _ (List.mem_of_getElem? (i := 58) rfl)) rfl
set_option maxRecDepth 20000 in
theorem mw_170 : Cond.code y_Value_setFraction b_Value_setFraction 3 none ∈ wA := wA_in (zt_1 _ (List.mem_of_getElem? (i := 109) rfl)) rfl
set_option maxRecDepth 20000 in
theorem mw_171 : Cond.methodLink "RootAlgebra" 35 y_Value_setFraction ∈ wA := wA_in (zt_1 _ (List.mem_of_getElem? (i := 106) rfl)) rfl
set_option maxRecDepth 20000 in
theorem mw_172 : Cond.instanceMethod y_Value_setFraction ∈ wA := wA_in (zt_1 _ (List.mem_of_getElem? (i := 107) rfl)) rfl
set_option maxRecDepth 20000 in
theorem mw_173 : Cond.selects "RootAlgebra$Value" y_Value_setFraction y_Value_setFraction ∈ wA := wA_in (zt_1 _ (List.mem_of_getElem? (i := 108) rfl)) rfl
set_option maxRecDepth 20000 in
theorem mw_174 : Cond.classLink "RootAlgebra" 39 "RootAlgebra$Reader" ∈ wA := wA_in (zt_1 _ (List.mem_of_getElem? (i := 118) rfl)) rfl
set_option maxRecDepth 20000 in
theorem mw_175 : Cond.instantiable "RootAlgebra$Reader" 7 ∈ wA := wA_in (zt_1 _ (List.mem_of_getElem? (i := 119) rfl)) rfl
set_option maxRecDepth 20000 in
theorem mw_176 : Cond.initialized "RootAlgebra$Reader" ∈ wA := wA_in (zt_1 _ (List.mem_of_getElem? (i := 4) rfl)) rfl
set_option maxRecDepth 20000 in
theorem mw_177 : Cond.code y_Reader_init b_Reader_init 2 none ∈ wA := wA_in (zt_1 _ (List.mem_of_getElem? (i := 122) rfl)) rfl
set_option maxRecDepth 20000 in
theorem mw_178 : Cond.methodLink "RootAlgebra" 41 y_Reader_init ∈ wA := wA_in (zt_1 _ (List.mem_of_getElem? (i := 120) rfl)) rfl
set_option maxRecDepth 20000 in
theorem mw_179 : Cond.instanceMethod y_Reader_init ∈ wA := wA_in (zt_1 _ (List.mem_of_getElem? (i := 121) rfl)) rfl
set_option maxRecDepth 20000 in
theorem mw_180 : Cond.fieldLink "RootAlgebra" 44 "RootAlgebra" "reader" "LRootAlgebra$Reader;" ∈ wA := wA_in (zt_3 _ (List.mem_of_getElem? (i := 5) rfl)) rfl
set_option maxRecDepth 20000 in
theorem mw_181 : Cond.classLink "RootAlgebra" 48 "RootAlgebra$Desk" ∈ wA := wA_in (zt_1 _ (List.mem_of_getElem? (i := 150) rfl)) rfl
set_option maxRecDepth 20000 in
theorem mw_182 : Cond.instantiable "RootAlgebra$Desk" 12 ∈ wA := wA_in (zt_1 _ (List.mem_of_getElem? (i := 151) rfl)) rfl
set_option maxRecDepth 20000 in
theorem mw_183 : Cond.initialized "RootAlgebra$Desk" ∈ wA := wA_in (zt_1 _ (List.mem_of_getElem? (i := 5) rfl)) rfl
set_option maxRecDepth 20000 in
theorem mw_184 : Cond.code y_Desk_init b_Desk_init 2 none ∈ wA := wA_in (zt_1 _ (List.mem_of_getElem? (i := 154) rfl)) rfl
set_option maxRecDepth 20000 in
theorem mw_185 : Cond.methodLink "RootAlgebra" 50 y_Desk_init ∈ wA := wA_in (zt_1 _ (List.mem_of_getElem? (i := 152) rfl)) rfl
set_option maxRecDepth 20000 in
theorem mw_186 : Cond.instanceMethod y_Desk_init ∈ wA := wA_in (zt_1 _ (List.mem_of_getElem? (i := 153) rfl)) rfl
set_option maxRecDepth 20000 in
theorem mw_187 : Cond.fieldLink "RootAlgebra" 51 "RootAlgebra" "desk" "LRootAlgebra$Desk;" ∈ wA := wA_in (zt_3 _ (List.mem_of_getElem? (i := 6) rfl)) rfl
set_option maxRecDepth 20000 in
theorem mw_188 : Cond.fieldLink "RootAlgebra" 55 "RootAlgebra" "place" "I" ∈ wA := wA_in (zt_3 _ (List.mem_of_getElem? (i := 9) rfl)) rfl
set_option maxRecDepth 20000 in
theorem mw_189 : Cond.code y_RA_isName b_RA_isName 2 (some .boolean) ∈ wA := wA_in (zt_6 _ (List.mem_of_getElem? (i := 49) rfl)) rfl
set_option maxRecDepth 20000 in
theorem mw_190 : Cond.initialized "RootAlgebra" ∈ wA := wA_in (zt_1 _ (List.mem_of_getElem? (i := 1) rfl)) rfl
set_option maxRecDepth 20000 in
theorem mw_191 : Cond.methodLink "RootAlgebra" 123 y_RA_isName ∈ wA := wA_in (zt_6 _ (List.mem_of_getElem? (i := 46) rfl)) rfl
set_option maxRecDepth 20000 in
theorem mw_192 : Cond.instanceMethod y_RA_isName ∈ wA := wA_in (zt_6 _ (List.mem_of_getElem? (i := 48) rfl)) rfl
theorem mw_193 : Cond.selects "RootAlgebra" y_RA_isName y_RA_isName ∈ wA := wA_in (List.mem_append_left _ (by decide +kernel)) rfl
set_option maxRecDepth 20000 in
theorem mw_194 : Cond.fieldLink "RootAlgebra" 126 "RootAlgebra$Value" "degree" "I" ∈ wA := wA_in (zt_1 _ (List.mem_of_getElem? (i := 77) rfl)) rfl
set_option maxRecDepth 20000 in
theorem mw_195 : Cond.fieldLink "RootAlgebra" 132 "RootAlgebra$Value" "c" "[I" ∈ wA := wA_in (zt_1 _ (List.mem_of_getElem? (i := 68) rfl)) rfl
set_option maxRecDepth 20000 in
theorem mw_196 : Cond.fieldLink "RootAlgebra" 135 "RootAlgebra$Value" "index" "I" ∈ wA := wA_in (zt_1 _ (List.mem_of_getElem? (i := 82) rfl)) rfl
set_option maxRecDepth 20000 in
theorem mw_197 : Cond.fieldLink "RootAlgebra" 138 "RootAlgebra$Value" "roots" "I" ∈ wA := wA_in (zt_1 _ (List.mem_of_getElem? (i := 85) rfl)) rfl
set_option maxRecDepth 20000 in
theorem mw_198 : Cond.code y_RA_namesWithValue b_RA_namesWithValue 3 (some .int) ∈ wA := wA_in (zt_6 _ (List.mem_of_getElem? (i := 38) rfl)) rfl
set_option maxRecDepth 20000 in
theorem mw_199 : Cond.methodLink "RootAlgebra" 117 y_RA_namesWithValue ∈ wA := wA_in (zt_6 _ (List.mem_of_getElem? (i := 35) rfl)) rfl
set_option maxRecDepth 20000 in
theorem mw_200 : Cond.instanceMethod y_RA_namesWithValue ∈ wA := wA_in (zt_6 _ (List.mem_of_getElem? (i := 37) rfl)) rfl
theorem mw_201 : Cond.selects "RootAlgebra" y_RA_namesWithValue y_RA_namesWithValue ∈ wA := wA_in (List.mem_append_left _ (by decide +kernel)) rfl
set_option maxRecDepth 20000 in
theorem mw_202 : Cond.fieldLink "RootAlgebra" 62 "RootAlgebra" "fed" "I" ∈ wA := wA_in (zt_3 _ (List.mem_of_getElem? (i := 7) rfl)) rfl
set_option maxRecDepth 20000 in
theorem mw_203 : Cond.fieldLink "RootAlgebra" 120 "RootAlgebra" "written" "I" ∈ wA := wA_in (zt_3 _ (List.mem_of_getElem? (i := 8) rfl)) rfl
set_option maxRecDepth 20000 in
theorem mw_204 : Cond.fieldLink "RootAlgebra" 114 "RootAlgebra" "done" "I" ∈ wA := wA_in (zt_3 _ (List.mem_of_getElem? (i := 10) rfl)) rfl
set_option maxRecDepth 20000 in
theorem mw_205 : Cond.fieldLink "RootAlgebra$Reader" 29 "RootAlgebra$Reader" "at" "I" ∈ wA := wA_in (zt_1 _ (List.mem_of_getElem? (i := 129) rfl)) rfl
set_option maxRecDepth 20000 in
theorem mw_206 : Cond.fieldLink "RootAlgebra$Reader" 25 "RootAlgebra$Reader" "length" "I" ∈ wA := wA_in (zt_1 _ (List.mem_of_getElem? (i := 127) rfl)) rfl
set_option maxRecDepth 20000 in
theorem mw_207 : Cond.fieldLink "RootAlgebra$Reader" 50 "RootAlgebra$Reader" "target" "I" ∈ wA := wA_in (zt_1 _ (List.mem_of_getElem? (i := 133) rfl)) rfl
set_option maxRecDepth 20000 in
theorem mw_208 : Cond.code y_Reader_next b_Reader_next 1 (some .int) ∈ wA := wA_in (zt_3 _ (List.mem_of_getElem? (i := 52) rfl)) rfl
set_option maxRecDepth 20000 in
theorem mw_209 : Cond.methodLink "RootAlgebra$Reader" 42 y_Reader_next ∈ wA := wA_in (zt_3 _ (List.mem_of_getElem? (i := 49) rfl)) rfl
set_option maxRecDepth 20000 in
theorem mw_210 : Cond.instanceMethod y_Reader_next ∈ wA := wA_in (zt_3 _ (List.mem_of_getElem? (i := 51) rfl)) rfl
theorem mw_211 : Cond.selects "RootAlgebra$Reader" y_Reader_next y_Reader_next ∈ wA := wA_in (List.mem_append_left _ (by decide +kernel)) rfl
set_option maxRecDepth 20000 in
theorem mw_212 : Cond.code y_Reader_factor b_Reader_factor 5 (some .boolean) ∈ wA := wA_in (zt_3 _ (List.mem_of_getElem? (i := 64) rfl)) rfl
set_option maxRecDepth 20000 in
theorem mw_213 : Cond.methodLink "RootAlgebra$Reader" 56 y_Reader_factor ∈ wA := wA_in (zt_3 _ (List.mem_of_getElem? (i := 61) rfl)) rfl
set_option maxRecDepth 20000 in
theorem mw_214 : Cond.instanceMethod y_Reader_factor ∈ wA := wA_in (zt_3 _ (List.mem_of_getElem? (i := 63) rfl)) rfl
theorem mw_215 : Cond.selects "RootAlgebra$Reader" y_Reader_factor y_Reader_factor ∈ wA := wA_in (List.mem_append_left _ (by decide +kernel)) rfl
set_option maxRecDepth 20000 in
theorem mw_216 : Cond.code y_Reader_product b_Reader_product 4 (some .boolean) ∈ wA := wA_in (zt_3 _ (List.mem_of_getElem? (i := 60) rfl)) rfl
set_option maxRecDepth 20000 in
theorem mw_217 : Cond.methodLink "RootAlgebra$Reader" 53 y_Reader_product ∈ wA := wA_in (zt_3 _ (List.mem_of_getElem? (i := 57) rfl)) rfl
set_option maxRecDepth 20000 in
theorem mw_218 : Cond.instanceMethod y_Reader_product ∈ wA := wA_in (zt_3 _ (List.mem_of_getElem? (i := 59) rfl)) rfl
theorem mw_219 : Cond.selects "RootAlgebra$Reader" y_Reader_product y_Reader_product ∈ wA := wA_in (List.mem_append_left _ (by decide +kernel)) rfl
set_option maxRecDepth 20000 in
theorem mw_220 : Cond.methodLink "RootAlgebra$Reader" 19 Lib.Math.min.name ∈ wA := wA_in (zt_3 _ (List.mem_of_getElem? (i := 42) rfl)) rfl
set_option maxRecDepth 20000 in
theorem mw_221 : Cond.static Lib.Math.min.name ∈ wA := wA_in (zt_3 _ (List.mem_of_getElem? (i := 43) rfl)) rfl
set_option maxRecDepth 20000 in
theorem mw_222 : Cond.initialized "java/lang/Math" ∈ wA := wA_in (zt_1 _ (List.mem_of_getElem? (i := 19) rfl)) rfl
set_option maxRecDepth 20000 in
theorem mw_223 : Cond.code Lib.Math.min.name Lib.Math.min.code 2 (some .int) ∈ wA := wA_in (zt_3 _ (List.mem_of_getElem? (i := 44) rfl)) rfl
set_option maxRecDepth 20000 in
theorem mw_224 : Cond.fieldLink "RootAlgebra$Reader" 32 "RootAlgebra$Reader" "size" "I" ∈ wA := wA_in (zt_1 _ (List.mem_of_getElem? (i := 131) rfl)) rfl
set_option maxRecDepth 20000 in
theorem mw_225 : Cond.code y_Reader_readTarget b_Reader_readTarget 3 none ∈ wA := wA_in (zt_3 _ (List.mem_of_getElem? (i := 48) rfl)) rfl
set_option maxRecDepth 20000 in
theorem mw_226 : Cond.methodLink "RootAlgebra$Reader" 35 y_Reader_readTarget ∈ wA := wA_in (zt_3 _ (List.mem_of_getElem? (i := 45) rfl)) rfl
set_option maxRecDepth 20000 in
theorem mw_227 : Cond.instanceMethod y_Reader_readTarget ∈ wA := wA_in (zt_3 _ (List.mem_of_getElem? (i := 47) rfl)) rfl
theorem mw_228 : Cond.selects "RootAlgebra$Reader" y_Reader_readTarget y_Reader_readTarget ∈ wA := wA_in (List.mem_append_left _ (by decide +kernel)) rfl
set_option maxRecDepth 20000 in
theorem mw_229 : Cond.code y_Reader_sum b_Reader_sum 4 (some .boolean) ∈ wA := wA_in (zt_3 _ (List.mem_of_getElem? (i := 56) rfl)) rfl
set_option maxRecDepth 20000 in
theorem mw_230 : Cond.methodLink "RootAlgebra$Reader" 38 y_Reader_sum ∈ wA := wA_in (zt_3 _ (List.mem_of_getElem? (i := 53) rfl)) rfl
set_option maxRecDepth 20000 in
theorem mw_231 : Cond.instanceMethod y_Reader_sum ∈ wA := wA_in (zt_3 _ (List.mem_of_getElem? (i := 55) rfl)) rfl
theorem mw_232 : Cond.selects "RootAlgebra$Reader" y_Reader_sum y_Reader_sum ∈ wA := wA_in (List.mem_append_left _ (by decide +kernel)) rfl
set_option maxRecDepth 20000 in
theorem mw_233 : Cond.code y_Reader_reads b_Reader_reads 2 (some .boolean) ∈ wA := wA_in (zt_3 _ (List.mem_of_getElem? (i := 41) rfl)) rfl
set_option maxRecDepth 20000 in
theorem mw_234 : Cond.methodLink "RootAlgebra" 68 y_Reader_reads ∈ wA := wA_in (zt_3 _ (List.mem_of_getElem? (i := 38) rfl)) rfl
set_option maxRecDepth 20000 in
theorem mw_235 : Cond.instanceMethod y_Reader_reads ∈ wA := wA_in (zt_3 _ (List.mem_of_getElem? (i := 39) rfl)) rfl
set_option maxRecDepth 20000 in
theorem mw_236 : Cond.selects "RootAlgebra$Reader" y_Reader_reads y_Reader_reads ∈ wA := wA_in (zt_3 _ (List.mem_of_getElem? (i := 40) rfl)) rfl
set_option maxRecDepth 20000 in
theorem mw_237 : Cond.fieldLink "RootAlgebra" 72 "RootAlgebra$Reader" "at" "I" ∈ wA := wA_in (zt_1 _ (List.mem_of_getElem? (i := 130) rfl)) rfl
set_option maxRecDepth 20000 in
theorem mw_238 : Cond.code y_Big_trim b_Big_trim 1 none ∈ wA := wA_in (zt_3 _ (List.mem_of_getElem? (i := 129) rfl)) rfl
set_option maxRecDepth 20000 in
theorem mw_239 : Cond.methodLink "RootAlgebra$Big" 32 y_Big_trim ∈ wA := wA_in (zt_3 _ (List.mem_of_getElem? (i := 126) rfl)) rfl
set_option maxRecDepth 20000 in
theorem mw_240 : Cond.instanceMethod y_Big_trim ∈ wA := wA_in (zt_3 _ (List.mem_of_getElem? (i := 128) rfl)) rfl
theorem mw_241 : Cond.selects "RootAlgebra$Big" y_Big_trim y_Big_trim ∈ wA := wA_in (List.mem_append_left _ (by decide +kernel)) rfl
set_option maxRecDepth 20000 in
theorem mw_242 : Cond.code y_Big_divide b_Big_divide 7 (some .int) ∈ wA := wA_in (zt_3 _ (List.mem_of_getElem? (i := 201) rfl)) rfl
set_option maxRecDepth 20000 in
theorem mw_243 : Cond.methodLink "RootAlgebra$Big" 56 y_Big_divide ∈ wA := wA_in (zt_3 _ (List.mem_of_getElem? (i := 198) rfl)) rfl
set_option maxRecDepth 20000 in
theorem mw_244 : Cond.instanceMethod y_Big_divide ∈ wA := wA_in (zt_3 _ (List.mem_of_getElem? (i := 199) rfl)) rfl
set_option maxRecDepth 20000 in
theorem mw_245 : Cond.selects "RootAlgebra$Big" y_Big_divide y_Big_divide ∈ wA := wA_in (zt_3 _ (List.mem_of_getElem? (i := 200) rfl)) rfl
set_option maxRecDepth 20000 in
theorem mw_246 : Cond.methodLink "RootAlgebra$Big" 20 Lib.Math.min.name ∈ wA := wA_in (zt_3 _ (List.mem_of_getElem? (i := 124) rfl)) rfl
set_option maxRecDepth 20000 in
theorem mw_247 : Cond.methodLink "RootAlgebra$Big" 26 arraycopyName ∈ wA := wA_in (zt_3 _ (List.mem_of_getElem? (i := 125) rfl)) rfl
set_option maxRecDepth 20000 in
theorem mw_248 : Cond.native arraycopyName ∈ wA := wA_in (zt_3 _ (List.mem_of_getElem? (i := 119) rfl)) rfl
set_option maxRecDepth 20000 in
theorem mw_249 : Cond.static arraycopyName ∈ wA := wA_in (zt_3 _ (List.mem_of_getElem? (i := 118) rfl)) rfl
set_option maxRecDepth 20000 in
theorem mw_250 : Cond.initialized "java/lang/System" ∈ wA := wA_in (zt_1 _ (List.mem_of_getElem? (i := 20) rfl)) rfl
set_option maxRecDepth 20000 in
theorem mw_251 : Cond.constantLong "RootAlgebra$Big" 35 4294967295 ∈ wA := wA_in (zt_3 _ (List.mem_of_getElem? (i := 143) rfl)) rfl
set_option maxRecDepth 20000 in
theorem mw_252 : Cond.fieldLink "RootAlgebra" 169 "RootAlgebra$Big" "sign" "I" ∈ wA := wA_in (zt_1 _ (List.mem_of_getElem? (i := 45) rfl)) rfl
set_option maxRecDepth 20000 in
theorem mw_253 : Cond.constant "RootAlgebra" 172 1000000000 ∈ wA := wA_in (zt_6 _ (List.mem_of_getElem? (i := 120) rfl)) rfl
set_option maxRecDepth 20000 in
theorem mw_254 : Cond.methodLink "RootAlgebra" 173 y_Big_divide ∈ wA := wA_in (zt_6 _ (List.mem_of_getElem? (i := 121) rfl)) rfl
set_option maxRecDepth 20000 in
theorem mw_255 : Cond.code y_RA_put b_RA_put 2 none ∈ wA := wA_in (zt_6 _ (List.mem_of_getElem? (i := 119) rfl)) rfl
set_option maxRecDepth 20000 in
theorem mw_256 : Cond.methodLink "RootAlgebra" 162 y_RA_put ∈ wA := wA_in (zt_6 _ (List.mem_of_getElem? (i := 116) rfl)) rfl
set_option maxRecDepth 20000 in
theorem mw_257 : Cond.instanceMethod y_RA_put ∈ wA := wA_in (zt_6 _ (List.mem_of_getElem? (i := 118) rfl)) rfl
theorem mw_258 : Cond.selects "RootAlgebra" y_RA_put y_RA_put ∈ wA := wA_in (List.mem_append_left _ (by decide +kernel)) rfl
set_option maxRecDepth 20000 in
theorem mw_259 : Cond.methodLink "RootAlgebra" 165 y_Big_setLong ∈ wA := wA_in (zt_6 _ (List.mem_of_getElem? (i := 129) rfl)) rfl
set_option maxRecDepth 20000 in
theorem mw_260 : Cond.code y_RA_putRest b_RA_putRest 5 none ∈ wA := wA_in (zt_6 _ (List.mem_of_getElem? (i := 115) rfl)) rfl
set_option maxRecDepth 20000 in
theorem mw_261 : Cond.methodLink "RootAlgebra" 159 y_RA_putRest ∈ wA := wA_in (zt_6 _ (List.mem_of_getElem? (i := 112) rfl)) rfl
set_option maxRecDepth 20000 in
theorem mw_262 : Cond.instanceMethod y_RA_putRest ∈ wA := wA_in (zt_6 _ (List.mem_of_getElem? (i := 114) rfl)) rfl
theorem mw_263 : Cond.selects "RootAlgebra" y_RA_putRest y_RA_putRest ∈ wA := wA_in (List.mem_append_left _ (by decide +kernel)) rfl
set_option maxRecDepth 20000 in
theorem mw_264 : Cond.code y_Big_scale b_Big_scale 10 none ∈ wA := wA_in (zt_4 _ (List.mem_of_getElem? (i := 114) rfl)) rfl
set_option maxRecDepth 20000 in
theorem mw_265 : Cond.methodLink "RootAlgebra$Gauge" 150 y_Big_scale ∈ wA := wA_in (zt_6 _ (List.mem_of_getElem? (i := 110) rfl)) rfl
set_option maxRecDepth 20000 in
theorem mw_266 : Cond.instanceMethod y_Big_scale ∈ wA := wA_in (zt_4 _ (List.mem_of_getElem? (i := 112) rfl)) rfl
set_option maxRecDepth 20000 in
theorem mw_267 : Cond.selects "RootAlgebra$Big" y_Big_scale y_Big_scale ∈ wA := wA_in (zt_4 _ (List.mem_of_getElem? (i := 113) rfl)) rfl
set_option maxRecDepth 20000 in
theorem mw_268 : Cond.fieldLink "RootAlgebra$Gauge" 48 "RootAlgebra$Value" "degree" "I" ∈ wA := wA_in (zt_1 _ (List.mem_of_getElem? (i := 73) rfl)) rfl
set_option maxRecDepth 20000 in
theorem mw_269 : Cond.fieldLink "RootAlgebra$Gauge" 54 "RootAlgebra$Value" "c" "[I" ∈ wA := wA_in (zt_1 _ (List.mem_of_getElem? (i := 65) rfl)) rfl
set_option maxRecDepth 20000 in
theorem mw_270 : Cond.methodLink "RootAlgebra$Gauge" 58 y_Big_setLong ∈ wA := wA_in (zt_3 _ (List.mem_of_getElem? (i := 189) rfl)) rfl
set_option maxRecDepth 20000 in
theorem mw_271 : Cond.code y_Gauge_timesTen b_Gauge_timesTen 4 none ∈ wA := wA_in (zt_6 _ (List.mem_of_getElem? (i := 109) rfl)) rfl
set_option maxRecDepth 20000 in
theorem mw_272 : Cond.methodLink "RootAlgebra$Gauge" 147 y_Gauge_timesTen ∈ wA := wA_in (zt_6 _ (List.mem_of_getElem? (i := 106) rfl)) rfl
set_option maxRecDepth 20000 in
theorem mw_273 : Cond.instanceMethod y_Gauge_timesTen ∈ wA := wA_in (zt_6 _ (List.mem_of_getElem? (i := 108) rfl)) rfl
theorem mw_274 : Cond.selects "RootAlgebra$Gauge" y_Gauge_timesTen y_Gauge_timesTen ∈ wA := wA_in (List.mem_append_left _ (by decide +kernel)) rfl
set_option maxRecDepth 20000 in
theorem mw_275 : Cond.code y_Big_divideDown b_Big_divideDown 3 none ∈ wA := wA_in (zt_3 _ (List.mem_of_getElem? (i := 197) rfl)) rfl
set_option maxRecDepth 20000 in
theorem mw_276 : Cond.methodLink "RootAlgebra$Gauge" 65 y_Big_divideDown ∈ wA := wA_in (zt_3 _ (List.mem_of_getElem? (i := 194) rfl)) rfl
set_option maxRecDepth 20000 in
theorem mw_277 : Cond.instanceMethod y_Big_divideDown ∈ wA := wA_in (zt_3 _ (List.mem_of_getElem? (i := 195) rfl)) rfl
set_option maxRecDepth 20000 in
theorem mw_278 : Cond.selects "RootAlgebra$Big" y_Big_divideDown y_Big_divideDown ∈ wA := wA_in (zt_3 _ (List.mem_of_getElem? (i := 196) rfl)) rfl
set_option maxRecDepth 20000 in
theorem mw_279 : Cond.fieldLink "RootAlgebra" 141 "RootAlgebra$Desk" "gauge" "LRootAlgebra$Gauge;" ∈ wA := wA_in (zt_2 _ (List.mem_of_getElem? (i := 210) rfl)) rfl
set_option maxRecDepth 20000 in
theorem mw_280 : Cond.code y_Gauge_wholePart b_Gauge_wholePart 5 (some (.object "RootAlgebra$Big")) ∈ wA := wA_in (zt_6 _ (List.mem_of_getElem? (i := 105) rfl)) rfl
set_option maxRecDepth 20000 in
theorem mw_281 : Cond.methodLink "RootAlgebra" 151 y_Gauge_wholePart ∈ wA := wA_in (zt_6 _ (List.mem_of_getElem? (i := 102) rfl)) rfl
set_option maxRecDepth 20000 in
theorem mw_282 : Cond.instanceMethod y_Gauge_wholePart ∈ wA := wA_in (zt_6 _ (List.mem_of_getElem? (i := 103) rfl)) rfl
set_option maxRecDepth 20000 in
theorem mw_283 : Cond.selects "RootAlgebra$Gauge" y_Gauge_wholePart y_Gauge_wholePart ∈ wA := wA_in (zt_6 _ (List.mem_of_getElem? (i := 104) rfl)) rfl
set_option maxRecDepth 20000 in
theorem mw_284 : Cond.code y_Big_set b_Big_set 2 none ∈ wA := wA_in (zt_3 _ (List.mem_of_getElem? (i := 123) rfl)) rfl
set_option maxRecDepth 20000 in
theorem mw_285 : Cond.methodLink "RootAlgebra" 155 y_Big_set ∈ wA := wA_in (zt_6 _ (List.mem_of_getElem? (i := 111) rfl)) rfl
set_option maxRecDepth 20000 in
theorem mw_286 : Cond.instanceMethod y_Big_set ∈ wA := wA_in (zt_3 _ (List.mem_of_getElem? (i := 121) rfl)) rfl
set_option maxRecDepth 20000 in
theorem mw_287 : Cond.selects "RootAlgebra$Big" y_Big_set y_Big_set ∈ wA := wA_in (zt_3 _ (List.mem_of_getElem? (i := 122) rfl)) rfl
set_option maxRecDepth 20000 in
theorem mw_288 : Cond.code y_Value_hasPolynomialOf b_Value_hasPolynomialOf 3 (some .boolean) ∈ wA := wA_in (zt_3 _ (List.mem_of_getElem? (i := 181) rfl)) rfl
set_option maxRecDepth 20000 in
theorem mw_289 : Cond.methodLink "RootAlgebra$Gauge" 127 y_Value_hasPolynomialOf ∈ wA := wA_in (zt_3 _ (List.mem_of_getElem? (i := 178) rfl)) rfl
set_option maxRecDepth 20000 in
theorem mw_290 : Cond.instanceMethod y_Value_hasPolynomialOf ∈ wA := wA_in (zt_3 _ (List.mem_of_getElem? (i := 179) rfl)) rfl
set_option maxRecDepth 20000 in
theorem mw_291 : Cond.selects "RootAlgebra$Value" y_Value_hasPolynomialOf y_Value_hasPolynomialOf ∈ wA := wA_in (zt_3 _ (List.mem_of_getElem? (i := 180) rfl)) rfl
set_option maxRecDepth 20000 in
theorem mw_292 : Cond.fieldLink "RootAlgebra$Gauge" 131 "RootAlgebra$Value" "index" "I" ∈ wA := wA_in (zt_1 _ (List.mem_of_getElem? (i := 81) rfl)) rfl
set_option maxRecDepth 20000 in
theorem mw_293 : Cond.code y_Integer_compare b_Integer_compare 2 (some .int) ∈ wA := wA_in (zt_3 _ (List.mem_of_getElem? (i := 184) rfl)) rfl
set_option maxRecDepth 20000 in
theorem mw_294 : Cond.initialized "java/lang/Integer" ∈ wA := wA_in (zt_1 _ (List.mem_of_getElem? (i := 21) rfl)) rfl
set_option maxRecDepth 20000 in
theorem mw_295 : Cond.methodLink "RootAlgebra$Gauge" 134 y_Integer_compare ∈ wA := wA_in (zt_3 _ (List.mem_of_getElem? (i := 182) rfl)) rfl
set_option maxRecDepth 20000 in
theorem mw_296 : Cond.static y_Integer_compare ∈ wA := wA_in (zt_3 _ (List.mem_of_getElem? (i := 183) rfl)) rfl
set_option maxRecDepth 20000 in
theorem mw_297 : Cond.code y_Gauge_order b_Gauge_order 5 (some .int) ∈ wA := wA_in (zt_3 _ (List.mem_of_getElem? (i := 177) rfl)) rfl
set_option maxRecDepth 20000 in
theorem mw_298 : Cond.methodLink "RootAlgebra" 145 y_Gauge_order ∈ wA := wA_in (zt_6 _ (List.mem_of_getElem? (i := 94) rfl)) rfl
set_option maxRecDepth 20000 in
theorem mw_299 : Cond.instanceMethod y_Gauge_order ∈ wA := wA_in (zt_3 _ (List.mem_of_getElem? (i := 175) rfl)) rfl

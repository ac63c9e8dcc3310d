/-! the constructors, object by object -/
theorem wq_1 : Cond.initialized "HeelsIn" ∈ hh_ws := hh_in (List.mem_of_getElem? (i := 110) (by decide +kernel)) rfl
theorem wq_2 : Cond.initialized "HeelsIn$Reader" ∈ hh_ws := hh_in (List.mem_of_getElem? (i := 111) (by decide +kernel)) rfl
theorem wq_3 : Cond.initialized "HeelsIn$Match" ∈ hh_ws := hh_in (List.mem_of_getElem? (i := 112) (by decide +kernel)) rfl
theorem wq_4 : Cond.initialized "HeelsIn$Side" ∈ hh_ws := hh_in (List.mem_of_getElem? (i := 113) (by decide +kernel)) rfl
theorem wq_5 : Cond.initialized "HeelsIn$Tug" ∈ hh_ws := hh_in (List.mem_of_getElem? (i := 114) (by decide +kernel)) rfl
theorem wq_6 : Cond.initialized "HeelsIn$Places" ∈ hh_ws := hh_in (List.mem_of_getElem? (i := 115) (by decide +kernel)) rfl
theorem wq_7 : Cond.initialized "HeelsIn$Choice" ∈ hh_ws := hh_in (List.mem_of_getElem? (i := 116) (by decide +kernel)) rfl
theorem wq_8 : Cond.initialized "HeelsIn$Game" ∈ hh_ws := hh_in (List.mem_of_getElem? (i := 117) (by decide +kernel)) rfl
theorem wq_9 : Cond.initialized "HeelsIn$Doing" ∈ hh_ws := hh_in (List.mem_of_getElem? (i := 118) (by decide +kernel)) rfl
theorem wq_10 : Cond.initialized "HeelsIn$Sheet" ∈ hh_ws := hh_in (List.mem_of_getElem? (i := 119) (by decide +kernel)) rfl
theorem wq_11 : Cond.initialized "HeelsInModel" ∈ hh_ws := hh_in (List.mem_of_getElem? (i := 120) (by decide +kernel)) rfl
theorem wq_22 : Cond.instanceMethod ({ cls := "HeelsIn", name := "<init>", desc := "()V" } : MethodName) ∈ hh_ws := hh_in (List.mem_of_getElem? (i := 131) (by decide +kernel)) rfl
theorem wq_23 : Cond.code ({ cls := "HeelsIn", name := "<init>", desc := "()V" } : MethodName) prog_1_method_1_code 2 (Option.none : Option FieldType) ∈ hh_ws := hh_in (List.mem_of_getElem? (i := 132) (by decide +kernel)) rfl
theorem wq_24 : Cond.methodLink "HeelsIn" 1 ({ cls := "java/lang/Object", name := "<init>", desc := "()V" } : MethodName) ∈ hh_ws := hh_in (List.mem_of_getElem? (i := 133) (by decide +kernel)) rfl
theorem wq_25 : Cond.instanceMethod ({ cls := "java/lang/Object", name := "<init>", desc := "()V" } : MethodName) ∈ hh_ws := hh_in (List.mem_of_getElem? (i := 134) (by decide +kernel)) rfl
theorem wq_26 : Cond.code ({ cls := "java/lang/Object", name := "<init>", desc := "()V" } : MethodName) object_method_1_code 1 (Option.none : Option FieldType) ∈ hh_ws := hh_in (List.mem_of_getElem? (i := 135) (by decide +kernel)) rfl
theorem wq_27 : Cond.classLink "HeelsIn" 9 "HeelsIn$Sheet" ∈ hh_ws := hh_in (List.mem_of_getElem? (i := 136) (by decide +kernel)) rfl
theorem wq_29 : Cond.classLink "HeelsIn" 15 "HeelsIn$Reader" ∈ hh_ws := hh_in (List.mem_of_getElem? (i := 138) (by decide +kernel)) rfl
theorem wq_30 : Cond.instantiable "HeelsIn$Reader" 8 ∈ hh_ws := hh_in (List.mem_of_getElem? (i := 139) (by decide +kernel)) rfl
theorem wq_31 : Cond.methodLinkNest "HeelsIn" 17 ({ cls := "HeelsIn$Reader", name := "<init>", desc := "()V" } : MethodName) "HeelsIn" ∈ hh_nw := hh_nin (List.mem_of_getElem? (i := 140) (by decide +kernel)) rfl
theorem wq_32 : Cond.instanceMethod ({ cls := "HeelsIn$Reader", name := "<init>", desc := "()V" } : MethodName) ∈ hh_ws := hh_in (List.mem_of_getElem? (i := 141) (by decide +kernel)) rfl
theorem wq_33 : Cond.code ({ cls := "HeelsIn$Reader", name := "<init>", desc := "()V" } : MethodName) prog_7_method_1_code 1 (Option.none : Option FieldType) ∈ hh_ws := hh_in (List.mem_of_getElem? (i := 142) (by decide +kernel)) rfl
theorem wq_34 : Cond.methodLink "HeelsIn$Reader" 3 ({ cls := "java/lang/Object", name := "<init>", desc := "()V" } : MethodName) ∈ hh_ws := hh_in (List.mem_of_getElem? (i := 143) (by decide +kernel)) rfl
theorem wq_35 : Cond.fieldLink "HeelsIn$Reader" 9 "HeelsIn$Reader" "tape" "[B" ∈ hh_ws := hh_in (List.mem_of_getElem? (i := 144) (by decide +kernel)) rfl
theorem wq_63 : Cond.arrayClass FieldType.byte ∈ hh_ws := hh_in (List.mem_of_getElem? (i := 172) (by decide +kernel)) rfl
theorem wq_64 : Cond.classLink "HeelsIn" 22 "HeelsIn$Match" ∈ hh_ws := hh_in (List.mem_of_getElem? (i := 173) (by decide +kernel)) rfl
theorem wq_65 : Cond.instantiable "HeelsIn$Match" 3 ∈ hh_ws := hh_in (List.mem_of_getElem? (i := 174) (by decide +kernel)) rfl
theorem wq_66 : Cond.methodLinkNest "HeelsIn" 24 ({ cls := "HeelsIn$Match", name := "<init>", desc := "()V" } : MethodName) "HeelsIn" ∈ hh_nw := hh_nin (List.mem_of_getElem? (i := 175) (by decide +kernel)) rfl
theorem wq_67 : Cond.instanceMethod ({ cls := "HeelsIn$Match", name := "<init>", desc := "()V" } : MethodName) ∈ hh_ws := hh_in (List.mem_of_getElem? (i := 176) (by decide +kernel)) rfl
theorem wq_68 : Cond.code ({ cls := "HeelsIn$Match", name := "<init>", desc := "()V" } : MethodName) prog_5_method_1_code 1 (Option.none : Option FieldType) ∈ hh_ws := hh_in (List.mem_of_getElem? (i := 177) (by decide +kernel)) rfl
theorem wq_69 : Cond.methodLink "HeelsIn$Match" 3 ({ cls := "java/lang/Object", name := "<init>", desc := "()V" } : MethodName) ∈ hh_ws := hh_in (List.mem_of_getElem? (i := 178) (by decide +kernel)) rfl
theorem wq_70 : Cond.classLink "HeelsIn$Match" 9 "HeelsIn$Side" ∈ hh_ws := hh_in (List.mem_of_getElem? (i := 179) (by decide +kernel)) rfl
theorem wq_72 : Cond.instantiable "HeelsIn$Side" 4 ∈ hh_ws := hh_in (List.mem_of_getElem? (i := 181) (by decide +kernel)) rfl
theorem wq_73 : Cond.methodLinkNest "HeelsIn$Match" 11 ({ cls := "HeelsIn$Side", name := "<init>", desc := "()V" } : MethodName) "HeelsIn" ∈ hh_nw := hh_nin (List.mem_of_getElem? (i := 182) (by decide +kernel)) rfl
theorem wq_74 : Cond.instanceMethod ({ cls := "HeelsIn$Side", name := "<init>", desc := "()V" } : MethodName) ∈ hh_ws := hh_in (List.mem_of_getElem? (i := 183) (by decide +kernel)) rfl
theorem wq_75 : Cond.code ({ cls := "HeelsIn$Side", name := "<init>", desc := "()V" } : MethodName) prog_9_method_1_code 1 (Option.none : Option FieldType) ∈ hh_ws := hh_in (List.mem_of_getElem? (i := 184) (by decide +kernel)) rfl
theorem wq_76 : Cond.methodLink "HeelsIn$Side" 3 ({ cls := "java/lang/Object", name := "<init>", desc := "()V" } : MethodName) ∈ hh_ws := hh_in (List.mem_of_getElem? (i := 185) (by decide +kernel)) rfl
theorem wq_77 : Cond.classLink "HeelsIn$Side" 9 "[[I" ∈ hh_ws := hh_in (List.mem_of_getElem? (i := 186) (by decide +kernel)) rfl
theorem wq_86 : Cond.fieldLink "HeelsIn$Side" 11 "HeelsIn$Side" "traits" "[[I" ∈ hh_ws := hh_in (List.mem_of_getElem? (i := 195) (by decide +kernel)) rfl
theorem wq_96 : Cond.fieldLink "HeelsIn$Side" 18 "HeelsIn$Side" "rules" "[[I" ∈ hh_ws := hh_in (List.mem_of_getElem? (i := 205) (by decide +kernel)) rfl
theorem wq_108 : Cond.arrayClass FieldType.int ∈ hh_ws := hh_in (List.mem_of_getElem? (i := 217) (by decide +kernel)) rfl
theorem wq_112 : Cond.fieldLink "HeelsIn$Match" 12 "HeelsIn$Match" "sides" "[LHeelsIn$Side;" ∈ hh_ws := hh_in (List.mem_of_getElem? (i := 221) (by decide +kernel)) rfl
theorem wq_117 : Cond.fieldLink "HeelsIn$Match" 18 "HeelsIn$Match" "ground" "[I" ∈ hh_ws := hh_in (List.mem_of_getElem? (i := 226) (by decide +kernel)) rfl
theorem wq_128 : Cond.classLink "HeelsIn" 32 "HeelsIn$Tug" ∈ hh_ws := hh_in (List.mem_of_getElem? (i := 237) (by decide +kernel)) rfl
theorem wq_129 : Cond.instantiable "HeelsIn$Tug" 12 ∈ hh_ws := hh_in (List.mem_of_getElem? (i := 238) (by decide +kernel)) rfl
theorem wq_130 : Cond.methodLinkNest "HeelsIn" 34 ({ cls := "HeelsIn$Tug", name := "<init>", desc := "()V" } : MethodName) "HeelsIn" ∈ hh_nw := hh_nin (List.mem_of_getElem? (i := 239) (by decide +kernel)) rfl
theorem wq_131 : Cond.instanceMethod ({ cls := "HeelsIn$Tug", name := "<init>", desc := "()V" } : MethodName) ∈ hh_ws := hh_in (List.mem_of_getElem? (i := 240) (by decide +kernel)) rfl
theorem wq_132 : Cond.code ({ cls := "HeelsIn$Tug", name := "<init>", desc := "()V" } : MethodName) prog_10_method_1_code 1 (Option.none : Option FieldType) ∈ hh_ws := hh_in (List.mem_of_getElem? (i := 241) (by decide +kernel)) rfl
theorem wq_133 : Cond.methodLink "HeelsIn$Tug" 3 ({ cls := "java/lang/Object", name := "<init>", desc := "()V" } : MethodName) ∈ hh_ws := hh_in (List.mem_of_getElem? (i := 242) (by decide +kernel)) rfl
theorem wq_134 : Cond.classLink "HeelsIn$Tug" 15 "[[I" ∈ hh_ws := hh_in (List.mem_of_getElem? (i := 243) (by decide +kernel)) rfl
theorem wq_135 : Cond.fieldLink "HeelsIn$Tug" 9 "HeelsIn$Tug" "grips" "[I" ∈ hh_ws := hh_in (List.mem_of_getElem? (i := 244) (by decide +kernel)) rfl
theorem wq_145 : Cond.fieldLink "HeelsIn$Tug" 17 "HeelsIn$Tug" "breath" "[[I" ∈ hh_ws := hh_in (List.mem_of_getElem? (i := 254) (by decide +kernel)) rfl
theorem wq_147 : Cond.fieldLink "HeelsIn$Tug" 20 "HeelsIn$Tug" "did" "[[I" ∈ hh_ws := hh_in (List.mem_of_getElem? (i := 256) (by decide +kernel)) rfl
theorem wq_149 : Cond.fieldLink "HeelsIn$Tug" 23 "HeelsIn$Tug" "force" "[[I" ∈ hh_ws := hh_in (List.mem_of_getElem? (i := 258) (by decide +kernel)) rfl
theorem wq_151 : Cond.fieldLink "HeelsIn$Tug" 26 "HeelsIn$Tug" "kept" "[[I" ∈ hh_ws := hh_in (List.mem_of_getElem? (i := 260) (by decide +kernel)) rfl
theorem wq_179 : Cond.classLink "HeelsIn" 50 "HeelsIn$Places" ∈ hh_ws := hh_in (List.mem_of_getElem? (i := 288) (by decide +kernel)) rfl
theorem wq_180 : Cond.instantiable "HeelsIn$Places" 1 ∈ hh_ws := hh_in (List.mem_of_getElem? (i := 289) (by decide +kernel)) rfl
theorem wq_181 : Cond.methodLinkNest "HeelsIn" 52 ({ cls := "HeelsIn$Places", name := "<init>", desc := "()V" } : MethodName) "HeelsIn" ∈ hh_nw := hh_nin (List.mem_of_getElem? (i := 290) (by decide +kernel)) rfl
theorem wq_182 : Cond.instanceMethod ({ cls := "HeelsIn$Places", name := "<init>", desc := "()V" } : MethodName) ∈ hh_ws := hh_in (List.mem_of_getElem? (i := 291) (by decide +kernel)) rfl
theorem wq_183 : Cond.code ({ cls := "HeelsIn$Places", name := "<init>", desc := "()V" } : MethodName) prog_6_method_1_code 1 (Option.none : Option FieldType) ∈ hh_ws := hh_in (List.mem_of_getElem? (i := 292) (by decide +kernel)) rfl
theorem wq_184 : Cond.methodLink "HeelsIn$Places" 3 ({ cls := "java/lang/Object", name := "<init>", desc := "()V" } : MethodName) ∈ hh_ws := hh_in (List.mem_of_getElem? (i := 293) (by decide +kernel)) rfl
theorem wq_185 : Cond.fieldLink "HeelsIn$Places" 9 "HeelsIn$Places" "worthBehind" "[I" ∈ hh_ws := hh_in (List.mem_of_getElem? (i := 294) (by decide +kernel)) rfl
theorem wq_190 : Cond.classLink "HeelsIn" 57 "HeelsIn$Choice" ∈ hh_ws := hh_in (List.mem_of_getElem? (i := 299) (by decide +kernel)) rfl
theorem wq_191 : Cond.instantiable "HeelsIn$Choice" 5 ∈ hh_ws := hh_in (List.mem_of_getElem? (i := 300) (by decide +kernel)) rfl
theorem wq_192 : Cond.methodLinkNest "HeelsIn" 59 ({ cls := "HeelsIn$Choice", name := "<init>", desc := "()V" } : MethodName) "HeelsIn" ∈ hh_nw := hh_nin (List.mem_of_getElem? (i := 301) (by decide +kernel)) rfl
theorem wq_193 : Cond.instanceMethod ({ cls := "HeelsIn$Choice", name := "<init>", desc := "()V" } : MethodName) ∈ hh_ws := hh_in (List.mem_of_getElem? (i := 302) (by decide +kernel)) rfl
theorem wq_194 : Cond.code ({ cls := "HeelsIn$Choice", name := "<init>", desc := "()V" } : MethodName) prog_2_method_1_code 1 (Option.none : Option FieldType) ∈ hh_ws := hh_in (List.mem_of_getElem? (i := 303) (by decide +kernel)) rfl
theorem wq_195 : Cond.methodLink "HeelsIn$Choice" 3 ({ cls := "java/lang/Object", name := "<init>", desc := "()V" } : MethodName) ∈ hh_ws := hh_in (List.mem_of_getElem? (i := 304) (by decide +kernel)) rfl
theorem wq_196 : Cond.fieldLink "HeelsIn$Choice" 9 "HeelsIn$Choice" "weight" "[I" ∈ hh_ws := hh_in (List.mem_of_getElem? (i := 305) (by decide +kernel)) rfl
theorem wq_197 : Cond.fieldLink "HeelsIn$Choice" 15 "HeelsIn$Choice" "hold" "[I" ∈ hh_ws := hh_in (List.mem_of_getElem? (i := 306) (by decide +kernel)) rfl
theorem wq_198 : Cond.fieldLink "HeelsIn$Choice" 18 "HeelsIn$Choice" "holdBelow" "[I" ∈ hh_ws := hh_in (List.mem_of_getElem? (i := 307) (by decide +kernel)) rfl
theorem wq_214 : Cond.classLink "HeelsIn" 64 "HeelsIn$Game" ∈ hh_ws := hh_in (List.mem_of_getElem? (i := 323) (by decide +kernel)) rfl
theorem wq_215 : Cond.instantiable "HeelsIn$Game" 2 ∈ hh_ws := hh_in (List.mem_of_getElem? (i := 324) (by decide +kernel)) rfl
theorem wq_216 : Cond.methodLinkNest "HeelsIn" 66 ({ cls := "HeelsIn$Game", name := "<init>", desc := "()V" } : MethodName) "HeelsIn" ∈ hh_nw := hh_nin (List.mem_of_getElem? (i := 325) (by decide +kernel)) rfl
theorem wq_217 : Cond.instanceMethod ({ cls := "HeelsIn$Game", name := "<init>", desc := "()V" } : MethodName) ∈ hh_ws := hh_in (List.mem_of_getElem? (i := 326) (by decide +kernel)) rfl
theorem wq_218 : Cond.code ({ cls := "HeelsIn$Game", name := "<init>", desc := "()V" } : MethodName) prog_4_method_1_code 1 (Option.none : Option FieldType) ∈ hh_ws := hh_in (List.mem_of_getElem? (i := 327) (by decide +kernel)) rfl
theorem wq_219 : Cond.methodLink "HeelsIn$Game" 3 ({ cls := "java/lang/Object", name := "<init>", desc := "()V" } : MethodName) ∈ hh_ws := hh_in (List.mem_of_getElem? (i := 328) (by decide +kernel)) rfl
theorem wq_220 : Cond.classLink "HeelsIn$Game" 11 "[[I" ∈ hh_ws := hh_in (List.mem_of_getElem? (i := 329) (by decide +kernel)) rfl
theorem wq_221 : Cond.fieldLink "HeelsIn$Game" 13 "HeelsIn$Game" "values" "[[I" ∈ hh_ws := hh_in (List.mem_of_getElem? (i := 330) (by decide +kernel)) rfl
theorem wq_228 : Cond.classLink "HeelsIn" 71 "HeelsIn$Doing" ∈ hh_ws := hh_in (List.mem_of_getElem? (i := 337) (by decide +kernel)) rfl
theorem wq_229 : Cond.instantiable "HeelsIn$Doing" 7 ∈ hh_ws := hh_in (List.mem_of_getElem? (i := 338) (by decide +kernel)) rfl
theorem wq_230 : Cond.methodLinkNest "HeelsIn" 73 ({ cls := "HeelsIn$Doing", name := "<init>", desc := "()V" } : MethodName) "HeelsIn" ∈ hh_nw := hh_nin (List.mem_of_getElem? (i := 339) (by decide +kernel)) rfl
theorem wq_231 : Cond.instanceMethod ({ cls := "HeelsIn$Doing", name := "<init>", desc := "()V" } : MethodName) ∈ hh_ws := hh_in (List.mem_of_getElem? (i := 340) (by decide +kernel)) rfl
theorem wq_232 : Cond.code ({ cls := "HeelsIn$Doing", name := "<init>", desc := "()V" } : MethodName) prog_3_method_1_code 1 (Option.none : Option FieldType) ∈ hh_ws := hh_in (List.mem_of_getElem? (i := 341) (by decide +kernel)) rfl
theorem wq_233 : Cond.methodLink "HeelsIn$Doing" 1 ({ cls := "java/lang/Object", name := "<init>", desc := "()V" } : MethodName) ∈ hh_ws := hh_in (List.mem_of_getElem? (i := 342) (by decide +kernel)) rfl
theorem wq_244 : Cond.fieldLink "HeelsIn$Doing" 9 "HeelsIn$Doing" "numbers" "[I" ∈ hh_ws := hh_in (List.mem_of_getElem? (i := 353) (by decide +kernel)) rfl
theorem wq_263 : Cond.instantiable "HeelsIn$Sheet" 4 ∈ hh_ws := hh_in (List.mem_of_getElem? (i := 372) (by decide +kernel)) rfl
theorem wq_264 : Cond.methodLinkNest "HeelsIn" 78 ({ cls := "HeelsIn$Sheet", name := "<init>", desc := "()V" } : MethodName) "HeelsIn" ∈ hh_nw := hh_nin (List.mem_of_getElem? (i := 373) (by decide +kernel)) rfl
theorem wq_265 : Cond.instanceMethod ({ cls := "HeelsIn$Sheet", name := "<init>", desc := "()V" } : MethodName) ∈ hh_ws := hh_in (List.mem_of_getElem? (i := 374) (by decide +kernel)) rfl
theorem wq_266 : Cond.code ({ cls := "HeelsIn$Sheet", name := "<init>", desc := "()V" } : MethodName) prog_8_method_1_code 1 (Option.none : Option FieldType) ∈ hh_ws := hh_in (List.mem_of_getElem? (i := 375) (by decide +kernel)) rfl
theorem wq_267 : Cond.methodLink "HeelsIn$Sheet" 3 ({ cls := "java/lang/Object", name := "<init>", desc := "()V" } : MethodName) ∈ hh_ws := hh_in (List.mem_of_getElem? (i := 376) (by decide +kernel)) rfl
theorem wq_268 : Cond.fieldLink "HeelsIn$Sheet" 9 "HeelsIn$Sheet" "missing" "Z" ∈ hh_ws := hh_in (List.mem_of_getElem? (i := 377) (by decide +kernel)) rfl
theorem wq_274 : Cond.fieldLink "HeelsIn$Sheet" 15 "HeelsIn$Sheet" "items" "[I" ∈ hh_ws := hh_in (List.mem_of_getElem? (i := 383) (by decide +kernel)) rfl
theorem wq_286 : Cond.fieldLink "HeelsIn" 11 "HeelsIn" "sheets" "[LHeelsIn$Sheet;" ∈ hh_ws := hh_in (List.mem_of_getElem? (i := 395) (by decide +kernel)) rfl
theorem wq_288 : Cond.fieldLink "HeelsIn" 18 "HeelsIn" "reader" "LHeelsIn$Reader;" ∈ hh_ws := hh_in (List.mem_of_getElem? (i := 397) (by decide +kernel)) rfl
theorem wq_290 : Cond.fieldLink "HeelsIn" 25 "HeelsIn" "match" "LHeelsIn$Match;" ∈ hh_ws := hh_in (List.mem_of_getElem? (i := 399) (by decide +kernel)) rfl
theorem wq_291 : Cond.fieldLink "HeelsIn" 29 "HeelsIn" "draft" "LHeelsIn$Match;" ∈ hh_ws := hh_in (List.mem_of_getElem? (i := 400) (by decide +kernel)) rfl
theorem wq_292 : Cond.fieldLink "HeelsIn" 35 "HeelsIn" "tug" "LHeelsIn$Tug;" ∈ hh_ws := hh_in (List.mem_of_getElem? (i := 401) (by decide +kernel)) rfl
theorem wq_293 : Cond.fieldLink "HeelsIn" 39 "HeelsIn" "trial" "LHeelsIn$Tug;" ∈ hh_ws := hh_in (List.mem_of_getElem? (i := 402) (by decide +kernel)) rfl
theorem wq_294 : Cond.fieldLink "HeelsIn" 42 "HeelsIn" "imageMatches" "[LHeelsIn$Match;" ∈ hh_ws := hh_in (List.mem_of_getElem? (i := 403) (by decide +kernel)) rfl
theorem wq_295 : Cond.fieldLink "HeelsIn" 46 "HeelsIn" "imageTugs" "[LHeelsIn$Tug;" ∈ hh_ws := hh_in (List.mem_of_getElem? (i := 404) (by decide +kernel)) rfl
theorem wq_296 : Cond.fieldLink "HeelsIn" 53 "HeelsIn" "places" "LHeelsIn$Places;" ∈ hh_ws := hh_in (List.mem_of_getElem? (i := 405) (by decide +kernel)) rfl
theorem wq_297 : Cond.fieldLink "HeelsIn" 60 "HeelsIn" "choice" "LHeelsIn$Choice;" ∈ hh_ws := hh_in (List.mem_of_getElem? (i := 406) (by decide +kernel)) rfl
theorem wq_298 : Cond.fieldLink "HeelsIn" 67 "HeelsIn" "game" "LHeelsIn$Game;" ∈ hh_ws := hh_in (List.mem_of_getElem? (i := 407) (by decide +kernel)) rfl
theorem wq_299 : Cond.fieldLink "HeelsIn" 74 "HeelsIn" "asked" "LHeelsIn$Doing;" ∈ hh_ws := hh_in (List.mem_of_getElem? (i := 408) (by decide +kernel)) rfl
theorem wq_891 : Cond.instanceMethod ({ cls := "HeelsInModel", name := "<init>", desc := "()V" } : MethodName) ∈ hh_ws := hh_in (List.mem_of_getElem? (i := 1000) (by decide +kernel)) rfl
theorem wq_892 : Cond.code ({ cls := "HeelsInModel", name := "<init>", desc := "()V" } : MethodName) prog_12_method_1_code 1 (Option.none : Option FieldType) ∈ hh_ws := hh_in (List.mem_of_getElem? (i := 1001) (by decide +kernel)) rfl
theorem wq_893 : Cond.methodLink "HeelsInModel" 1 ({ cls := "java/lang/Object", name := "<init>", desc := "()V" } : MethodName) ∈ hh_ws := hh_in (List.mem_of_getElem? (i := 1002) (by decide +kernel)) rfl
theorem wq_896 : Cond.fieldLink "HeelsInModel" 7 "HeelsInModel" "lane" "[I" ∈ hh_ws := hh_in (List.mem_of_getElem? (i := 1005) (by decide +kernel)) rfl
theorem wq_897 : Cond.fieldLink "HeelsInModel" 13 "HeelsInModel" "many" "[I" ∈ hh_ws := hh_in (List.mem_of_getElem? (i := 1006) (by decide +kernel)) rfl
theorem wq_898 : Cond.fieldLink "HeelsInModel" 16 "HeelsInModel" "item" "[I" ∈ hh_ws := hh_in (List.mem_of_getElem? (i := 1007) (by decide +kernel)) rfl
theorem wq_899 : Cond.fieldLink "HeelsInModel" 19 "HeelsInModel" "match" "[I" ∈ hh_ws := hh_in (List.mem_of_getElem? (i := 1008) (by decide +kernel)) rfl
theorem wq_900 : Cond.fieldLink "HeelsInModel" 22 "HeelsInModel" "fresh" "[I" ∈ hh_ws := hh_in (List.mem_of_getElem? (i := 1009) (by decide +kernel)) rfl
theorem wq_902 : Cond.fieldLink "HeelsInModel" 25 "HeelsInModel" "now" "[I" ∈ hh_ws := hh_in (List.mem_of_getElem? (i := 1011) (by decide +kernel)) rfl
theorem wq_903 : Cond.fieldLink "HeelsInModel" 28 "HeelsInModel" "tape" "[I" ∈ hh_ws := hh_in (List.mem_of_getElem? (i := 1012) (by decide +kernel)) rfl
theorem wq_914 : Cond.fieldLink "HeelsInModel" 31 "HeelsInModel" "forces" "[I" ∈ hh_ws := hh_in (List.mem_of_getElem? (i := 1023) (by decide +kernel)) rfl
theorem wq_915 : Cond.fieldLink "HeelsInModel" 34 "HeelsInModel" "aside" "[I" ∈ hh_ws := hh_in (List.mem_of_getElem? (i := 1024) (by decide +kernel)) rfl
theorem wq_916 : Cond.fieldLink "HeelsInModel" 37 "HeelsInModel" "wins" "[I" ∈ hh_ws := hh_in (List.mem_of_getElem? (i := 1025) (by decide +kernel)) rfl
theorem wq_917 : Cond.fieldLink "HeelsInModel" 40 "HeelsInModel" "behind" "[I" ∈ hh_ws := hh_in (List.mem_of_getElem? (i := 1026) (by decide +kernel)) rfl
theorem wq_918 : Cond.fieldLink "HeelsInModel" 43 "HeelsInModel" "games" "[I" ∈ hh_ws := hh_in (List.mem_of_getElem? (i := 1027) (by decide +kernel)) rfl
theorem wq_919 : Cond.fieldLink "HeelsInModel" 46 "HeelsInModel" "before" "[I" ∈ hh_ws := hh_in (List.mem_of_getElem? (i := 1028) (by decide +kernel)) rfl
theorem wq_921 : Cond.fieldLink "HeelsInModel" 49 "HeelsInModel" "isKept" "[Z" ∈ hh_ws := hh_in (List.mem_of_getElem? (i := 1030) (by decide +kernel)) rfl
theorem wq_922 : Cond.fieldLink "HeelsInModel" 53 "HeelsInModel" "keptMatch" "[I" ∈ hh_ws := hh_in (List.mem_of_getElem? (i := 1031) (by decide +kernel)) rfl
theorem wq_923 : Cond.fieldLink "HeelsInModel" 56 "HeelsInModel" "keptNow" "[I" ∈ hh_ws := hh_in (List.mem_of_getElem? (i := 1032) (by decide +kernel)) rfl
theorem wq_924 : Cond.fieldLink "HeelsInModel" 59 "HeelsInModel" "trace" "[I" ∈ hh_ws := hh_in (List.mem_of_getElem? (i := 1033) (by decide +kernel)) rfl
theorem wq_991 : Cond.arrayClass FieldType.boolean ∈ hh_ws := hh_in (List.mem_of_getElem? (i := 1100) (by decide +kernel)) rfl
def m_X0_init : hm_M := (yX0_init, cX0_init, 1, none)
theorem wo_X0_init : Cond.instanceMethod m_X0_init.1 ∈ hh_ws ∧ Cond.initialized m_X0_init.1.cls ∈ hh_ws ∧ Cond.code m_X0_init.1 m_X0_init.2.1 m_X0_init.2.2.1 m_X0_init.2.2.2 ∈ hh_ws := ⟨wq_193, wq_7, wq_194⟩
def m_X1_init : hm_M := (yX1_init, cX1_init, 1, none)
theorem wo_X1_init : Cond.instanceMethod m_X1_init.1 ∈ hh_ws ∧ Cond.initialized m_X1_init.1.cls ∈ hh_ws ∧ Cond.code m_X1_init.1 m_X1_init.2.1 m_X1_init.2.2.1 m_X1_init.2.2.2 ∈ hh_ws := ⟨wq_231, wq_9, wq_232⟩
def m_X2_init : hm_M := (yX2_init, cX2_init, 1, none)
theorem wo_X2_init : Cond.instanceMethod m_X2_init.1 ∈ hh_ws ∧ Cond.initialized m_X2_init.1.cls ∈ hh_ws ∧ Cond.code m_X2_init.1 m_X2_init.2.1 m_X2_init.2.2.1 m_X2_init.2.2.2 ∈ hh_ws := ⟨wq_217, wq_8, wq_218⟩
def m_X3_init : hm_M := (yX3_init, cX3_init, 1, none)
theorem wo_X3_init : Cond.instanceMethod m_X3_init.1 ∈ hh_ws ∧ Cond.initialized m_X3_init.1.cls ∈ hh_ws ∧ Cond.code m_X3_init.1 m_X3_init.2.1 m_X3_init.2.2.1 m_X3_init.2.2.2 ∈ hh_ws := ⟨wq_67, wq_3, wq_68⟩
def m_X4_init : hm_M := (yX4_init, cX4_init, 1, none)
theorem wo_X4_init : Cond.instanceMethod m_X4_init.1 ∈ hh_ws ∧ Cond.initialized m_X4_init.1.cls ∈ hh_ws ∧ Cond.code m_X4_init.1 m_X4_init.2.1 m_X4_init.2.2.1 m_X4_init.2.2.2 ∈ hh_ws := ⟨wq_182, wq_6, wq_183⟩
def m_X5_init : hm_M := (yX5_init, cX5_init, 1, none)
theorem wo_X5_init : Cond.instanceMethod m_X5_init.1 ∈ hh_ws ∧ Cond.initialized m_X5_init.1.cls ∈ hh_ws ∧ Cond.code m_X5_init.1 m_X5_init.2.1 m_X5_init.2.2.1 m_X5_init.2.2.2 ∈ hh_ws := ⟨wq_32, wq_2, wq_33⟩
def m_X6_init : hm_M := (yX6_init, cX6_init, 1, none)
theorem wo_X6_init : Cond.instanceMethod m_X6_init.1 ∈ hh_ws ∧ Cond.initialized m_X6_init.1.cls ∈ hh_ws ∧ Cond.code m_X6_init.1 m_X6_init.2.1 m_X6_init.2.2.1 m_X6_init.2.2.2 ∈ hh_ws := ⟨wq_265, wq_10, wq_266⟩
def m_X7_init : hm_M := (yX7_init, cX7_init, 1, none)
theorem wo_X7_init : Cond.instanceMethod m_X7_init.1 ∈ hh_ws ∧ Cond.initialized m_X7_init.1.cls ∈ hh_ws ∧ Cond.code m_X7_init.1 m_X7_init.2.1 m_X7_init.2.2.1 m_X7_init.2.2.2 ∈ hh_ws := ⟨wq_74, wq_4, wq_75⟩
def m_X8_init : hm_M := (yX8_init, cX8_init, 1, none)
theorem wo_X8_init : Cond.instanceMethod m_X8_init.1 ∈ hh_ws ∧ Cond.initialized m_X8_init.1.cls ∈ hh_ws ∧ Cond.code m_X8_init.1 m_X8_init.2.1 m_X8_init.2.2.1 m_X8_init.2.2.2 ∈ hh_ws := ⟨wq_131, wq_5, wq_132⟩
def m_X9_init : hm_M := (yX9_init, cX9_init, 2, none)
theorem wo_X9_init : Cond.instanceMethod m_X9_init.1 ∈ hh_ws ∧ Cond.initialized m_X9_init.1.cls ∈ hh_ws ∧ Cond.code m_X9_init.1 m_X9_init.2.1 m_X9_init.2.2.1 m_X9_init.2.2.2 ∈ hh_ws := ⟨wq_22, wq_1, wq_23⟩
def m_X10_init : hm_M := (yX10_init, cX10_init, 1, none)
theorem wo_X10_init : Cond.instanceMethod m_X10_init.1 ∈ hh_ws ∧ Cond.initialized m_X10_init.1.cls ∈ hh_ws ∧ Cond.code m_X10_init.1 m_X10_init.2.1 m_X10_init.2.2.1 m_X10_init.2.2.2 ∈ hh_ws := ⟨wq_891, wq_11, wq_892⟩
theorem hzd_X0 : hz_D0 0 5 tyX0 := (by unfold hz_D0; decide +kernel)
theorem hzd_X1 : hz_D0 1 7 tyX1 := (by unfold hz_D0; decide +kernel)
theorem hzd_X2 : hz_D0 2 2 tyX2 := (by unfold hz_D0; decide +kernel)
theorem hzd_X3 : hz_D0 3 3 tyX3 := (by unfold hz_D0; decide +kernel)
theorem hzd_X4 : hz_D0 4 1 tyX4 := (by unfold hz_D0; decide +kernel)
theorem hzd_X5 : hz_D0 5 8 tyX5 := (by unfold hz_D0; decide +kernel)
theorem hzd_X6 : hz_D0 6 4 tyX6 := (by unfold hz_D0; decide +kernel)
theorem hzd_X7 : hz_D0 7 4 tyX7 := (by unfold hz_D0; decide +kernel)
theorem hzd_X8 : hz_D0 8 12 tyX8 := (by unfold hz_D0; decide +kernel)
theorem hzd_X9 : hz_D0 9 14 tyX9 := (by unfold hz_D0; decide +kernel)
theorem hzd_X10 : hz_D0 10 32 tyX10 := (by unfold hz_D0; decide +kernel)

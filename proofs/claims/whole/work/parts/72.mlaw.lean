theorem m_35 : (Jvm.Cond.classLink "CutBodiesLaw" (7 : Nat) "CutBodies") ∈ wAll := wAll_in (i := 35) rfl rfl
theorem m_36 : (Jvm.Cond.instantiable "CutBodies" (10 : Nat)) ∈ wAll := wAll_in (i := 36) rfl rfl
theorem m_37 : (Jvm.Cond.methodLink "CutBodiesLaw" (9 : Nat) ({ cls := "CutBodies", name := "<init>", desc := "()V" } : Jvm.MethodName)) ∈ wAll := wAll_in (i := 37) rfl rfl
theorem m_38 : (Jvm.Cond.instanceMethod ({ cls := "CutBodies", name := "<init>", desc := "()V" } : Jvm.MethodName)) ∈ wAll := wAll_in (i := 38) rfl rfl
theorem m_39 : (Jvm.Cond.code ({ cls := "CutBodies", name := "<init>", desc := "()V" } : Jvm.MethodName) prog_1_method_1_code (1 : Nat) (Option.none : Option Jvm.ClassFile.FieldType)) ∈ wAll := wAll_in (i := 39) rfl rfl
theorem m_131 : (Jvm.Cond.methodLink "CutBodiesLaw" (13 : Nat) ({ cls := "CutBodies", name := "point", desc := "(III)I" } : Jvm.MethodName)) ∈ wAll := wAll_in (i := 131) rfl rfl
theorem m_132 : (Jvm.Cond.instanceMethod ({ cls := "CutBodies", name := "point", desc := "(III)I" } : Jvm.MethodName)) ∈ wAll := wAll_in (i := 132) rfl rfl
theorem m_133 : (Jvm.Cond.selects "CutBodies" ({ cls := "CutBodies", name := "point", desc := "(III)I" } : Jvm.MethodName) ({ cls := "CutBodies", name := "point", desc := "(III)I" } : Jvm.MethodName)) ∈ wAll := wAll_in (i := 133) rfl rfl
theorem m_134 : (Jvm.Cond.code ({ cls := "CutBodies", name := "point", desc := "(III)I" } : Jvm.MethodName) prog_1_method_2_code (5 : Nat) (Option.some Jvm.ClassFile.FieldType.int)) ∈ wAll := wAll_in (i := 134) rfl rfl
theorem m_158 : (Jvm.Cond.methodLink "CutBodiesLaw" (18 : Nat) ({ cls := "CutBodies", name := "cube", desc := "(I)I" } : Jvm.MethodName)) ∈ wAll := wAll_in (i := 158) rfl rfl
theorem m_159 : (Jvm.Cond.instanceMethod ({ cls := "CutBodies", name := "cube", desc := "(I)I" } : Jvm.MethodName)) ∈ wAll := wAll_in (i := 159) rfl rfl
theorem m_160 : (Jvm.Cond.selects "CutBodies" ({ cls := "CutBodies", name := "cube", desc := "(I)I" } : Jvm.MethodName) ({ cls := "CutBodies", name := "cube", desc := "(I)I" } : Jvm.MethodName)) ∈ wAll := wAll_in (i := 160) rfl rfl
theorem m_161 : (Jvm.Cond.code ({ cls := "CutBodies", name := "cube", desc := "(I)I" } : Jvm.MethodName) prog_1_method_3_code (6 : Nat) (Option.some Jvm.ClassFile.FieldType.int)) ∈ wAll := wAll_in (i := 161) rfl rfl
theorem m_162 : (Jvm.Cond.methodLink "CutBodiesLaw" (23 : Nat) ({ cls := "CutBodies", name := "plane", desc := "(IIII)I" } : Jvm.MethodName)) ∈ wAll := wAll_in (i := 162) rfl rfl
theorem m_163 : (Jvm.Cond.instanceMethod ({ cls := "CutBodies", name := "plane", desc := "(IIII)I" } : Jvm.MethodName)) ∈ wAll := wAll_in (i := 163) rfl rfl
theorem m_164 : (Jvm.Cond.selects "CutBodies" ({ cls := "CutBodies", name := "plane", desc := "(IIII)I" } : Jvm.MethodName) ({ cls := "CutBodies", name := "plane", desc := "(IIII)I" } : Jvm.MethodName)) ∈ wAll := wAll_in (i := 164) rfl rfl
theorem m_165 : (Jvm.Cond.code ({ cls := "CutBodies", name := "plane", desc := "(IIII)I" } : Jvm.MethodName) prog_1_method_4_code (5 : Nat) (Option.some Jvm.ClassFile.FieldType.int)) ∈ wAll := wAll_in (i := 165) rfl rfl
theorem m_170 : (Jvm.Cond.methodLink "CutBodiesLaw" (28 : Nat) ({ cls := "CutBodies", name := "axis", desc := "(III)I" } : Jvm.MethodName)) ∈ wAll := wAll_in (i := 170) rfl rfl
theorem m_171 : (Jvm.Cond.instanceMethod ({ cls := "CutBodies", name := "axis", desc := "(III)I" } : Jvm.MethodName)) ∈ wAll := wAll_in (i := 171) rfl rfl
theorem m_172 : (Jvm.Cond.selects "CutBodies" ({ cls := "CutBodies", name := "axis", desc := "(III)I" } : Jvm.MethodName) ({ cls := "CutBodies", name := "axis", desc := "(III)I" } : Jvm.MethodName)) ∈ wAll := wAll_in (i := 172) rfl rfl
theorem m_173 : (Jvm.Cond.code ({ cls := "CutBodies", name := "axis", desc := "(III)I" } : Jvm.MethodName) prog_1_method_5_code (4 : Nat) (Option.some Jvm.ClassFile.FieldType.int)) ∈ wAll := wAll_in (i := 173) rfl rfl
theorem m_184 : (Jvm.Cond.methodLink "CutBodiesLaw" (32 : Nat) ({ cls := "CutBodies", name := "order", desc := "(I)I" } : Jvm.MethodName)) ∈ wAll := wAll_in (i := 184) rfl rfl
theorem m_185 : (Jvm.Cond.instanceMethod ({ cls := "CutBodies", name := "order", desc := "(I)I" } : Jvm.MethodName)) ∈ wAll := wAll_in (i := 185) rfl rfl
theorem m_186 : (Jvm.Cond.selects "CutBodies" ({ cls := "CutBodies", name := "order", desc := "(I)I" } : Jvm.MethodName) ({ cls := "CutBodies", name := "order", desc := "(I)I" } : Jvm.MethodName)) ∈ wAll := wAll_in (i := 186) rfl rfl
theorem m_187 : (Jvm.Cond.code ({ cls := "CutBodies", name := "order", desc := "(I)I" } : Jvm.MethodName) prog_1_method_6_code (2 : Nat) (Option.some Jvm.ClassFile.FieldType.int)) ∈ wAll := wAll_in (i := 187) rfl rfl
theorem m_210 : (Jvm.Cond.methodLink "CutBodiesLaw" (36 : Nat) ({ cls := "CutBodies", name := "side", desc := "(II)I" } : Jvm.MethodName)) ∈ wAll := wAll_in (i := 210) rfl rfl
theorem m_211 : (Jvm.Cond.instanceMethod ({ cls := "CutBodies", name := "side", desc := "(II)I" } : Jvm.MethodName)) ∈ wAll := wAll_in (i := 211) rfl rfl
theorem m_212 : (Jvm.Cond.selects "CutBodies" ({ cls := "CutBodies", name := "side", desc := "(II)I" } : Jvm.MethodName) ({ cls := "CutBodies", name := "side", desc := "(II)I" } : Jvm.MethodName)) ∈ wAll := wAll_in (i := 212) rfl rfl
theorem m_213 : (Jvm.Cond.code ({ cls := "CutBodies", name := "side", desc := "(II)I" } : Jvm.MethodName) prog_1_method_7_code (3 : Nat) (Option.some Jvm.ClassFile.FieldType.int)) ∈ wAll := wAll_in (i := 213) rfl rfl
theorem m_227 : (Jvm.Cond.methodLink "CutBodiesLaw" (41 : Nat) ({ cls := "CutBodies", name := "pieces", desc := "()I" } : Jvm.MethodName)) ∈ wAll := wAll_in (i := 227) rfl rfl
theorem m_228 : (Jvm.Cond.instanceMethod ({ cls := "CutBodies", name := "pieces", desc := "()I" } : Jvm.MethodName)) ∈ wAll := wAll_in (i := 228) rfl rfl
theorem m_229 : (Jvm.Cond.selects "CutBodies" ({ cls := "CutBodies", name := "pieces", desc := "()I" } : Jvm.MethodName) ({ cls := "CutBodies", name := "pieces", desc := "()I" } : Jvm.MethodName)) ∈ wAll := wAll_in (i := 229) rfl rfl
theorem m_230 : (Jvm.Cond.code ({ cls := "CutBodies", name := "pieces", desc := "()I" } : Jvm.MethodName) prog_1_method_8_code (1 : Nat) (Option.some Jvm.ClassFile.FieldType.int)) ∈ wAll := wAll_in (i := 230) rfl rfl
theorem m_239 : (Jvm.Cond.methodLink "CutBodiesLaw" (46 : Nat) ({ cls := "CutBodies", name := "piece", desc := "(I)I" } : Jvm.MethodName)) ∈ wAll := wAll_in (i := 239) rfl rfl
theorem m_240 : (Jvm.Cond.instanceMethod ({ cls := "CutBodies", name := "piece", desc := "(I)I" } : Jvm.MethodName)) ∈ wAll := wAll_in (i := 240) rfl rfl
theorem m_241 : (Jvm.Cond.selects "CutBodies" ({ cls := "CutBodies", name := "piece", desc := "(I)I" } : Jvm.MethodName) ({ cls := "CutBodies", name := "piece", desc := "(I)I" } : Jvm.MethodName)) ∈ wAll := wAll_in (i := 241) rfl rfl
theorem m_242 : (Jvm.Cond.code ({ cls := "CutBodies", name := "piece", desc := "(I)I" } : Jvm.MethodName) prog_1_method_9_code (2 : Nat) (Option.some Jvm.ClassFile.FieldType.int)) ∈ wAll := wAll_in (i := 242) rfl rfl
theorem m_244 : (Jvm.Cond.methodLink "CutBodiesLaw" (50 : Nat) ({ cls := "CutBodies", name := "image", desc := "(II)I" } : Jvm.MethodName)) ∈ wAll := wAll_in (i := 244) rfl rfl
theorem m_245 : (Jvm.Cond.instanceMethod ({ cls := "CutBodies", name := "image", desc := "(II)I" } : Jvm.MethodName)) ∈ wAll := wAll_in (i := 245) rfl rfl
theorem m_246 : (Jvm.Cond.selects "CutBodies" ({ cls := "CutBodies", name := "image", desc := "(II)I" } : Jvm.MethodName) ({ cls := "CutBodies", name := "image", desc := "(II)I" } : Jvm.MethodName)) ∈ wAll := wAll_in (i := 246) rfl rfl
theorem m_247 : (Jvm.Cond.code ({ cls := "CutBodies", name := "image", desc := "(II)I" } : Jvm.MethodName) prog_1_method_10_code (3 : Nat) (Option.some Jvm.ClassFile.FieldType.int)) ∈ wAll := wAll_in (i := 247) rfl rfl
set_option maxRecDepth 20000 in
theorem m_258 : (Jvm.Cond.methodLink "CutBodiesLaw" (54 : Nat) ({ cls := "CutBodies", name := "turn", desc := "(III)I" } : Jvm.MethodName)) ∈ wAll := wAll_in (i := 258) rfl rfl
set_option maxRecDepth 20000 in
theorem m_259 : (Jvm.Cond.instanceMethod ({ cls := "CutBodies", name := "turn", desc := "(III)I" } : Jvm.MethodName)) ∈ wAll := wAll_in (i := 259) rfl rfl
set_option maxRecDepth 20000 in
theorem m_260 : (Jvm.Cond.selects "CutBodies" ({ cls := "CutBodies", name := "turn", desc := "(III)I" } : Jvm.MethodName) ({ cls := "CutBodies", name := "turn", desc := "(III)I" } : Jvm.MethodName)) ∈ wAll := wAll_in (i := 260) rfl rfl
set_option maxRecDepth 20000 in
theorem m_261 : (Jvm.Cond.code ({ cls := "CutBodies", name := "turn", desc := "(III)I" } : Jvm.MethodName) prog_1_method_11_code (6 : Nat) (Option.some Jvm.ClassFile.FieldType.int)) ∈ wAll := wAll_in (i := 261) rfl rfl
set_option maxRecDepth 20000 in
theorem m_278 : (Jvm.Cond.methodLink "CutBodiesLaw" (58 : Nat) ({ cls := "CutBodies", name := "at", desc := "(I)I" } : Jvm.MethodName)) ∈ wAll := wAll_in (i := 278) rfl rfl
set_option maxRecDepth 20000 in
theorem m_279 : (Jvm.Cond.instanceMethod ({ cls := "CutBodies", name := "at", desc := "(I)I" } : Jvm.MethodName)) ∈ wAll := wAll_in (i := 279) rfl rfl
set_option maxRecDepth 20000 in
theorem m_280 : (Jvm.Cond.selects "CutBodies" ({ cls := "CutBodies", name := "at", desc := "(I)I" } : Jvm.MethodName) ({ cls := "CutBodies", name := "at", desc := "(I)I" } : Jvm.MethodName)) ∈ wAll := wAll_in (i := 280) rfl rfl
set_option maxRecDepth 20000 in
theorem m_281 : (Jvm.Cond.code ({ cls := "CutBodies", name := "at", desc := "(I)I" } : Jvm.MethodName) prog_1_method_12_code (2 : Nat) (Option.some Jvm.ClassFile.FieldType.int)) ∈ wAll := wAll_in (i := 281) rfl rfl
set_option maxRecDepth 20000 in
theorem m_282 : (Jvm.Cond.methodLink "CutBodiesLaw" (62 : Nat) ({ cls := "CutBodies", name := "way", desc := "(I)I" } : Jvm.MethodName)) ∈ wAll := wAll_in (i := 282) rfl rfl
set_option maxRecDepth 20000 in
theorem m_283 : (Jvm.Cond.instanceMethod ({ cls := "CutBodies", name := "way", desc := "(I)I" } : Jvm.MethodName)) ∈ wAll := wAll_in (i := 283) rfl rfl
set_option maxRecDepth 20000 in
theorem m_284 : (Jvm.Cond.selects "CutBodies" ({ cls := "CutBodies", name := "way", desc := "(I)I" } : Jvm.MethodName) ({ cls := "CutBodies", name := "way", desc := "(I)I" } : Jvm.MethodName)) ∈ wAll := wAll_in (i := 284) rfl rfl
set_option maxRecDepth 20000 in
theorem m_285 : (Jvm.Cond.code ({ cls := "CutBodies", name := "way", desc := "(I)I" } : Jvm.MethodName) prog_1_method_13_code (2 : Nat) (Option.some Jvm.ClassFile.FieldType.int)) ∈ wAll := wAll_in (i := 285) rfl rfl
set_option maxRecDepth 20000 in
theorem m_286 : (Jvm.Cond.methodLink "CutBodiesLaw" (66 : Nat) ({ cls := "CutBodies", name := "home", desc := "()I" } : Jvm.MethodName)) ∈ wAll := wAll_in (i := 286) rfl rfl
set_option maxRecDepth 20000 in
theorem m_287 : (Jvm.Cond.instanceMethod ({ cls := "CutBodies", name := "home", desc := "()I" } : Jvm.MethodName)) ∈ wAll := wAll_in (i := 287) rfl rfl
set_option maxRecDepth 20000 in
theorem m_288 : (Jvm.Cond.selects "CutBodies" ({ cls := "CutBodies", name := "home", desc := "()I" } : Jvm.MethodName) ({ cls := "CutBodies", name := "home", desc := "()I" } : Jvm.MethodName)) ∈ wAll := wAll_in (i := 288) rfl rfl
set_option maxRecDepth 20000 in
theorem m_289 : (Jvm.Cond.code ({ cls := "CutBodies", name := "home", desc := "()I" } : Jvm.MethodName) prog_1_method_14_code (3 : Nat) (Option.some Jvm.ClassFile.FieldType.int)) ∈ wAll := wAll_in (i := 289) rfl rfl
set_option maxRecDepth 20000 in
theorem m_290 : (Jvm.Cond.methodLink "CutBodiesLaw" (70 : Nat) ({ cls := "CutBodies", name := "maps", desc := "(I)Z" } : Jvm.MethodName)) ∈ wAll := wAll_in (i := 290) rfl rfl
set_option maxRecDepth 20000 in
theorem m_291 : (Jvm.Cond.instanceMethod ({ cls := "CutBodies", name := "maps", desc := "(I)Z" } : Jvm.MethodName)) ∈ wAll := wAll_in (i := 291) rfl rfl
set_option maxRecDepth 20000 in
theorem m_292 : (Jvm.Cond.selects "CutBodies" ({ cls := "CutBodies", name := "maps", desc := "(I)Z" } : Jvm.MethodName) ({ cls := "CutBodies", name := "maps", desc := "(I)Z" } : Jvm.MethodName)) ∈ wAll := wAll_in (i := 292) rfl rfl
set_option maxRecDepth 20000 in
theorem m_293 : (Jvm.Cond.code ({ cls := "CutBodies", name := "maps", desc := "(I)Z" } : Jvm.MethodName) prog_1_method_15_code (2 : Nat) (Option.some Jvm.ClassFile.FieldType.boolean)) ∈ wAll := wAll_in (i := 293) rfl rfl
set_option maxRecDepth 20000 in
theorem m_311 : (Jvm.Cond.methodLink "CutBodiesLaw" (75 : Nat) ({ cls := "CutBodies", name := "cycle", desc := "(III)I" } : Jvm.MethodName)) ∈ wAll := wAll_in (i := 311) rfl rfl
set_option maxRecDepth 20000 in
theorem m_312 : (Jvm.Cond.instanceMethod ({ cls := "CutBodies", name := "cycle", desc := "(III)I" } : Jvm.MethodName)) ∈ wAll := wAll_in (i := 312) rfl rfl
set_option maxRecDepth 20000 in
theorem m_313 : (Jvm.Cond.selects "CutBodies" ({ cls := "CutBodies", name := "cycle", desc := "(III)I" } : Jvm.MethodName) ({ cls := "CutBodies", name := "cycle", desc := "(III)I" } : Jvm.MethodName)) ∈ wAll := wAll_in (i := 313) rfl rfl
set_option maxRecDepth 20000 in
theorem m_314 : (Jvm.Cond.code ({ cls := "CutBodies", name := "cycle", desc := "(III)I" } : Jvm.MethodName) prog_1_method_16_code (6 : Nat) (Option.some Jvm.ClassFile.FieldType.int)) ∈ wAll := wAll_in (i := 314) rfl rfl
set_option maxRecDepth 20000 in
theorem m_315 : (Jvm.Cond.methodLink "CutBodiesLaw" (79 : Nat) ({ cls := "CutBodies", name := "rounds", desc := "(I)I" } : Jvm.MethodName)) ∈ wAll := wAll_in (i := 315) rfl rfl
set_option maxRecDepth 20000 in
theorem m_316 : (Jvm.Cond.instanceMethod ({ cls := "CutBodies", name := "rounds", desc := "(I)I" } : Jvm.MethodName)) ∈ wAll := wAll_in (i := 316) rfl rfl
set_option maxRecDepth 20000 in
theorem m_317 : (Jvm.Cond.selects "CutBodies" ({ cls := "CutBodies", name := "rounds", desc := "(I)I" } : Jvm.MethodName) ({ cls := "CutBodies", name := "rounds", desc := "(I)I" } : Jvm.MethodName)) ∈ wAll := wAll_in (i := 317) rfl rfl
set_option maxRecDepth 20000 in
theorem m_318 : (Jvm.Cond.code ({ cls := "CutBodies", name := "rounds", desc := "(I)I" } : Jvm.MethodName) prog_1_method_17_code (3 : Nat) (Option.some Jvm.ClassFile.FieldType.int)) ∈ wAll := wAll_in (i := 318) rfl rfl
set_option maxRecDepth 20000 in
theorem m_332 : (Jvm.Cond.methodLink "CutBodiesLaw" (83 : Nat) ({ cls := "CutBodies", name := "keep", desc := "()I" } : Jvm.MethodName)) ∈ wAll := wAll_in (i := 332) rfl rfl
set_option maxRecDepth 20000 in
theorem m_333 : (Jvm.Cond.instanceMethod ({ cls := "CutBodies", name := "keep", desc := "()I" } : Jvm.MethodName)) ∈ wAll := wAll_in (i := 333) rfl rfl
set_option maxRecDepth 20000 in
theorem m_334 : (Jvm.Cond.selects "CutBodies" ({ cls := "CutBodies", name := "keep", desc := "()I" } : Jvm.MethodName) ({ cls := "CutBodies", name := "keep", desc := "()I" } : Jvm.MethodName)) ∈ wAll := wAll_in (i := 334) rfl rfl
set_option maxRecDepth 20000 in
theorem m_335 : (Jvm.Cond.code ({ cls := "CutBodies", name := "keep", desc := "()I" } : Jvm.MethodName) prog_1_method_18_code (2 : Nat) (Option.some Jvm.ClassFile.FieldType.int)) ∈ wAll := wAll_in (i := 335) rfl rfl
set_option maxRecDepth 20000 in
theorem m_336 : (Jvm.Cond.methodLink "CutBodiesLaw" (87 : Nat) ({ cls := "CutBodies", name := "back", desc := "(I)Z" } : Jvm.MethodName)) ∈ wAll := wAll_in (i := 336) rfl rfl
set_option maxRecDepth 20000 in
theorem m_337 : (Jvm.Cond.instanceMethod ({ cls := "CutBodies", name := "back", desc := "(I)Z" } : Jvm.MethodName)) ∈ wAll := wAll_in (i := 337) rfl rfl
set_option maxRecDepth 20000 in
theorem m_338 : (Jvm.Cond.selects "CutBodies" ({ cls := "CutBodies", name := "back", desc := "(I)Z" } : Jvm.MethodName) ({ cls := "CutBodies", name := "back", desc := "(I)Z" } : Jvm.MethodName)) ∈ wAll := wAll_in (i := 338) rfl rfl
set_option maxRecDepth 20000 in
theorem m_339 : (Jvm.Cond.code ({ cls := "CutBodies", name := "back", desc := "(I)Z" } : Jvm.MethodName) prog_1_method_19_code (3 : Nat) (Option.some Jvm.ClassFile.FieldType.boolean)) ∈ wAll := wAll_in (i := 339) rfl rfl
set_option maxRecDepth 20000 in
theorem m_340 : (Jvm.Cond.classLink "CutBodiesLaw" (10 : Nat) "CutBodiesModel") ∈ wAll := wAll_in (i := 340) rfl rfl
set_option maxRecDepth 20000 in
theorem m_341 : (Jvm.Cond.instantiable "CutBodiesModel" (23 : Nat)) ∈ wAll := wAll_in (i := 341) rfl rfl
set_option maxRecDepth 20000 in
theorem m_342 : (Jvm.Cond.methodLink "CutBodiesLaw" (12 : Nat) ({ cls := "CutBodiesModel", name := "<init>", desc := "()V" } : Jvm.MethodName)) ∈ wAll := wAll_in (i := 342) rfl rfl
set_option maxRecDepth 20000 in
theorem m_343 : (Jvm.Cond.instanceMethod ({ cls := "CutBodiesModel", name := "<init>", desc := "()V" } : Jvm.MethodName)) ∈ wAll := wAll_in (i := 343) rfl rfl
set_option maxRecDepth 20000 in
theorem m_344 : (Jvm.Cond.code ({ cls := "CutBodiesModel", name := "<init>", desc := "()V" } : Jvm.MethodName) prog_6_method_1_code (1 : Nat) (Option.none : Option Jvm.ClassFile.FieldType)) ∈ wAll := wAll_in (i := 344) rfl rfl
set_option maxRecDepth 20000 in
theorem m_416 : (Jvm.Cond.methodLink "CutBodiesLaw" (17 : Nat) ({ cls := "CutBodiesModel", name := "point", desc := "(III)I" } : Jvm.MethodName)) ∈ wAll := wAll_in (i := 416) rfl rfl
set_option maxRecDepth 20000 in
theorem m_417 : (Jvm.Cond.instanceMethod ({ cls := "CutBodiesModel", name := "point", desc := "(III)I" } : Jvm.MethodName)) ∈ wAll := wAll_in (i := 417) rfl rfl
set_option maxRecDepth 20000 in
theorem m_418 : (Jvm.Cond.selects "CutBodiesModel" ({ cls := "CutBodiesModel", name := "point", desc := "(III)I" } : Jvm.MethodName) ({ cls := "CutBodiesModel", name := "point", desc := "(III)I" } : Jvm.MethodName)) ∈ wAll := wAll_in (i := 418) rfl rfl
set_option maxRecDepth 20000 in
theorem m_419 : (Jvm.Cond.code ({ cls := "CutBodiesModel", name := "point", desc := "(III)I" } : Jvm.MethodName) prog_6_method_10_code (4 : Nat) (Option.some Jvm.ClassFile.FieldType.int)) ∈ wAll := wAll_in (i := 419) rfl rfl
set_option maxRecDepth 20000 in
theorem m_435 : (Jvm.Cond.methodLink "CutBodiesLaw" (22 : Nat) ({ cls := "CutBodiesModel", name := "cube", desc := "(I)I" } : Jvm.MethodName)) ∈ wAll := wAll_in (i := 435) rfl rfl
set_option maxRecDepth 20000 in
theorem m_436 : (Jvm.Cond.instanceMethod ({ cls := "CutBodiesModel", name := "cube", desc := "(I)I" } : Jvm.MethodName)) ∈ wAll := wAll_in (i := 436) rfl rfl
set_option maxRecDepth 20000 in
theorem m_437 : (Jvm.Cond.selects "CutBodiesModel" ({ cls := "CutBodiesModel", name := "cube", desc := "(I)I" } : Jvm.MethodName) ({ cls := "CutBodiesModel", name := "cube", desc := "(I)I" } : Jvm.MethodName)) ∈ wAll := wAll_in (i := 437) rfl rfl
set_option maxRecDepth 20000 in
theorem m_438 : (Jvm.Cond.code ({ cls := "CutBodiesModel", name := "cube", desc := "(I)I" } : Jvm.MethodName) prog_6_method_11_code (6 : Nat) (Option.some Jvm.ClassFile.FieldType.int)) ∈ wAll := wAll_in (i := 438) rfl rfl
set_option maxRecDepth 20000 in
theorem m_439 : (Jvm.Cond.methodLink "CutBodiesLaw" (27 : Nat) ({ cls := "CutBodiesModel", name := "plane", desc := "(IIII)I" } : Jvm.MethodName)) ∈ wAll := wAll_in (i := 439) rfl rfl
set_option maxRecDepth 20000 in
theorem m_440 : (Jvm.Cond.instanceMethod ({ cls := "CutBodiesModel", name := "plane", desc := "(IIII)I" } : Jvm.MethodName)) ∈ wAll := wAll_in (i := 440) rfl rfl
set_option maxRecDepth 20000 in
theorem m_441 : (Jvm.Cond.selects "CutBodiesModel" ({ cls := "CutBodiesModel", name := "plane", desc := "(IIII)I" } : Jvm.MethodName) ({ cls := "CutBodiesModel", name := "plane", desc := "(IIII)I" } : Jvm.MethodName)) ∈ wAll := wAll_in (i := 441) rfl rfl
set_option maxRecDepth 20000 in
theorem m_442 : (Jvm.Cond.code ({ cls := "CutBodiesModel", name := "plane", desc := "(IIII)I" } : Jvm.MethodName) prog_6_method_12_code (5 : Nat) (Option.some Jvm.ClassFile.FieldType.int)) ∈ wAll := wAll_in (i := 442) rfl rfl
set_option maxRecDepth 20000 in
theorem m_443 : (Jvm.Cond.methodLink "CutBodiesLaw" (31 : Nat) ({ cls := "CutBodiesModel", name := "axis", desc := "(III)I" } : Jvm.MethodName)) ∈ wAll := wAll_in (i := 443) rfl rfl
set_option maxRecDepth 20000 in
theorem m_444 : (Jvm.Cond.instanceMethod ({ cls := "CutBodiesModel", name := "axis", desc := "(III)I" } : Jvm.MethodName)) ∈ wAll := wAll_in (i := 444) rfl rfl
set_option maxRecDepth 20000 in
theorem m_445 : (Jvm.Cond.selects "CutBodiesModel" ({ cls := "CutBodiesModel", name := "axis", desc := "(III)I" } : Jvm.MethodName) ({ cls := "CutBodiesModel", name := "axis", desc := "(III)I" } : Jvm.MethodName)) ∈ wAll := wAll_in (i := 445) rfl rfl
set_option maxRecDepth 20000 in
theorem m_446 : (Jvm.Cond.code ({ cls := "CutBodiesModel", name := "axis", desc := "(III)I" } : Jvm.MethodName) prog_6_method_14_code (4 : Nat) (Option.some Jvm.ClassFile.FieldType.int)) ∈ wAll := wAll_in (i := 446) rfl rfl
set_option maxRecDepth 20000 in
theorem m_450 : (Jvm.Cond.methodLink "CutBodiesLaw" (35 : Nat) ({ cls := "CutBodiesModel", name := "order", desc := "(I)I" } : Jvm.MethodName)) ∈ wAll := wAll_in (i := 450) rfl rfl
set_option maxRecDepth 20000 in
theorem m_451 : (Jvm.Cond.instanceMethod ({ cls := "CutBodiesModel", name := "order", desc := "(I)I" } : Jvm.MethodName)) ∈ wAll := wAll_in (i := 451) rfl rfl
set_option maxRecDepth 20000 in
theorem m_452 : (Jvm.Cond.selects "CutBodiesModel" ({ cls := "CutBodiesModel", name := "order", desc := "(I)I" } : Jvm.MethodName) ({ cls := "CutBodiesModel", name := "order", desc := "(I)I" } : Jvm.MethodName)) ∈ wAll := wAll_in (i := 452) rfl rfl
set_option maxRecDepth 20000 in
theorem m_453 : (Jvm.Cond.code ({ cls := "CutBodiesModel", name := "order", desc := "(I)I" } : Jvm.MethodName) prog_6_method_16_code (2 : Nat) (Option.some Jvm.ClassFile.FieldType.int)) ∈ wAll := wAll_in (i := 453) rfl rfl
set_option maxRecDepth 20000 in
theorem m_462 : (Jvm.Cond.methodLink "CutBodiesLaw" (53 : Nat) ({ cls := "CutBodiesModel", name := "image", desc := "(II)I" } : Jvm.MethodName)) ∈ wAll := wAll_in (i := 462) rfl rfl
set_option maxRecDepth 20000 in
theorem m_463 : (Jvm.Cond.instanceMethod ({ cls := "CutBodiesModel", name := "image", desc := "(II)I" } : Jvm.MethodName)) ∈ wAll := wAll_in (i := 463) rfl rfl
set_option maxRecDepth 20000 in
theorem m_464 : (Jvm.Cond.selects "CutBodiesModel" ({ cls := "CutBodiesModel", name := "image", desc := "(II)I" } : Jvm.MethodName) ({ cls := "CutBodiesModel", name := "image", desc := "(II)I" } : Jvm.MethodName)) ∈ wAll := wAll_in (i := 464) rfl rfl
set_option maxRecDepth 20000 in
theorem m_465 : (Jvm.Cond.code ({ cls := "CutBodiesModel", name := "image", desc := "(II)I" } : Jvm.MethodName) prog_6_method_19_code (3 : Nat) (Option.some Jvm.ClassFile.FieldType.int)) ∈ wAll := wAll_in (i := 465) rfl rfl
set_option maxRecDepth 20000 in
theorem m_478 : (Jvm.Cond.methodLink "CutBodiesLaw" (40 : Nat) ({ cls := "CutBodiesModel", name := "side", desc := "(II)I" } : Jvm.MethodName)) ∈ wAll := wAll_in (i := 478) rfl rfl
set_option maxRecDepth 20000 in
theorem m_479 : (Jvm.Cond.instanceMethod ({ cls := "CutBodiesModel", name := "side", desc := "(II)I" } : Jvm.MethodName)) ∈ wAll := wAll_in (i := 479) rfl rfl
set_option maxRecDepth 20000 in
theorem m_480 : (Jvm.Cond.selects "CutBodiesModel" ({ cls := "CutBodiesModel", name := "side", desc := "(II)I" } : Jvm.MethodName) ({ cls := "CutBodiesModel", name := "side", desc := "(II)I" } : Jvm.MethodName)) ∈ wAll := wAll_in (i := 480) rfl rfl
set_option maxRecDepth 20000 in
theorem m_481 : (Jvm.Cond.code ({ cls := "CutBodiesModel", name := "side", desc := "(II)I" } : Jvm.MethodName) prog_6_method_21_code (3 : Nat) (Option.some Jvm.ClassFile.FieldType.int)) ∈ wAll := wAll_in (i := 481) rfl rfl
set_option maxRecDepth 20000 in
theorem m_490 : (Jvm.Cond.methodLink "CutBodiesLaw" (45 : Nat) ({ cls := "CutBodiesModel", name := "pieces", desc := "()I" } : Jvm.MethodName)) ∈ wAll := wAll_in (i := 490) rfl rfl
set_option maxRecDepth 20000 in
theorem m_491 : (Jvm.Cond.instanceMethod ({ cls := "CutBodiesModel", name := "pieces", desc := "()I" } : Jvm.MethodName)) ∈ wAll := wAll_in (i := 491) rfl rfl
set_option maxRecDepth 20000 in
theorem m_492 : (Jvm.Cond.selects "CutBodiesModel" ({ cls := "CutBodiesModel", name := "pieces", desc := "()I" } : Jvm.MethodName) ({ cls := "CutBodiesModel", name := "pieces", desc := "()I" } : Jvm.MethodName)) ∈ wAll := wAll_in (i := 492) rfl rfl
set_option maxRecDepth 20000 in
theorem m_493 : (Jvm.Cond.code ({ cls := "CutBodiesModel", name := "pieces", desc := "()I" } : Jvm.MethodName) prog_6_method_25_code (1 : Nat) (Option.some Jvm.ClassFile.FieldType.int)) ∈ wAll := wAll_in (i := 493) rfl rfl
set_option maxRecDepth 20000 in
theorem m_506 : (Jvm.Cond.methodLink "CutBodiesLaw" (49 : Nat) ({ cls := "CutBodiesModel", name := "piece", desc := "(I)I" } : Jvm.MethodName)) ∈ wAll := wAll_in (i := 506) rfl rfl
set_option maxRecDepth 20000 in
theorem m_507 : (Jvm.Cond.instanceMethod ({ cls := "CutBodiesModel", name := "piece", desc := "(I)I" } : Jvm.MethodName)) ∈ wAll := wAll_in (i := 507) rfl rfl
set_option maxRecDepth 20000 in
theorem m_508 : (Jvm.Cond.selects "CutBodiesModel" ({ cls := "CutBodiesModel", name := "piece", desc := "(I)I" } : Jvm.MethodName) ({ cls := "CutBodiesModel", name := "piece", desc := "(I)I" } : Jvm.MethodName)) ∈ wAll := wAll_in (i := 508) rfl rfl
set_option maxRecDepth 20000 in
theorem m_509 : (Jvm.Cond.code ({ cls := "CutBodiesModel", name := "piece", desc := "(I)I" } : Jvm.MethodName) prog_6_method_26_code (2 : Nat) (Option.some Jvm.ClassFile.FieldType.int)) ∈ wAll := wAll_in (i := 509) rfl rfl
set_option maxRecDepth 20000 in
theorem m_510 : (Jvm.Cond.methodLink "CutBodiesLaw" (57 : Nat) ({ cls := "CutBodiesModel", name := "turn", desc := "(III)I" } : Jvm.MethodName)) ∈ wAll := wAll_in (i := 510) rfl rfl
set_option maxRecDepth 20000 in
theorem m_511 : (Jvm.Cond.instanceMethod ({ cls := "CutBodiesModel", name := "turn", desc := "(III)I" } : Jvm.MethodName)) ∈ wAll := wAll_in (i := 511) rfl rfl
set_option maxRecDepth 20000 in
theorem m_512 : (Jvm.Cond.selects "CutBodiesModel" ({ cls := "CutBodiesModel", name := "turn", desc := "(III)I" } : Jvm.MethodName) ({ cls := "CutBodiesModel", name := "turn", desc := "(III)I" } : Jvm.MethodName)) ∈ wAll := wAll_in (i := 512) rfl rfl
set_option maxRecDepth 20000 in
theorem m_513 : (Jvm.Cond.code ({ cls := "CutBodiesModel", name := "turn", desc := "(III)I" } : Jvm.MethodName) prog_6_method_36_code (6 : Nat) (Option.some Jvm.ClassFile.FieldType.int)) ∈ wAll := wAll_in (i := 513) rfl rfl
set_option maxRecDepth 20000 in
theorem m_546 : (Jvm.Cond.methodLink "CutBodiesLaw" (61 : Nat) ({ cls := "CutBodiesModel", name := "at", desc := "(I)I" } : Jvm.MethodName)) ∈ wAll := wAll_in (i := 546) rfl rfl
set_option maxRecDepth 20000 in
theorem m_547 : (Jvm.Cond.instanceMethod ({ cls := "CutBodiesModel", name := "at", desc := "(I)I" } : Jvm.MethodName)) ∈ wAll := wAll_in (i := 547) rfl rfl
set_option maxRecDepth 20000 in
theorem m_548 : (Jvm.Cond.selects "CutBodiesModel" ({ cls := "CutBodiesModel", name := "at", desc := "(I)I" } : Jvm.MethodName) ({ cls := "CutBodiesModel", name := "at", desc := "(I)I" } : Jvm.MethodName)) ∈ wAll := wAll_in (i := 548) rfl rfl
set_option maxRecDepth 20000 in
theorem m_549 : (Jvm.Cond.code ({ cls := "CutBodiesModel", name := "at", desc := "(I)I" } : Jvm.MethodName) prog_6_method_37_code (2 : Nat) (Option.some Jvm.ClassFile.FieldType.int)) ∈ wAll := wAll_in (i := 549) rfl rfl
set_option maxRecDepth 20000 in
theorem m_550 : (Jvm.Cond.methodLink "CutBodiesLaw" (65 : Nat) ({ cls := "CutBodiesModel", name := "way", desc := "(I)I" } : Jvm.MethodName)) ∈ wAll := wAll_in (i := 550) rfl rfl
set_option maxRecDepth 20000 in
theorem m_551 : (Jvm.Cond.instanceMethod ({ cls := "CutBodiesModel", name := "way", desc := "(I)I" } : Jvm.MethodName)) ∈ wAll := wAll_in (i := 551) rfl rfl
set_option maxRecDepth 20000 in
theorem m_552 : (Jvm.Cond.selects "CutBodiesModel" ({ cls := "CutBodiesModel", name := "way", desc := "(I)I" } : Jvm.MethodName) ({ cls := "CutBodiesModel", name := "way", desc := "(I)I" } : Jvm.MethodName)) ∈ wAll := wAll_in (i := 552) rfl rfl
set_option maxRecDepth 20000 in
theorem m_553 : (Jvm.Cond.code ({ cls := "CutBodiesModel", name := "way", desc := "(I)I" } : Jvm.MethodName) prog_6_method_38_code (2 : Nat) (Option.some Jvm.ClassFile.FieldType.int)) ∈ wAll := wAll_in (i := 553) rfl rfl
set_option maxRecDepth 20000 in
theorem m_554 : (Jvm.Cond.methodLink "CutBodiesLaw" (69 : Nat) ({ cls := "CutBodiesModel", name := "home", desc := "()I" } : Jvm.MethodName)) ∈ wAll := wAll_in (i := 554) rfl rfl
set_option maxRecDepth 20000 in
theorem m_555 : (Jvm.Cond.instanceMethod ({ cls := "CutBodiesModel", name := "home", desc := "()I" } : Jvm.MethodName)) ∈ wAll := wAll_in (i := 555) rfl rfl
set_option maxRecDepth 20000 in
theorem m_556 : (Jvm.Cond.selects "CutBodiesModel" ({ cls := "CutBodiesModel", name := "home", desc := "()I" } : Jvm.MethodName) ({ cls := "CutBodiesModel", name := "home", desc := "()I" } : Jvm.MethodName)) ∈ wAll := wAll_in (i := 556) rfl rfl
set_option maxRecDepth 20000 in
theorem m_557 : (Jvm.Cond.code ({ cls := "CutBodiesModel", name := "home", desc := "()I" } : Jvm.MethodName) prog_6_method_39_code (3 : Nat) (Option.some Jvm.ClassFile.FieldType.int)) ∈ wAll := wAll_in (i := 557) rfl rfl
set_option maxRecDepth 20000 in
theorem m_558 : (Jvm.Cond.methodLink "CutBodiesLaw" (74 : Nat) ({ cls := "CutBodiesModel", name := "maps", desc := "(I)Z" } : Jvm.MethodName)) ∈ wAll := wAll_in (i := 558) rfl rfl
set_option maxRecDepth 20000 in
theorem m_559 : (Jvm.Cond.instanceMethod ({ cls := "CutBodiesModel", name := "maps", desc := "(I)Z" } : Jvm.MethodName)) ∈ wAll := wAll_in (i := 559) rfl rfl
set_option maxRecDepth 20000 in
theorem m_560 : (Jvm.Cond.selects "CutBodiesModel" ({ cls := "CutBodiesModel", name := "maps", desc := "(I)Z" } : Jvm.MethodName) ({ cls := "CutBodiesModel", name := "maps", desc := "(I)Z" } : Jvm.MethodName)) ∈ wAll := wAll_in (i := 560) rfl rfl
set_option maxRecDepth 20000 in
theorem m_561 : (Jvm.Cond.code ({ cls := "CutBodiesModel", name := "maps", desc := "(I)Z" } : Jvm.MethodName) prog_6_method_42_code (3 : Nat) (Option.some Jvm.ClassFile.FieldType.boolean)) ∈ wAll := wAll_in (i := 561) rfl rfl
set_option maxRecDepth 20000 in
theorem m_569 : (Jvm.Cond.methodLink "CutBodiesLaw" (78 : Nat) ({ cls := "CutBodiesModel", name := "cycle", desc := "(III)I" } : Jvm.MethodName)) ∈ wAll := wAll_in (i := 569) rfl rfl
set_option maxRecDepth 20000 in
theorem m_570 : (Jvm.Cond.instanceMethod ({ cls := "CutBodiesModel", name := "cycle", desc := "(III)I" } : Jvm.MethodName)) ∈ wAll := wAll_in (i := 570) rfl rfl
set_option maxRecDepth 20000 in
theorem m_571 : (Jvm.Cond.selects "CutBodiesModel" ({ cls := "CutBodiesModel", name := "cycle", desc := "(III)I" } : Jvm.MethodName) ({ cls := "CutBodiesModel", name := "cycle", desc := "(III)I" } : Jvm.MethodName)) ∈ wAll := wAll_in (i := 571) rfl rfl
set_option maxRecDepth 20000 in
theorem m_572 : (Jvm.Cond.code ({ cls := "CutBodiesModel", name := "cycle", desc := "(III)I" } : Jvm.MethodName) prog_6_method_43_code (6 : Nat) (Option.some Jvm.ClassFile.FieldType.int)) ∈ wAll := wAll_in (i := 572) rfl rfl
set_option maxRecDepth 20000 in
theorem m_573 : (Jvm.Cond.methodLink "CutBodiesLaw" (82 : Nat) ({ cls := "CutBodiesModel", name := "rounds", desc := "(I)I" } : Jvm.MethodName)) ∈ wAll := wAll_in (i := 573) rfl rfl
set_option maxRecDepth 20000 in
theorem m_574 : (Jvm.Cond.instanceMethod ({ cls := "CutBodiesModel", name := "rounds", desc := "(I)I" } : Jvm.MethodName)) ∈ wAll := wAll_in (i := 574) rfl rfl
set_option maxRecDepth 20000 in
theorem m_575 : (Jvm.Cond.selects "CutBodiesModel" ({ cls := "CutBodiesModel", name := "rounds", desc := "(I)I" } : Jvm.MethodName) ({ cls := "CutBodiesModel", name := "rounds", desc := "(I)I" } : Jvm.MethodName)) ∈ wAll := wAll_in (i := 575) rfl rfl
set_option maxRecDepth 20000 in
theorem m_576 : (Jvm.Cond.code ({ cls := "CutBodiesModel", name := "rounds", desc := "(I)I" } : Jvm.MethodName) prog_6_method_45_code (5 : Nat) (Option.some Jvm.ClassFile.FieldType.int)) ∈ wAll := wAll_in (i := 576) rfl rfl
set_option maxRecDepth 20000 in
theorem m_581 : (Jvm.Cond.methodLink "CutBodiesLaw" (86 : Nat) ({ cls := "CutBodiesModel", name := "keep", desc := "()I" } : Jvm.MethodName)) ∈ wAll := wAll_in (i := 581) rfl rfl
set_option maxRecDepth 20000 in
theorem m_582 : (Jvm.Cond.instanceMethod ({ cls := "CutBodiesModel", name := "keep", desc := "()I" } : Jvm.MethodName)) ∈ wAll := wAll_in (i := 582) rfl rfl
set_option maxRecDepth 20000 in
theorem m_583 : (Jvm.Cond.selects "CutBodiesModel" ({ cls := "CutBodiesModel", name := "keep", desc := "()I" } : Jvm.MethodName) ({ cls := "CutBodiesModel", name := "keep", desc := "()I" } : Jvm.MethodName)) ∈ wAll := wAll_in (i := 583) rfl rfl
set_option maxRecDepth 20000 in
theorem m_584 : (Jvm.Cond.code ({ cls := "CutBodiesModel", name := "keep", desc := "()I" } : Jvm.MethodName) prog_6_method_46_code (2 : Nat) (Option.some Jvm.ClassFile.FieldType.int)) ∈ wAll := wAll_in (i := 584) rfl rfl
set_option maxRecDepth 20000 in
theorem m_585 : (Jvm.Cond.methodLink "CutBodiesLaw" (90 : Nat) ({ cls := "CutBodiesModel", name := "back", desc := "(I)Z" } : Jvm.MethodName)) ∈ wAll := wAll_in (i := 585) rfl rfl
set_option maxRecDepth 20000 in
theorem m_586 : (Jvm.Cond.instanceMethod ({ cls := "CutBodiesModel", name := "back", desc := "(I)Z" } : Jvm.MethodName)) ∈ wAll := wAll_in (i := 586) rfl rfl
set_option maxRecDepth 20000 in
theorem m_587 : (Jvm.Cond.selects "CutBodiesModel" ({ cls := "CutBodiesModel", name := "back", desc := "(I)Z" } : Jvm.MethodName) ({ cls := "CutBodiesModel", name := "back", desc := "(I)Z" } : Jvm.MethodName)) ∈ wAll := wAll_in (i := 587) rfl rfl
set_option maxRecDepth 20000 in
theorem m_588 : (Jvm.Cond.code ({ cls := "CutBodiesModel", name := "back", desc := "(I)Z" } : Jvm.MethodName) prog_6_method_47_code (3 : Nat) (Option.some Jvm.ClassFile.FieldType.boolean)) ∈ wAll := wAll_in (i := 588) rfl rfl

abbrev ts_L_law : List Cond := .initialized "TagWorkshopLaw" :: tsAll
set_option maxRecDepth 20000 in
theorem tw_151 : (.methodLink "TagWorkshopLaw" 13 yX_rule : Cond) ∈ tsAll := List.mem_filter.mpr ⟨List.mem_append_right _ (List.mem_of_getElem? (l := tables_1) (i := 151) (by decide +kernel)), by decide +kernel⟩
set_option maxRecDepth 20000 in
theorem tw_152 : (.instanceMethod yX_rule : Cond) ∈ tsAll := List.mem_filter.mpr ⟨List.mem_append_right _ (List.mem_of_getElem? (l := tables_1) (i := 152) (by decide +kernel)), by decide +kernel⟩
set_option maxRecDepth 20000 in
theorem tw_153 : (.selects "TagWorkshop" yX_rule yX_rule : Cond) ∈ tsAll := List.mem_filter.mpr ⟨List.mem_append_right _ (List.mem_of_getElem? (l := tables_1) (i := 153) (by decide +kernel)), by decide +kernel⟩
set_option maxRecDepth 20000 in
theorem tw_154 : (.code yX_rule prog_1_method_2_code 6 (Option.some .boolean) : Cond) ∈ tsAll := List.mem_filter.mpr ⟨List.mem_append_right _ (List.mem_of_getElem? (l := tables_1) (i := 154) (by decide +kernel)), by decide +kernel⟩
set_option maxRecDepth 20000 in
theorem tw_168 : (.methodLink "TagWorkshopLaw" 18 yX_tape : Cond) ∈ tsAll := List.mem_filter.mpr ⟨List.mem_append_right _ (List.mem_of_getElem? (l := tables_1) (i := 168) (by decide +kernel)), by decide +kernel⟩
set_option maxRecDepth 20000 in
theorem tw_169 : (.instanceMethod yX_tape : Cond) ∈ tsAll := List.mem_filter.mpr ⟨List.mem_append_right _ (List.mem_of_getElem? (l := tables_1) (i := 169) (by decide +kernel)), by decide +kernel⟩
set_option maxRecDepth 20000 in
theorem tw_170 : (.selects "TagWorkshop" yX_tape yX_tape : Cond) ∈ tsAll := List.mem_filter.mpr ⟨List.mem_append_right _ (List.mem_of_getElem? (l := tables_1) (i := 170) (by decide +kernel)), by decide +kernel⟩
set_option maxRecDepth 20000 in
theorem tw_171 : (.code yX_tape prog_1_method_3_code 5 (Option.some .boolean) : Cond) ∈ tsAll := List.mem_filter.mpr ⟨List.mem_append_right _ (List.mem_of_getElem? (l := tables_1) (i := 171) (by decide +kernel)), by decide +kernel⟩
set_option maxRecDepth 20000 in
theorem tw_182 : (.methodLink "TagWorkshopLaw" 23 yX_compileTag : Cond) ∈ tsAll := List.mem_filter.mpr ⟨List.mem_append_right _ (List.mem_of_getElem? (l := tables_1) (i := 182) (by decide +kernel)), by decide +kernel⟩
set_option maxRecDepth 20000 in
theorem tw_183 : (.instanceMethod yX_compileTag : Cond) ∈ tsAll := List.mem_filter.mpr ⟨List.mem_append_right _ (List.mem_of_getElem? (l := tables_1) (i := 183) (by decide +kernel)), by decide +kernel⟩
set_option maxRecDepth 20000 in
theorem tw_184 : (.selects "TagWorkshop" yX_compileTag yX_compileTag : Cond) ∈ tsAll := List.mem_filter.mpr ⟨List.mem_append_right _ (List.mem_of_getElem? (l := tables_1) (i := 184) (by decide +kernel)), by decide +kernel⟩
set_option maxRecDepth 20000 in
theorem tw_185 : (.code yX_compileTag prog_1_method_4_code 1 (Option.some .int) : Cond) ∈ tsAll := List.mem_filter.mpr ⟨List.mem_append_right _ (List.mem_of_getElem? (l := tables_1) (i := 185) (by decide +kernel)), by decide +kernel⟩
set_option maxRecDepth 20000 in
theorem tw_283 : (.methodLink "TagWorkshopLaw" 28 yX_ownTag : Cond) ∈ tsAll := List.mem_filter.mpr ⟨List.mem_append_right _ (List.mem_of_getElem? (l := tables_1) (i := 283) (by decide +kernel)), by decide +kernel⟩
set_option maxRecDepth 20000 in
theorem tw_284 : (.instanceMethod yX_ownTag : Cond) ∈ tsAll := List.mem_filter.mpr ⟨List.mem_append_right _ (List.mem_of_getElem? (l := tables_1) (i := 284) (by decide +kernel)), by decide +kernel⟩
set_option maxRecDepth 20000 in
theorem tw_285 : (.selects "TagWorkshop" yX_ownTag yX_ownTag : Cond) ∈ tsAll := List.mem_filter.mpr ⟨List.mem_append_right _ (List.mem_of_getElem? (l := tables_1) (i := 285) (by decide +kernel)), by decide +kernel⟩
set_option maxRecDepth 20000 in
theorem tw_286 : (.code yX_ownTag prog_1_method_5_code 2 (Option.some .boolean) : Cond) ∈ tsAll := List.mem_filter.mpr ⟨List.mem_append_right _ (List.mem_of_getElem? (l := tables_1) (i := 286) (by decide +kernel)), by decide +kernel⟩
set_option maxRecDepth 20000 in
theorem tw_288 : (.methodLink "TagWorkshopLaw" 33 yX_extend : Cond) ∈ tsAll := List.mem_filter.mpr ⟨List.mem_append_right _ (List.mem_of_getElem? (l := tables_1) (i := 288) (by decide +kernel)), by decide +kernel⟩
set_option maxRecDepth 20000 in
theorem tw_289 : (.instanceMethod yX_extend : Cond) ∈ tsAll := List.mem_filter.mpr ⟨List.mem_append_right _ (List.mem_of_getElem? (l := tables_1) (i := 289) (by decide +kernel)), by decide +kernel⟩
set_option maxRecDepth 20000 in
theorem tw_290 : (.selects "TagWorkshop" yX_extend yX_extend : Cond) ∈ tsAll := List.mem_filter.mpr ⟨List.mem_append_right _ (List.mem_of_getElem? (l := tables_1) (i := 290) (by decide +kernel)), by decide +kernel⟩
set_option maxRecDepth 20000 in
theorem tw_291 : (.code yX_extend prog_1_method_6_code 3 (Option.some .boolean) : Cond) ∈ tsAll := List.mem_filter.mpr ⟨List.mem_append_right _ (List.mem_of_getElem? (l := tables_1) (i := 291) (by decide +kernel)), by decide +kernel⟩
set_option maxRecDepth 20000 in
theorem tw_293 : (.methodLink "TagWorkshopLaw" 38 yX_spoil : Cond) ∈ tsAll := List.mem_filter.mpr ⟨List.mem_append_right _ (List.mem_of_getElem? (l := tables_1) (i := 293) (by decide +kernel)), by decide +kernel⟩
set_option maxRecDepth 20000 in
theorem tw_294 : (.instanceMethod yX_spoil : Cond) ∈ tsAll := List.mem_filter.mpr ⟨List.mem_append_right _ (List.mem_of_getElem? (l := tables_1) (i := 294) (by decide +kernel)), by decide +kernel⟩
set_option maxRecDepth 20000 in
theorem tw_295 : (.selects "TagWorkshop" yX_spoil yX_spoil : Cond) ∈ tsAll := List.mem_filter.mpr ⟨List.mem_append_right _ (List.mem_of_getElem? (l := tables_1) (i := 295) (by decide +kernel)), by decide +kernel⟩
set_option maxRecDepth 20000 in
theorem tw_296 : (.code yX_spoil prog_1_method_7_code 4 (Option.some .int) : Cond) ∈ tsAll := List.mem_filter.mpr ⟨List.mem_append_right _ (List.mem_of_getElem? (l := tables_1) (i := 296) (by decide +kernel)), by decide +kernel⟩
set_option maxRecDepth 20000 in
theorem tw_313 : (.methodLink "TagWorkshopLaw" 43 yX_halts : Cond) ∈ tsAll := List.mem_filter.mpr ⟨List.mem_append_right _ (List.mem_of_getElem? (l := tables_1) (i := 313) (by decide +kernel)), by decide +kernel⟩
set_option maxRecDepth 20000 in
theorem tw_314 : (.instanceMethod yX_halts : Cond) ∈ tsAll := List.mem_filter.mpr ⟨List.mem_append_right _ (List.mem_of_getElem? (l := tables_1) (i := 314) (by decide +kernel)), by decide +kernel⟩
set_option maxRecDepth 20000 in
theorem tw_315 : (.selects "TagWorkshop" yX_halts yX_halts : Cond) ∈ tsAll := List.mem_filter.mpr ⟨List.mem_append_right _ (List.mem_of_getElem? (l := tables_1) (i := 315) (by decide +kernel)), by decide +kernel⟩
set_option maxRecDepth 20000 in
theorem tw_316 : (.code yX_halts prog_1_method_8_code 3 (Option.some .boolean) : Cond) ∈ tsAll := List.mem_filter.mpr ⟨List.mem_append_right _ (List.mem_of_getElem? (l := tables_1) (i := 316) (by decide +kernel)), by decide +kernel⟩
set_option maxRecDepth 20000 in
theorem tw_318 : (.methodLink "TagWorkshopLaw" 48 yX_put : Cond) ∈ tsAll := List.mem_filter.mpr ⟨List.mem_append_right _ (List.mem_of_getElem? (l := tables_1) (i := 318) (by decide +kernel)), by decide +kernel⟩
set_option maxRecDepth 20000 in
theorem tw_319 : (.instanceMethod yX_put : Cond) ∈ tsAll := List.mem_filter.mpr ⟨List.mem_append_right _ (List.mem_of_getElem? (l := tables_1) (i := 319) (by decide +kernel)), by decide +kernel⟩
set_option maxRecDepth 20000 in
theorem tw_320 : (.selects "TagWorkshop" yX_put yX_put : Cond) ∈ tsAll := List.mem_filter.mpr ⟨List.mem_append_right _ (List.mem_of_getElem? (l := tables_1) (i := 320) (by decide +kernel)), by decide +kernel⟩
set_option maxRecDepth 20000 in
theorem tw_321 : (.code yX_put prog_1_method_9_code 2 (Option.some .boolean) : Cond) ∈ tsAll := List.mem_filter.mpr ⟨List.mem_append_right _ (List.mem_of_getElem? (l := tables_1) (i := 321) (by decide +kernel)), by decide +kernel⟩
set_option maxRecDepth 20000 in
theorem tw_324 : (.methodLink "TagWorkshopLaw" 52 yX_production : Cond) ∈ tsAll := List.mem_filter.mpr ⟨List.mem_append_right _ (List.mem_of_getElem? (l := tables_1) (i := 324) (by decide +kernel)), by decide +kernel⟩
set_option maxRecDepth 20000 in
theorem tw_325 : (.instanceMethod yX_production : Cond) ∈ tsAll := List.mem_filter.mpr ⟨List.mem_append_right _ (List.mem_of_getElem? (l := tables_1) (i := 325) (by decide +kernel)), by decide +kernel⟩
set_option maxRecDepth 20000 in
theorem tw_326 : (.selects "TagWorkshop" yX_production yX_production : Cond) ∈ tsAll := List.mem_filter.mpr ⟨List.mem_append_right _ (List.mem_of_getElem? (l := tables_1) (i := 326) (by decide +kernel)), by decide +kernel⟩
set_option maxRecDepth 20000 in
theorem tw_327 : (.code yX_production prog_1_method_10_code 3 (Option.some .int) : Cond) ∈ tsAll := List.mem_filter.mpr ⟨List.mem_append_right _ (List.mem_of_getElem? (l := tables_1) (i := 327) (by decide +kernel)), by decide +kernel⟩
set_option maxRecDepth 20000 in
theorem tw_329 : (.methodLink "TagWorkshopLaw" 57 yX_compileCyclic : Cond) ∈ tsAll := List.mem_filter.mpr ⟨List.mem_append_right _ (List.mem_of_getElem? (l := tables_1) (i := 329) (by decide +kernel)), by decide +kernel⟩
set_option maxRecDepth 20000 in
theorem tw_330 : (.instanceMethod yX_compileCyclic : Cond) ∈ tsAll := List.mem_filter.mpr ⟨List.mem_append_right _ (List.mem_of_getElem? (l := tables_1) (i := 330) (by decide +kernel)), by decide +kernel⟩
set_option maxRecDepth 20000 in
theorem tw_331 : (.selects "TagWorkshop" yX_compileCyclic yX_compileCyclic : Cond) ∈ tsAll := List.mem_filter.mpr ⟨List.mem_append_right _ (List.mem_of_getElem? (l := tables_1) (i := 331) (by decide +kernel)), by decide +kernel⟩
set_option maxRecDepth 20000 in
theorem tw_332 : (.code yX_compileCyclic prog_1_method_11_code 1 (Option.some .int) : Cond) ∈ tsAll := List.mem_filter.mpr ⟨List.mem_append_right _ (List.mem_of_getElem? (l := tables_1) (i := 332) (by decide +kernel)), by decide +kernel⟩
set_option maxRecDepth 20000 in
theorem tw_348 : (.methodLink "TagWorkshopLaw" 61 yX_appendant : Cond) ∈ tsAll := List.mem_filter.mpr ⟨List.mem_append_right _ (List.mem_of_getElem? (l := tables_1) (i := 348) (by decide +kernel)), by decide +kernel⟩
set_option maxRecDepth 20000 in
theorem tw_349 : (.instanceMethod yX_appendant : Cond) ∈ tsAll := List.mem_filter.mpr ⟨List.mem_append_right _ (List.mem_of_getElem? (l := tables_1) (i := 349) (by decide +kernel)), by decide +kernel⟩
set_option maxRecDepth 20000 in
theorem tw_350 : (.selects "TagWorkshop" yX_appendant yX_appendant : Cond) ∈ tsAll := List.mem_filter.mpr ⟨List.mem_append_right _ (List.mem_of_getElem? (l := tables_1) (i := 350) (by decide +kernel)), by decide +kernel⟩
set_option maxRecDepth 20000 in
theorem tw_351 : (.code yX_appendant prog_1_method_12_code 3 (Option.some .int) : Cond) ∈ tsAll := List.mem_filter.mpr ⟨List.mem_append_right _ (List.mem_of_getElem? (l := tables_1) (i := 351) (by decide +kernel)), by decide +kernel⟩
set_option maxRecDepth 20000 in
theorem tw_361 : (.methodLink "TagWorkshopLaw" 65 yX_stepTape : Cond) ∈ tsAll := List.mem_filter.mpr ⟨List.mem_append_right _ (List.mem_of_getElem? (l := tables_1) (i := 361) (by decide +kernel)), by decide +kernel⟩
set_option maxRecDepth 20000 in
theorem tw_362 : (.instanceMethod yX_stepTape : Cond) ∈ tsAll := List.mem_filter.mpr ⟨List.mem_append_right _ (List.mem_of_getElem? (l := tables_1) (i := 362) (by decide +kernel)), by decide +kernel⟩
set_option maxRecDepth 20000 in
theorem tw_363 : (.selects "TagWorkshop" yX_stepTape yX_stepTape : Cond) ∈ tsAll := List.mem_filter.mpr ⟨List.mem_append_right _ (List.mem_of_getElem? (l := tables_1) (i := 363) (by decide +kernel)), by decide +kernel⟩
set_option maxRecDepth 20000 in
theorem tw_364 : (.code yX_stepTape prog_1_method_13_code 2 (Option.some .int) : Cond) ∈ tsAll := List.mem_filter.mpr ⟨List.mem_append_right _ (List.mem_of_getElem? (l := tables_1) (i := 364) (by decide +kernel)), by decide +kernel⟩
set_option maxRecDepth 20000 in
theorem tw_423 : (.methodLink "TagWorkshopLaw" 70 yX_stepTag : Cond) ∈ tsAll := List.mem_filter.mpr ⟨List.mem_append_right _ (List.mem_of_getElem? (l := tables_1) (i := 423) (by decide +kernel)), by decide +kernel⟩
set_option maxRecDepth 20000 in
theorem tw_424 : (.instanceMethod yX_stepTag : Cond) ∈ tsAll := List.mem_filter.mpr ⟨List.mem_append_right _ (List.mem_of_getElem? (l := tables_1) (i := 424) (by decide +kernel)), by decide +kernel⟩
set_option maxRecDepth 20000 in
theorem tw_425 : (.selects "TagWorkshop" yX_stepTag yX_stepTag : Cond) ∈ tsAll := List.mem_filter.mpr ⟨List.mem_append_right _ (List.mem_of_getElem? (l := tables_1) (i := 425) (by decide +kernel)), by decide +kernel⟩
set_option maxRecDepth 20000 in
theorem tw_426 : (.code yX_stepTag prog_1_method_14_code 2 (Option.some .int) : Cond) ∈ tsAll := List.mem_filter.mpr ⟨List.mem_append_right _ (List.mem_of_getElem? (l := tables_1) (i := 426) (by decide +kernel)), by decide +kernel⟩
set_option maxRecDepth 20000 in
theorem tw_430 : (.methodLink "TagWorkshopLaw" 74 yX_stepCyclic : Cond) ∈ tsAll := List.mem_filter.mpr ⟨List.mem_append_right _ (List.mem_of_getElem? (l := tables_1) (i := 430) (by decide +kernel)), by decide +kernel⟩
set_option maxRecDepth 20000 in
theorem tw_431 : (.instanceMethod yX_stepCyclic : Cond) ∈ tsAll := List.mem_filter.mpr ⟨List.mem_append_right _ (List.mem_of_getElem? (l := tables_1) (i := 431) (by decide +kernel)), by decide +kernel⟩
set_option maxRecDepth 20000 in
theorem tw_432 : (.selects "TagWorkshop" yX_stepCyclic yX_stepCyclic : Cond) ∈ tsAll := List.mem_filter.mpr ⟨List.mem_append_right _ (List.mem_of_getElem? (l := tables_1) (i := 432) (by decide +kernel)), by decide +kernel⟩
set_option maxRecDepth 20000 in
theorem tw_433 : (.code yX_stepCyclic prog_1_method_15_code 2 (Option.some .int) : Cond) ∈ tsAll := List.mem_filter.mpr ⟨List.mem_append_right _ (List.mem_of_getElem? (l := tables_1) (i := 433) (by decide +kernel)), by decide +kernel⟩
set_option maxRecDepth 20000 in
theorem tw_437 : (.methodLink "TagWorkshopLaw" 78 yX_tapeNow : Cond) ∈ tsAll := List.mem_filter.mpr ⟨List.mem_append_right _ (List.mem_of_getElem? (l := tables_1) (i := 437) (by decide +kernel)), by decide +kernel⟩
set_option maxRecDepth 20000 in
theorem tw_438 : (.instanceMethod yX_tapeNow : Cond) ∈ tsAll := List.mem_filter.mpr ⟨List.mem_append_right _ (List.mem_of_getElem? (l := tables_1) (i := 438) (by decide +kernel)), by decide +kernel⟩
set_option maxRecDepth 20000 in
theorem tw_439 : (.selects "TagWorkshop" yX_tapeNow yX_tapeNow : Cond) ∈ tsAll := List.mem_filter.mpr ⟨List.mem_append_right _ (List.mem_of_getElem? (l := tables_1) (i := 439) (by decide +kernel)), by decide +kernel⟩
set_option maxRecDepth 20000 in
theorem tw_440 : (.code yX_tapeNow prog_1_method_16_code 2 (Option.some .int) : Cond) ∈ tsAll := List.mem_filter.mpr ⟨List.mem_append_right _ (List.mem_of_getElem? (l := tables_1) (i := 440) (by decide +kernel)), by decide +kernel⟩
set_option maxRecDepth 20000 in
theorem tw_442 : (.methodLink "TagWorkshopLaw" 82 yX_tagNow : Cond) ∈ tsAll := List.mem_filter.mpr ⟨List.mem_append_right _ (List.mem_of_getElem? (l := tables_1) (i := 442) (by decide +kernel)), by decide +kernel⟩
set_option maxRecDepth 20000 in
theorem tw_443 : (.instanceMethod yX_tagNow : Cond) ∈ tsAll := List.mem_filter.mpr ⟨List.mem_append_right _ (List.mem_of_getElem? (l := tables_1) (i := 443) (by decide +kernel)), by decide +kernel⟩
set_option maxRecDepth 20000 in
theorem tw_444 : (.selects "TagWorkshop" yX_tagNow yX_tagNow : Cond) ∈ tsAll := List.mem_filter.mpr ⟨List.mem_append_right _ (List.mem_of_getElem? (l := tables_1) (i := 444) (by decide +kernel)), by decide +kernel⟩
set_option maxRecDepth 20000 in
theorem tw_445 : (.code yX_tagNow prog_1_method_17_code 2 (Option.some .int) : Cond) ∈ tsAll := List.mem_filter.mpr ⟨List.mem_append_right _ (List.mem_of_getElem? (l := tables_1) (i := 445) (by decide +kernel)), by decide +kernel⟩
set_option maxRecDepth 20000 in
theorem tw_447 : (.methodLink "TagWorkshopLaw" 86 yX_cyclicNow : Cond) ∈ tsAll := List.mem_filter.mpr ⟨List.mem_append_right _ (List.mem_of_getElem? (l := tables_1) (i := 447) (by decide +kernel)), by decide +kernel⟩
set_option maxRecDepth 20000 in
theorem tw_448 : (.instanceMethod yX_cyclicNow : Cond) ∈ tsAll := List.mem_filter.mpr ⟨List.mem_append_right _ (List.mem_of_getElem? (l := tables_1) (i := 448) (by decide +kernel)), by decide +kernel⟩
set_option maxRecDepth 20000 in
theorem tw_449 : (.selects "TagWorkshop" yX_cyclicNow yX_cyclicNow : Cond) ∈ tsAll := List.mem_filter.mpr ⟨List.mem_append_right _ (List.mem_of_getElem? (l := tables_1) (i := 449) (by decide +kernel)), by decide +kernel⟩
set_option maxRecDepth 20000 in
theorem tw_450 : (.code yX_cyclicNow prog_1_method_18_code 2 (Option.some .int) : Cond) ∈ tsAll := List.mem_filter.mpr ⟨List.mem_append_right _ (List.mem_of_getElem? (l := tables_1) (i := 450) (by decide +kernel)), by decide +kernel⟩
set_option maxRecDepth 20000 in
theorem tw_456 : (.methodLink "TagWorkshopLaw" 90 yX_tagLetter : Cond) ∈ tsAll := List.mem_filter.mpr ⟨List.mem_append_right _ (List.mem_of_getElem? (l := tables_1) (i := 456) (by decide +kernel)), by decide +kernel⟩
set_option maxRecDepth 20000 in
theorem tw_457 : (.instanceMethod yX_tagLetter : Cond) ∈ tsAll := List.mem_filter.mpr ⟨List.mem_append_right _ (List.mem_of_getElem? (l := tables_1) (i := 457) (by decide +kernel)), by decide +kernel⟩
set_option maxRecDepth 20000 in
theorem tw_458 : (.selects "TagWorkshop" yX_tagLetter yX_tagLetter : Cond) ∈ tsAll := List.mem_filter.mpr ⟨List.mem_append_right _ (List.mem_of_getElem? (l := tables_1) (i := 458) (by decide +kernel)), by decide +kernel⟩
set_option maxRecDepth 20000 in
theorem tw_459 : (.code yX_tagLetter prog_1_method_19_code 2 (Option.some .int) : Cond) ∈ tsAll := List.mem_filter.mpr ⟨List.mem_append_right _ (List.mem_of_getElem? (l := tables_1) (i := 459) (by decide +kernel)), by decide +kernel⟩
set_option maxRecDepth 20000 in
theorem tw_461 : (.methodLink "TagWorkshopLaw" 94 yX_cyclicBit : Cond) ∈ tsAll := List.mem_filter.mpr ⟨List.mem_append_right _ (List.mem_of_getElem? (l := tables_1) (i := 461) (by decide +kernel)), by decide +kernel⟩
set_option maxRecDepth 20000 in
theorem tw_462 : (.instanceMethod yX_cyclicBit : Cond) ∈ tsAll := List.mem_filter.mpr ⟨List.mem_append_right _ (List.mem_of_getElem? (l := tables_1) (i := 462) (by decide +kernel)), by decide +kernel⟩
set_option maxRecDepth 20000 in
theorem tw_463 : (.selects "TagWorkshop" yX_cyclicBit yX_cyclicBit : Cond) ∈ tsAll := List.mem_filter.mpr ⟨List.mem_append_right _ (List.mem_of_getElem? (l := tables_1) (i := 463) (by decide +kernel)), by decide +kernel⟩
set_option maxRecDepth 20000 in
theorem tw_464 : (.code yX_cyclicBit prog_1_method_20_code 2 (Option.some .int) : Cond) ∈ tsAll := List.mem_filter.mpr ⟨List.mem_append_right _ (List.mem_of_getElem? (l := tables_1) (i := 464) (by decide +kernel)), by decide +kernel⟩
set_option maxRecDepth 20000 in
theorem tw_470 : (.methodLink "TagWorkshopLaw" 98 yX_decodeTag : Cond) ∈ tsAll := List.mem_filter.mpr ⟨List.mem_append_right _ (List.mem_of_getElem? (l := tables_1) (i := 470) (by decide +kernel)), by decide +kernel⟩
set_option maxRecDepth 20000 in
theorem tw_471 : (.instanceMethod yX_decodeTag : Cond) ∈ tsAll := List.mem_filter.mpr ⟨List.mem_append_right _ (List.mem_of_getElem? (l := tables_1) (i := 471) (by decide +kernel)), by decide +kernel⟩
set_option maxRecDepth 20000 in
theorem tw_472 : (.selects "TagWorkshop" yX_decodeTag yX_decodeTag : Cond) ∈ tsAll := List.mem_filter.mpr ⟨List.mem_append_right _ (List.mem_of_getElem? (l := tables_1) (i := 472) (by decide +kernel)), by decide +kernel⟩
set_option maxRecDepth 20000 in
theorem tw_473 : (.code yX_decodeTag prog_1_method_21_code 2 (Option.some .int) : Cond) ∈ tsAll := List.mem_filter.mpr ⟨List.mem_append_right _ (List.mem_of_getElem? (l := tables_1) (i := 473) (by decide +kernel)), by decide +kernel⟩
set_option maxRecDepth 20000 in
theorem tw_494 : (.methodLink "TagWorkshopLaw" 102 yX_decodeCyclic : Cond) ∈ tsAll := List.mem_filter.mpr ⟨List.mem_append_right _ (List.mem_of_getElem? (l := tables_1) (i := 494) (by decide +kernel)), by decide +kernel⟩
set_option maxRecDepth 20000 in
theorem tw_495 : (.instanceMethod yX_decodeCyclic : Cond) ∈ tsAll := List.mem_filter.mpr ⟨List.mem_append_right _ (List.mem_of_getElem? (l := tables_1) (i := 495) (by decide +kernel)), by decide +kernel⟩
set_option maxRecDepth 20000 in
theorem tw_496 : (.selects "TagWorkshop" yX_decodeCyclic yX_decodeCyclic : Cond) ∈ tsAll := List.mem_filter.mpr ⟨List.mem_append_right _ (List.mem_of_getElem? (l := tables_1) (i := 496) (by decide +kernel)), by decide +kernel⟩
set_option maxRecDepth 20000 in
theorem tw_497 : (.code yX_decodeCyclic prog_1_method_22_code 2 (Option.some .int) : Cond) ∈ tsAll := List.mem_filter.mpr ⟨List.mem_append_right _ (List.mem_of_getElem? (l := tables_1) (i := 497) (by decide +kernel)), by decide +kernel⟩
set_option maxRecDepth 20000 in
theorem tw_502 : (.methodLink "TagWorkshopLaw" 106 yX_nextBorder : Cond) ∈ tsAll := List.mem_filter.mpr ⟨List.mem_append_right _ (List.mem_of_getElem? (l := tables_1) (i := 502) (by decide +kernel)), by decide +kernel⟩
set_option maxRecDepth 20000 in
theorem tw_507 : (.methodLink "TagWorkshopLaw" 110 yX_roundCost : Cond) ∈ tsAll := List.mem_filter.mpr ⟨List.mem_append_right _ (List.mem_of_getElem? (l := tables_1) (i := 507) (by decide +kernel)), by decide +kernel⟩
set_option maxRecDepth 20000 in
theorem tw_508 : (.instanceMethod yX_roundCost : Cond) ∈ tsAll := List.mem_filter.mpr ⟨List.mem_append_right _ (List.mem_of_getElem? (l := tables_1) (i := 508) (by decide +kernel)), by decide +kernel⟩
set_option maxRecDepth 20000 in
theorem tw_509 : (.selects "TagWorkshop" yX_roundCost yX_roundCost : Cond) ∈ tsAll := List.mem_filter.mpr ⟨List.mem_append_right _ (List.mem_of_getElem? (l := tables_1) (i := 509) (by decide +kernel)), by decide +kernel⟩
set_option maxRecDepth 20000 in
theorem tw_510 : (.code yX_roundCost prog_1_method_24_code 5 (Option.some .int) : Cond) ∈ tsAll := List.mem_filter.mpr ⟨List.mem_append_right _ (List.mem_of_getElem? (l := tables_1) (i := 510) (by decide +kernel)), by decide +kernel⟩
set_option maxRecDepth 20000 in
theorem tw_516 : (.methodLink "TagWorkshopLaw" 115 yX_lockStep : Cond) ∈ tsAll := List.mem_filter.mpr ⟨List.mem_append_right _ (List.mem_of_getElem? (l := tables_1) (i := 516) (by decide +kernel)), by decide +kernel⟩
set_option maxRecDepth 20000 in
theorem tw_517 : (.instanceMethod yX_lockStep : Cond) ∈ tsAll := List.mem_filter.mpr ⟨List.mem_append_right _ (List.mem_of_getElem? (l := tables_1) (i := 517) (by decide +kernel)), by decide +kernel⟩
set_option maxRecDepth 20000 in
theorem tw_518 : (.selects "TagWorkshop" yX_lockStep yX_lockStep : Cond) ∈ tsAll := List.mem_filter.mpr ⟨List.mem_append_right _ (List.mem_of_getElem? (l := tables_1) (i := 518) (by decide +kernel)), by decide +kernel⟩
set_option maxRecDepth 20000 in
theorem tw_519 : (.code yX_lockStep prog_1_method_25_code 5 (Option.some .int) : Cond) ∈ tsAll := List.mem_filter.mpr ⟨List.mem_append_right _ (List.mem_of_getElem? (l := tables_1) (i := 519) (by decide +kernel)), by decide +kernel⟩
set_option maxRecDepth 20000 in
theorem tw_625 : (.methodLink "TagWorkshopLaw" 17 yR_rule : Cond) ∈ tsAll := List.mem_filter.mpr ⟨List.mem_append_right _ (List.mem_of_getElem? (l := tables_1) (i := 625) (by decide +kernel)), by decide +kernel⟩
set_option maxRecDepth 20000 in
theorem tw_626 : (.instanceMethod yR_rule : Cond) ∈ tsAll := List.mem_filter.mpr ⟨List.mem_append_right _ (List.mem_of_getElem? (l := tables_1) (i := 626) (by decide +kernel)), by decide +kernel⟩
set_option maxRecDepth 20000 in
theorem tw_627 : (.selects "TagWorkshopModel" yR_rule yR_rule : Cond) ∈ tsAll := List.mem_filter.mpr ⟨List.mem_append_right _ (List.mem_of_getElem? (l := tables_1) (i := 627) (by decide +kernel)), by decide +kernel⟩
set_option maxRecDepth 20000 in
theorem tw_628 : (.code yR_rule prog_9_method_6_code 7 (Option.some .boolean) : Cond) ∈ tsAll := List.mem_filter.mpr ⟨List.mem_append_right _ (List.mem_of_getElem? (l := tables_1) (i := 628) (by decide +kernel)), by decide +kernel⟩
set_option maxRecDepth 20000 in
theorem tw_635 : (.methodLink "TagWorkshopLaw" 22 yR_tape : Cond) ∈ tsAll := List.mem_filter.mpr ⟨List.mem_append_right _ (List.mem_of_getElem? (l := tables_1) (i := 635) (by decide +kernel)), by decide +kernel⟩
set_option maxRecDepth 20000 in
theorem tw_636 : (.instanceMethod yR_tape : Cond) ∈ tsAll := List.mem_filter.mpr ⟨List.mem_append_right _ (List.mem_of_getElem? (l := tables_1) (i := 636) (by decide +kernel)), by decide +kernel⟩
set_option maxRecDepth 20000 in
theorem tw_637 : (.selects "TagWorkshopModel" yR_tape yR_tape : Cond) ∈ tsAll := List.mem_filter.mpr ⟨List.mem_append_right _ (List.mem_of_getElem? (l := tables_1) (i := 637) (by decide +kernel)), by decide +kernel⟩
set_option maxRecDepth 20000 in
theorem tw_638 : (.code yR_tape prog_9_method_7_code 5 (Option.some .boolean) : Cond) ∈ tsAll := List.mem_filter.mpr ⟨List.mem_append_right _ (List.mem_of_getElem? (l := tables_1) (i := 638) (by decide +kernel)), by decide +kernel⟩
set_option maxRecDepth 20000 in
theorem tw_642 : (.methodLink "TagWorkshopLaw" 69 yR_stepTape : Cond) ∈ tsAll := List.mem_filter.mpr ⟨List.mem_append_right _ (List.mem_of_getElem? (l := tables_1) (i := 642) (by decide +kernel)), by decide +kernel⟩
set_option maxRecDepth 20000 in
theorem tw_643 : (.instanceMethod yR_stepTape : Cond) ∈ tsAll := List.mem_filter.mpr ⟨List.mem_append_right _ (List.mem_of_getElem? (l := tables_1) (i := 643) (by decide +kernel)), by decide +kernel⟩
set_option maxRecDepth 20000 in
theorem tw_644 : (.selects "TagWorkshopModel" yR_stepTape yR_stepTape : Cond) ∈ tsAll := List.mem_filter.mpr ⟨List.mem_append_right _ (List.mem_of_getElem? (l := tables_1) (i := 644) (by decide +kernel)), by decide +kernel⟩
set_option maxRecDepth 20000 in
theorem tw_645 : (.code yR_stepTape prog_9_method_12_code 3 (Option.some .int) : Cond) ∈ tsAll := List.mem_filter.mpr ⟨List.mem_append_right _ (List.mem_of_getElem? (l := tables_1) (i := 645) (by decide +kernel)), by decide +kernel⟩
set_option maxRecDepth 20000 in
theorem tw_664 : (.methodLink "TagWorkshopLaw" 81 yR_tapeNow : Cond) ∈ tsAll := List.mem_filter.mpr ⟨List.mem_append_right _ (List.mem_of_getElem? (l := tables_1) (i := 664) (by decide +kernel)), by decide +kernel⟩
set_option maxRecDepth 20000 in
theorem tw_665 : (.instanceMethod yR_tapeNow : Cond) ∈ tsAll := List.mem_filter.mpr ⟨List.mem_append_right _ (List.mem_of_getElem? (l := tables_1) (i := 665) (by decide +kernel)), by decide +kernel⟩
set_option maxRecDepth 20000 in
theorem tw_666 : (.selects "TagWorkshopModel" yR_tapeNow yR_tapeNow : Cond) ∈ tsAll := List.mem_filter.mpr ⟨List.mem_append_right _ (List.mem_of_getElem? (l := tables_1) (i := 666) (by decide +kernel)), by decide +kernel⟩
set_option maxRecDepth 20000 in
theorem tw_667 : (.code yR_tapeNow prog_9_method_13_code 2 (Option.some .int) : Cond) ∈ tsAll := List.mem_filter.mpr ⟨List.mem_append_right _ (List.mem_of_getElem? (l := tables_1) (i := 667) (by decide +kernel)), by decide +kernel⟩
set_option maxRecDepth 20000 in
theorem tw_668 : (.methodLink "TagWorkshopLaw" 27 yR_compileTag : Cond) ∈ tsAll := List.mem_filter.mpr ⟨List.mem_append_right _ (List.mem_of_getElem? (l := tables_1) (i := 668) (by decide +kernel)), by decide +kernel⟩
set_option maxRecDepth 20000 in
theorem tw_669 : (.instanceMethod yR_compileTag : Cond) ∈ tsAll := List.mem_filter.mpr ⟨List.mem_append_right _ (List.mem_of_getElem? (l := tables_1) (i := 669) (by decide +kernel)), by decide +kernel⟩
set_option maxRecDepth 20000 in
theorem tw_670 : (.selects "TagWorkshopModel" yR_compileTag yR_compileTag : Cond) ∈ tsAll := List.mem_filter.mpr ⟨List.mem_append_right _ (List.mem_of_getElem? (l := tables_1) (i := 670) (by decide +kernel)), by decide +kernel⟩
set_option maxRecDepth 20000 in
theorem tw_671 : (.code yR_compileTag prog_9_method_23_code 6 (Option.some .int) : Cond) ∈ tsAll := List.mem_filter.mpr ⟨List.mem_append_right _ (List.mem_of_getElem? (l := tables_1) (i := 671) (by decide +kernel)), by decide +kernel⟩
set_option maxRecDepth 20000 in
theorem tw_711 : (.methodLink "TagWorkshopLaw" 32 yR_ownTag : Cond) ∈ tsAll := List.mem_filter.mpr ⟨List.mem_append_right _ (List.mem_of_getElem? (l := tables_1) (i := 711) (by decide +kernel)), by decide +kernel⟩
set_option maxRecDepth 20000 in
theorem tw_712 : (.instanceMethod yR_ownTag : Cond) ∈ tsAll := List.mem_filter.mpr ⟨List.mem_append_right _ (List.mem_of_getElem? (l := tables_1) (i := 712) (by decide +kernel)), by decide +kernel⟩
set_option maxRecDepth 20000 in
theorem tw_713 : (.selects "TagWorkshopModel" yR_ownTag yR_ownTag : Cond) ∈ tsAll := List.mem_filter.mpr ⟨List.mem_append_right _ (List.mem_of_getElem? (l := tables_1) (i := 713) (by decide +kernel)), by decide +kernel⟩
set_option maxRecDepth 20000 in
theorem tw_714 : (.code yR_ownTag prog_9_method_24_code 2 (Option.some .boolean) : Cond) ∈ tsAll := List.mem_filter.mpr ⟨List.mem_append_right _ (List.mem_of_getElem? (l := tables_1) (i := 714) (by decide +kernel)), by decide +kernel⟩
set_option maxRecDepth 20000 in
theorem tw_715 : (.methodLink "TagWorkshopLaw" 37 yR_extend : Cond) ∈ tsAll := List.mem_filter.mpr ⟨List.mem_append_right _ (List.mem_of_getElem? (l := tables_1) (i := 715) (by decide +kernel)), by decide +kernel⟩
set_option maxRecDepth 20000 in
theorem tw_716 : (.instanceMethod yR_extend : Cond) ∈ tsAll := List.mem_filter.mpr ⟨List.mem_append_right _ (List.mem_of_getElem? (l := tables_1) (i := 716) (by decide +kernel)), by decide +kernel⟩
set_option maxRecDepth 20000 in
theorem tw_717 : (.selects "TagWorkshopModel" yR_extend yR_extend : Cond) ∈ tsAll := List.mem_filter.mpr ⟨List.mem_append_right _ (List.mem_of_getElem? (l := tables_1) (i := 717) (by decide +kernel)), by decide +kernel⟩
set_option maxRecDepth 20000 in
theorem tw_718 : (.code yR_extend prog_9_method_26_code 3 (Option.some .boolean) : Cond) ∈ tsAll := List.mem_filter.mpr ⟨List.mem_append_right _ (List.mem_of_getElem? (l := tables_1) (i := 718) (by decide +kernel)), by decide +kernel⟩
set_option maxRecDepth 20000 in
theorem tw_723 : (.methodLink "TagWorkshopLaw" 42 yR_spoil : Cond) ∈ tsAll := List.mem_filter.mpr ⟨List.mem_append_right _ (List.mem_of_getElem? (l := tables_1) (i := 723) (by decide +kernel)), by decide +kernel⟩
set_option maxRecDepth 20000 in
theorem tw_724 : (.instanceMethod yR_spoil : Cond) ∈ tsAll := List.mem_filter.mpr ⟨List.mem_append_right _ (List.mem_of_getElem? (l := tables_1) (i := 724) (by decide +kernel)), by decide +kernel⟩
set_option maxRecDepth 20000 in
theorem tw_725 : (.selects "TagWorkshopModel" yR_spoil yR_spoil : Cond) ∈ tsAll := List.mem_filter.mpr ⟨List.mem_append_right _ (List.mem_of_getElem? (l := tables_1) (i := 725) (by decide +kernel)), by decide +kernel⟩
set_option maxRecDepth 20000 in
theorem tw_726 : (.code yR_spoil prog_9_method_27_code 5 (Option.some .int) : Cond) ∈ tsAll := List.mem_filter.mpr ⟨List.mem_append_right _ (List.mem_of_getElem? (l := tables_1) (i := 726) (by decide +kernel)), by decide +kernel⟩
set_option maxRecDepth 20000 in
theorem tw_731 : (.methodLink "TagWorkshopLaw" 47 yR_halts : Cond) ∈ tsAll := List.mem_filter.mpr ⟨List.mem_append_right _ (List.mem_of_getElem? (l := tables_1) (i := 731) (by decide +kernel)), by decide +kernel⟩
set_option maxRecDepth 20000 in
theorem tw_732 : (.instanceMethod yR_halts : Cond) ∈ tsAll := List.mem_filter.mpr ⟨List.mem_append_right _ (List.mem_of_getElem? (l := tables_1) (i := 732) (by decide +kernel)), by decide +kernel⟩
set_option maxRecDepth 20000 in
theorem tw_733 : (.selects "TagWorkshopModel" yR_halts yR_halts : Cond) ∈ tsAll := List.mem_filter.mpr ⟨List.mem_append_right _ (List.mem_of_getElem? (l := tables_1) (i := 733) (by decide +kernel)), by decide +kernel⟩
set_option maxRecDepth 20000 in
theorem tw_734 : (.code yR_halts prog_9_method_28_code 3 (Option.some .boolean) : Cond) ∈ tsAll := List.mem_filter.mpr ⟨List.mem_append_right _ (List.mem_of_getElem? (l := tables_1) (i := 734) (by decide +kernel)), by decide +kernel⟩
set_option maxRecDepth 20000 in
theorem tw_735 : (.methodLink "TagWorkshopLaw" 56 yR_production : Cond) ∈ tsAll := List.mem_filter.mpr ⟨List.mem_append_right _ (List.mem_of_getElem? (l := tables_1) (i := 735) (by decide +kernel)), by decide +kernel⟩
set_option maxRecDepth 20000 in
theorem tw_736 : (.methodLink "TagWorkshopLaw" 51 yR_put : Cond) ∈ tsAll := List.mem_filter.mpr ⟨List.mem_append_right _ (List.mem_of_getElem? (l := tables_1) (i := 736) (by decide +kernel)), by decide +kernel⟩
set_option maxRecDepth 20000 in
theorem tw_737 : (.instanceMethod yR_put : Cond) ∈ tsAll := List.mem_filter.mpr ⟨List.mem_append_right _ (List.mem_of_getElem? (l := tables_1) (i := 737) (by decide +kernel)), by decide +kernel⟩
set_option maxRecDepth 20000 in
theorem tw_738 : (.selects "TagWorkshopModel" yR_put yR_put : Cond) ∈ tsAll := List.mem_filter.mpr ⟨List.mem_append_right _ (List.mem_of_getElem? (l := tables_1) (i := 738) (by decide +kernel)), by decide +kernel⟩
set_option maxRecDepth 20000 in
theorem tw_739 : (.code yR_put prog_9_method_31_code 2 (Option.some .boolean) : Cond) ∈ tsAll := List.mem_filter.mpr ⟨List.mem_append_right _ (List.mem_of_getElem? (l := tables_1) (i := 739) (by decide +kernel)), by decide +kernel⟩
set_option maxRecDepth 20000 in
theorem tw_740 : (.methodLink "TagWorkshopLaw" 73 yR_stepTag : Cond) ∈ tsAll := List.mem_filter.mpr ⟨List.mem_append_right _ (List.mem_of_getElem? (l := tables_1) (i := 740) (by decide +kernel)), by decide +kernel⟩
set_option maxRecDepth 20000 in
theorem tw_741 : (.instanceMethod yR_stepTag : Cond) ∈ tsAll := List.mem_filter.mpr ⟨List.mem_append_right _ (List.mem_of_getElem? (l := tables_1) (i := 741) (by decide +kernel)), by decide +kernel⟩
set_option maxRecDepth 20000 in
theorem tw_742 : (.selects "TagWorkshopModel" yR_stepTag yR_stepTag : Cond) ∈ tsAll := List.mem_filter.mpr ⟨List.mem_append_right _ (List.mem_of_getElem? (l := tables_1) (i := 742) (by decide +kernel)), by decide +kernel⟩
set_option maxRecDepth 20000 in
theorem tw_743 : (.code yR_stepTag prog_9_method_34_code 3 (Option.some .int) : Cond) ∈ tsAll := List.mem_filter.mpr ⟨List.mem_append_right _ (List.mem_of_getElem? (l := tables_1) (i := 743) (by decide +kernel)), by decide +kernel⟩
set_option maxRecDepth 20000 in
theorem tw_752 : (.methodLink "TagWorkshopLaw" 85 yR_tagNow : Cond) ∈ tsAll := List.mem_filter.mpr ⟨List.mem_append_right _ (List.mem_of_getElem? (l := tables_1) (i := 752) (by decide +kernel)), by decide +kernel⟩
set_option maxRecDepth 20000 in
theorem tw_753 : (.instanceMethod yR_tagNow : Cond) ∈ tsAll := List.mem_filter.mpr ⟨List.mem_append_right _ (List.mem_of_getElem? (l := tables_1) (i := 753) (by decide +kernel)), by decide +kernel⟩
set_option maxRecDepth 20000 in
theorem tw_754 : (.selects "TagWorkshopModel" yR_tagNow yR_tagNow : Cond) ∈ tsAll := List.mem_filter.mpr ⟨List.mem_append_right _ (List.mem_of_getElem? (l := tables_1) (i := 754) (by decide +kernel)), by decide +kernel⟩
set_option maxRecDepth 20000 in
theorem tw_755 : (.code yR_tagNow prog_9_method_35_code 2 (Option.some .int) : Cond) ∈ tsAll := List.mem_filter.mpr ⟨List.mem_append_right _ (List.mem_of_getElem? (l := tables_1) (i := 755) (by decide +kernel)), by decide +kernel⟩
set_option maxRecDepth 20000 in
theorem tw_756 : (.methodLink "TagWorkshopLaw" 93 yR_tagLetter : Cond) ∈ tsAll := List.mem_filter.mpr ⟨List.mem_append_right _ (List.mem_of_getElem? (l := tables_1) (i := 756) (by decide +kernel)), by decide +kernel⟩
set_option maxRecDepth 20000 in
theorem tw_757 : (.instanceMethod yR_tagLetter : Cond) ∈ tsAll := List.mem_filter.mpr ⟨List.mem_append_right _ (List.mem_of_getElem? (l := tables_1) (i := 757) (by decide +kernel)), by decide +kernel⟩
set_option maxRecDepth 20000 in
theorem tw_758 : (.selects "TagWorkshopModel" yR_tagLetter yR_tagLetter : Cond) ∈ tsAll := List.mem_filter.mpr ⟨List.mem_append_right _ (List.mem_of_getElem? (l := tables_1) (i := 758) (by decide +kernel)), by decide +kernel⟩
set_option maxRecDepth 20000 in
theorem tw_759 : (.code yR_tagLetter prog_9_method_36_code 2 (Option.some .int) : Cond) ∈ tsAll := List.mem_filter.mpr ⟨List.mem_append_right _ (List.mem_of_getElem? (l := tables_1) (i := 759) (by decide +kernel)), by decide +kernel⟩
set_option maxRecDepth 20000 in
theorem tw_760 : (.methodLink "TagWorkshopLaw" 60 yR_compileCyclic : Cond) ∈ tsAll := List.mem_filter.mpr ⟨List.mem_append_right _ (List.mem_of_getElem? (l := tables_1) (i := 760) (by decide +kernel)), by decide +kernel⟩
set_option maxRecDepth 20000 in
theorem tw_761 : (.instanceMethod yR_compileCyclic : Cond) ∈ tsAll := List.mem_filter.mpr ⟨List.mem_append_right _ (List.mem_of_getElem? (l := tables_1) (i := 761) (by decide +kernel)), by decide +kernel⟩
set_option maxRecDepth 20000 in
theorem tw_762 : (.selects "TagWorkshopModel" yR_compileCyclic yR_compileCyclic : Cond) ∈ tsAll := List.mem_filter.mpr ⟨List.mem_append_right _ (List.mem_of_getElem? (l := tables_1) (i := 762) (by decide +kernel)), by decide +kernel⟩
set_option maxRecDepth 20000 in
theorem tw_763 : (.code yR_compileCyclic prog_9_method_37_code 3 (Option.some .int) : Cond) ∈ tsAll := List.mem_filter.mpr ⟨List.mem_append_right _ (List.mem_of_getElem? (l := tables_1) (i := 763) (by decide +kernel)), by decide +kernel⟩
set_option maxRecDepth 20000 in
theorem tw_768 : (.methodLink "TagWorkshopLaw" 77 yR_stepCyclic : Cond) ∈ tsAll := List.mem_filter.mpr ⟨List.mem_append_right _ (List.mem_of_getElem? (l := tables_1) (i := 768) (by decide +kernel)), by decide +kernel⟩
set_option maxRecDepth 20000 in
theorem tw_769 : (.instanceMethod yR_stepCyclic : Cond) ∈ tsAll := List.mem_filter.mpr ⟨List.mem_append_right _ (List.mem_of_getElem? (l := tables_1) (i := 769) (by decide +kernel)), by decide +kernel⟩
set_option maxRecDepth 20000 in
theorem tw_770 : (.selects "TagWorkshopModel" yR_stepCyclic yR_stepCyclic : Cond) ∈ tsAll := List.mem_filter.mpr ⟨List.mem_append_right _ (List.mem_of_getElem? (l := tables_1) (i := 770) (by decide +kernel)), by decide +kernel⟩
set_option maxRecDepth 20000 in
theorem tw_771 : (.code yR_stepCyclic prog_9_method_42_code 3 (Option.some .int) : Cond) ∈ tsAll := List.mem_filter.mpr ⟨List.mem_append_right _ (List.mem_of_getElem? (l := tables_1) (i := 771) (by decide +kernel)), by decide +kernel⟩
set_option maxRecDepth 20000 in
theorem tw_784 : (.methodLink "TagWorkshopLaw" 64 yR_appendant : Cond) ∈ tsAll := List.mem_filter.mpr ⟨List.mem_append_right _ (List.mem_of_getElem? (l := tables_1) (i := 784) (by decide +kernel)), by decide +kernel⟩
set_option maxRecDepth 20000 in
theorem tw_785 : (.instanceMethod yR_appendant : Cond) ∈ tsAll := List.mem_filter.mpr ⟨List.mem_append_right _ (List.mem_of_getElem? (l := tables_1) (i := 785) (by decide +kernel)), by decide +kernel⟩
set_option maxRecDepth 20000 in
theorem tw_786 : (.selects "TagWorkshopModel" yR_appendant yR_appendant : Cond) ∈ tsAll := List.mem_filter.mpr ⟨List.mem_append_right _ (List.mem_of_getElem? (l := tables_1) (i := 786) (by decide +kernel)), by decide +kernel⟩
set_option maxRecDepth 20000 in
theorem tw_787 : (.code yR_appendant prog_9_method_43_code 3 (Option.some .int) : Cond) ∈ tsAll := List.mem_filter.mpr ⟨List.mem_append_right _ (List.mem_of_getElem? (l := tables_1) (i := 787) (by decide +kernel)), by decide +kernel⟩
set_option maxRecDepth 20000 in
theorem tw_788 : (.methodLink "TagWorkshopLaw" 89 yR_cyclicNow : Cond) ∈ tsAll := List.mem_filter.mpr ⟨List.mem_append_right _ (List.mem_of_getElem? (l := tables_1) (i := 788) (by decide +kernel)), by decide +kernel⟩
set_option maxRecDepth 20000 in
theorem tw_789 : (.instanceMethod yR_cyclicNow : Cond) ∈ tsAll := List.mem_filter.mpr ⟨List.mem_append_right _ (List.mem_of_getElem? (l := tables_1) (i := 789) (by decide +kernel)), by decide +kernel⟩
set_option maxRecDepth 20000 in
theorem tw_790 : (.selects "TagWorkshopModel" yR_cyclicNow yR_cyclicNow : Cond) ∈ tsAll := List.mem_filter.mpr ⟨List.mem_append_right _ (List.mem_of_getElem? (l := tables_1) (i := 790) (by decide +kernel)), by decide +kernel⟩
set_option maxRecDepth 20000 in
theorem tw_791 : (.code yR_cyclicNow prog_9_method_44_code 2 (Option.some .int) : Cond) ∈ tsAll := List.mem_filter.mpr ⟨List.mem_append_right _ (List.mem_of_getElem? (l := tables_1) (i := 791) (by decide +kernel)), by decide +kernel⟩
set_option maxRecDepth 20000 in
theorem tw_792 : (.methodLink "TagWorkshopLaw" 97 yR_cyclicBit : Cond) ∈ tsAll := List.mem_filter.mpr ⟨List.mem_append_right _ (List.mem_of_getElem? (l := tables_1) (i := 792) (by decide +kernel)), by decide +kernel⟩
set_option maxRecDepth 20000 in
theorem tw_793 : (.instanceMethod yR_cyclicBit : Cond) ∈ tsAll := List.mem_filter.mpr ⟨List.mem_append_right _ (List.mem_of_getElem? (l := tables_1) (i := 793) (by decide +kernel)), by decide +kernel⟩
set_option maxRecDepth 20000 in
theorem tw_794 : (.selects "TagWorkshopModel" yR_cyclicBit yR_cyclicBit : Cond) ∈ tsAll := List.mem_filter.mpr ⟨List.mem_append_right _ (List.mem_of_getElem? (l := tables_1) (i := 794) (by decide +kernel)), by decide +kernel⟩
set_option maxRecDepth 20000 in
theorem tw_795 : (.code yR_cyclicBit prog_9_method_45_code 3 (Option.some .int) : Cond) ∈ tsAll := List.mem_filter.mpr ⟨List.mem_append_right _ (List.mem_of_getElem? (l := tables_1) (i := 795) (by decide +kernel)), by decide +kernel⟩
set_option maxRecDepth 20000 in
theorem tw_796 : (.methodLink "TagWorkshopLaw" 105 yR_decodeCyclic : Cond) ∈ tsAll := List.mem_filter.mpr ⟨List.mem_append_right _ (List.mem_of_getElem? (l := tables_1) (i := 796) (by decide +kernel)), by decide +kernel⟩
set_option maxRecDepth 20000 in
theorem tw_797 : (.instanceMethod yR_decodeCyclic : Cond) ∈ tsAll := List.mem_filter.mpr ⟨List.mem_append_right _ (List.mem_of_getElem? (l := tables_1) (i := 797) (by decide +kernel)), by decide +kernel⟩
set_option maxRecDepth 20000 in
theorem tw_798 : (.selects "TagWorkshopModel" yR_decodeCyclic yR_decodeCyclic : Cond) ∈ tsAll := List.mem_filter.mpr ⟨List.mem_append_right _ (List.mem_of_getElem? (l := tables_1) (i := 798) (by decide +kernel)), by decide +kernel⟩
set_option maxRecDepth 20000 in
theorem tw_799 : (.code yR_decodeCyclic prog_9_method_46_code 2 (Option.some .int) : Cond) ∈ tsAll := List.mem_filter.mpr ⟨List.mem_append_right _ (List.mem_of_getElem? (l := tables_1) (i := 799) (by decide +kernel)), by decide +kernel⟩
set_option maxRecDepth 20000 in
theorem tw_800 : (.methodLink "TagWorkshopLaw" 101 yR_decodeTag : Cond) ∈ tsAll := List.mem_filter.mpr ⟨List.mem_append_right _ (List.mem_of_getElem? (l := tables_1) (i := 800) (by decide +kernel)), by decide +kernel⟩
set_option maxRecDepth 20000 in
theorem tw_801 : (.instanceMethod yR_decodeTag : Cond) ∈ tsAll := List.mem_filter.mpr ⟨List.mem_append_right _ (List.mem_of_getElem? (l := tables_1) (i := 801) (by decide +kernel)), by decide +kernel⟩
set_option maxRecDepth 20000 in
theorem tw_802 : (.selects "TagWorkshopModel" yR_decodeTag yR_decodeTag : Cond) ∈ tsAll := List.mem_filter.mpr ⟨List.mem_append_right _ (List.mem_of_getElem? (l := tables_1) (i := 802) (by decide +kernel)), by decide +kernel⟩
set_option maxRecDepth 20000 in
theorem tw_803 : (.code yR_decodeTag prog_9_method_49_code 2 (Option.some .int) : Cond) ∈ tsAll := List.mem_filter.mpr ⟨List.mem_append_right _ (List.mem_of_getElem? (l := tables_1) (i := 803) (by decide +kernel)), by decide +kernel⟩
set_option maxRecDepth 20000 in
theorem tw_812 : (.methodLink "TagWorkshopLaw" 109 yR_nextBorder : Cond) ∈ tsAll := List.mem_filter.mpr ⟨List.mem_append_right _ (List.mem_of_getElem? (l := tables_1) (i := 812) (by decide +kernel)), by decide +kernel⟩
set_option maxRecDepth 20000 in
theorem tw_816 : (.methodLink "TagWorkshopLaw" 114 yR_roundCost : Cond) ∈ tsAll := List.mem_filter.mpr ⟨List.mem_append_right _ (List.mem_of_getElem? (l := tables_1) (i := 816) (by decide +kernel)), by decide +kernel⟩
set_option maxRecDepth 20000 in
theorem tw_817 : (.instanceMethod yR_roundCost : Cond) ∈ tsAll := List.mem_filter.mpr ⟨List.mem_append_right _ (List.mem_of_getElem? (l := tables_1) (i := 817) (by decide +kernel)), by decide +kernel⟩
set_option maxRecDepth 20000 in
theorem tw_818 : (.selects "TagWorkshopModel" yR_roundCost yR_roundCost : Cond) ∈ tsAll := List.mem_filter.mpr ⟨List.mem_append_right _ (List.mem_of_getElem? (l := tables_1) (i := 818) (by decide +kernel)), by decide +kernel⟩
set_option maxRecDepth 20000 in
theorem tw_819 : (.code yR_roundCost prog_9_method_51_code 8 (Option.some .int) : Cond) ∈ tsAll := List.mem_filter.mpr ⟨List.mem_append_right _ (List.mem_of_getElem? (l := tables_1) (i := 819) (by decide +kernel)), by decide +kernel⟩
set_option maxRecDepth 20000 in
theorem tw_820 : (.methodLink "TagWorkshopLaw" 118 yR_lockStep : Cond) ∈ tsAll := List.mem_filter.mpr ⟨List.mem_append_right _ (List.mem_of_getElem? (l := tables_1) (i := 820) (by decide +kernel)), by decide +kernel⟩
set_option maxRecDepth 20000 in
theorem tw_821 : (.instanceMethod yR_lockStep : Cond) ∈ tsAll := List.mem_filter.mpr ⟨List.mem_append_right _ (List.mem_of_getElem? (l := tables_1) (i := 821) (by decide +kernel)), by decide +kernel⟩
set_option maxRecDepth 20000 in
theorem tw_822 : (.selects "TagWorkshopModel" yR_lockStep yR_lockStep : Cond) ∈ tsAll := List.mem_filter.mpr ⟨List.mem_append_right _ (List.mem_of_getElem? (l := tables_1) (i := 822) (by decide +kernel)), by decide +kernel⟩
set_option maxRecDepth 20000 in
theorem tw_823 : (.code yR_lockStep prog_9_method_53_code 4 (Option.some .int) : Cond) ∈ tsAll := List.mem_filter.mpr ⟨List.mem_append_right _ (List.mem_of_getElem? (l := tables_1) (i := 823) (by decide +kernel)), by decide +kernel⟩
theorem dL_law_0 : decode code 0 = .ok (.new 7, 3) := by decide +kernel
theorem dL_law_3 : decode code 3 = .ok (.dup, 1) := by decide +kernel
theorem dL_law_4 : decode code 4 = .ok (.invokespecial 9, 3) := by decide +kernel
theorem dL_law_7 : decode code 7 = .ok (.astore_n 1, 1) := by decide +kernel
theorem dL_law_8 : decode code 8 = .ok (.new 10, 3) := by decide +kernel
theorem dL_law_11 : decode code 11 = .ok (.dup, 1) := by decide +kernel
theorem dL_law_12 : decode code 12 = .ok (.invokespecial 12, 3) := by decide +kernel
theorem dL_law_15 : decode code 15 = .ok (.astore_n 2, 1) := by decide +kernel
theorem dL_law_16 : decode code 16 = .ok (.iconst 0, 1) := by decide +kernel
theorem dL_law_17 : decode code 17 = .ok (.istore_n 3, 1) := by decide +kernel
theorem dL_law_18 : decode code 18 = .ok (.iload_n 3, 1) := by decide +kernel
theorem dL_law_19 : decode code 19 = .ok (.aload_n 0, 1) := by decide +kernel
theorem dL_law_20 : decode code 20 = .ok (.arraylength, 1) := by decide +kernel
theorem dL_law_21 : decode code 21 = .ok (.bipush 6, 2) := by decide +kernel
theorem dL_law_23 : decode code 23 = .ok (.isub, 1) := by decide +kernel
theorem dL_law_24 : decode code 24 = .ok (.if_icmp .gt 824, 3) := by decide +kernel
theorem dL_law_27 : decode code 27 = .ok (.aload_n 0, 1) := by decide +kernel
theorem dL_law_28 : decode code 28 = .ok (.iload_n 3, 1) := by decide +kernel
theorem dL_law_29 : decode code 29 = .ok (.iaload, 1) := by decide +kernel
theorem dL_law_30 : decode code 30 = .ok (.bipush 31, 2) := by decide +kernel
theorem dL_law_32 : decode code 32 = .ok (.iand, 1) := by decide +kernel
theorem dL_law_33 : decode code 33 = .ok (.tableswitch 809 0 23 #[111, 174, 227, 240, 263, 296, 339, 388, 411, 444, 457, 490, 513, 536, 559, 582, 605, 628, 651, 674, 697, 720, 733, 786], 111) := by decide +kernel
theorem dL_law_144 : decode code 144 = .ok (.aload_n 1, 1) := by decide +kernel
theorem dL_law_145 : decode code 145 = .ok (.aload_n 0, 1) := by decide +kernel
theorem dL_law_146 : decode code 146 = .ok (.iload_n 3, 1) := by decide +kernel
theorem dL_law_147 : decode code 147 = .ok (.iconst 1, 1) := by decide +kernel
theorem dL_law_148 : decode code 148 = .ok (.iadd, 1) := by decide +kernel
theorem dL_law_149 : decode code 149 = .ok (.iaload, 1) := by decide +kernel
theorem dL_law_150 : decode code 150 = .ok (.aload_n 0, 1) := by decide +kernel
theorem dL_law_151 : decode code 151 = .ok (.iload_n 3, 1) := by decide +kernel
theorem dL_law_152 : decode code 152 = .ok (.iconst 2, 1) := by decide +kernel
theorem dL_law_153 : decode code 153 = .ok (.iadd, 1) := by decide +kernel
theorem dL_law_154 : decode code 154 = .ok (.iaload, 1) := by decide +kernel
theorem dL_law_155 : decode code 155 = .ok (.aload_n 0, 1) := by decide +kernel
theorem dL_law_156 : decode code 156 = .ok (.iload_n 3, 1) := by decide +kernel
theorem dL_law_157 : decode code 157 = .ok (.iconst 3, 1) := by decide +kernel
theorem dL_law_158 : decode code 158 = .ok (.iadd, 1) := by decide +kernel
theorem dL_law_159 : decode code 159 = .ok (.iaload, 1) := by decide +kernel
theorem dL_law_160 : decode code 160 = .ok (.aload_n 0, 1) := by decide +kernel
theorem dL_law_161 : decode code 161 = .ok (.iload_n 3, 1) := by decide +kernel
theorem dL_law_162 : decode code 162 = .ok (.iconst 4, 1) := by decide +kernel
theorem dL_law_163 : decode code 163 = .ok (.iadd, 1) := by decide +kernel
theorem dL_law_164 : decode code 164 = .ok (.iaload, 1) := by decide +kernel
theorem dL_law_165 : decode code 165 = .ok (.aload_n 0, 1) := by decide +kernel
theorem dL_law_166 : decode code 166 = .ok (.iload_n 3, 1) := by decide +kernel
theorem dL_law_167 : decode code 167 = .ok (.iconst 5, 1) := by decide +kernel
theorem dL_law_168 : decode code 168 = .ok (.iadd, 1) := by decide +kernel
theorem dL_law_169 : decode code 169 = .ok (.iaload, 1) := by decide +kernel
theorem dL_law_170 : decode code 170 = .ok (.invokevirtual 13, 3) := by decide +kernel
theorem dL_law_173 : decode code 173 = .ok (.aload_n 2, 1) := by decide +kernel
theorem dL_law_174 : decode code 174 = .ok (.aload_n 0, 1) := by decide +kernel
theorem dL_law_175 : decode code 175 = .ok (.iload_n 3, 1) := by decide +kernel
theorem dL_law_176 : decode code 176 = .ok (.iconst 1, 1) := by decide +kernel
theorem dL_law_177 : decode code 177 = .ok (.iadd, 1) := by decide +kernel
theorem dL_law_178 : decode code 178 = .ok (.iaload, 1) := by decide +kernel
theorem dL_law_179 : decode code 179 = .ok (.aload_n 0, 1) := by decide +kernel
theorem dL_law_180 : decode code 180 = .ok (.iload_n 3, 1) := by decide +kernel
theorem dL_law_181 : decode code 181 = .ok (.iconst 2, 1) := by decide +kernel
theorem dL_law_182 : decode code 182 = .ok (.iadd, 1) := by decide +kernel
theorem dL_law_183 : decode code 183 = .ok (.iaload, 1) := by decide +kernel
theorem dL_law_184 : decode code 184 = .ok (.aload_n 0, 1) := by decide +kernel
theorem dL_law_185 : decode code 185 = .ok (.iload_n 3, 1) := by decide +kernel
theorem dL_law_186 : decode code 186 = .ok (.iconst 3, 1) := by decide +kernel
theorem dL_law_187 : decode code 187 = .ok (.iadd, 1) := by decide +kernel
theorem dL_law_188 : decode code 188 = .ok (.iaload, 1) := by decide +kernel
theorem dL_law_189 : decode code 189 = .ok (.aload_n 0, 1) := by decide +kernel
theorem dL_law_190 : decode code 190 = .ok (.iload_n 3, 1) := by decide +kernel
theorem dL_law_191 : decode code 191 = .ok (.iconst 4, 1) := by decide +kernel
theorem dL_law_192 : decode code 192 = .ok (.iadd, 1) := by decide +kernel
theorem dL_law_193 : decode code 193 = .ok (.iaload, 1) := by decide +kernel
theorem dL_law_194 : decode code 194 = .ok (.aload_n 0, 1) := by decide +kernel
theorem dL_law_195 : decode code 195 = .ok (.iload_n 3, 1) := by decide +kernel
theorem dL_law_196 : decode code 196 = .ok (.iconst 5, 1) := by decide +kernel
theorem dL_law_197 : decode code 197 = .ok (.iadd, 1) := by decide +kernel
theorem dL_law_198 : decode code 198 = .ok (.iaload, 1) := by decide +kernel
theorem dL_law_199 : decode code 199 = .ok (.invokevirtual 17, 3) := by decide +kernel
theorem dL_law_202 : decode code 202 = .ok (.if_icmp .eq 640, 3) := by decide +kernel
theorem dL_law_205 : decode code 205 = .ok (.iconst 0, 1) := by decide +kernel
theorem dL_law_206 : decode code 206 = .ok (.ireturn, 1) := by decide +kernel
theorem dL_law_207 : decode code 207 = .ok (.aload_n 1, 1) := by decide +kernel
theorem dL_law_208 : decode code 208 = .ok (.aload_n 0, 1) := by decide +kernel
theorem dL_law_209 : decode code 209 = .ok (.iload_n 3, 1) := by decide +kernel
theorem dL_law_210 : decode code 210 = .ok (.iconst 1, 1) := by decide +kernel
theorem dL_law_211 : decode code 211 = .ok (.iadd, 1) := by decide +kernel
theorem dL_law_212 : decode code 212 = .ok (.iaload, 1) := by decide +kernel
theorem dL_law_213 : decode code 213 = .ok (.aload_n 0, 1) := by decide +kernel
theorem dL_law_214 : decode code 214 = .ok (.iload_n 3, 1) := by decide +kernel
theorem dL_law_215 : decode code 215 = .ok (.iconst 2, 1) := by decide +kernel
theorem dL_law_216 : decode code 216 = .ok (.iadd, 1) := by decide +kernel
theorem dL_law_217 : decode code 217 = .ok (.iaload, 1) := by decide +kernel
theorem dL_law_218 : decode code 218 = .ok (.aload_n 0, 1) := by decide +kernel
theorem dL_law_219 : decode code 219 = .ok (.iload_n 3, 1) := by decide +kernel
theorem dL_law_220 : decode code 220 = .ok (.iconst 3, 1) := by decide +kernel
theorem dL_law_221 : decode code 221 = .ok (.iadd, 1) := by decide +kernel
theorem dL_law_222 : decode code 222 = .ok (.iaload, 1) := by decide +kernel
theorem dL_law_223 : decode code 223 = .ok (.aload_n 0, 1) := by decide +kernel
theorem dL_law_224 : decode code 224 = .ok (.iload_n 3, 1) := by decide +kernel
theorem dL_law_225 : decode code 225 = .ok (.iconst 4, 1) := by decide +kernel
theorem dL_law_226 : decode code 226 = .ok (.iadd, 1) := by decide +kernel
theorem dL_law_227 : decode code 227 = .ok (.iaload, 1) := by decide +kernel
theorem dL_law_228 : decode code 228 = .ok (.invokevirtual 18, 3) := by decide +kernel
theorem dL_law_231 : decode code 231 = .ok (.aload_n 2, 1) := by decide +kernel
theorem dL_law_232 : decode code 232 = .ok (.aload_n 0, 1) := by decide +kernel
theorem dL_law_233 : decode code 233 = .ok (.iload_n 3, 1) := by decide +kernel
theorem dL_law_234 : decode code 234 = .ok (.iconst 1, 1) := by decide +kernel
theorem dL_law_235 : decode code 235 = .ok (.iadd, 1) := by decide +kernel
theorem dL_law_236 : decode code 236 = .ok (.iaload, 1) := by decide +kernel
theorem dL_law_237 : decode code 237 = .ok (.aload_n 0, 1) := by decide +kernel
theorem dL_law_238 : decode code 238 = .ok (.iload_n 3, 1) := by decide +kernel
theorem dL_law_239 : decode code 239 = .ok (.iconst 2, 1) := by decide +kernel
theorem dL_law_240 : decode code 240 = .ok (.iadd, 1) := by decide +kernel
theorem dL_law_241 : decode code 241 = .ok (.iaload, 1) := by decide +kernel
theorem dL_law_242 : decode code 242 = .ok (.aload_n 0, 1) := by decide +kernel
theorem dL_law_243 : decode code 243 = .ok (.iload_n 3, 1) := by decide +kernel
theorem dL_law_244 : decode code 244 = .ok (.iconst 3, 1) := by decide +kernel
theorem dL_law_245 : decode code 245 = .ok (.iadd, 1) := by decide +kernel
theorem dL_law_246 : decode code 246 = .ok (.iaload, 1) := by decide +kernel
theorem dL_law_247 : decode code 247 = .ok (.aload_n 0, 1) := by decide +kernel
theorem dL_law_248 : decode code 248 = .ok (.iload_n 3, 1) := by decide +kernel
theorem dL_law_249 : decode code 249 = .ok (.iconst 4, 1) := by decide +kernel
theorem dL_law_250 : decode code 250 = .ok (.iadd, 1) := by decide +kernel
theorem dL_law_251 : decode code 251 = .ok (.iaload, 1) := by decide +kernel
theorem dL_law_252 : decode code 252 = .ok (.invokevirtual 22, 3) := by decide +kernel
theorem dL_law_255 : decode code 255 = .ok (.if_icmp .eq 587, 3) := by decide +kernel
theorem dL_law_258 : decode code 258 = .ok (.iconst 0, 1) := by decide +kernel
theorem dL_law_259 : decode code 259 = .ok (.ireturn, 1) := by decide +kernel
theorem dL_law_260 : decode code 260 = .ok (.aload_n 1, 1) := by decide +kernel
theorem dL_law_261 : decode code 261 = .ok (.invokevirtual 23, 3) := by decide +kernel
theorem dL_law_264 : decode code 264 = .ok (.aload_n 2, 1) := by decide +kernel
theorem dL_law_265 : decode code 265 = .ok (.invokevirtual 27, 3) := by decide +kernel
theorem dL_law_268 : decode code 268 = .ok (.if_icmp .eq 574, 3) := by decide +kernel
theorem dL_law_271 : decode code 271 = .ok (.iconst 0, 1) := by decide +kernel
theorem dL_law_272 : decode code 272 = .ok (.ireturn, 1) := by decide +kernel
theorem dL_law_273 : decode code 273 = .ok (.aload_n 1, 1) := by decide +kernel
theorem dL_law_274 : decode code 274 = .ok (.aload_n 0, 1) := by decide +kernel
theorem dL_law_275 : decode code 275 = .ok (.iload_n 3, 1) := by decide +kernel
theorem dL_law_276 : decode code 276 = .ok (.iconst 1, 1) := by decide +kernel
theorem dL_law_277 : decode code 277 = .ok (.iadd, 1) := by decide +kernel
theorem dL_law_278 : decode code 278 = .ok (.iaload, 1) := by decide +kernel
theorem dL_law_279 : decode code 279 = .ok (.invokevirtual 28, 3) := by decide +kernel
theorem dL_law_282 : decode code 282 = .ok (.aload_n 2, 1) := by decide +kernel
theorem dL_law_283 : decode code 283 = .ok (.aload_n 0, 1) := by decide +kernel
theorem dL_law_284 : decode code 284 = .ok (.iload_n 3, 1) := by decide +kernel
theorem dL_law_285 : decode code 285 = .ok (.iconst 1, 1) := by decide +kernel
theorem dL_law_286 : decode code 286 = .ok (.iadd, 1) := by decide +kernel
theorem dL_law_287 : decode code 287 = .ok (.iaload, 1) := by decide +kernel
theorem dL_law_288 : decode code 288 = .ok (.invokevirtual 32, 3) := by decide +kernel
theorem dL_law_291 : decode code 291 = .ok (.if_icmp .eq 551, 3) := by decide +kernel
theorem dL_law_294 : decode code 294 = .ok (.iconst 0, 1) := by decide +kernel
theorem dL_law_295 : decode code 295 = .ok (.ireturn, 1) := by decide +kernel
theorem dL_law_296 : decode code 296 = .ok (.aload_n 1, 1) := by decide +kernel
theorem dL_law_297 : decode code 297 = .ok (.aload_n 0, 1) := by decide +kernel
theorem dL_law_298 : decode code 298 = .ok (.iload_n 3, 1) := by decide +kernel
theorem dL_law_299 : decode code 299 = .ok (.iconst 1, 1) := by decide +kernel
theorem dL_law_300 : decode code 300 = .ok (.iadd, 1) := by decide +kernel
theorem dL_law_301 : decode code 301 = .ok (.iaload, 1) := by decide +kernel
theorem dL_law_302 : decode code 302 = .ok (.aload_n 0, 1) := by decide +kernel
theorem dL_law_303 : decode code 303 = .ok (.iload_n 3, 1) := by decide +kernel
theorem dL_law_304 : decode code 304 = .ok (.iconst 2, 1) := by decide +kernel
theorem dL_law_305 : decode code 305 = .ok (.iadd, 1) := by decide +kernel
theorem dL_law_306 : decode code 306 = .ok (.iaload, 1) := by decide +kernel
theorem dL_law_307 : decode code 307 = .ok (.invokevirtual 33, 3) := by decide +kernel
theorem dL_law_310 : decode code 310 = .ok (.aload_n 2, 1) := by decide +kernel
theorem dL_law_311 : decode code 311 = .ok (.aload_n 0, 1) := by decide +kernel
theorem dL_law_312 : decode code 312 = .ok (.iload_n 3, 1) := by decide +kernel
theorem dL_law_313 : decode code 313 = .ok (.iconst 1, 1) := by decide +kernel
theorem dL_law_314 : decode code 314 = .ok (.iadd, 1) := by decide +kernel
theorem dL_law_315 : decode code 315 = .ok (.iaload, 1) := by decide +kernel
theorem dL_law_316 : decode code 316 = .ok (.aload_n 0, 1) := by decide +kernel
theorem dL_law_317 : decode code 317 = .ok (.iload_n 3, 1) := by decide +kernel
theorem dL_law_318 : decode code 318 = .ok (.iconst 2, 1) := by decide +kernel
theorem dL_law_319 : decode code 319 = .ok (.iadd, 1) := by decide +kernel
theorem dL_law_320 : decode code 320 = .ok (.iaload, 1) := by decide +kernel
theorem dL_law_321 : decode code 321 = .ok (.invokevirtual 37, 3) := by decide +kernel
theorem dL_law_324 : decode code 324 = .ok (.if_icmp .eq 518, 3) := by decide +kernel
theorem dL_law_327 : decode code 327 = .ok (.iconst 0, 1) := by decide +kernel
theorem dL_law_328 : decode code 328 = .ok (.ireturn, 1) := by decide +kernel
theorem dL_law_329 : decode code 329 = .ok (.aload_n 1, 1) := by decide +kernel
theorem dL_law_330 : decode code 330 = .ok (.aload_n 0, 1) := by decide +kernel
theorem dL_law_331 : decode code 331 = .ok (.iload_n 3, 1) := by decide +kernel
theorem dL_law_332 : decode code 332 = .ok (.iconst 1, 1) := by decide +kernel
theorem dL_law_333 : decode code 333 = .ok (.iadd, 1) := by decide +kernel
theorem dL_law_334 : decode code 334 = .ok (.iaload, 1) := by decide +kernel
theorem dL_law_335 : decode code 335 = .ok (.aload_n 0, 1) := by decide +kernel
theorem dL_law_336 : decode code 336 = .ok (.iload_n 3, 1) := by decide +kernel
theorem dL_law_337 : decode code 337 = .ok (.iconst 2, 1) := by decide +kernel
theorem dL_law_338 : decode code 338 = .ok (.iadd, 1) := by decide +kernel
theorem dL_law_339 : decode code 339 = .ok (.iaload, 1) := by decide +kernel
theorem dL_law_340 : decode code 340 = .ok (.aload_n 0, 1) := by decide +kernel
theorem dL_law_341 : decode code 341 = .ok (.iload_n 3, 1) := by decide +kernel
theorem dL_law_342 : decode code 342 = .ok (.iconst 3, 1) := by decide +kernel
theorem dL_law_343 : decode code 343 = .ok (.iadd, 1) := by decide +kernel
theorem dL_law_344 : decode code 344 = .ok (.iaload, 1) := by decide +kernel
theorem dL_law_345 : decode code 345 = .ok (.invokevirtual 38, 3) := by decide +kernel
theorem dL_law_348 : decode code 348 = .ok (.aload_n 2, 1) := by decide +kernel
theorem dL_law_349 : decode code 349 = .ok (.aload_n 0, 1) := by decide +kernel
theorem dL_law_350 : decode code 350 = .ok (.iload_n 3, 1) := by decide +kernel
theorem dL_law_351 : decode code 351 = .ok (.iconst 1, 1) := by decide +kernel
theorem dL_law_352 : decode code 352 = .ok (.iadd, 1) := by decide +kernel
theorem dL_law_353 : decode code 353 = .ok (.iaload, 1) := by decide +kernel
theorem dL_law_354 : decode code 354 = .ok (.aload_n 0, 1) := by decide +kernel
theorem dL_law_355 : decode code 355 = .ok (.iload_n 3, 1) := by decide +kernel
theorem dL_law_356 : decode code 356 = .ok (.iconst 2, 1) := by decide +kernel
theorem dL_law_357 : decode code 357 = .ok (.iadd, 1) := by decide +kernel
theorem dL_law_358 : decode code 358 = .ok (.iaload, 1) := by decide +kernel
theorem dL_law_359 : decode code 359 = .ok (.aload_n 0, 1) := by decide +kernel
theorem dL_law_360 : decode code 360 = .ok (.iload_n 3, 1) := by decide +kernel
theorem dL_law_361 : decode code 361 = .ok (.iconst 3, 1) := by decide +kernel
theorem dL_law_362 : decode code 362 = .ok (.iadd, 1) := by decide +kernel
theorem dL_law_363 : decode code 363 = .ok (.iaload, 1) := by decide +kernel
theorem dL_law_364 : decode code 364 = .ok (.invokevirtual 42, 3) := by decide +kernel
theorem dL_law_367 : decode code 367 = .ok (.if_icmp .eq 475, 3) := by decide +kernel
theorem dL_law_370 : decode code 370 = .ok (.iconst 0, 1) := by decide +kernel
theorem dL_law_371 : decode code 371 = .ok (.ireturn, 1) := by decide +kernel
theorem dL_law_372 : decode code 372 = .ok (.aload_n 1, 1) := by decide +kernel
theorem dL_law_373 : decode code 373 = .ok (.aload_n 0, 1) := by decide +kernel
theorem dL_law_374 : decode code 374 = .ok (.iload_n 3, 1) := by decide +kernel
theorem dL_law_375 : decode code 375 = .ok (.iconst 1, 1) := by decide +kernel
theorem dL_law_376 : decode code 376 = .ok (.iadd, 1) := by decide +kernel
theorem dL_law_377 : decode code 377 = .ok (.iaload, 1) := by decide +kernel
theorem dL_law_378 : decode code 378 = .ok (.aload_n 0, 1) := by decide +kernel
theorem dL_law_379 : decode code 379 = .ok (.iload_n 3, 1) := by decide +kernel
theorem dL_law_380 : decode code 380 = .ok (.iconst 2, 1) := by decide +kernel
theorem dL_law_381 : decode code 381 = .ok (.iadd, 1) := by decide +kernel
theorem dL_law_382 : decode code 382 = .ok (.iaload, 1) := by decide +kernel
theorem dL_law_383 : decode code 383 = .ok (.ifCond .eq 7, 3) := by decide +kernel
theorem dL_law_386 : decode code 386 = .ok (.iconst 1, 1) := by decide +kernel
theorem dL_law_387 : decode code 387 = .ok (.goto 4, 3) := by decide +kernel
theorem dL_law_390 : decode code 390 = .ok (.iconst 0, 1) := by decide +kernel
theorem dL_law_391 : decode code 391 = .ok (.invokevirtual 43, 3) := by decide +kernel
theorem dL_law_394 : decode code 394 = .ok (.aload_n 2, 1) := by decide +kernel
theorem dL_law_395 : decode code 395 = .ok (.aload_n 0, 1) := by decide +kernel
theorem dL_law_396 : decode code 396 = .ok (.iload_n 3, 1) := by decide +kernel
theorem dL_law_397 : decode code 397 = .ok (.iconst 1, 1) := by decide +kernel
theorem dL_law_398 : decode code 398 = .ok (.iadd, 1) := by decide +kernel
theorem dL_law_399 : decode code 399 = .ok (.iaload, 1) := by decide +kernel
theorem dL_law_400 : decode code 400 = .ok (.aload_n 0, 1) := by decide +kernel
theorem dL_law_401 : decode code 401 = .ok (.iload_n 3, 1) := by decide +kernel
theorem dL_law_402 : decode code 402 = .ok (.iconst 2, 1) := by decide +kernel
theorem dL_law_403 : decode code 403 = .ok (.iadd, 1) := by decide +kernel
theorem dL_law_404 : decode code 404 = .ok (.iaload, 1) := by decide +kernel
theorem dL_law_405 : decode code 405 = .ok (.ifCond .eq 7, 3) := by decide +kernel
theorem dL_law_408 : decode code 408 = .ok (.iconst 1, 1) := by decide +kernel
theorem dL_law_409 : decode code 409 = .ok (.goto 4, 3) := by decide +kernel
theorem dL_law_412 : decode code 412 = .ok (.iconst 0, 1) := by decide +kernel
theorem dL_law_413 : decode code 413 = .ok (.invokevirtual 47, 3) := by decide +kernel
theorem dL_law_416 : decode code 416 = .ok (.if_icmp .eq 426, 3) := by decide +kernel
theorem dL_law_419 : decode code 419 = .ok (.iconst 0, 1) := by decide +kernel
theorem dL_law_420 : decode code 420 = .ok (.ireturn, 1) := by decide +kernel
theorem dL_law_421 : decode code 421 = .ok (.aload_n 1, 1) := by decide +kernel
theorem dL_law_422 : decode code 422 = .ok (.aload_n 0, 1) := by decide +kernel
theorem dL_law_423 : decode code 423 = .ok (.iload_n 3, 1) := by decide +kernel
theorem dL_law_424 : decode code 424 = .ok (.iconst 1, 1) := by decide +kernel
theorem dL_law_425 : decode code 425 = .ok (.iadd, 1) := by decide +kernel
theorem dL_law_426 : decode code 426 = .ok (.iaload, 1) := by decide +kernel
theorem dL_law_427 : decode code 427 = .ok (.invokevirtual 48, 3) := by decide +kernel
theorem dL_law_430 : decode code 430 = .ok (.aload_n 2, 1) := by decide +kernel
theorem dL_law_431 : decode code 431 = .ok (.aload_n 0, 1) := by decide +kernel
theorem dL_law_432 : decode code 432 = .ok (.iload_n 3, 1) := by decide +kernel
theorem dL_law_433 : decode code 433 = .ok (.iconst 1, 1) := by decide +kernel
theorem dL_law_434 : decode code 434 = .ok (.iadd, 1) := by decide +kernel
theorem dL_law_435 : decode code 435 = .ok (.iaload, 1) := by decide +kernel
theorem dL_law_436 : decode code 436 = .ok (.invokevirtual 51, 3) := by decide +kernel
theorem dL_law_439 : decode code 439 = .ok (.if_icmp .eq 403, 3) := by decide +kernel
theorem dL_law_442 : decode code 442 = .ok (.iconst 0, 1) := by decide +kernel
theorem dL_law_443 : decode code 443 = .ok (.ireturn, 1) := by decide +kernel
theorem dL_law_444 : decode code 444 = .ok (.aload_n 1, 1) := by decide +kernel
theorem dL_law_445 : decode code 445 = .ok (.aload_n 0, 1) := by decide +kernel
theorem dL_law_446 : decode code 446 = .ok (.iload_n 3, 1) := by decide +kernel
theorem dL_law_447 : decode code 447 = .ok (.iconst 1, 1) := by decide +kernel
theorem dL_law_448 : decode code 448 = .ok (.iadd, 1) := by decide +kernel
theorem dL_law_449 : decode code 449 = .ok (.iaload, 1) := by decide +kernel
theorem dL_law_450 : decode code 450 = .ok (.aload_n 0, 1) := by decide +kernel
theorem dL_law_451 : decode code 451 = .ok (.iload_n 3, 1) := by decide +kernel
theorem dL_law_452 : decode code 452 = .ok (.iconst 2, 1) := by decide +kernel
theorem dL_law_453 : decode code 453 = .ok (.iadd, 1) := by decide +kernel
theorem dL_law_454 : decode code 454 = .ok (.iaload, 1) := by decide +kernel
theorem dL_law_455 : decode code 455 = .ok (.invokevirtual 52, 3) := by decide +kernel
theorem dL_law_458 : decode code 458 = .ok (.aload_n 2, 1) := by decide +kernel
theorem dL_law_459 : decode code 459 = .ok (.aload_n 0, 1) := by decide +kernel
theorem dL_law_460 : decode code 460 = .ok (.iload_n 3, 1) := by decide +kernel
theorem dL_law_461 : decode code 461 = .ok (.iconst 1, 1) := by decide +kernel
theorem dL_law_462 : decode code 462 = .ok (.iadd, 1) := by decide +kernel
theorem dL_law_463 : decode code 463 = .ok (.iaload, 1) := by decide +kernel
theorem dL_law_464 : decode code 464 = .ok (.aload_n 0, 1) := by decide +kernel
theorem dL_law_465 : decode code 465 = .ok (.iload_n 3, 1) := by decide +kernel
theorem dL_law_466 : decode code 466 = .ok (.iconst 2, 1) := by decide +kernel
theorem dL_law_467 : decode code 467 = .ok (.iadd, 1) := by decide +kernel
theorem dL_law_468 : decode code 468 = .ok (.iaload, 1) := by decide +kernel
theorem dL_law_469 : decode code 469 = .ok (.invokevirtual 56, 3) := by decide +kernel
theorem dL_law_472 : decode code 472 = .ok (.if_icmp .eq 370, 3) := by decide +kernel
theorem dL_law_475 : decode code 475 = .ok (.iconst 0, 1) := by decide +kernel
theorem dL_law_476 : decode code 476 = .ok (.ireturn, 1) := by decide +kernel
theorem dL_law_477 : decode code 477 = .ok (.aload_n 1, 1) := by decide +kernel
theorem dL_law_478 : decode code 478 = .ok (.invokevirtual 57, 3) := by decide +kernel
theorem dL_law_481 : decode code 481 = .ok (.aload_n 2, 1) := by decide +kernel
theorem dL_law_482 : decode code 482 = .ok (.invokevirtual 60, 3) := by decide +kernel
theorem dL_law_485 : decode code 485 = .ok (.if_icmp .eq 357, 3) := by decide +kernel
theorem dL_law_488 : decode code 488 = .ok (.iconst 0, 1) := by decide +kernel
theorem dL_law_489 : decode code 489 = .ok (.ireturn, 1) := by decide +kernel
theorem dL_law_490 : decode code 490 = .ok (.aload_n 1, 1) := by decide +kernel
theorem dL_law_491 : decode code 491 = .ok (.aload_n 0, 1) := by decide +kernel
theorem dL_law_492 : decode code 492 = .ok (.iload_n 3, 1) := by decide +kernel
theorem dL_law_493 : decode code 493 = .ok (.iconst 1, 1) := by decide +kernel
theorem dL_law_494 : decode code 494 = .ok (.iadd, 1) := by decide +kernel
theorem dL_law_495 : decode code 495 = .ok (.iaload, 1) := by decide +kernel
theorem dL_law_496 : decode code 496 = .ok (.aload_n 0, 1) := by decide +kernel
theorem dL_law_497 : decode code 497 = .ok (.iload_n 3, 1) := by decide +kernel
theorem dL_law_498 : decode code 498 = .ok (.iconst 2, 1) := by decide +kernel
theorem dL_law_499 : decode code 499 = .ok (.iadd, 1) := by decide +kernel
theorem dL_law_500 : decode code 500 = .ok (.iaload, 1) := by decide +kernel
theorem dL_law_501 : decode code 501 = .ok (.invokevirtual 61, 3) := by decide +kernel
theorem dL_law_504 : decode code 504 = .ok (.aload_n 2, 1) := by decide +kernel
theorem dL_law_505 : decode code 505 = .ok (.aload_n 0, 1) := by decide +kernel
theorem dL_law_506 : decode code 506 = .ok (.iload_n 3, 1) := by decide +kernel
theorem dL_law_507 : decode code 507 = .ok (.iconst 1, 1) := by decide +kernel
theorem dL_law_508 : decode code 508 = .ok (.iadd, 1) := by decide +kernel
theorem dL_law_509 : decode code 509 = .ok (.iaload, 1) := by decide +kernel
theorem dL_law_510 : decode code 510 = .ok (.aload_n 0, 1) := by decide +kernel
theorem dL_law_511 : decode code 511 = .ok (.iload_n 3, 1) := by decide +kernel
theorem dL_law_512 : decode code 512 = .ok (.iconst 2, 1) := by decide +kernel
theorem dL_law_513 : decode code 513 = .ok (.iadd, 1) := by decide +kernel
theorem dL_law_514 : decode code 514 = .ok (.iaload, 1) := by decide +kernel
theorem dL_law_515 : decode code 515 = .ok (.invokevirtual 64, 3) := by decide +kernel
theorem dL_law_518 : decode code 518 = .ok (.if_icmp .eq 324, 3) := by decide +kernel
theorem dL_law_521 : decode code 521 = .ok (.iconst 0, 1) := by decide +kernel
theorem dL_law_522 : decode code 522 = .ok (.ireturn, 1) := by decide +kernel
theorem dL_law_523 : decode code 523 = .ok (.aload_n 1, 1) := by decide +kernel
theorem dL_law_524 : decode code 524 = .ok (.aload_n 0, 1) := by decide +kernel
theorem dL_law_525 : decode code 525 = .ok (.iload_n 3, 1) := by decide +kernel
theorem dL_law_526 : decode code 526 = .ok (.iconst 1, 1) := by decide +kernel
theorem dL_law_527 : decode code 527 = .ok (.iadd, 1) := by decide +kernel
theorem dL_law_528 : decode code 528 = .ok (.iaload, 1) := by decide +kernel
theorem dL_law_529 : decode code 529 = .ok (.invokevirtual 65, 3) := by decide +kernel
theorem dL_law_532 : decode code 532 = .ok (.aload_n 2, 1) := by decide +kernel
theorem dL_law_533 : decode code 533 = .ok (.aload_n 0, 1) := by decide +kernel
theorem dL_law_534 : decode code 534 = .ok (.iload_n 3, 1) := by decide +kernel
theorem dL_law_535 : decode code 535 = .ok (.iconst 1, 1) := by decide +kernel
theorem dL_law_536 : decode code 536 = .ok (.iadd, 1) := by decide +kernel
theorem dL_law_537 : decode code 537 = .ok (.iaload, 1) := by decide +kernel
theorem dL_law_538 : decode code 538 = .ok (.invokevirtual 69, 3) := by decide +kernel
theorem dL_law_541 : decode code 541 = .ok (.if_icmp .eq 301, 3) := by decide +kernel
theorem dL_law_544 : decode code 544 = .ok (.iconst 0, 1) := by decide +kernel
theorem dL_law_545 : decode code 545 = .ok (.ireturn, 1) := by decide +kernel
theorem dL_law_546 : decode code 546 = .ok (.aload_n 1, 1) := by decide +kernel
theorem dL_law_547 : decode code 547 = .ok (.aload_n 0, 1) := by decide +kernel
theorem dL_law_548 : decode code 548 = .ok (.iload_n 3, 1) := by decide +kernel
theorem dL_law_549 : decode code 549 = .ok (.iconst 1, 1) := by decide +kernel
theorem dL_law_550 : decode code 550 = .ok (.iadd, 1) := by decide +kernel
theorem dL_law_551 : decode code 551 = .ok (.iaload, 1) := by decide +kernel
theorem dL_law_552 : decode code 552 = .ok (.invokevirtual 70, 3) := by decide +kernel
theorem dL_law_555 : decode code 555 = .ok (.aload_n 2, 1) := by decide +kernel
theorem dL_law_556 : decode code 556 = .ok (.aload_n 0, 1) := by decide +kernel
theorem dL_law_557 : decode code 557 = .ok (.iload_n 3, 1) := by decide +kernel
theorem dL_law_558 : decode code 558 = .ok (.iconst 1, 1) := by decide +kernel
theorem dL_law_559 : decode code 559 = .ok (.iadd, 1) := by decide +kernel
theorem dL_law_560 : decode code 560 = .ok (.iaload, 1) := by decide +kernel
theorem dL_law_561 : decode code 561 = .ok (.invokevirtual 73, 3) := by decide +kernel
theorem dL_law_564 : decode code 564 = .ok (.if_icmp .eq 278, 3) := by decide +kernel
theorem dL_law_567 : decode code 567 = .ok (.iconst 0, 1) := by decide +kernel
theorem dL_law_568 : decode code 568 = .ok (.ireturn, 1) := by decide +kernel
theorem dL_law_569 : decode code 569 = .ok (.aload_n 1, 1) := by decide +kernel
theorem dL_law_570 : decode code 570 = .ok (.aload_n 0, 1) := by decide +kernel
theorem dL_law_571 : decode code 571 = .ok (.iload_n 3, 1) := by decide +kernel
theorem dL_law_572 : decode code 572 = .ok (.iconst 1, 1) := by decide +kernel
theorem dL_law_573 : decode code 573 = .ok (.iadd, 1) := by decide +kernel
theorem dL_law_574 : decode code 574 = .ok (.iaload, 1) := by decide +kernel
theorem dL_law_575 : decode code 575 = .ok (.invokevirtual 74, 3) := by decide +kernel
theorem dL_law_578 : decode code 578 = .ok (.aload_n 2, 1) := by decide +kernel
theorem dL_law_579 : decode code 579 = .ok (.aload_n 0, 1) := by decide +kernel
theorem dL_law_580 : decode code 580 = .ok (.iload_n 3, 1) := by decide +kernel
theorem dL_law_581 : decode code 581 = .ok (.iconst 1, 1) := by decide +kernel
theorem dL_law_582 : decode code 582 = .ok (.iadd, 1) := by decide +kernel
theorem dL_law_583 : decode code 583 = .ok (.iaload, 1) := by decide +kernel
theorem dL_law_584 : decode code 584 = .ok (.invokevirtual 77, 3) := by decide +kernel
theorem dL_law_587 : decode code 587 = .ok (.if_icmp .eq 255, 3) := by decide +kernel
theorem dL_law_590 : decode code 590 = .ok (.iconst 0, 1) := by decide +kernel
theorem dL_law_591 : decode code 591 = .ok (.ireturn, 1) := by decide +kernel
theorem dL_law_592 : decode code 592 = .ok (.aload_n 1, 1) := by decide +kernel
theorem dL_law_593 : decode code 593 = .ok (.aload_n 0, 1) := by decide +kernel
theorem dL_law_594 : decode code 594 = .ok (.iload_n 3, 1) := by decide +kernel
theorem dL_law_595 : decode code 595 = .ok (.iconst 1, 1) := by decide +kernel
theorem dL_law_596 : decode code 596 = .ok (.iadd, 1) := by decide +kernel
theorem dL_law_597 : decode code 597 = .ok (.iaload, 1) := by decide +kernel
theorem dL_law_598 : decode code 598 = .ok (.invokevirtual 78, 3) := by decide +kernel
theorem dL_law_601 : decode code 601 = .ok (.aload_n 2, 1) := by decide +kernel
theorem dL_law_602 : decode code 602 = .ok (.aload_n 0, 1) := by decide +kernel
theorem dL_law_603 : decode code 603 = .ok (.iload_n 3, 1) := by decide +kernel
theorem dL_law_604 : decode code 604 = .ok (.iconst 1, 1) := by decide +kernel
theorem dL_law_605 : decode code 605 = .ok (.iadd, 1) := by decide +kernel
theorem dL_law_606 : decode code 606 = .ok (.iaload, 1) := by decide +kernel
theorem dL_law_607 : decode code 607 = .ok (.invokevirtual 81, 3) := by decide +kernel
theorem dL_law_610 : decode code 610 = .ok (.if_icmp .eq 232, 3) := by decide +kernel
theorem dL_law_613 : decode code 613 = .ok (.iconst 0, 1) := by decide +kernel
theorem dL_law_614 : decode code 614 = .ok (.ireturn, 1) := by decide +kernel
theorem dL_law_615 : decode code 615 = .ok (.aload_n 1, 1) := by decide +kernel
theorem dL_law_616 : decode code 616 = .ok (.aload_n 0, 1) := by decide +kernel
theorem dL_law_617 : decode code 617 = .ok (.iload_n 3, 1) := by decide +kernel
theorem dL_law_618 : decode code 618 = .ok (.iconst 1, 1) := by decide +kernel
theorem dL_law_619 : decode code 619 = .ok (.iadd, 1) := by decide +kernel
theorem dL_law_620 : decode code 620 = .ok (.iaload, 1) := by decide +kernel
theorem dL_law_621 : decode code 621 = .ok (.invokevirtual 82, 3) := by decide +kernel
theorem dL_law_624 : decode code 624 = .ok (.aload_n 2, 1) := by decide +kernel
theorem dL_law_625 : decode code 625 = .ok (.aload_n 0, 1) := by decide +kernel
theorem dL_law_626 : decode code 626 = .ok (.iload_n 3, 1) := by decide +kernel
theorem dL_law_627 : decode code 627 = .ok (.iconst 1, 1) := by decide +kernel
theorem dL_law_628 : decode code 628 = .ok (.iadd, 1) := by decide +kernel
theorem dL_law_629 : decode code 629 = .ok (.iaload, 1) := by decide +kernel
theorem dL_law_630 : decode code 630 = .ok (.invokevirtual 85, 3) := by decide +kernel
theorem dL_law_633 : decode code 633 = .ok (.if_icmp .eq 209, 3) := by decide +kernel
theorem dL_law_636 : decode code 636 = .ok (.iconst 0, 1) := by decide +kernel
theorem dL_law_637 : decode code 637 = .ok (.ireturn, 1) := by decide +kernel
theorem dL_law_638 : decode code 638 = .ok (.aload_n 1, 1) := by decide +kernel
theorem dL_law_639 : decode code 639 = .ok (.aload_n 0, 1) := by decide +kernel
theorem dL_law_640 : decode code 640 = .ok (.iload_n 3, 1) := by decide +kernel
theorem dL_law_641 : decode code 641 = .ok (.iconst 1, 1) := by decide +kernel
theorem dL_law_642 : decode code 642 = .ok (.iadd, 1) := by decide +kernel
theorem dL_law_643 : decode code 643 = .ok (.iaload, 1) := by decide +kernel
theorem dL_law_644 : decode code 644 = .ok (.invokevirtual 86, 3) := by decide +kernel
theorem dL_law_647 : decode code 647 = .ok (.aload_n 2, 1) := by decide +kernel
theorem dL_law_648 : decode code 648 = .ok (.aload_n 0, 1) := by decide +kernel
theorem dL_law_649 : decode code 649 = .ok (.iload_n 3, 1) := by decide +kernel
theorem dL_law_650 : decode code 650 = .ok (.iconst 1, 1) := by decide +kernel
theorem dL_law_651 : decode code 651 = .ok (.iadd, 1) := by decide +kernel
theorem dL_law_652 : decode code 652 = .ok (.iaload, 1) := by decide +kernel
theorem dL_law_653 : decode code 653 = .ok (.invokevirtual 89, 3) := by decide +kernel
theorem dL_law_656 : decode code 656 = .ok (.if_icmp .eq 186, 3) := by decide +kernel
theorem dL_law_659 : decode code 659 = .ok (.iconst 0, 1) := by decide +kernel
theorem dL_law_660 : decode code 660 = .ok (.ireturn, 1) := by decide +kernel
theorem dL_law_661 : decode code 661 = .ok (.aload_n 1, 1) := by decide +kernel
theorem dL_law_662 : decode code 662 = .ok (.aload_n 0, 1) := by decide +kernel
theorem dL_law_663 : decode code 663 = .ok (.iload_n 3, 1) := by decide +kernel
theorem dL_law_664 : decode code 664 = .ok (.iconst 1, 1) := by decide +kernel
theorem dL_law_665 : decode code 665 = .ok (.iadd, 1) := by decide +kernel
theorem dL_law_666 : decode code 666 = .ok (.iaload, 1) := by decide +kernel
theorem dL_law_667 : decode code 667 = .ok (.invokevirtual 90, 3) := by decide +kernel
theorem dL_law_670 : decode code 670 = .ok (.aload_n 2, 1) := by decide +kernel
theorem dL_law_671 : decode code 671 = .ok (.aload_n 0, 1) := by decide +kernel
theorem dL_law_672 : decode code 672 = .ok (.iload_n 3, 1) := by decide +kernel
theorem dL_law_673 : decode code 673 = .ok (.iconst 1, 1) := by decide +kernel
theorem dL_law_674 : decode code 674 = .ok (.iadd, 1) := by decide +kernel
theorem dL_law_675 : decode code 675 = .ok (.iaload, 1) := by decide +kernel
theorem dL_law_676 : decode code 676 = .ok (.invokevirtual 93, 3) := by decide +kernel
theorem dL_law_679 : decode code 679 = .ok (.if_icmp .eq 163, 3) := by decide +kernel
theorem dL_law_682 : decode code 682 = .ok (.iconst 0, 1) := by decide +kernel
theorem dL_law_683 : decode code 683 = .ok (.ireturn, 1) := by decide +kernel
theorem dL_law_684 : decode code 684 = .ok (.aload_n 1, 1) := by decide +kernel
theorem dL_law_685 : decode code 685 = .ok (.aload_n 0, 1) := by decide +kernel
theorem dL_law_686 : decode code 686 = .ok (.iload_n 3, 1) := by decide +kernel
theorem dL_law_687 : decode code 687 = .ok (.iconst 1, 1) := by decide +kernel
theorem dL_law_688 : decode code 688 = .ok (.iadd, 1) := by decide +kernel
theorem dL_law_689 : decode code 689 = .ok (.iaload, 1) := by decide +kernel
theorem dL_law_690 : decode code 690 = .ok (.invokevirtual 94, 3) := by decide +kernel
theorem dL_law_693 : decode code 693 = .ok (.aload_n 2, 1) := by decide +kernel
theorem dL_law_694 : decode code 694 = .ok (.aload_n 0, 1) := by decide +kernel
theorem dL_law_695 : decode code 695 = .ok (.iload_n 3, 1) := by decide +kernel
theorem dL_law_696 : decode code 696 = .ok (.iconst 1, 1) := by decide +kernel
theorem dL_law_697 : decode code 697 = .ok (.iadd, 1) := by decide +kernel
theorem dL_law_698 : decode code 698 = .ok (.iaload, 1) := by decide +kernel
theorem dL_law_699 : decode code 699 = .ok (.invokevirtual 97, 3) := by decide +kernel
theorem dL_law_702 : decode code 702 = .ok (.if_icmp .eq 140, 3) := by decide +kernel
theorem dL_law_705 : decode code 705 = .ok (.iconst 0, 1) := by decide +kernel
theorem dL_law_706 : decode code 706 = .ok (.ireturn, 1) := by decide +kernel
theorem dL_law_707 : decode code 707 = .ok (.aload_n 1, 1) := by decide +kernel
theorem dL_law_708 : decode code 708 = .ok (.aload_n 0, 1) := by decide +kernel
theorem dL_law_709 : decode code 709 = .ok (.iload_n 3, 1) := by decide +kernel
theorem dL_law_710 : decode code 710 = .ok (.iconst 1, 1) := by decide +kernel
theorem dL_law_711 : decode code 711 = .ok (.iadd, 1) := by decide +kernel
theorem dL_law_712 : decode code 712 = .ok (.iaload, 1) := by decide +kernel
theorem dL_law_713 : decode code 713 = .ok (.invokevirtual 98, 3) := by decide +kernel
theorem dL_law_716 : decode code 716 = .ok (.aload_n 2, 1) := by decide +kernel
theorem dL_law_717 : decode code 717 = .ok (.aload_n 0, 1) := by decide +kernel
theorem dL_law_718 : decode code 718 = .ok (.iload_n 3, 1) := by decide +kernel
theorem dL_law_719 : decode code 719 = .ok (.iconst 1, 1) := by decide +kernel
theorem dL_law_720 : decode code 720 = .ok (.iadd, 1) := by decide +kernel
theorem dL_law_721 : decode code 721 = .ok (.iaload, 1) := by decide +kernel
theorem dL_law_722 : decode code 722 = .ok (.invokevirtual 101, 3) := by decide +kernel
theorem dL_law_725 : decode code 725 = .ok (.if_icmp .eq 117, 3) := by decide +kernel
theorem dL_law_728 : decode code 728 = .ok (.iconst 0, 1) := by decide +kernel
theorem dL_law_729 : decode code 729 = .ok (.ireturn, 1) := by decide +kernel
theorem dL_law_730 : decode code 730 = .ok (.aload_n 1, 1) := by decide +kernel
theorem dL_law_731 : decode code 731 = .ok (.aload_n 0, 1) := by decide +kernel
theorem dL_law_732 : decode code 732 = .ok (.iload_n 3, 1) := by decide +kernel
theorem dL_law_733 : decode code 733 = .ok (.iconst 1, 1) := by decide +kernel
theorem dL_law_734 : decode code 734 = .ok (.iadd, 1) := by decide +kernel
theorem dL_law_735 : decode code 735 = .ok (.iaload, 1) := by decide +kernel
theorem dL_law_736 : decode code 736 = .ok (.invokevirtual 102, 3) := by decide +kernel
theorem dL_law_739 : decode code 739 = .ok (.aload_n 2, 1) := by decide +kernel
theorem dL_law_740 : decode code 740 = .ok (.aload_n 0, 1) := by decide +kernel
theorem dL_law_741 : decode code 741 = .ok (.iload_n 3, 1) := by decide +kernel
theorem dL_law_742 : decode code 742 = .ok (.iconst 1, 1) := by decide +kernel
theorem dL_law_743 : decode code 743 = .ok (.iadd, 1) := by decide +kernel
theorem dL_law_744 : decode code 744 = .ok (.iaload, 1) := by decide +kernel
theorem dL_law_745 : decode code 745 = .ok (.invokevirtual 105, 3) := by decide +kernel
theorem dL_law_748 : decode code 748 = .ok (.if_icmp .eq 94, 3) := by decide +kernel
theorem dL_law_751 : decode code 751 = .ok (.iconst 0, 1) := by decide +kernel
theorem dL_law_752 : decode code 752 = .ok (.ireturn, 1) := by decide +kernel
theorem dL_law_753 : decode code 753 = .ok (.aload_n 1, 1) := by decide +kernel
theorem dL_law_754 : decode code 754 = .ok (.invokevirtual 106, 3) := by decide +kernel
theorem dL_law_757 : decode code 757 = .ok (.aload_n 2, 1) := by decide +kernel
theorem dL_law_758 : decode code 758 = .ok (.invokevirtual 109, 3) := by decide +kernel
theorem dL_law_761 : decode code 761 = .ok (.if_icmp .eq 81, 3) := by decide +kernel
theorem dL_law_764 : decode code 764 = .ok (.iconst 0, 1) := by decide +kernel
theorem dL_law_765 : decode code 765 = .ok (.ireturn, 1) := by decide +kernel
theorem dL_law_766 : decode code 766 = .ok (.aload_n 1, 1) := by decide +kernel
theorem dL_law_767 : decode code 767 = .ok (.aload_n 0, 1) := by decide +kernel
theorem dL_law_768 : decode code 768 = .ok (.iload_n 3, 1) := by decide +kernel
theorem dL_law_769 : decode code 769 = .ok (.iconst 1, 1) := by decide +kernel
theorem dL_law_770 : decode code 770 = .ok (.iadd, 1) := by decide +kernel
theorem dL_law_771 : decode code 771 = .ok (.iaload, 1) := by decide +kernel
theorem dL_law_772 : decode code 772 = .ok (.aload_n 0, 1) := by decide +kernel
theorem dL_law_773 : decode code 773 = .ok (.iload_n 3, 1) := by decide +kernel
theorem dL_law_774 : decode code 774 = .ok (.iconst 2, 1) := by decide +kernel
theorem dL_law_775 : decode code 775 = .ok (.iadd, 1) := by decide +kernel
theorem dL_law_776 : decode code 776 = .ok (.iaload, 1) := by decide +kernel
theorem dL_law_777 : decode code 777 = .ok (.aload_n 0, 1) := by decide +kernel
theorem dL_law_778 : decode code 778 = .ok (.iload_n 3, 1) := by decide +kernel
theorem dL_law_779 : decode code 779 = .ok (.iconst 3, 1) := by decide +kernel
theorem dL_law_780 : decode code 780 = .ok (.iadd, 1) := by decide +kernel
theorem dL_law_781 : decode code 781 = .ok (.iaload, 1) := by decide +kernel
theorem dL_law_782 : decode code 782 = .ok (.aload_n 0, 1) := by decide +kernel
theorem dL_law_783 : decode code 783 = .ok (.iload_n 3, 1) := by decide +kernel
theorem dL_law_784 : decode code 784 = .ok (.iconst 4, 1) := by decide +kernel
theorem dL_law_785 : decode code 785 = .ok (.iadd, 1) := by decide +kernel
theorem dL_law_786 : decode code 786 = .ok (.iaload, 1) := by decide +kernel
theorem dL_law_787 : decode code 787 = .ok (.invokevirtual 110, 3) := by decide +kernel
theorem dL_law_790 : decode code 790 = .ok (.aload_n 2, 1) := by decide +kernel
theorem dL_law_791 : decode code 791 = .ok (.aload_n 0, 1) := by decide +kernel
theorem dL_law_792 : decode code 792 = .ok (.iload_n 3, 1) := by decide +kernel
theorem dL_law_793 : decode code 793 = .ok (.iconst 1, 1) := by decide +kernel
theorem dL_law_794 : decode code 794 = .ok (.iadd, 1) := by decide +kernel
theorem dL_law_795 : decode code 795 = .ok (.iaload, 1) := by decide +kernel
theorem dL_law_796 : decode code 796 = .ok (.aload_n 0, 1) := by decide +kernel
theorem dL_law_797 : decode code 797 = .ok (.iload_n 3, 1) := by decide +kernel
theorem dL_law_798 : decode code 798 = .ok (.iconst 2, 1) := by decide +kernel
theorem dL_law_799 : decode code 799 = .ok (.iadd, 1) := by decide +kernel
theorem dL_law_800 : decode code 800 = .ok (.iaload, 1) := by decide +kernel
theorem dL_law_801 : decode code 801 = .ok (.aload_n 0, 1) := by decide +kernel
theorem dL_law_802 : decode code 802 = .ok (.iload_n 3, 1) := by decide +kernel
theorem dL_law_803 : decode code 803 = .ok (.iconst 3, 1) := by decide +kernel
theorem dL_law_804 : decode code 804 = .ok (.iadd, 1) := by decide +kernel
theorem dL_law_805 : decode code 805 = .ok (.iaload, 1) := by decide +kernel
theorem dL_law_806 : decode code 806 = .ok (.aload_n 0, 1) := by decide +kernel
theorem dL_law_807 : decode code 807 = .ok (.iload_n 3, 1) := by decide +kernel
theorem dL_law_808 : decode code 808 = .ok (.iconst 4, 1) := by decide +kernel
theorem dL_law_809 : decode code 809 = .ok (.iadd, 1) := by decide +kernel
theorem dL_law_810 : decode code 810 = .ok (.iaload, 1) := by decide +kernel
theorem dL_law_811 : decode code 811 = .ok (.invokevirtual 114, 3) := by decide +kernel
theorem dL_law_814 : decode code 814 = .ok (.if_icmp .eq 28, 3) := by decide +kernel
theorem dL_law_817 : decode code 817 = .ok (.iconst 0, 1) := by decide +kernel
theorem dL_law_818 : decode code 818 = .ok (.ireturn, 1) := by decide +kernel
theorem dL_law_819 : decode code 819 = .ok (.aload_n 1, 1) := by decide +kernel
theorem dL_law_820 : decode code 820 = .ok (.aload_n 0, 1) := by decide +kernel
theorem dL_law_821 : decode code 821 = .ok (.iload_n 3, 1) := by decide +kernel
theorem dL_law_822 : decode code 822 = .ok (.iconst 1, 1) := by decide +kernel
theorem dL_law_823 : decode code 823 = .ok (.iadd, 1) := by decide +kernel
theorem dL_law_824 : decode code 824 = .ok (.iaload, 1) := by decide +kernel
theorem dL_law_825 : decode code 825 = .ok (.invokevirtual 115, 3) := by decide +kernel
theorem dL_law_828 : decode code 828 = .ok (.aload_n 2, 1) := by decide +kernel
theorem dL_law_829 : decode code 829 = .ok (.aload_n 0, 1) := by decide +kernel
theorem dL_law_830 : decode code 830 = .ok (.iload_n 3, 1) := by decide +kernel
theorem dL_law_831 : decode code 831 = .ok (.iconst 1, 1) := by decide +kernel
theorem dL_law_832 : decode code 832 = .ok (.iadd, 1) := by decide +kernel
theorem dL_law_833 : decode code 833 = .ok (.iaload, 1) := by decide +kernel
theorem dL_law_834 : decode code 834 = .ok (.invokevirtual 118, 3) := by decide +kernel
theorem dL_law_837 : decode code 837 = .ok (.if_icmp .eq 5, 3) := by decide +kernel
theorem dL_law_840 : decode code 840 = .ok (.iconst 0, 1) := by decide +kernel
theorem dL_law_841 : decode code 841 = .ok (.ireturn, 1) := by decide +kernel
theorem dL_law_842 : decode code 842 = .ok (.iinc 3 6, 3) := by decide +kernel
theorem dL_law_845 : decode code 845 = .ok (.goto (-827), 3) := by decide +kernel
theorem dL_law_848 : decode code 848 = .ok (.iconst 1, 1) := by decide +kernel
theorem dL_law_849 : decode code 849 = .ok (.ireturn, 1) := by decide +kernel

/-! words of the constructors -/
set_option maxRecDepth 20000 in
theorem tw_0 : (.initialized "TagWorkshopLaw" : Cond) ∈ tsAll := List.mem_filter.mpr ⟨List.mem_append_right _ (List.mem_of_getElem? (l := tables_1) (i := 0) (by decide +kernel)), by decide +kernel⟩
set_option maxRecDepth 20000 in
theorem tw_11 : (.classLink "TagWorkshopLaw" 7 "TagWorkshop" : Cond) ∈ tsAll := List.mem_filter.mpr ⟨List.mem_append_right _ (List.mem_of_getElem? (l := tables_1) (i := 11) (by decide +kernel)), by decide +kernel⟩
set_option maxRecDepth 20000 in
theorem tw_12 : (.instantiable "TagWorkshop" 4 : Cond) ∈ tsAll := List.mem_filter.mpr ⟨List.mem_append_right _ (List.mem_of_getElem? (l := tables_1) (i := 12) (by decide +kernel)), by decide +kernel⟩
set_option maxRecDepth 20000 in
theorem tw_13 : (.methodLink "TagWorkshopLaw" 9 yX_init : Cond) ∈ tsAll := List.mem_filter.mpr ⟨List.mem_append_right _ (List.mem_of_getElem? (l := tables_1) (i := 13) (by decide +kernel)), by decide +kernel⟩
set_option maxRecDepth 20000 in
theorem tw_14 : (.instanceMethod yX_init : Cond) ∈ tsAll := List.mem_filter.mpr ⟨List.mem_append_right _ (List.mem_of_getElem? (l := tables_1) (i := 14) (by decide +kernel)), by decide +kernel⟩
set_option maxRecDepth 20000 in
theorem tw_15 : (.code yX_init prog_1_method_1_code 1 (Option.none : Option Jvm.ClassFile.FieldType) : Cond) ∈ tsAll := List.mem_filter.mpr ⟨List.mem_append_right _ (List.mem_of_getElem? (l := tables_1) (i := 15) (by decide +kernel)), by decide +kernel⟩
set_option maxRecDepth 20000 in
theorem tw_16 : (.methodLink "TagWorkshop" 1 objectInit : Cond) ∈ tsAll := List.mem_filter.mpr ⟨List.mem_append_right _ (List.mem_of_getElem? (l := tables_1) (i := 16) (by decide +kernel)), by decide +kernel⟩
set_option maxRecDepth 20000 in
theorem tw_17 : (.instanceMethod objectInit : Cond) ∈ tsAll := List.mem_filter.mpr ⟨List.mem_append_right _ (List.mem_of_getElem? (l := tables_1) (i := 17) (by decide +kernel)), by decide +kernel⟩
set_option maxRecDepth 20000 in
theorem tw_18 : (.code objectInit object_method_1_code 1 (Option.none : Option Jvm.ClassFile.FieldType) : Cond) ∈ tsAll := List.mem_filter.mpr ⟨List.mem_append_right _ (List.mem_of_getElem? (l := tables_1) (i := 18) (by decide +kernel)), by decide +kernel⟩
set_option maxRecDepth 20000 in
theorem tw_19 : (.classLink "TagWorkshop" 7 "TagWorkshop$TapeMachine" : Cond) ∈ tsAll := List.mem_filter.mpr ⟨List.mem_append_right _ (List.mem_of_getElem? (l := tables_1) (i := 19) (by decide +kernel)), by decide +kernel⟩
set_option maxRecDepth 20000 in
theorem tw_20 : (.instantiable "TagWorkshop$TapeMachine" 7 : Cond) ∈ tsAll := List.mem_filter.mpr ⟨List.mem_append_right _ (List.mem_of_getElem? (l := tables_1) (i := 20) (by decide +kernel)), by decide +kernel⟩
set_option maxRecDepth 20000 in
theorem tw_21 : (.methodLink "TagWorkshop" 9 yM_init : Cond) ∈ tsAll := List.mem_filter.mpr ⟨List.mem_append_right _ (List.mem_of_getElem? (l := tables_1) (i := 21) (by decide +kernel)), by decide +kernel⟩
set_option maxRecDepth 20000 in
theorem tw_22 : (.instanceMethod yM_init : Cond) ∈ tsAll := List.mem_filter.mpr ⟨List.mem_append_right _ (List.mem_of_getElem? (l := tables_1) (i := 22) (by decide +kernel)), by decide +kernel⟩
set_option maxRecDepth 20000 in
theorem tw_23 : (.code yM_init prog_7_method_1_code 2 (Option.none : Option Jvm.ClassFile.FieldType) : Cond) ∈ tsAll := List.mem_filter.mpr ⟨List.mem_append_right _ (List.mem_of_getElem? (l := tables_1) (i := 23) (by decide +kernel)), by decide +kernel⟩
set_option maxRecDepth 20000 in
theorem tw_25 : (.instanceMethod yK_init : Cond) ∈ tsAll := List.mem_filter.mpr ⟨List.mem_append_right _ (List.mem_of_getElem? (l := tables_1) (i := 25) (by decide +kernel)), by decide +kernel⟩
set_option maxRecDepth 20000 in
theorem tw_26 : (.code yK_init prog_4_method_1_code 1 (Option.none : Option Jvm.ClassFile.FieldType) : Cond) ∈ tsAll := List.mem_filter.mpr ⟨List.mem_append_right _ (List.mem_of_getElem? (l := tables_1) (i := 26) (by decide +kernel)), by decide +kernel⟩
set_option maxRecDepth 20000 in
theorem tw_27 : (.methodLink "TagWorkshop$Machine" 3 objectInit : Cond) ∈ tsAll := List.mem_filter.mpr ⟨List.mem_append_right _ (List.mem_of_getElem? (l := tables_1) (i := 27) (by decide +kernel)), by decide +kernel⟩
set_option maxRecDepth 20000 in
theorem tw_58 : (.arrayClass .int : Cond) ∈ tsAll := List.mem_filter.mpr ⟨List.mem_append_right _ (List.mem_of_getElem? (l := tables_1) (i := 58) (by decide +kernel)), by decide +kernel⟩
set_option maxRecDepth 20000 in
theorem tw_59 : (.classLink "TagWorkshop" 16 "TagWorkshop$TagSystem" : Cond) ∈ tsAll := List.mem_filter.mpr ⟨List.mem_append_right _ (List.mem_of_getElem? (l := tables_1) (i := 59) (by decide +kernel)), by decide +kernel⟩
set_option maxRecDepth 20000 in
theorem tw_60 : (.instantiable "TagWorkshop$TagSystem" 8 : Cond) ∈ tsAll := List.mem_filter.mpr ⟨List.mem_append_right _ (List.mem_of_getElem? (l := tables_1) (i := 60) (by decide +kernel)), by decide +kernel⟩
set_option maxRecDepth 20000 in
theorem tw_62 : (.instanceMethod yT_init : Cond) ∈ tsAll := List.mem_filter.mpr ⟨List.mem_append_right _ (List.mem_of_getElem? (l := tables_1) (i := 62) (by decide +kernel)), by decide +kernel⟩
set_option maxRecDepth 20000 in
theorem tw_63 : (.code yT_init prog_6_method_1_code 1 (Option.none : Option Jvm.ClassFile.FieldType) : Cond) ∈ tsAll := List.mem_filter.mpr ⟨List.mem_append_right _ (List.mem_of_getElem? (l := tables_1) (i := 63) (by decide +kernel)), by decide +kernel⟩
set_option maxRecDepth 20000 in
theorem tw_97 : (.arrayClass .long : Cond) ∈ tsAll := List.mem_filter.mpr ⟨List.mem_append_right _ (List.mem_of_getElem? (l := tables_1) (i := 97) (by decide +kernel)), by decide +kernel⟩
set_option maxRecDepth 20000 in
theorem tw_98 : (.arrayClass .boolean : Cond) ∈ tsAll := List.mem_filter.mpr ⟨List.mem_append_right _ (List.mem_of_getElem? (l := tables_1) (i := 98) (by decide +kernel)), by decide +kernel⟩
set_option maxRecDepth 20000 in
theorem tw_99 : (.classLink "TagWorkshop" 23 "TagWorkshop$CyclicSystem" : Cond) ∈ tsAll := List.mem_filter.mpr ⟨List.mem_append_right _ (List.mem_of_getElem? (l := tables_1) (i := 99) (by decide +kernel)), by decide +kernel⟩
set_option maxRecDepth 20000 in
theorem tw_100 : (.instantiable "TagWorkshop$CyclicSystem" 2 : Cond) ∈ tsAll := List.mem_filter.mpr ⟨List.mem_append_right _ (List.mem_of_getElem? (l := tables_1) (i := 100) (by decide +kernel)), by decide +kernel⟩
set_option maxRecDepth 20000 in
theorem tw_102 : (.instanceMethod yY_init : Cond) ∈ tsAll := List.mem_filter.mpr ⟨List.mem_append_right _ (List.mem_of_getElem? (l := tables_1) (i := 102) (by decide +kernel)), by decide +kernel⟩
set_option maxRecDepth 20000 in
theorem tw_103 : (.code yY_init prog_3_method_1_code 1 (Option.none : Option Jvm.ClassFile.FieldType) : Cond) ∈ tsAll := List.mem_filter.mpr ⟨List.mem_append_right _ (List.mem_of_getElem? (l := tables_1) (i := 103) (by decide +kernel)), by decide +kernel⟩
set_option maxRecDepth 20000 in
theorem tw_105 : (.classLink "TagWorkshop$CyclicSystem" 9 "TagWorkshop$TagSystem" : Cond) ∈ tsAll := List.mem_filter.mpr ⟨List.mem_append_right _ (List.mem_of_getElem? (l := tables_1) (i := 105) (by decide +kernel)), by decide +kernel⟩
set_option maxRecDepth 20000 in
theorem tw_115 : (.classLink "TagWorkshop" 30 "TagWorkshop$Code" : Cond) ∈ tsAll := List.mem_filter.mpr ⟨List.mem_append_right _ (List.mem_of_getElem? (l := tables_1) (i := 115) (by decide +kernel)), by decide +kernel⟩
set_option maxRecDepth 20000 in
theorem tw_116 : (.instantiable "TagWorkshop$Code" 4 : Cond) ∈ tsAll := List.mem_filter.mpr ⟨List.mem_append_right _ (List.mem_of_getElem? (l := tables_1) (i := 116) (by decide +kernel)), by decide +kernel⟩
set_option maxRecDepth 20000 in
theorem tw_118 : (.instanceMethod yC_init : Cond) ∈ tsAll := List.mem_filter.mpr ⟨List.mem_append_right _ (List.mem_of_getElem? (l := tables_1) (i := 118) (by decide +kernel)), by decide +kernel⟩
set_option maxRecDepth 20000 in
theorem tw_119 : (.code yC_init prog_2_method_1_code 1 (Option.none : Option Jvm.ClassFile.FieldType) : Cond) ∈ tsAll := List.mem_filter.mpr ⟨List.mem_append_right _ (List.mem_of_getElem? (l := tables_1) (i := 119) (by decide +kernel)), by decide +kernel⟩
set_option maxRecDepth 20000 in
theorem tw_120 : (.methodLink "TagWorkshop$Code" 1 objectInit : Cond) ∈ tsAll := List.mem_filter.mpr ⟨List.mem_append_right _ (List.mem_of_getElem? (l := tables_1) (i := 120) (by decide +kernel)), by decide +kernel⟩
set_option maxRecDepth 20000 in
theorem tw_531 : (.classLink "TagWorkshopLaw" 10 "TagWorkshopModel" : Cond) ∈ tsAll := List.mem_filter.mpr ⟨List.mem_append_right _ (List.mem_of_getElem? (l := tables_1) (i := 531) (by decide +kernel)), by decide +kernel⟩
set_option maxRecDepth 20000 in
theorem tw_532 : (.instantiable "TagWorkshopModel" 29 : Cond) ∈ tsAll := List.mem_filter.mpr ⟨List.mem_append_right _ (List.mem_of_getElem? (l := tables_1) (i := 532) (by decide +kernel)), by decide +kernel⟩
set_option maxRecDepth 20000 in
theorem tw_533 : (.methodLink "TagWorkshopLaw" 12 yR_init : Cond) ∈ tsAll := List.mem_filter.mpr ⟨List.mem_append_right _ (List.mem_of_getElem? (l := tables_1) (i := 533) (by decide +kernel)), by decide +kernel⟩
set_option maxRecDepth 20000 in
theorem tw_534 : (.instanceMethod yR_init : Cond) ∈ tsAll := List.mem_filter.mpr ⟨List.mem_append_right _ (List.mem_of_getElem? (l := tables_1) (i := 534) (by decide +kernel)), by decide +kernel⟩
set_option maxRecDepth 20000 in
theorem tw_535 : (.code yR_init prog_9_method_1_code 1 (Option.none : Option Jvm.ClassFile.FieldType) : Cond) ∈ tsAll := List.mem_filter.mpr ⟨List.mem_append_right _ (List.mem_of_getElem? (l := tables_1) (i := 535) (by decide +kernel)), by decide +kernel⟩
set_option maxRecDepth 20000 in
theorem tw_536 : (.methodLink "TagWorkshopModel" 1 objectInit : Cond) ∈ tsAll := List.mem_filter.mpr ⟨List.mem_append_right _ (List.mem_of_getElem? (l := tables_1) (i := 536) (by decide +kernel)), by decide +kernel⟩
theorem mK_init {V : ee_V} (b : Nat) (e : va_E) (sz : Nat) : Met (we_l (ee V)) yK_init ts_K_init ⟨1, 0, 0, 20⟩ (va_Pc [.ref b] (wk_PreC (ee V) [(b, e)] sz)) (va_Qv (fun _ : Unit => True) (wk_BC (ee V) [(b, e)] sz (fun _ => [(b, e)])) (wk_fr [(b, e)] sz)) 0 0 (wk_fr [(b, e)] sz) := by
  refine wk_ofC2 (ee_ok V) (by decide +kernel) rfl (Nat.le_of_ble_eq_true rfl) ?_
  intro x X Z hk hn hsz hnm
  refine wk_lq (lv' := [(0, .ref b)]) rfl ?_
  refine wk_aload_n X 0 dK_init_0 rfl rfl ?_
  refine wk_objInit X (tl tw_27) (tl tw_17) (tl tw_18) dK_init_1 (Nat.le_of_ble_eq_true rfl) (Nat.le_of_ble_eq_true rfl) ?_
  exact wk_vretC X Z hk hn dK_init_4 () trivial rfl

def tsAll : List Cond := lw_tbl.filter goodWord
theorem tl {c w : Cond} (h : w ∈ tsAll) : w ∈ c :: tsAll := List.mem_cons_of_mem _ h
theorem gd {c d : Cond} (h : d ∈ tsAll) : GoodIn (c :: tsAll) (d :: tsAll) := by
  intro w hw
  have hm : w ∈ tsAll := (List.mem_cons.mp hw).elim (fun e => e ▸ h) id
  exact ⟨tl hm, good_of_word (List.mem_filter.mp hm).2⟩
def yX_init : MethodName := ⟨"TagWorkshop", "<init>", "()V"⟩
def yM_init : MethodName := ⟨"TagWorkshop$TapeMachine", "<init>", "()V"⟩
def yK_init : MethodName := ⟨"TagWorkshop$Machine", "<init>", "()V"⟩
def yT_init : MethodName := ⟨"TagWorkshop$TagSystem", "<init>", "()V"⟩
def yY_init : MethodName := ⟨"TagWorkshop$CyclicSystem", "<init>", "()V"⟩
def yC_init : MethodName := ⟨"TagWorkshop$Code", "<init>", "()V"⟩
def yX_rule : MethodName := ⟨"TagWorkshop", "rule", "(IIIII)Z"⟩
def yM_setRule : MethodName := ⟨"TagWorkshop$TapeMachine", "setRule", "(IIIII)Z"⟩
def yM_isState : MethodName := ⟨"TagWorkshop$TapeMachine", "isState", "(I)Z"⟩
def yM_isBit : MethodName := ⟨"TagWorkshop$TapeMachine", "isBit", "(I)Z"⟩
def yM_place : MethodName := ⟨"TagWorkshop$TapeMachine", "place", "(II)I"⟩
def yX_tape : MethodName := ⟨"TagWorkshop", "tape", "(IIII)Z"⟩
def yM_setConfiguration : MethodName := ⟨"TagWorkshop$TapeMachine", "setConfiguration", "(IIII)Z"⟩
def yM_isConfiguration : MethodName := ⟨"TagWorkshop$TapeMachine", "isConfiguration", "(IIII)Z"⟩
def yM_isCells : MethodName := ⟨"TagWorkshop$TapeMachine", "isCells", "(I)Z"⟩
def yX_compileTag : MethodName := ⟨"TagWorkshop", "compileTag", "()I"⟩
def yM_hasAllRules : MethodName := ⟨"TagWorkshop$TapeMachine", "hasAllRules", "()Z"⟩
def yM_hasBothRules : MethodName := ⟨"TagWorkshop$TapeMachine", "hasBothRules", "(I)Z"⟩
def yG_make : MethodName := ⟨"TagWorkshop$TagMaker", "make", "(LTagWorkshop$TagSystem;LTagWorkshop$TapeMachine;)V"⟩
def yM_greatestState : MethodName := ⟨"TagWorkshop$TapeMachine", "greatestState", "()I"⟩
def yG_base : MethodName := ⟨"TagWorkshop$TagMaker", "base", "(II)I"⟩
def yT_begin : MethodName := ⟨"TagWorkshop$TagSystem", "begin", "(II)V"⟩
def yT_clearWord : MethodName := ⟨"TagWorkshop$TagSystem", "clearWord", "()V"⟩
def yG_makeFor : MethodName := ⟨"TagWorkshop$TagMaker", "makeFor", "(LTagWorkshop$TagSystem;LTagWorkshop$TapeMachine;II)V"⟩
def yM_hasStep : MethodName := ⟨"TagWorkshop$TapeMachine", "hasStep", "(II)Z"⟩
def yT_setHalting : MethodName := ⟨"TagWorkshop$TagSystem", "setHalting", "(IZ)Z"⟩
def yT_hasLetter : MethodName := ⟨"TagWorkshop$TagSystem", "hasLetter", "(I)Z"⟩
def yM_nextOf : MethodName := ⟨"TagWorkshop$TapeMachine", "nextOf", "(II)I"⟩
def yM_moveOf : MethodName := ⟨"TagWorkshop$TapeMachine", "moveOf", "(II)I"⟩
def yG_addAll : MethodName := ⟨"TagWorkshop$TagMaker", "addAll", "(LTagWorkshop$TagSystem;[III)V"⟩
def yG_letterOf : MethodName := ⟨"TagWorkshop$TagMaker", "letterOf", "(III)I"⟩
def yT_addToProduction : MethodName := ⟨"TagWorkshop$TagSystem", "addToProduction", "(II)Z"⟩
def yT_pack : MethodName := ⟨"TagWorkshop$TagSystem", "pack", "(III)V"⟩
def yM_writeOf : MethodName := ⟨"TagWorkshop$TapeMachine", "writeOf", "(II)I"⟩
def yC_write : MethodName := ⟨"TagWorkshop$Code", "write", "(LTagWorkshop$TagSystem;LTagWorkshop$TapeMachine;)V"⟩
def yC_writePairs : MethodName := ⟨"TagWorkshop$Code", "writePairs", "(LTagWorkshop$TagSystem;II)V"⟩
def yT_append : MethodName := ⟨"TagWorkshop$TagSystem", "append", "(I)V"⟩
def yY_remove : MethodName := ⟨"TagWorkshop$CyclicSystem", "remove", "()V"⟩
def yX_ownTag : MethodName := ⟨"TagWorkshop", "ownTag", "(I)Z"⟩
def yX_extend : MethodName := ⟨"TagWorkshop", "extend", "(II)Z"⟩
def yX_spoil : MethodName := ⟨"TagWorkshop", "spoil", "(III)I"⟩
def yT_replaceInProduction : MethodName := ⟨"TagWorkshop$TagSystem", "replaceInProduction", "(III)I"⟩
def yT_productionLetter : MethodName := ⟨"TagWorkshop$TagSystem", "productionLetter", "(II)I"⟩
def yT_productionSize : MethodName := ⟨"TagWorkshop$TagSystem", "productionSize", "(I)I"⟩
def yT_unpack : MethodName := ⟨"TagWorkshop$TagSystem", "unpack", "(II)I"⟩
def yX_halts : MethodName := ⟨"TagWorkshop", "halts", "(IZ)Z"⟩
def yX_put : MethodName := ⟨"TagWorkshop", "put", "(I)Z"⟩
def yX_production : MethodName := ⟨"TagWorkshop", "production", "(II)I"⟩
def yX_compileCyclic : MethodName := ⟨"TagWorkshop", "compileCyclic", "()I"⟩
def yY_makeOf : MethodName := ⟨"TagWorkshop$CyclicSystem", "makeOf", "(LTagWorkshop$TagSystem;)V"⟩
def yT_copyFrom : MethodName := ⟨"TagWorkshop$TagSystem", "copyFrom", "(LTagWorkshop$TagSystem;)V"⟩
def yY_appendants : MethodName := ⟨"TagWorkshop$CyclicSystem", "appendants", "()I"⟩
def yX_appendant : MethodName := ⟨"TagWorkshop", "appendant", "(II)I"⟩
def yY_appendantBit : MethodName := ⟨"TagWorkshop$CyclicSystem", "appendantBit", "(II)I"⟩
def yY_bitOf : MethodName := ⟨"TagWorkshop$CyclicSystem", "bitOf", "(II)I"⟩
def yX_stepTape : MethodName := ⟨"TagWorkshop", "stepTape", "(I)I"⟩
def yM_makeSteps : MethodName := ⟨"TagWorkshop$TapeMachine", "makeSteps", "(I)I"⟩
def yK_makeSteps : MethodName := ⟨"TagWorkshop$Machine", "makeSteps", "(I)I"⟩
def yX_within : MethodName := ⟨"TagWorkshop", "within", "(II)I"⟩
def yK_canGoOn : MethodName := ⟨"TagWorkshop$Machine", "canGoOn", "()I"⟩
def yY_canGoOn : MethodName := ⟨"TagWorkshop$CyclicSystem", "canGoOn", "()I"⟩
def yT_canGoOn : MethodName := ⟨"TagWorkshop$TagSystem", "canGoOn", "()I"⟩
def yM_canGoOn : MethodName := ⟨"TagWorkshop$TapeMachine", "canGoOn", "()I"⟩
def yK_step : MethodName := ⟨"TagWorkshop$Machine", "step", "()V"⟩
def yY_step : MethodName := ⟨"TagWorkshop$CyclicSystem", "step", "()V"⟩
def yT_wordLetter : MethodName := ⟨"TagWorkshop$TagSystem", "wordLetter", "(I)I"⟩
def yT_appendProduction : MethodName := ⟨"TagWorkshop$TagSystem", "appendProduction", "(I)V"⟩
def yT_takeTwo : MethodName := ⟨"TagWorkshop$TagSystem", "takeTwo", "()V"⟩
def yT_step : MethodName := ⟨"TagWorkshop$TagSystem", "step", "()V"⟩
def yM_step : MethodName := ⟨"TagWorkshop$TapeMachine", "step", "()V"⟩
def yX_stepTag : MethodName := ⟨"TagWorkshop", "stepTag", "(I)I"⟩
def yT_makeSteps : MethodName := ⟨"TagWorkshop$TagSystem", "makeSteps", "(I)I"⟩
def yX_stepCyclic : MethodName := ⟨"TagWorkshop", "stepCyclic", "(I)I"⟩
def yY_makeSteps : MethodName := ⟨"TagWorkshop$CyclicSystem", "makeSteps", "(I)I"⟩
def yX_tapeNow : MethodName := ⟨"TagWorkshop", "tapeNow", "(I)I"⟩
def yX_tagNow : MethodName := ⟨"TagWorkshop", "tagNow", "(I)I"⟩
def yX_cyclicNow : MethodName := ⟨"TagWorkshop", "cyclicNow", "(I)I"⟩
def yY_bits : MethodName := ⟨"TagWorkshop$CyclicSystem", "bits", "()I"⟩
def yX_tagLetter : MethodName := ⟨"TagWorkshop", "tagLetter", "(I)I"⟩
def yX_cyclicBit : MethodName := ⟨"TagWorkshop", "cyclicBit", "(I)I"⟩
def yY_wordBit : MethodName := ⟨"TagWorkshop$CyclicSystem", "wordBit", "(I)I"⟩
def yX_decodeTag : MethodName := ⟨"TagWorkshop", "decodeTag", "(I)I"⟩
def yC_read : MethodName := ⟨"TagWorkshop$Code", "read", "(LTagWorkshop$TagSystem;)Z"⟩
def yG_isBase : MethodName := ⟨"TagWorkshop$TagMaker", "isBase", "(II)Z"⟩
def yC_isPair : MethodName := ⟨"TagWorkshop$Code", "isPair", "(LTagWorkshop$TagSystem;II)Z"⟩
def yC_pairsEnd : MethodName := ⟨"TagWorkshop$Code", "pairsEnd", "(LTagWorkshop$TagSystem;II)I"⟩
def yG_stateOf : MethodName := ⟨"TagWorkshop$TagMaker", "stateOf", "(I)I"⟩
def yG_symbolOf : MethodName := ⟨"TagWorkshop$TagMaker", "symbolOf", "(I)I"⟩
def yX_decodeCyclic : MethodName := ⟨"TagWorkshop", "decodeCyclic", "(I)I"⟩
def yY_borderLetter : MethodName := ⟨"TagWorkshop$CyclicSystem", "borderLetter", "(I)I"⟩
def yX_nextBorder : MethodName := ⟨"TagWorkshop", "nextBorder", "()I"⟩
def yX_roundCost : MethodName := ⟨"TagWorkshop", "roundCost", "(IIII)I"⟩
def yM_tagStepsOf : MethodName := ⟨"TagWorkshop$TapeMachine", "tagStepsOf", "(IIII)I"⟩
def yX_lockStep : MethodName := ⟨"TagWorkshop", "lockStep", "(I)I"⟩
def yX_tagFollowsTape : MethodName := ⟨"TagWorkshop", "tagFollowsTape", "()Z"⟩
def yC_isOf : MethodName := ⟨"TagWorkshop$Code", "isOf", "(LTagWorkshop$TapeMachine;)Z"⟩
def yR_init : MethodName := ⟨"TagWorkshopModel", "<init>", "()V"⟩
def yR_rule : MethodName := ⟨"TagWorkshopModel", "rule", "(IIIII)Z"⟩
def yR_isState : MethodName := ⟨"TagWorkshopModel", "isState", "(I)Z"⟩
def yR_isBit : MethodName := ⟨"TagWorkshopModel", "isBit", "(I)Z"⟩
def yR_tape : MethodName := ⟨"TagWorkshopModel", "tape", "(IIII)Z"⟩
def yR_isNumber : MethodName := ⟨"TagWorkshopModel", "isNumber", "(I)Z"⟩
def yR_stepTape : MethodName := ⟨"TagWorkshopModel", "stepTape", "(I)I"⟩
def yR_steps : MethodName := ⟨"TagWorkshopModel", "steps", "(I)I"⟩
def yR_tapeCan : MethodName := ⟨"TagWorkshopModel", "tapeCan", "()I"⟩
def yR_ruleOf : MethodName := ⟨"TagWorkshopModel", "ruleOf", "(II)I"⟩
def yR_goesOn : MethodName := ⟨"TagWorkshopModel", "goesOn", "(I)Z"⟩
def yR_tapeStep : MethodName := ⟨"TagWorkshopModel", "tapeStep", "()V"⟩
def yR_tapeNow : MethodName := ⟨"TagWorkshopModel", "tapeNow", "(I)I"⟩
def yR_compileTag : MethodName := ⟨"TagWorkshopModel", "compileTag", "()I"⟩
def yR_greatest : MethodName := ⟨"TagWorkshopModel", "greatest", "()I"⟩
def yR_bothTold : MethodName := ⟨"TagWorkshopModel", "bothTold", "(I)Z"⟩
def yR_emptySystem : MethodName := ⟨"TagWorkshopModel", "emptySystem", "(I)V"⟩
def yR_letterOf : MethodName := ⟨"TagWorkshopModel", "letterOf", "(III)I"⟩
def yR_toTheRight : MethodName := ⟨"TagWorkshopModel", "toTheRight", "(IZII)V"⟩
def yR_two : MethodName := ⟨"TagWorkshopModel", "two", "(III)V"⟩
def yR_add : MethodName := ⟨"TagWorkshopModel", "add", "(II)V"⟩
def yR_toTheLeft : MethodName := ⟨"TagWorkshopModel", "toTheLeft", "(IZII)V"⟩
def yR_putCode : MethodName := ⟨"TagWorkshopModel", "putCode", "()V"⟩
def yR_push : MethodName := ⟨"TagWorkshopModel", "push", "(I)V"⟩
def yR_ownTag : MethodName := ⟨"TagWorkshopModel", "ownTag", "(I)Z"⟩
def yR_extend : MethodName := ⟨"TagWorkshopModel", "extend", "(II)Z"⟩
def yR_isLetter : MethodName := ⟨"TagWorkshopModel", "isLetter", "(I)Z"⟩
def yR_spoil : MethodName := ⟨"TagWorkshopModel", "spoil", "(III)I"⟩
def yR_production : MethodName := ⟨"TagWorkshopModel", "production", "(II)I"⟩
def yR_halts : MethodName := ⟨"TagWorkshopModel", "halts", "(IZ)Z"⟩
def yR_put : MethodName := ⟨"TagWorkshopModel", "put", "(I)Z"⟩
def yR_stepTag : MethodName := ⟨"TagWorkshopModel", "stepTag", "(I)I"⟩
def yR_tagCan : MethodName := ⟨"TagWorkshopModel", "tagCan", "()I"⟩
def yR_tagStep : MethodName := ⟨"TagWorkshopModel", "tagStep", "()V"⟩
def yR_tagNow : MethodName := ⟨"TagWorkshopModel", "tagNow", "(I)I"⟩
def yR_tagLetter : MethodName := ⟨"TagWorkshopModel", "tagLetter", "(I)I"⟩
def yR_compileCyclic : MethodName := ⟨"TagWorkshopModel", "compileCyclic", "()I"⟩
def yR_pushBlock : MethodName := ⟨"TagWorkshopModel", "pushBlock", "(I)V"⟩
def yR_stepCyclic : MethodName := ⟨"TagWorkshopModel", "stepCyclic", "(I)I"⟩
def yR_cyclicCan : MethodName := ⟨"TagWorkshopModel", "cyclicCan", "()I"⟩
def yR_bits : MethodName := ⟨"TagWorkshopModel", "bits", "()I"⟩
def yR_cyclicStep : MethodName := ⟨"TagWorkshopModel", "cyclicStep", "()V"⟩
def yR_appendant : MethodName := ⟨"TagWorkshopModel", "appendant", "(II)I"⟩
def yR_cyclicNow : MethodName := ⟨"TagWorkshopModel", "cyclicNow", "(I)I"⟩
def yR_cyclicBit : MethodName := ⟨"TagWorkshopModel", "cyclicBit", "(I)I"⟩
def yR_decodeCyclic : MethodName := ⟨"TagWorkshopModel", "decodeCyclic", "(I)I"⟩
def yR_decodeTag : MethodName := ⟨"TagWorkshopModel", "decodeTag", "(I)I"⟩
def yR_isCode : MethodName := ⟨"TagWorkshopModel", "isCode", "()Z"⟩
def yR_pairs : MethodName := ⟨"TagWorkshopModel", "pairs", "(II)I"⟩
def yR_nextBorder : MethodName := ⟨"TagWorkshopModel", "nextBorder", "()I"⟩
def yR_roundCost : MethodName := ⟨"TagWorkshopModel", "roundCost", "(IIII)I"⟩
def yR_lockStep : MethodName := ⟨"TagWorkshopModel", "lockStep", "(I)I"⟩
def yR_agrees : MethodName := ⟨"TagWorkshopModel", "agrees", "()Z"⟩
abbrev cX_init : ByteArray := prog_1_method_1_code
abbrev ts_X_init : List Cond := .code yX_init cX_init 1 none :: tsAll
theorem pd_X_init : yX_init.cls ≠ "java/lang/invoke/MethodHandle" ∧ yX_init.cls ≠ "java/lang/invoke/VarHandle" ∧ (parseMethodDescriptor yX_init.desc).map (fun d => d.parameters.length) = some 0 := ⟨by decide +kernel, by decide +kernel, by decide +kernel⟩
abbrev cM_init : ByteArray := prog_7_method_1_code
abbrev ts_M_init : List Cond := .code yM_init cM_init 2 none :: tsAll
theorem pd_M_init : yM_init.cls ≠ "java/lang/invoke/MethodHandle" ∧ yM_init.cls ≠ "java/lang/invoke/VarHandle" ∧ (parseMethodDescriptor yM_init.desc).map (fun d => d.parameters.length) = some 0 := ⟨by decide +kernel, by decide +kernel, by decide +kernel⟩
abbrev cK_init : ByteArray := prog_4_method_1_code
abbrev ts_K_init : List Cond := .code yK_init cK_init 1 none :: tsAll
theorem pd_K_init : yK_init.cls ≠ "java/lang/invoke/MethodHandle" ∧ yK_init.cls ≠ "java/lang/invoke/VarHandle" ∧ (parseMethodDescriptor yK_init.desc).map (fun d => d.parameters.length) = some 0 := ⟨by decide +kernel, by decide +kernel, by decide +kernel⟩
abbrev cT_init : ByteArray := prog_6_method_1_code
abbrev ts_T_init : List Cond := .code yT_init cT_init 1 none :: tsAll
theorem pd_T_init : yT_init.cls ≠ "java/lang/invoke/MethodHandle" ∧ yT_init.cls ≠ "java/lang/invoke/VarHandle" ∧ (parseMethodDescriptor yT_init.desc).map (fun d => d.parameters.length) = some 0 := ⟨by decide +kernel, by decide +kernel, by decide +kernel⟩
abbrev cY_init : ByteArray := prog_3_method_1_code
abbrev ts_Y_init : List Cond := .code yY_init cY_init 1 none :: tsAll
theorem pd_Y_init : yY_init.cls ≠ "java/lang/invoke/MethodHandle" ∧ yY_init.cls ≠ "java/lang/invoke/VarHandle" ∧ (parseMethodDescriptor yY_init.desc).map (fun d => d.parameters.length) = some 0 := ⟨by decide +kernel, by decide +kernel, by decide +kernel⟩
abbrev cC_init : ByteArray := prog_2_method_1_code
abbrev ts_C_init : List Cond := .code yC_init cC_init 1 none :: tsAll
theorem pd_C_init : yC_init.cls ≠ "java/lang/invoke/MethodHandle" ∧ yC_init.cls ≠ "java/lang/invoke/VarHandle" ∧ (parseMethodDescriptor yC_init.desc).map (fun d => d.parameters.length) = some 0 := ⟨by decide +kernel, by decide +kernel, by decide +kernel⟩
abbrev cX_rule : ByteArray := prog_1_method_2_code
abbrev ts_X_rule : List Cond := .code yX_rule cX_rule 6 (some .boolean) :: tsAll
theorem pd_X_rule : yX_rule.cls ≠ "java/lang/invoke/MethodHandle" ∧ yX_rule.cls ≠ "java/lang/invoke/VarHandle" ∧ (parseMethodDescriptor yX_rule.desc).map (fun d => d.parameters.length) = some 5 := ⟨by decide +kernel, by decide +kernel, by decide +kernel⟩
abbrev cM_setRule : ByteArray := prog_7_method_7_code
abbrev ts_M_setRule : List Cond := .code yM_setRule cM_setRule 7 (some .boolean) :: tsAll
theorem pd_M_setRule : yM_setRule.cls ≠ "java/lang/invoke/MethodHandle" ∧ yM_setRule.cls ≠ "java/lang/invoke/VarHandle" ∧ (parseMethodDescriptor yM_setRule.desc).map (fun d => d.parameters.length) = some 5 := ⟨by decide +kernel, by decide +kernel, by decide +kernel⟩
abbrev cM_isState : ByteArray := prog_7_method_2_code
abbrev ts_M_isState : List Cond := .code yM_isState cM_isState 1 (some .boolean) :: tsAll
theorem pd_M_isState : yM_isState.cls ≠ "java/lang/invoke/MethodHandle" ∧ yM_isState.cls ≠ "java/lang/invoke/VarHandle" ∧ (parseMethodDescriptor yM_isState.desc).map (fun d => d.parameters.length) = some 1 := ⟨by decide +kernel, by decide +kernel, by decide +kernel⟩
abbrev cM_isBit : ByteArray := prog_7_method_3_code
abbrev ts_M_isBit : List Cond := .code yM_isBit cM_isBit 1 (some .boolean) :: tsAll
theorem pd_M_isBit : yM_isBit.cls ≠ "java/lang/invoke/MethodHandle" ∧ yM_isBit.cls ≠ "java/lang/invoke/VarHandle" ∧ (parseMethodDescriptor yM_isBit.desc).map (fun d => d.parameters.length) = some 1 := ⟨by decide +kernel, by decide +kernel, by decide +kernel⟩
abbrev cM_place : ByteArray := prog_7_method_6_code
abbrev ts_M_place : List Cond := .code yM_place cM_place 2 (some .int) :: tsAll
theorem pd_M_place : yM_place.cls ≠ "java/lang/invoke/MethodHandle" ∧ yM_place.cls ≠ "java/lang/invoke/VarHandle" ∧ (parseMethodDescriptor yM_place.desc).map (fun d => d.parameters.length) = some 2 := ⟨by decide +kernel, by decide +kernel, by decide +kernel⟩
abbrev cX_tape : ByteArray := prog_1_method_3_code
abbrev ts_X_tape : List Cond := .code yX_tape cX_tape 5 (some .boolean) :: tsAll
theorem pd_X_tape : yX_tape.cls ≠ "java/lang/invoke/MethodHandle" ∧ yX_tape.cls ≠ "java/lang/invoke/VarHandle" ∧ (parseMethodDescriptor yX_tape.desc).map (fun d => d.parameters.length) = some 4 := ⟨by decide +kernel, by decide +kernel, by decide +kernel⟩
abbrev cM_setConfiguration : ByteArray := prog_7_method_8_code
abbrev ts_M_setConfiguration : List Cond := .code yM_setConfiguration cM_setConfiguration 5 (some .boolean) :: tsAll
theorem pd_M_setConfiguration : yM_setConfiguration.cls ≠ "java/lang/invoke/MethodHandle" ∧ yM_setConfiguration.cls ≠ "java/lang/invoke/VarHandle" ∧ (parseMethodDescriptor yM_setConfiguration.desc).map (fun d => d.parameters.length) = some 4 := ⟨by decide +kernel, by decide +kernel, by decide +kernel⟩
abbrev cM_isConfiguration : ByteArray := prog_7_method_5_code
abbrev ts_M_isConfiguration : List Cond := .code yM_isConfiguration cM_isConfiguration 4 (some .boolean) :: tsAll
theorem pd_M_isConfiguration : yM_isConfiguration.cls ≠ "java/lang/invoke/MethodHandle" ∧ yM_isConfiguration.cls ≠ "java/lang/invoke/VarHandle" ∧ (parseMethodDescriptor yM_isConfiguration.desc).map (fun d => d.parameters.length) = some 4 := ⟨by decide +kernel, by decide +kernel, by decide +kernel⟩
abbrev cM_isCells : ByteArray := prog_7_method_4_code
abbrev ts_M_isCells : List Cond := .code yM_isCells cM_isCells 1 (some .boolean) :: tsAll
theorem pd_M_isCells : yM_isCells.cls ≠ "java/lang/invoke/MethodHandle" ∧ yM_isCells.cls ≠ "java/lang/invoke/VarHandle" ∧ (parseMethodDescriptor yM_isCells.desc).map (fun d => d.parameters.length) = some 1 := ⟨by decide +kernel, by decide +kernel, by decide +kernel⟩
abbrev cX_compileTag : ByteArray := prog_1_method_4_code
abbrev ts_X_compileTag : List Cond := .code yX_compileTag cX_compileTag 1 (some .int) :: tsAll
theorem pd_X_compileTag : yX_compileTag.cls ≠ "java/lang/invoke/MethodHandle" ∧ yX_compileTag.cls ≠ "java/lang/invoke/VarHandle" ∧ (parseMethodDescriptor yX_compileTag.desc).map (fun d => d.parameters.length) = some 0 := ⟨by decide +kernel, by decide +kernel, by decide +kernel⟩
abbrev cM_hasAllRules : ByteArray := prog_7_method_16_code
abbrev ts_M_hasAllRules : List Cond := .code yM_hasAllRules cM_hasAllRules 2 (some .boolean) :: tsAll
theorem pd_M_hasAllRules : yM_hasAllRules.cls ≠ "java/lang/invoke/MethodHandle" ∧ yM_hasAllRules.cls ≠ "java/lang/invoke/VarHandle" ∧ (parseMethodDescriptor yM_hasAllRules.desc).map (fun d => d.parameters.length) = some 0 := ⟨by decide +kernel, by decide +kernel, by decide +kernel⟩
abbrev cM_hasBothRules : ByteArray := prog_7_method_17_code
abbrev ts_M_hasBothRules : List Cond := .code yM_hasBothRules cM_hasBothRules 2 (some .boolean) :: tsAll
theorem pd_M_hasBothRules : yM_hasBothRules.cls ≠ "java/lang/invoke/MethodHandle" ∧ yM_hasBothRules.cls ≠ "java/lang/invoke/VarHandle" ∧ (parseMethodDescriptor yM_hasBothRules.desc).map (fun d => d.parameters.length) = some 1 := ⟨by decide +kernel, by decide +kernel, by decide +kernel⟩
abbrev cG_make : ByteArray := prog_5_method_6_code
abbrev ts_G_make : List Cond := .code yG_make cG_make 4 none :: tsAll
theorem pd_G_make : yG_make.cls ≠ "java/lang/invoke/MethodHandle" ∧ yG_make.cls ≠ "java/lang/invoke/VarHandle" ∧ (parseMethodDescriptor yG_make.desc).map (fun d => d.parameters.length) = some 2 := ⟨by decide +kernel, by decide +kernel, by decide +kernel⟩
abbrev cM_greatestState : ByteArray := prog_7_method_18_code
abbrev ts_M_greatestState : List Cond := .code yM_greatestState cM_greatestState 3 (some .int) :: tsAll
theorem pd_M_greatestState : yM_greatestState.cls ≠ "java/lang/invoke/MethodHandle" ∧ yM_greatestState.cls ≠ "java/lang/invoke/VarHandle" ∧ (parseMethodDescriptor yM_greatestState.desc).map (fun d => d.parameters.length) = some 0 := ⟨by decide +kernel, by decide +kernel, by decide +kernel⟩
abbrev cG_base : ByteArray := prog_5_method_2_code
abbrev ts_G_base : List Cond := .code yG_base cG_base 2 (some .int) :: tsAll
theorem pd_G_base : yG_base.cls ≠ "java/lang/invoke/MethodHandle" ∧ yG_base.cls ≠ "java/lang/invoke/VarHandle" ∧ (parseMethodDescriptor yG_base.desc).map (fun d => d.parameters.length) = some 2 := ⟨by decide +kernel, by decide +kernel, by decide +kernel⟩
abbrev cT_begin : ByteArray := prog_6_method_2_code
abbrev ts_T_begin : List Cond := .code yT_begin cT_begin 4 none :: tsAll
theorem pd_T_begin : yT_begin.cls ≠ "java/lang/invoke/MethodHandle" ∧ yT_begin.cls ≠ "java/lang/invoke/VarHandle" ∧ (parseMethodDescriptor yT_begin.desc).map (fun d => d.parameters.length) = some 2 := ⟨by decide +kernel, by decide +kernel, by decide +kernel⟩
abbrev cT_clearWord : ByteArray := prog_6_method_12_code
abbrev ts_T_clearWord : List Cond := .code yT_clearWord cT_clearWord 1 none :: tsAll
theorem pd_T_clearWord : yT_clearWord.cls ≠ "java/lang/invoke/MethodHandle" ∧ yT_clearWord.cls ≠ "java/lang/invoke/VarHandle" ∧ (parseMethodDescriptor yT_clearWord.desc).map (fun d => d.parameters.length) = some 0 := ⟨by decide +kernel, by decide +kernel, by decide +kernel⟩
abbrev cG_makeFor : ByteArray := prog_5_method_7_code
abbrev ts_G_makeFor : List Cond := .code yG_makeFor cG_makeFor 7 none :: tsAll
theorem pd_G_makeFor : yG_makeFor.cls ≠ "java/lang/invoke/MethodHandle" ∧ yG_makeFor.cls ≠ "java/lang/invoke/VarHandle" ∧ (parseMethodDescriptor yG_makeFor.desc).map (fun d => d.parameters.length) = some 4 := ⟨by decide +kernel, by decide +kernel, by decide +kernel⟩
abbrev cM_hasStep : ByteArray := prog_7_method_9_code
abbrev ts_M_hasStep : List Cond := .code yM_hasStep cM_hasStep 3 (some .boolean) :: tsAll
theorem pd_M_hasStep : yM_hasStep.cls ≠ "java/lang/invoke/MethodHandle" ∧ yM_hasStep.cls ≠ "java/lang/invoke/VarHandle" ∧ (parseMethodDescriptor yM_hasStep.desc).map (fun d => d.parameters.length) = some 2 := ⟨by decide +kernel, by decide +kernel, by decide +kernel⟩
abbrev cT_setHalting : ByteArray := prog_6_method_11_code
abbrev ts_T_setHalting : List Cond := .code yT_setHalting cT_setHalting 3 (some .boolean) :: tsAll
theorem pd_T_setHalting : yT_setHalting.cls ≠ "java/lang/invoke/MethodHandle" ∧ yT_setHalting.cls ≠ "java/lang/invoke/VarHandle" ∧ (parseMethodDescriptor yT_setHalting.desc).map (fun d => d.parameters.length) = some 2 := ⟨by decide +kernel, by decide +kernel, by decide +kernel⟩
abbrev cT_hasLetter : ByteArray := prog_6_method_4_code
abbrev ts_T_hasLetter : List Cond := .code yT_hasLetter cT_hasLetter 2 (some .boolean) :: tsAll
theorem pd_T_hasLetter : yT_hasLetter.cls ≠ "java/lang/invoke/MethodHandle" ∧ yT_hasLetter.cls ≠ "java/lang/invoke/VarHandle" ∧ (parseMethodDescriptor yT_hasLetter.desc).map (fun d => d.parameters.length) = some 1 := ⟨by decide +kernel, by decide +kernel, by decide +kernel⟩
abbrev cM_nextOf : ByteArray := prog_7_method_12_code
abbrev ts_M_nextOf : List Cond := .code yM_nextOf cM_nextOf 3 (some .int) :: tsAll
theorem pd_M_nextOf : yM_nextOf.cls ≠ "java/lang/invoke/MethodHandle" ∧ yM_nextOf.cls ≠ "java/lang/invoke/VarHandle" ∧ (parseMethodDescriptor yM_nextOf.desc).map (fun d => d.parameters.length) = some 2 := ⟨by decide +kernel, by decide +kernel, by decide +kernel⟩
abbrev cM_moveOf : ByteArray := prog_7_method_11_code
abbrev ts_M_moveOf : List Cond := .code yM_moveOf cM_moveOf 3 (some .int) :: tsAll
theorem pd_M_moveOf : yM_moveOf.cls ≠ "java/lang/invoke/MethodHandle" ∧ yM_moveOf.cls ≠ "java/lang/invoke/VarHandle" ∧ (parseMethodDescriptor yM_moveOf.desc).map (fun d => d.parameters.length) = some 2 := ⟨by decide +kernel, by decide +kernel, by decide +kernel⟩
abbrev cG_addAll : ByteArray := prog_5_method_8_code
abbrev ts_G_addAll : List Cond := .code yG_addAll cG_addAll 5 none :: tsAll
theorem pd_G_addAll : yG_addAll.cls ≠ "java/lang/invoke/MethodHandle" ∧ yG_addAll.cls ≠ "java/lang/invoke/VarHandle" ∧ (parseMethodDescriptor yG_addAll.desc).map (fun d => d.parameters.length) = some 4 := ⟨by decide +kernel, by decide +kernel, by decide +kernel⟩
abbrev cG_letterOf : ByteArray := prog_5_method_9_code
abbrev ts_G_letterOf : List Cond := .code yG_letterOf cG_letterOf 3 (some .int) :: tsAll
theorem pd_G_letterOf : yG_letterOf.cls ≠ "java/lang/invoke/MethodHandle" ∧ yG_letterOf.cls ≠ "java/lang/invoke/VarHandle" ∧ (parseMethodDescriptor yG_letterOf.desc).map (fun d => d.parameters.length) = some 3 := ⟨by decide +kernel, by decide +kernel, by decide +kernel⟩
abbrev cT_addToProduction : ByteArray := prog_6_method_9_code
abbrev ts_T_addToProduction : List Cond := .code yT_addToProduction cT_addToProduction 3 (some .boolean) :: tsAll
theorem pd_T_addToProduction : yT_addToProduction.cls ≠ "java/lang/invoke/MethodHandle" ∧ yT_addToProduction.cls ≠ "java/lang/invoke/VarHandle" ∧ (parseMethodDescriptor yT_addToProduction.desc).map (fun d => d.parameters.length) = some 2 := ⟨by decide +kernel, by decide +kernel, by decide +kernel⟩
abbrev cT_pack : ByteArray := prog_6_method_6_code
abbrev ts_T_pack : List Cond := .code yT_pack cT_pack 6 none :: tsAll
theorem pd_T_pack : yT_pack.cls ≠ "java/lang/invoke/MethodHandle" ∧ yT_pack.cls ≠ "java/lang/invoke/VarHandle" ∧ (parseMethodDescriptor yT_pack.desc).map (fun d => d.parameters.length) = some 3 := ⟨by decide +kernel, by decide +kernel, by decide +kernel⟩
abbrev cM_writeOf : ByteArray := prog_7_method_10_code
abbrev ts_M_writeOf : List Cond := .code yM_writeOf cM_writeOf 3 (some .int) :: tsAll
theorem pd_M_writeOf : yM_writeOf.cls ≠ "java/lang/invoke/MethodHandle" ∧ yM_writeOf.cls ≠ "java/lang/invoke/VarHandle" ∧ (parseMethodDescriptor yM_writeOf.desc).map (fun d => d.parameters.length) = some 2 := ⟨by decide +kernel, by decide +kernel, by decide +kernel⟩
abbrev cC_write : ByteArray := prog_2_method_2_code
abbrev ts_C_write : List Cond := .code yC_write cC_write 3 none :: tsAll
theorem pd_C_write : yC_write.cls ≠ "java/lang/invoke/MethodHandle" ∧ yC_write.cls ≠ "java/lang/invoke/VarHandle" ∧ (parseMethodDescriptor yC_write.desc).map (fun d => d.parameters.length) = some 2 := ⟨by decide +kernel, by decide +kernel, by decide +kernel⟩
abbrev cC_writePairs : ByteArray := prog_2_method_3_code
abbrev ts_C_writePairs : List Cond := .code yC_writePairs cC_writePairs 4 none :: tsAll
theorem pd_C_writePairs : yC_writePairs.cls ≠ "java/lang/invoke/MethodHandle" ∧ yC_writePairs.cls ≠ "java/lang/invoke/VarHandle" ∧ (parseMethodDescriptor yC_writePairs.desc).map (fun d => d.parameters.length) = some 3 := ⟨by decide +kernel, by decide +kernel, by decide +kernel⟩
abbrev cT_append : ByteArray := prog_6_method_13_code
abbrev ts_T_append : List Cond := .code yT_append cT_append 2 none :: tsAll
theorem pd_T_append : yT_append.cls ≠ "java/lang/invoke/MethodHandle" ∧ yT_append.cls ≠ "java/lang/invoke/VarHandle" ∧ (parseMethodDescriptor yT_append.desc).map (fun d => d.parameters.length) = some 1 := ⟨by decide +kernel, by decide +kernel, by decide +kernel⟩
abbrev cY_remove : ByteArray := prog_3_method_3_code
abbrev ts_Y_remove : List Cond := .code yY_remove cY_remove 1 none :: tsAll
theorem pd_Y_remove : yY_remove.cls ≠ "java/lang/invoke/MethodHandle" ∧ yY_remove.cls ≠ "java/lang/invoke/VarHandle" ∧ (parseMethodDescriptor yY_remove.desc).map (fun d => d.parameters.length) = some 0 := ⟨by decide +kernel, by decide +kernel, by decide +kernel⟩
abbrev cX_ownTag : ByteArray := prog_1_method_5_code
abbrev ts_X_ownTag : List Cond := .code yX_ownTag cX_ownTag 2 (some .boolean) :: tsAll
theorem pd_X_ownTag : yX_ownTag.cls ≠ "java/lang/invoke/MethodHandle" ∧ yX_ownTag.cls ≠ "java/lang/invoke/VarHandle" ∧ (parseMethodDescriptor yX_ownTag.desc).map (fun d => d.parameters.length) = some 1 := ⟨by decide +kernel, by decide +kernel, by decide +kernel⟩
abbrev cX_extend : ByteArray := prog_1_method_6_code
abbrev ts_X_extend : List Cond := .code yX_extend cX_extend 3 (some .boolean) :: tsAll
theorem pd_X_extend : yX_extend.cls ≠ "java/lang/invoke/MethodHandle" ∧ yX_extend.cls ≠ "java/lang/invoke/VarHandle" ∧ (parseMethodDescriptor yX_extend.desc).map (fun d => d.parameters.length) = some 2 := ⟨by decide +kernel, by decide +kernel, by decide +kernel⟩
abbrev cX_spoil : ByteArray := prog_1_method_7_code
abbrev ts_X_spoil : List Cond := .code yX_spoil cX_spoil 4 (some .int) :: tsAll
theorem pd_X_spoil : yX_spoil.cls ≠ "java/lang/invoke/MethodHandle" ∧ yX_spoil.cls ≠ "java/lang/invoke/VarHandle" ∧ (parseMethodDescriptor yX_spoil.desc).map (fun d => d.parameters.length) = some 3 := ⟨by decide +kernel, by decide +kernel, by decide +kernel⟩
abbrev cT_replaceInProduction : ByteArray := prog_6_method_10_code
abbrev ts_T_replaceInProduction : List Cond := .code yT_replaceInProduction cT_replaceInProduction 5 (some .int) :: tsAll
theorem pd_T_replaceInProduction : yT_replaceInProduction.cls ≠ "java/lang/invoke/MethodHandle" ∧ yT_replaceInProduction.cls ≠ "java/lang/invoke/VarHandle" ∧ (parseMethodDescriptor yT_replaceInProduction.desc).map (fun d => d.parameters.length) = some 3 := ⟨by decide +kernel, by decide +kernel, by decide +kernel⟩
abbrev cT_productionLetter : ByteArray := prog_6_method_8_code
abbrev ts_T_productionLetter : List Cond := .code yT_productionLetter cT_productionLetter 3 (some .int) :: tsAll
theorem pd_T_productionLetter : yT_productionLetter.cls ≠ "java/lang/invoke/MethodHandle" ∧ yT_productionLetter.cls ≠ "java/lang/invoke/VarHandle" ∧ (parseMethodDescriptor yT_productionLetter.desc).map (fun d => d.parameters.length) = some 2 := ⟨by decide +kernel, by decide +kernel, by decide +kernel⟩
abbrev cT_productionSize : ByteArray := prog_6_method_7_code
abbrev ts_T_productionSize : List Cond := .code yT_productionSize cT_productionSize 2 (some .int) :: tsAll
theorem pd_T_productionSize : yT_productionSize.cls ≠ "java/lang/invoke/MethodHandle" ∧ yT_productionSize.cls ≠ "java/lang/invoke/VarHandle" ∧ (parseMethodDescriptor yT_productionSize.desc).map (fun d => d.parameters.length) = some 1 := ⟨by decide +kernel, by decide +kernel, by decide +kernel⟩
abbrev cT_unpack : ByteArray := prog_6_method_5_code
abbrev ts_T_unpack : List Cond := .code yT_unpack cT_unpack 5 (some .int) :: tsAll
theorem pd_T_unpack : yT_unpack.cls ≠ "java/lang/invoke/MethodHandle" ∧ yT_unpack.cls ≠ "java/lang/invoke/VarHandle" ∧ (parseMethodDescriptor yT_unpack.desc).map (fun d => d.parameters.length) = some 2 := ⟨by decide +kernel, by decide +kernel, by decide +kernel⟩
abbrev cX_halts : ByteArray := prog_1_method_8_code
abbrev ts_X_halts : List Cond := .code yX_halts cX_halts 3 (some .boolean) :: tsAll
theorem pd_X_halts : yX_halts.cls ≠ "java/lang/invoke/MethodHandle" ∧ yX_halts.cls ≠ "java/lang/invoke/VarHandle" ∧ (parseMethodDescriptor yX_halts.desc).map (fun d => d.parameters.length) = some 2 := ⟨by decide +kernel, by decide +kernel, by decide +kernel⟩
abbrev cX_put : ByteArray := prog_1_method_9_code
abbrev ts_X_put : List Cond := .code yX_put cX_put 2 (some .boolean) :: tsAll
theorem pd_X_put : yX_put.cls ≠ "java/lang/invoke/MethodHandle" ∧ yX_put.cls ≠ "java/lang/invoke/VarHandle" ∧ (parseMethodDescriptor yX_put.desc).map (fun d => d.parameters.length) = some 1 := ⟨by decide +kernel, by decide +kernel, by decide +kernel⟩
abbrev cX_production : ByteArray := prog_1_method_10_code
abbrev ts_X_production : List Cond := .code yX_production cX_production 3 (some .int) :: tsAll
theorem pd_X_production : yX_production.cls ≠ "java/lang/invoke/MethodHandle" ∧ yX_production.cls ≠ "java/lang/invoke/VarHandle" ∧ (parseMethodDescriptor yX_production.desc).map (fun d => d.parameters.length) = some 2 := ⟨by decide +kernel, by decide +kernel, by decide +kernel⟩
abbrev cX_compileCyclic : ByteArray := prog_1_method_11_code
abbrev ts_X_compileCyclic : List Cond := .code yX_compileCyclic cX_compileCyclic 1 (some .int) :: tsAll
theorem pd_X_compileCyclic : yX_compileCyclic.cls ≠ "java/lang/invoke/MethodHandle" ∧ yX_compileCyclic.cls ≠ "java/lang/invoke/VarHandle" ∧ (parseMethodDescriptor yX_compileCyclic.desc).map (fun d => d.parameters.length) = some 0 := ⟨by decide +kernel, by decide +kernel, by decide +kernel⟩
abbrev cY_makeOf : ByteArray := prog_3_method_2_code
abbrev ts_Y_makeOf : List Cond := .code yY_makeOf cY_makeOf 2 none :: tsAll
theorem pd_Y_makeOf : yY_makeOf.cls ≠ "java/lang/invoke/MethodHandle" ∧ yY_makeOf.cls ≠ "java/lang/invoke/VarHandle" ∧ (parseMethodDescriptor yY_makeOf.desc).map (fun d => d.parameters.length) = some 1 := ⟨by decide +kernel, by decide +kernel, by decide +kernel⟩
abbrev cT_copyFrom : ByteArray := prog_6_method_3_code
abbrev ts_T_copyFrom : List Cond := .code yT_copyFrom cT_copyFrom 3 none :: tsAll
theorem pd_T_copyFrom : yT_copyFrom.cls ≠ "java/lang/invoke/MethodHandle" ∧ yT_copyFrom.cls ≠ "java/lang/invoke/VarHandle" ∧ (parseMethodDescriptor yT_copyFrom.desc).map (fun d => d.parameters.length) = some 1 := ⟨by decide +kernel, by decide +kernel, by decide +kernel⟩
abbrev cY_appendants : ByteArray := prog_3_method_4_code
abbrev ts_Y_appendants : List Cond := .code yY_appendants cY_appendants 1 (some .int) :: tsAll
theorem pd_Y_appendants : yY_appendants.cls ≠ "java/lang/invoke/MethodHandle" ∧ yY_appendants.cls ≠ "java/lang/invoke/VarHandle" ∧ (parseMethodDescriptor yY_appendants.desc).map (fun d => d.parameters.length) = some 0 := ⟨by decide +kernel, by decide +kernel, by decide +kernel⟩
abbrev cX_appendant : ByteArray := prog_1_method_12_code
abbrev ts_X_appendant : List Cond := .code yX_appendant cX_appendant 3 (some .int) :: tsAll
theorem pd_X_appendant : yX_appendant.cls ≠ "java/lang/invoke/MethodHandle" ∧ yX_appendant.cls ≠ "java/lang/invoke/VarHandle" ∧ (parseMethodDescriptor yX_appendant.desc).map (fun d => d.parameters.length) = some 2 := ⟨by decide +kernel, by decide +kernel, by decide +kernel⟩
abbrev cY_appendantBit : ByteArray := prog_3_method_7_code
abbrev ts_Y_appendantBit : List Cond := .code yY_appendantBit cY_appendantBit 4 (some .int) :: tsAll
theorem pd_Y_appendantBit : yY_appendantBit.cls ≠ "java/lang/invoke/MethodHandle" ∧ yY_appendantBit.cls ≠ "java/lang/invoke/VarHandle" ∧ (parseMethodDescriptor yY_appendantBit.desc).map (fun d => d.parameters.length) = some 2 := ⟨by decide +kernel, by decide +kernel, by decide +kernel⟩
abbrev cY_bitOf : ByteArray := prog_3_method_6_code
abbrev ts_Y_bitOf : List Cond := .code yY_bitOf cY_bitOf 2 (some .int) :: tsAll
theorem pd_Y_bitOf : yY_bitOf.cls ≠ "java/lang/invoke/MethodHandle" ∧ yY_bitOf.cls ≠ "java/lang/invoke/VarHandle" ∧ (parseMethodDescriptor yY_bitOf.desc).map (fun d => d.parameters.length) = some 2 := ⟨by decide +kernel, by decide +kernel, by decide +kernel⟩
abbrev cX_stepTape : ByteArray := prog_1_method_13_code
abbrev ts_X_stepTape : List Cond := .code yX_stepTape cX_stepTape 2 (some .int) :: tsAll
theorem pd_X_stepTape : yX_stepTape.cls ≠ "java/lang/invoke/MethodHandle" ∧ yX_stepTape.cls ≠ "java/lang/invoke/VarHandle" ∧ (parseMethodDescriptor yX_stepTape.desc).map (fun d => d.parameters.length) = some 1 := ⟨by decide +kernel, by decide +kernel, by decide +kernel⟩
abbrev cK_makeSteps : ByteArray := prog_4_method_4_code
abbrev ts_K_makeSteps : List Cond := .code yK_makeSteps cK_makeSteps 4 (some .int) :: tsAll
theorem pd_K_makeSteps : yK_makeSteps.cls ≠ "java/lang/invoke/MethodHandle" ∧ yK_makeSteps.cls ≠ "java/lang/invoke/VarHandle" ∧ (parseMethodDescriptor yK_makeSteps.desc).map (fun d => d.parameters.length) = some 1 := ⟨by decide +kernel, by decide +kernel, by decide +kernel⟩
abbrev cX_within : ByteArray := prog_1_method_26_code
abbrev ts_X_within : List Cond := .code yX_within cX_within 2 (some .int) :: tsAll
theorem pd_X_within : yX_within.cls ≠ "java/lang/invoke/MethodHandle" ∧ yX_within.cls ≠ "java/lang/invoke/VarHandle" ∧ (parseMethodDescriptor yX_within.desc).map (fun d => d.parameters.length) = some 2 := ⟨by decide +kernel, by decide +kernel, by decide +kernel⟩
abbrev cY_canGoOn : ByteArray := prog_3_method_10_code
abbrev ts_Y_canGoOn : List Cond := .code yY_canGoOn cY_canGoOn 1 (some .int) :: tsAll
theorem pd_Y_canGoOn : yY_canGoOn.cls ≠ "java/lang/invoke/MethodHandle" ∧ yY_canGoOn.cls ≠ "java/lang/invoke/VarHandle" ∧ (parseMethodDescriptor yY_canGoOn.desc).map (fun d => d.parameters.length) = some 0 := ⟨by decide +kernel, by decide +kernel, by decide +kernel⟩
abbrev cT_canGoOn : ByteArray := prog_6_method_17_code
abbrev ts_T_canGoOn : List Cond := .code yT_canGoOn cT_canGoOn 1 (some .int) :: tsAll
theorem pd_T_canGoOn : yT_canGoOn.cls ≠ "java/lang/invoke/MethodHandle" ∧ yT_canGoOn.cls ≠ "java/lang/invoke/VarHandle" ∧ (parseMethodDescriptor yT_canGoOn.desc).map (fun d => d.parameters.length) = some 0 := ⟨by decide +kernel, by decide +kernel, by decide +kernel⟩
abbrev cM_canGoOn : ByteArray := prog_7_method_13_code
abbrev ts_M_canGoOn : List Cond := .code yM_canGoOn cM_canGoOn 2 (some .int) :: tsAll
theorem pd_M_canGoOn : yM_canGoOn.cls ≠ "java/lang/invoke/MethodHandle" ∧ yM_canGoOn.cls ≠ "java/lang/invoke/VarHandle" ∧ (parseMethodDescriptor yM_canGoOn.desc).map (fun d => d.parameters.length) = some 0 := ⟨by decide +kernel, by decide +kernel, by decide +kernel⟩
abbrev cY_step : ByteArray := prog_3_method_11_code
abbrev ts_Y_step : List Cond := .code yY_step cY_step 2 none :: tsAll
theorem pd_Y_step : yY_step.cls ≠ "java/lang/invoke/MethodHandle" ∧ yY_step.cls ≠ "java/lang/invoke/VarHandle" ∧ (parseMethodDescriptor yY_step.desc).map (fun d => d.parameters.length) = some 0 := ⟨by decide +kernel, by decide +kernel, by decide +kernel⟩
abbrev cT_wordLetter : ByteArray := prog_6_method_16_code
abbrev ts_T_wordLetter : List Cond := .code yT_wordLetter cT_wordLetter 2 (some .int) :: tsAll
theorem pd_T_wordLetter : yT_wordLetter.cls ≠ "java/lang/invoke/MethodHandle" ∧ yT_wordLetter.cls ≠ "java/lang/invoke/VarHandle" ∧ (parseMethodDescriptor yT_wordLetter.desc).map (fun d => d.parameters.length) = some 1 := ⟨by decide +kernel, by decide +kernel, by decide +kernel⟩
abbrev cT_appendProduction : ByteArray := prog_6_method_14_code
abbrev ts_T_appendProduction : List Cond := .code yT_appendProduction cT_appendProduction 4 none :: tsAll
theorem pd_T_appendProduction : yT_appendProduction.cls ≠ "java/lang/invoke/MethodHandle" ∧ yT_appendProduction.cls ≠ "java/lang/invoke/VarHandle" ∧ (parseMethodDescriptor yT_appendProduction.desc).map (fun d => d.parameters.length) = some 1 := ⟨by decide +kernel, by decide +kernel, by decide +kernel⟩
abbrev cT_takeTwo : ByteArray := prog_6_method_15_code
abbrev ts_T_takeTwo : List Cond := .code yT_takeTwo cT_takeTwo 1 none :: tsAll
theorem pd_T_takeTwo : yT_takeTwo.cls ≠ "java/lang/invoke/MethodHandle" ∧ yT_takeTwo.cls ≠ "java/lang/invoke/VarHandle" ∧ (parseMethodDescriptor yT_takeTwo.desc).map (fun d => d.parameters.length) = some 0 := ⟨by decide +kernel, by decide +kernel, by decide +kernel⟩
abbrev cT_step : ByteArray := prog_6_method_18_code
abbrev ts_T_step : List Cond := .code yT_step cT_step 2 none :: tsAll
theorem pd_T_step : yT_step.cls ≠ "java/lang/invoke/MethodHandle" ∧ yT_step.cls ≠ "java/lang/invoke/VarHandle" ∧ (parseMethodDescriptor yT_step.desc).map (fun d => d.parameters.length) = some 0 := ⟨by decide +kernel, by decide +kernel, by decide +kernel⟩
abbrev cM_step : ByteArray := prog_7_method_14_code
abbrev ts_M_step : List Cond := .code yM_step cM_step 2 none :: tsAll
theorem pd_M_step : yM_step.cls ≠ "java/lang/invoke/MethodHandle" ∧ yM_step.cls ≠ "java/lang/invoke/VarHandle" ∧ (parseMethodDescriptor yM_step.desc).map (fun d => d.parameters.length) = some 0 := ⟨by decide +kernel, by decide +kernel, by decide +kernel⟩
abbrev cX_stepTag : ByteArray := prog_1_method_14_code
abbrev ts_X_stepTag : List Cond := .code yX_stepTag cX_stepTag 2 (some .int) :: tsAll
theorem pd_X_stepTag : yX_stepTag.cls ≠ "java/lang/invoke/MethodHandle" ∧ yX_stepTag.cls ≠ "java/lang/invoke/VarHandle" ∧ (parseMethodDescriptor yX_stepTag.desc).map (fun d => d.parameters.length) = some 1 := ⟨by decide +kernel, by decide +kernel, by decide +kernel⟩
abbrev cX_stepCyclic : ByteArray := prog_1_method_15_code
abbrev ts_X_stepCyclic : List Cond := .code yX_stepCyclic cX_stepCyclic 2 (some .int) :: tsAll
theorem pd_X_stepCyclic : yX_stepCyclic.cls ≠ "java/lang/invoke/MethodHandle" ∧ yX_stepCyclic.cls ≠ "java/lang/invoke/VarHandle" ∧ (parseMethodDescriptor yX_stepCyclic.desc).map (fun d => d.parameters.length) = some 1 := ⟨by decide +kernel, by decide +kernel, by decide +kernel⟩
abbrev cX_tapeNow : ByteArray := prog_1_method_16_code
abbrev ts_X_tapeNow : List Cond := .code yX_tapeNow cX_tapeNow 2 (some .int) :: tsAll
theorem pd_X_tapeNow : yX_tapeNow.cls ≠ "java/lang/invoke/MethodHandle" ∧ yX_tapeNow.cls ≠ "java/lang/invoke/VarHandle" ∧ (parseMethodDescriptor yX_tapeNow.desc).map (fun d => d.parameters.length) = some 1 := ⟨by decide +kernel, by decide +kernel, by decide +kernel⟩
abbrev cX_tagNow : ByteArray := prog_1_method_17_code
abbrev ts_X_tagNow : List Cond := .code yX_tagNow cX_tagNow 2 (some .int) :: tsAll
theorem pd_X_tagNow : yX_tagNow.cls ≠ "java/lang/invoke/MethodHandle" ∧ yX_tagNow.cls ≠ "java/lang/invoke/VarHandle" ∧ (parseMethodDescriptor yX_tagNow.desc).map (fun d => d.parameters.length) = some 1 := ⟨by decide +kernel, by decide +kernel, by decide +kernel⟩
abbrev cX_cyclicNow : ByteArray := prog_1_method_18_code
abbrev ts_X_cyclicNow : List Cond := .code yX_cyclicNow cX_cyclicNow 2 (some .int) :: tsAll
theorem pd_X_cyclicNow : yX_cyclicNow.cls ≠ "java/lang/invoke/MethodHandle" ∧ yX_cyclicNow.cls ≠ "java/lang/invoke/VarHandle" ∧ (parseMethodDescriptor yX_cyclicNow.desc).map (fun d => d.parameters.length) = some 1 := ⟨by decide +kernel, by decide +kernel, by decide +kernel⟩
abbrev cY_bits : ByteArray := prog_3_method_5_code
abbrev ts_Y_bits : List Cond := .code yY_bits cY_bits 1 (some .int) :: tsAll
theorem pd_Y_bits : yY_bits.cls ≠ "java/lang/invoke/MethodHandle" ∧ yY_bits.cls ≠ "java/lang/invoke/VarHandle" ∧ (parseMethodDescriptor yY_bits.desc).map (fun d => d.parameters.length) = some 0 := ⟨by decide +kernel, by decide +kernel, by decide +kernel⟩
abbrev cX_tagLetter : ByteArray := prog_1_method_19_code
abbrev ts_X_tagLetter : List Cond := .code yX_tagLetter cX_tagLetter 2 (some .int) :: tsAll
theorem pd_X_tagLetter : yX_tagLetter.cls ≠ "java/lang/invoke/MethodHandle" ∧ yX_tagLetter.cls ≠ "java/lang/invoke/VarHandle" ∧ (parseMethodDescriptor yX_tagLetter.desc).map (fun d => d.parameters.length) = some 1 := ⟨by decide +kernel, by decide +kernel, by decide +kernel⟩
abbrev cX_cyclicBit : ByteArray := prog_1_method_20_code
abbrev ts_X_cyclicBit : List Cond := .code yX_cyclicBit cX_cyclicBit 2 (some .int) :: tsAll
theorem pd_X_cyclicBit : yX_cyclicBit.cls ≠ "java/lang/invoke/MethodHandle" ∧ yX_cyclicBit.cls ≠ "java/lang/invoke/VarHandle" ∧ (parseMethodDescriptor yX_cyclicBit.desc).map (fun d => d.parameters.length) = some 1 := ⟨by decide +kernel, by decide +kernel, by decide +kernel⟩
abbrev cY_wordBit : ByteArray := prog_3_method_8_code
abbrev ts_Y_wordBit : List Cond := .code yY_wordBit cY_wordBit 4 (some .int) :: tsAll
theorem pd_Y_wordBit : yY_wordBit.cls ≠ "java/lang/invoke/MethodHandle" ∧ yY_wordBit.cls ≠ "java/lang/invoke/VarHandle" ∧ (parseMethodDescriptor yY_wordBit.desc).map (fun d => d.parameters.length) = some 1 := ⟨by decide +kernel, by decide +kernel, by decide +kernel⟩
abbrev cX_decodeTag : ByteArray := prog_1_method_21_code
abbrev ts_X_decodeTag : List Cond := .code yX_decodeTag cX_decodeTag 2 (some .int) :: tsAll
theorem pd_X_decodeTag : yX_decodeTag.cls ≠ "java/lang/invoke/MethodHandle" ∧ yX_decodeTag.cls ≠ "java/lang/invoke/VarHandle" ∧ (parseMethodDescriptor yX_decodeTag.desc).map (fun d => d.parameters.length) = some 1 := ⟨by decide +kernel, by decide +kernel, by decide +kernel⟩
abbrev cC_read : ByteArray := prog_2_method_4_code
abbrev ts_C_read : List Cond := .code yC_read cC_read 5 (some .boolean) :: tsAll
theorem pd_C_read : yC_read.cls ≠ "java/lang/invoke/MethodHandle" ∧ yC_read.cls ≠ "java/lang/invoke/VarHandle" ∧ (parseMethodDescriptor yC_read.desc).map (fun d => d.parameters.length) = some 1 := ⟨by decide +kernel, by decide +kernel, by decide +kernel⟩
abbrev cG_isBase : ByteArray := prog_5_method_3_code
abbrev ts_G_isBase : List Cond := .code yG_isBase cG_isBase 2 (some .boolean) :: tsAll
theorem pd_G_isBase : yG_isBase.cls ≠ "java/lang/invoke/MethodHandle" ∧ yG_isBase.cls ≠ "java/lang/invoke/VarHandle" ∧ (parseMethodDescriptor yG_isBase.desc).map (fun d => d.parameters.length) = some 2 := ⟨by decide +kernel, by decide +kernel, by decide +kernel⟩
abbrev cC_isPair : ByteArray := prog_2_method_6_code
abbrev ts_C_isPair : List Cond := .code yC_isPair cC_isPair 3 (some .boolean) :: tsAll
theorem pd_C_isPair : yC_isPair.cls ≠ "java/lang/invoke/MethodHandle" ∧ yC_isPair.cls ≠ "java/lang/invoke/VarHandle" ∧ (parseMethodDescriptor yC_isPair.desc).map (fun d => d.parameters.length) = some 3 := ⟨by decide +kernel, by decide +kernel, by decide +kernel⟩
abbrev cC_pairsEnd : ByteArray := prog_2_method_5_code
abbrev ts_C_pairsEnd : List Cond := .code yC_pairsEnd cC_pairsEnd 5 (some .int) :: tsAll
theorem pd_C_pairsEnd : yC_pairsEnd.cls ≠ "java/lang/invoke/MethodHandle" ∧ yC_pairsEnd.cls ≠ "java/lang/invoke/VarHandle" ∧ (parseMethodDescriptor yC_pairsEnd.desc).map (fun d => d.parameters.length) = some 3 := ⟨by decide +kernel, by decide +kernel, by decide +kernel⟩
abbrev cG_stateOf : ByteArray := prog_5_method_4_code
abbrev ts_G_stateOf : List Cond := .code yG_stateOf cG_stateOf 1 (some .int) :: tsAll
theorem pd_G_stateOf : yG_stateOf.cls ≠ "java/lang/invoke/MethodHandle" ∧ yG_stateOf.cls ≠ "java/lang/invoke/VarHandle" ∧ (parseMethodDescriptor yG_stateOf.desc).map (fun d => d.parameters.length) = some 1 := ⟨by decide +kernel, by decide +kernel, by decide +kernel⟩
abbrev cG_symbolOf : ByteArray := prog_5_method_5_code
abbrev ts_G_symbolOf : List Cond := .code yG_symbolOf cG_symbolOf 1 (some .int) :: tsAll
theorem pd_G_symbolOf : yG_symbolOf.cls ≠ "java/lang/invoke/MethodHandle" ∧ yG_symbolOf.cls ≠ "java/lang/invoke/VarHandle" ∧ (parseMethodDescriptor yG_symbolOf.desc).map (fun d => d.parameters.length) = some 1 := ⟨by decide +kernel, by decide +kernel, by decide +kernel⟩
abbrev cX_decodeCyclic : ByteArray := prog_1_method_22_code
abbrev ts_X_decodeCyclic : List Cond := .code yX_decodeCyclic cX_decodeCyclic 2 (some .int) :: tsAll
theorem pd_X_decodeCyclic : yX_decodeCyclic.cls ≠ "java/lang/invoke/MethodHandle" ∧ yX_decodeCyclic.cls ≠ "java/lang/invoke/VarHandle" ∧ (parseMethodDescriptor yX_decodeCyclic.desc).map (fun d => d.parameters.length) = some 1 := ⟨by decide +kernel, by decide +kernel, by decide +kernel⟩
abbrev cY_borderLetter : ByteArray := prog_3_method_9_code
abbrev ts_Y_borderLetter : List Cond := .code yY_borderLetter cY_borderLetter 2 (some .int) :: tsAll
theorem pd_Y_borderLetter : yY_borderLetter.cls ≠ "java/lang/invoke/MethodHandle" ∧ yY_borderLetter.cls ≠ "java/lang/invoke/VarHandle" ∧ (parseMethodDescriptor yY_borderLetter.desc).map (fun d => d.parameters.length) = some 1 := ⟨by decide +kernel, by decide +kernel, by decide +kernel⟩
abbrev cX_nextBorder : ByteArray := prog_1_method_23_code
abbrev ts_X_nextBorder : List Cond := .code yX_nextBorder cX_nextBorder 2 (some .int) :: tsAll
theorem pd_X_nextBorder : yX_nextBorder.cls ≠ "java/lang/invoke/MethodHandle" ∧ yX_nextBorder.cls ≠ "java/lang/invoke/VarHandle" ∧ (parseMethodDescriptor yX_nextBorder.desc).map (fun d => d.parameters.length) = some 0 := ⟨by decide +kernel, by decide +kernel, by decide +kernel⟩
abbrev cX_roundCost : ByteArray := prog_1_method_24_code
abbrev ts_X_roundCost : List Cond := .code yX_roundCost cX_roundCost 5 (some .int) :: tsAll
theorem pd_X_roundCost : yX_roundCost.cls ≠ "java/lang/invoke/MethodHandle" ∧ yX_roundCost.cls ≠ "java/lang/invoke/VarHandle" ∧ (parseMethodDescriptor yX_roundCost.desc).map (fun d => d.parameters.length) = some 4 := ⟨by decide +kernel, by decide +kernel, by decide +kernel⟩
abbrev cM_tagStepsOf : ByteArray := prog_7_method_15_code
abbrev ts_M_tagStepsOf : List Cond := .code yM_tagStepsOf cM_tagStepsOf 8 (some .int) :: tsAll
theorem pd_M_tagStepsOf : yM_tagStepsOf.cls ≠ "java/lang/invoke/MethodHandle" ∧ yM_tagStepsOf.cls ≠ "java/lang/invoke/VarHandle" ∧ (parseMethodDescriptor yM_tagStepsOf.desc).map (fun d => d.parameters.length) = some 4 := ⟨by decide +kernel, by decide +kernel, by decide +kernel⟩
abbrev cX_lockStep : ByteArray := prog_1_method_25_code
abbrev ts_X_lockStep : List Cond := .code yX_lockStep cX_lockStep 5 (some .int) :: tsAll
theorem pd_X_lockStep : yX_lockStep.cls ≠ "java/lang/invoke/MethodHandle" ∧ yX_lockStep.cls ≠ "java/lang/invoke/VarHandle" ∧ (parseMethodDescriptor yX_lockStep.desc).map (fun d => d.parameters.length) = some 1 := ⟨by decide +kernel, by decide +kernel, by decide +kernel⟩
abbrev cX_tagFollowsTape : ByteArray := prog_1_method_27_code
abbrev ts_X_tagFollowsTape : List Cond := .code yX_tagFollowsTape cX_tagFollowsTape 1 (some .boolean) :: tsAll
theorem pd_X_tagFollowsTape : yX_tagFollowsTape.cls ≠ "java/lang/invoke/MethodHandle" ∧ yX_tagFollowsTape.cls ≠ "java/lang/invoke/VarHandle" ∧ (parseMethodDescriptor yX_tagFollowsTape.desc).map (fun d => d.parameters.length) = some 0 := ⟨by decide +kernel, by decide +kernel, by decide +kernel⟩
abbrev cC_isOf : ByteArray := prog_2_method_7_code
abbrev ts_C_isOf : List Cond := .code yC_isOf cC_isOf 2 (some .boolean) :: tsAll
theorem pd_C_isOf : yC_isOf.cls ≠ "java/lang/invoke/MethodHandle" ∧ yC_isOf.cls ≠ "java/lang/invoke/VarHandle" ∧ (parseMethodDescriptor yC_isOf.desc).map (fun d => d.parameters.length) = some 1 := ⟨by decide +kernel, by decide +kernel, by decide +kernel⟩
abbrev cR_init : ByteArray := prog_9_method_1_code
abbrev ts_R_init : List Cond := .code yR_init cR_init 1 none :: tsAll
theorem pd_R_init : yR_init.cls ≠ "java/lang/invoke/MethodHandle" ∧ yR_init.cls ≠ "java/lang/invoke/VarHandle" ∧ (parseMethodDescriptor yR_init.desc).map (fun d => d.parameters.length) = some 0 := ⟨by decide +kernel, by decide +kernel, by decide +kernel⟩
abbrev cR_rule : ByteArray := prog_9_method_6_code
abbrev ts_R_rule : List Cond := .code yR_rule cR_rule 7 (some .boolean) :: tsAll
theorem pd_R_rule : yR_rule.cls ≠ "java/lang/invoke/MethodHandle" ∧ yR_rule.cls ≠ "java/lang/invoke/VarHandle" ∧ (parseMethodDescriptor yR_rule.desc).map (fun d => d.parameters.length) = some 5 := ⟨by decide +kernel, by decide +kernel, by decide +kernel⟩
abbrev cR_isState : ByteArray := prog_9_method_3_code
abbrev ts_R_isState : List Cond := .code yR_isState cR_isState 1 (some .boolean) :: tsAll
theorem pd_R_isState : yR_isState.cls ≠ "java/lang/invoke/MethodHandle" ∧ yR_isState.cls ≠ "java/lang/invoke/VarHandle" ∧ (parseMethodDescriptor yR_isState.desc).map (fun d => d.parameters.length) = some 1 := ⟨by decide +kernel, by decide +kernel, by decide +kernel⟩
abbrev cR_isBit : ByteArray := prog_9_method_2_code
abbrev ts_R_isBit : List Cond := .code yR_isBit cR_isBit 1 (some .boolean) :: tsAll
theorem pd_R_isBit : yR_isBit.cls ≠ "java/lang/invoke/MethodHandle" ∧ yR_isBit.cls ≠ "java/lang/invoke/VarHandle" ∧ (parseMethodDescriptor yR_isBit.desc).map (fun d => d.parameters.length) = some 1 := ⟨by decide +kernel, by decide +kernel, by decide +kernel⟩
abbrev cR_tape : ByteArray := prog_9_method_7_code
abbrev ts_R_tape : List Cond := .code yR_tape cR_tape 5 (some .boolean) :: tsAll
theorem pd_R_tape : yR_tape.cls ≠ "java/lang/invoke/MethodHandle" ∧ yR_tape.cls ≠ "java/lang/invoke/VarHandle" ∧ (parseMethodDescriptor yR_tape.desc).map (fun d => d.parameters.length) = some 4 := ⟨by decide +kernel, by decide +kernel, by decide +kernel⟩
abbrev cR_isNumber : ByteArray := prog_9_method_4_code
abbrev ts_R_isNumber : List Cond := .code yR_isNumber cR_isNumber 1 (some .boolean) :: tsAll
theorem pd_R_isNumber : yR_isNumber.cls ≠ "java/lang/invoke/MethodHandle" ∧ yR_isNumber.cls ≠ "java/lang/invoke/VarHandle" ∧ (parseMethodDescriptor yR_isNumber.desc).map (fun d => d.parameters.length) = some 1 := ⟨by decide +kernel, by decide +kernel, by decide +kernel⟩
abbrev cR_stepTape : ByteArray := prog_9_method_12_code
abbrev ts_R_stepTape : List Cond := .code yR_stepTape cR_stepTape 3 (some .int) :: tsAll
theorem pd_R_stepTape : yR_stepTape.cls ≠ "java/lang/invoke/MethodHandle" ∧ yR_stepTape.cls ≠ "java/lang/invoke/VarHandle" ∧ (parseMethodDescriptor yR_stepTape.desc).map (fun d => d.parameters.length) = some 1 := ⟨by decide +kernel, by decide +kernel, by decide +kernel⟩
abbrev cR_steps : ByteArray := prog_9_method_5_code
abbrev ts_R_steps : List Cond := .code yR_steps cR_steps 1 (some .int) :: tsAll
theorem pd_R_steps : yR_steps.cls ≠ "java/lang/invoke/MethodHandle" ∧ yR_steps.cls ≠ "java/lang/invoke/VarHandle" ∧ (parseMethodDescriptor yR_steps.desc).map (fun d => d.parameters.length) = some 1 := ⟨by decide +kernel, by decide +kernel, by decide +kernel⟩
abbrev cR_tapeCan : ByteArray := prog_9_method_10_code
abbrev ts_R_tapeCan : List Cond := .code yR_tapeCan cR_tapeCan 2 (some .int) :: tsAll
theorem pd_R_tapeCan : yR_tapeCan.cls ≠ "java/lang/invoke/MethodHandle" ∧ yR_tapeCan.cls ≠ "java/lang/invoke/VarHandle" ∧ (parseMethodDescriptor yR_tapeCan.desc).map (fun d => d.parameters.length) = some 0 := ⟨by decide +kernel, by decide +kernel, by decide +kernel⟩
abbrev cR_ruleOf : ByteArray := prog_9_method_8_code
abbrev ts_R_ruleOf : List Cond := .code yR_ruleOf cR_ruleOf 2 (some .int) :: tsAll
theorem pd_R_ruleOf : yR_ruleOf.cls ≠ "java/lang/invoke/MethodHandle" ∧ yR_ruleOf.cls ≠ "java/lang/invoke/VarHandle" ∧ (parseMethodDescriptor yR_ruleOf.desc).map (fun d => d.parameters.length) = some 2 := ⟨by decide +kernel, by decide +kernel, by decide +kernel⟩
abbrev cR_goesOn : ByteArray := prog_9_method_9_code
abbrev ts_R_goesOn : List Cond := .code yR_goesOn cR_goesOn 2 (some .boolean) :: tsAll
theorem pd_R_goesOn : yR_goesOn.cls ≠ "java/lang/invoke/MethodHandle" ∧ yR_goesOn.cls ≠ "java/lang/invoke/VarHandle" ∧ (parseMethodDescriptor yR_goesOn.desc).map (fun d => d.parameters.length) = some 1 := ⟨by decide +kernel, by decide +kernel, by decide +kernel⟩
abbrev cR_tapeStep : ByteArray := prog_9_method_11_code
abbrev ts_R_tapeStep : List Cond := .code yR_tapeStep cR_tapeStep 4 none :: tsAll
theorem pd_R_tapeStep : yR_tapeStep.cls ≠ "java/lang/invoke/MethodHandle" ∧ yR_tapeStep.cls ≠ "java/lang/invoke/VarHandle" ∧ (parseMethodDescriptor yR_tapeStep.desc).map (fun d => d.parameters.length) = some 0 := ⟨by decide +kernel, by decide +kernel, by decide +kernel⟩
abbrev cR_tapeNow : ByteArray := prog_9_method_13_code
abbrev ts_R_tapeNow : List Cond := .code yR_tapeNow cR_tapeNow 2 (some .int) :: tsAll
theorem pd_R_tapeNow : yR_tapeNow.cls ≠ "java/lang/invoke/MethodHandle" ∧ yR_tapeNow.cls ≠ "java/lang/invoke/VarHandle" ∧ (parseMethodDescriptor yR_tapeNow.desc).map (fun d => d.parameters.length) = some 1 := ⟨by decide +kernel, by decide +kernel, by decide +kernel⟩
abbrev cR_compileTag : ByteArray := prog_9_method_23_code
abbrev ts_R_compileTag : List Cond := .code yR_compileTag cR_compileTag 6 (some .int) :: tsAll
theorem pd_R_compileTag : yR_compileTag.cls ≠ "java/lang/invoke/MethodHandle" ∧ yR_compileTag.cls ≠ "java/lang/invoke/VarHandle" ∧ (parseMethodDescriptor yR_compileTag.desc).map (fun d => d.parameters.length) = some 0 := ⟨by decide +kernel, by decide +kernel, by decide +kernel⟩
abbrev cR_greatest : ByteArray := prog_9_method_20_code
abbrev ts_R_greatest : List Cond := .code yR_greatest cR_greatest 4 (some .int) :: tsAll
theorem pd_R_greatest : yR_greatest.cls ≠ "java/lang/invoke/MethodHandle" ∧ yR_greatest.cls ≠ "java/lang/invoke/VarHandle" ∧ (parseMethodDescriptor yR_greatest.desc).map (fun d => d.parameters.length) = some 0 := ⟨by decide +kernel, by decide +kernel, by decide +kernel⟩
abbrev cR_bothTold : ByteArray := prog_9_method_19_code
abbrev ts_R_bothTold : List Cond := .code yR_bothTold cR_bothTold 2 (some .boolean) :: tsAll
theorem pd_R_bothTold : yR_bothTold.cls ≠ "java/lang/invoke/MethodHandle" ∧ yR_bothTold.cls ≠ "java/lang/invoke/VarHandle" ∧ (parseMethodDescriptor yR_bothTold.desc).map (fun d => d.parameters.length) = some 1 := ⟨by decide +kernel, by decide +kernel, by decide +kernel⟩
abbrev cR_emptySystem : ByteArray := prog_9_method_21_code
abbrev ts_R_emptySystem : List Cond := .code yR_emptySystem cR_emptySystem 3 none :: tsAll
theorem pd_R_emptySystem : yR_emptySystem.cls ≠ "java/lang/invoke/MethodHandle" ∧ yR_emptySystem.cls ≠ "java/lang/invoke/VarHandle" ∧ (parseMethodDescriptor yR_emptySystem.desc).map (fun d => d.parameters.length) = some 1 := ⟨by decide +kernel, by decide +kernel, by decide +kernel⟩
abbrev cR_letterOf : ByteArray := prog_9_method_14_code
abbrev ts_R_letterOf : List Cond := .code yR_letterOf cR_letterOf 3 (some .int) :: tsAll
theorem pd_R_letterOf : yR_letterOf.cls ≠ "java/lang/invoke/MethodHandle" ∧ yR_letterOf.cls ≠ "java/lang/invoke/VarHandle" ∧ (parseMethodDescriptor yR_letterOf.desc).map (fun d => d.parameters.length) = some 3 := ⟨by decide +kernel, by decide +kernel, by decide +kernel⟩
abbrev cR_toTheRight : ByteArray := prog_9_method_17_code
abbrev ts_R_toTheRight : List Cond := .code yR_toTheRight cR_toTheRight 5 none :: tsAll
theorem pd_R_toTheRight : yR_toTheRight.cls ≠ "java/lang/invoke/MethodHandle" ∧ yR_toTheRight.cls ≠ "java/lang/invoke/VarHandle" ∧ (parseMethodDescriptor yR_toTheRight.desc).map (fun d => d.parameters.length) = some 4 := ⟨by decide +kernel, by decide +kernel, by decide +kernel⟩
abbrev cR_two : ByteArray := prog_9_method_16_code
abbrev ts_R_two : List Cond := .code yR_two cR_two 4 none :: tsAll
theorem pd_R_two : yR_two.cls ≠ "java/lang/invoke/MethodHandle" ∧ yR_two.cls ≠ "java/lang/invoke/VarHandle" ∧ (parseMethodDescriptor yR_two.desc).map (fun d => d.parameters.length) = some 3 := ⟨by decide +kernel, by decide +kernel, by decide +kernel⟩
abbrev cR_add : ByteArray := prog_9_method_15_code
abbrev ts_R_add : List Cond := .code yR_add cR_add 3 none :: tsAll
theorem pd_R_add : yR_add.cls ≠ "java/lang/invoke/MethodHandle" ∧ yR_add.cls ≠ "java/lang/invoke/VarHandle" ∧ (parseMethodDescriptor yR_add.desc).map (fun d => d.parameters.length) = some 2 := ⟨by decide +kernel, by decide +kernel, by decide +kernel⟩
abbrev cR_toTheLeft : ByteArray := prog_9_method_18_code
abbrev ts_R_toTheLeft : List Cond := .code yR_toTheLeft cR_toTheLeft 5 none :: tsAll
theorem pd_R_toTheLeft : yR_toTheLeft.cls ≠ "java/lang/invoke/MethodHandle" ∧ yR_toTheLeft.cls ≠ "java/lang/invoke/VarHandle" ∧ (parseMethodDescriptor yR_toTheLeft.desc).map (fun d => d.parameters.length) = some 4 := ⟨by decide +kernel, by decide +kernel, by decide +kernel⟩
abbrev cR_putCode : ByteArray := prog_9_method_22_code
abbrev ts_R_putCode : List Cond := .code yR_putCode cR_putCode 3 none :: tsAll
theorem pd_R_putCode : yR_putCode.cls ≠ "java/lang/invoke/MethodHandle" ∧ yR_putCode.cls ≠ "java/lang/invoke/VarHandle" ∧ (parseMethodDescriptor yR_putCode.desc).map (fun d => d.parameters.length) = some 0 := ⟨by decide +kernel, by decide +kernel, by decide +kernel⟩
abbrev cR_push : ByteArray := prog_9_method_30_code
abbrev ts_R_push : List Cond := .code yR_push cR_push 3 none :: tsAll
theorem pd_R_push : yR_push.cls ≠ "java/lang/invoke/MethodHandle" ∧ yR_push.cls ≠ "java/lang/invoke/VarHandle" ∧ (parseMethodDescriptor yR_push.desc).map (fun d => d.parameters.length) = some 1 := ⟨by decide +kernel, by decide +kernel, by decide +kernel⟩
abbrev cR_ownTag : ByteArray := prog_9_method_24_code
abbrev ts_R_ownTag : List Cond := .code yR_ownTag cR_ownTag 2 (some .boolean) :: tsAll
theorem pd_R_ownTag : yR_ownTag.cls ≠ "java/lang/invoke/MethodHandle" ∧ yR_ownTag.cls ≠ "java/lang/invoke/VarHandle" ∧ (parseMethodDescriptor yR_ownTag.desc).map (fun d => d.parameters.length) = some 1 := ⟨by decide +kernel, by decide +kernel, by decide +kernel⟩
abbrev cR_extend : ByteArray := prog_9_method_26_code
abbrev ts_R_extend : List Cond := .code yR_extend cR_extend 3 (some .boolean) :: tsAll
theorem pd_R_extend : yR_extend.cls ≠ "java/lang/invoke/MethodHandle" ∧ yR_extend.cls ≠ "java/lang/invoke/VarHandle" ∧ (parseMethodDescriptor yR_extend.desc).map (fun d => d.parameters.length) = some 2 := ⟨by decide +kernel, by decide +kernel, by decide +kernel⟩
abbrev cR_isLetter : ByteArray := prog_9_method_25_code
abbrev ts_R_isLetter : List Cond := .code yR_isLetter cR_isLetter 2 (some .boolean) :: tsAll
theorem pd_R_isLetter : yR_isLetter.cls ≠ "java/lang/invoke/MethodHandle" ∧ yR_isLetter.cls ≠ "java/lang/invoke/VarHandle" ∧ (parseMethodDescriptor yR_isLetter.desc).map (fun d => d.parameters.length) = some 1 := ⟨by decide +kernel, by decide +kernel, by decide +kernel⟩
abbrev cR_spoil : ByteArray := prog_9_method_27_code
abbrev ts_R_spoil : List Cond := .code yR_spoil cR_spoil 5 (some .int) :: tsAll
theorem pd_R_spoil : yR_spoil.cls ≠ "java/lang/invoke/MethodHandle" ∧ yR_spoil.cls ≠ "java/lang/invoke/VarHandle" ∧ (parseMethodDescriptor yR_spoil.desc).map (fun d => d.parameters.length) = some 3 := ⟨by decide +kernel, by decide +kernel, by decide +kernel⟩
abbrev cR_production : ByteArray := prog_9_method_29_code
abbrev ts_R_production : List Cond := .code yR_production cR_production 3 (some .int) :: tsAll
theorem pd_R_production : yR_production.cls ≠ "java/lang/invoke/MethodHandle" ∧ yR_production.cls ≠ "java/lang/invoke/VarHandle" ∧ (parseMethodDescriptor yR_production.desc).map (fun d => d.parameters.length) = some 2 := ⟨by decide +kernel, by decide +kernel, by decide +kernel⟩
abbrev cR_halts : ByteArray := prog_9_method_28_code
abbrev ts_R_halts : List Cond := .code yR_halts cR_halts 3 (some .boolean) :: tsAll
theorem pd_R_halts : yR_halts.cls ≠ "java/lang/invoke/MethodHandle" ∧ yR_halts.cls ≠ "java/lang/invoke/VarHandle" ∧ (parseMethodDescriptor yR_halts.desc).map (fun d => d.parameters.length) = some 2 := ⟨by decide +kernel, by decide +kernel, by decide +kernel⟩
abbrev cR_put : ByteArray := prog_9_method_31_code
abbrev ts_R_put : List Cond := .code yR_put cR_put 2 (some .boolean) :: tsAll
theorem pd_R_put : yR_put.cls ≠ "java/lang/invoke/MethodHandle" ∧ yR_put.cls ≠ "java/lang/invoke/VarHandle" ∧ (parseMethodDescriptor yR_put.desc).map (fun d => d.parameters.length) = some 1 := ⟨by decide +kernel, by decide +kernel, by decide +kernel⟩
abbrev cR_stepTag : ByteArray := prog_9_method_34_code
abbrev ts_R_stepTag : List Cond := .code yR_stepTag cR_stepTag 3 (some .int) :: tsAll
theorem pd_R_stepTag : yR_stepTag.cls ≠ "java/lang/invoke/MethodHandle" ∧ yR_stepTag.cls ≠ "java/lang/invoke/VarHandle" ∧ (parseMethodDescriptor yR_stepTag.desc).map (fun d => d.parameters.length) = some 1 := ⟨by decide +kernel, by decide +kernel, by decide +kernel⟩
abbrev cR_tagCan : ByteArray := prog_9_method_32_code
abbrev ts_R_tagCan : List Cond := .code yR_tagCan cR_tagCan 2 (some .int) :: tsAll
theorem pd_R_tagCan : yR_tagCan.cls ≠ "java/lang/invoke/MethodHandle" ∧ yR_tagCan.cls ≠ "java/lang/invoke/VarHandle" ∧ (parseMethodDescriptor yR_tagCan.desc).map (fun d => d.parameters.length) = some 0 := ⟨by decide +kernel, by decide +kernel, by decide +kernel⟩
abbrev cR_tagStep : ByteArray := prog_9_method_33_code
abbrev ts_R_tagStep : List Cond := .code yR_tagStep cR_tagStep 3 none :: tsAll
theorem pd_R_tagStep : yR_tagStep.cls ≠ "java/lang/invoke/MethodHandle" ∧ yR_tagStep.cls ≠ "java/lang/invoke/VarHandle" ∧ (parseMethodDescriptor yR_tagStep.desc).map (fun d => d.parameters.length) = some 0 := ⟨by decide +kernel, by decide +kernel, by decide +kernel⟩
abbrev cR_tagNow : ByteArray := prog_9_method_35_code
abbrev ts_R_tagNow : List Cond := .code yR_tagNow cR_tagNow 2 (some .int) :: tsAll
theorem pd_R_tagNow : yR_tagNow.cls ≠ "java/lang/invoke/MethodHandle" ∧ yR_tagNow.cls ≠ "java/lang/invoke/VarHandle" ∧ (parseMethodDescriptor yR_tagNow.desc).map (fun d => d.parameters.length) = some 1 := ⟨by decide +kernel, by decide +kernel, by decide +kernel⟩
abbrev cR_tagLetter : ByteArray := prog_9_method_36_code
abbrev ts_R_tagLetter : List Cond := .code yR_tagLetter cR_tagLetter 2 (some .int) :: tsAll
theorem pd_R_tagLetter : yR_tagLetter.cls ≠ "java/lang/invoke/MethodHandle" ∧ yR_tagLetter.cls ≠ "java/lang/invoke/VarHandle" ∧ (parseMethodDescriptor yR_tagLetter.desc).map (fun d => d.parameters.length) = some 1 := ⟨by decide +kernel, by decide +kernel, by decide +kernel⟩
abbrev cR_compileCyclic : ByteArray := prog_9_method_37_code
abbrev ts_R_compileCyclic : List Cond := .code yR_compileCyclic cR_compileCyclic 3 (some .int) :: tsAll
theorem pd_R_compileCyclic : yR_compileCyclic.cls ≠ "java/lang/invoke/MethodHandle" ∧ yR_compileCyclic.cls ≠ "java/lang/invoke/VarHandle" ∧ (parseMethodDescriptor yR_compileCyclic.desc).map (fun d => d.parameters.length) = some 0 := ⟨by decide +kernel, by decide +kernel, by decide +kernel⟩
abbrev cR_pushBlock : ByteArray := prog_9_method_38_code
abbrev ts_R_pushBlock : List Cond := .code yR_pushBlock cR_pushBlock 3 none :: tsAll
theorem pd_R_pushBlock : yR_pushBlock.cls ≠ "java/lang/invoke/MethodHandle" ∧ yR_pushBlock.cls ≠ "java/lang/invoke/VarHandle" ∧ (parseMethodDescriptor yR_pushBlock.desc).map (fun d => d.parameters.length) = some 1 := ⟨by decide +kernel, by decide +kernel, by decide +kernel⟩
abbrev cR_stepCyclic : ByteArray := prog_9_method_42_code
abbrev ts_R_stepCyclic : List Cond := .code yR_stepCyclic cR_stepCyclic 3 (some .int) :: tsAll
theorem pd_R_stepCyclic : yR_stepCyclic.cls ≠ "java/lang/invoke/MethodHandle" ∧ yR_stepCyclic.cls ≠ "java/lang/invoke/VarHandle" ∧ (parseMethodDescriptor yR_stepCyclic.desc).map (fun d => d.parameters.length) = some 1 := ⟨by decide +kernel, by decide +kernel, by decide +kernel⟩
abbrev cR_cyclicCan : ByteArray := prog_9_method_40_code
abbrev ts_R_cyclicCan : List Cond := .code yR_cyclicCan cR_cyclicCan 2 (some .int) :: tsAll
theorem pd_R_cyclicCan : yR_cyclicCan.cls ≠ "java/lang/invoke/MethodHandle" ∧ yR_cyclicCan.cls ≠ "java/lang/invoke/VarHandle" ∧ (parseMethodDescriptor yR_cyclicCan.desc).map (fun d => d.parameters.length) = some 0 := ⟨by decide +kernel, by decide +kernel, by decide +kernel⟩
abbrev cR_bits : ByteArray := prog_9_method_39_code
abbrev ts_R_bits : List Cond := .code yR_bits cR_bits 1 (some .int) :: tsAll
theorem pd_R_bits : yR_bits.cls ≠ "java/lang/invoke/MethodHandle" ∧ yR_bits.cls ≠ "java/lang/invoke/VarHandle" ∧ (parseMethodDescriptor yR_bits.desc).map (fun d => d.parameters.length) = some 0 := ⟨by decide +kernel, by decide +kernel, by decide +kernel⟩
abbrev cR_cyclicStep : ByteArray := prog_9_method_41_code
abbrev ts_R_cyclicStep : List Cond := .code yR_cyclicStep cR_cyclicStep 3 none :: tsAll
theorem pd_R_cyclicStep : yR_cyclicStep.cls ≠ "java/lang/invoke/MethodHandle" ∧ yR_cyclicStep.cls ≠ "java/lang/invoke/VarHandle" ∧ (parseMethodDescriptor yR_cyclicStep.desc).map (fun d => d.parameters.length) = some 0 := ⟨by decide +kernel, by decide +kernel, by decide +kernel⟩
abbrev cR_appendant : ByteArray := prog_9_method_43_code
abbrev ts_R_appendant : List Cond := .code yR_appendant cR_appendant 3 (some .int) :: tsAll
theorem pd_R_appendant : yR_appendant.cls ≠ "java/lang/invoke/MethodHandle" ∧ yR_appendant.cls ≠ "java/lang/invoke/VarHandle" ∧ (parseMethodDescriptor yR_appendant.desc).map (fun d => d.parameters.length) = some 2 := ⟨by decide +kernel, by decide +kernel, by decide +kernel⟩
abbrev cR_cyclicNow : ByteArray := prog_9_method_44_code
abbrev ts_R_cyclicNow : List Cond := .code yR_cyclicNow cR_cyclicNow 2 (some .int) :: tsAll
theorem pd_R_cyclicNow : yR_cyclicNow.cls ≠ "java/lang/invoke/MethodHandle" ∧ yR_cyclicNow.cls ≠ "java/lang/invoke/VarHandle" ∧ (parseMethodDescriptor yR_cyclicNow.desc).map (fun d => d.parameters.length) = some 1 := ⟨by decide +kernel, by decide +kernel, by decide +kernel⟩
abbrev cR_cyclicBit : ByteArray := prog_9_method_45_code
abbrev ts_R_cyclicBit : List Cond := .code yR_cyclicBit cR_cyclicBit 3 (some .int) :: tsAll
theorem pd_R_cyclicBit : yR_cyclicBit.cls ≠ "java/lang/invoke/MethodHandle" ∧ yR_cyclicBit.cls ≠ "java/lang/invoke/VarHandle" ∧ (parseMethodDescriptor yR_cyclicBit.desc).map (fun d => d.parameters.length) = some 1 := ⟨by decide +kernel, by decide +kernel, by decide +kernel⟩
abbrev cR_decodeCyclic : ByteArray := prog_9_method_46_code
abbrev ts_R_decodeCyclic : List Cond := .code yR_decodeCyclic cR_decodeCyclic 2 (some .int) :: tsAll
theorem pd_R_decodeCyclic : yR_decodeCyclic.cls ≠ "java/lang/invoke/MethodHandle" ∧ yR_decodeCyclic.cls ≠ "java/lang/invoke/VarHandle" ∧ (parseMethodDescriptor yR_decodeCyclic.desc).map (fun d => d.parameters.length) = some 1 := ⟨by decide +kernel, by decide +kernel, by decide +kernel⟩
abbrev cR_decodeTag : ByteArray := prog_9_method_49_code
abbrev ts_R_decodeTag : List Cond := .code yR_decodeTag cR_decodeTag 2 (some .int) :: tsAll
theorem pd_R_decodeTag : yR_decodeTag.cls ≠ "java/lang/invoke/MethodHandle" ∧ yR_decodeTag.cls ≠ "java/lang/invoke/VarHandle" ∧ (parseMethodDescriptor yR_decodeTag.desc).map (fun d => d.parameters.length) = some 1 := ⟨by decide +kernel, by decide +kernel, by decide +kernel⟩
abbrev cR_isCode : ByteArray := prog_9_method_48_code
abbrev ts_R_isCode : List Cond := .code yR_isCode cR_isCode 3 (some .boolean) :: tsAll
theorem pd_R_isCode : yR_isCode.cls ≠ "java/lang/invoke/MethodHandle" ∧ yR_isCode.cls ≠ "java/lang/invoke/VarHandle" ∧ (parseMethodDescriptor yR_isCode.desc).map (fun d => d.parameters.length) = some 0 := ⟨by decide +kernel, by decide +kernel, by decide +kernel⟩
abbrev cR_pairs : ByteArray := prog_9_method_47_code
abbrev ts_R_pairs : List Cond := .code yR_pairs cR_pairs 4 (some .int) :: tsAll
theorem pd_R_pairs : yR_pairs.cls ≠ "java/lang/invoke/MethodHandle" ∧ yR_pairs.cls ≠ "java/lang/invoke/VarHandle" ∧ (parseMethodDescriptor yR_pairs.desc).map (fun d => d.parameters.length) = some 2 := ⟨by decide +kernel, by decide +kernel, by decide +kernel⟩
abbrev cR_nextBorder : ByteArray := prog_9_method_50_code
abbrev ts_R_nextBorder : List Cond := .code yR_nextBorder cR_nextBorder 2 (some .int) :: tsAll
theorem pd_R_nextBorder : yR_nextBorder.cls ≠ "java/lang/invoke/MethodHandle" ∧ yR_nextBorder.cls ≠ "java/lang/invoke/VarHandle" ∧ (parseMethodDescriptor yR_nextBorder.desc).map (fun d => d.parameters.length) = some 0 := ⟨by decide +kernel, by decide +kernel, by decide +kernel⟩
abbrev cR_roundCost : ByteArray := prog_9_method_51_code
abbrev ts_R_roundCost : List Cond := .code yR_roundCost cR_roundCost 8 (some .int) :: tsAll
theorem pd_R_roundCost : yR_roundCost.cls ≠ "java/lang/invoke/MethodHandle" ∧ yR_roundCost.cls ≠ "java/lang/invoke/VarHandle" ∧ (parseMethodDescriptor yR_roundCost.desc).map (fun d => d.parameters.length) = some 4 := ⟨by decide +kernel, by decide +kernel, by decide +kernel⟩
abbrev cR_lockStep : ByteArray := prog_9_method_53_code
abbrev ts_R_lockStep : List Cond := .code yR_lockStep cR_lockStep 4 (some .int) :: tsAll
theorem pd_R_lockStep : yR_lockStep.cls ≠ "java/lang/invoke/MethodHandle" ∧ yR_lockStep.cls ≠ "java/lang/invoke/VarHandle" ∧ (parseMethodDescriptor yR_lockStep.desc).map (fun d => d.parameters.length) = some 1 := ⟨by decide +kernel, by decide +kernel, by decide +kernel⟩
abbrev cR_agrees : ByteArray := prog_9_method_52_code
abbrev ts_R_agrees : List Cond := .code yR_agrees cR_agrees 1 (some .boolean) :: tsAll
theorem pd_R_agrees : yR_agrees.cls ≠ "java/lang/invoke/MethodHandle" ∧ yR_agrees.cls ≠ "java/lang/invoke/VarHandle" ∧ (parseMethodDescriptor yR_agrees.desc).map (fun d => d.parameters.length) = some 0 := ⟨by decide +kernel, by decide +kernel, by decide +kernel⟩
theorem pe_M_makeSteps : "TagWorkshop$Machine" ≠ "java/lang/invoke/MethodHandle" ∧ "TagWorkshop$Machine" ≠ "java/lang/invoke/VarHandle" ∧ (parseMethodDescriptor yM_makeSteps.desc).map (fun d => d.parameters.length) = some 1 := ⟨by decide +kernel, by decide +kernel, by decide +kernel⟩
theorem pe_T_makeSteps : "TagWorkshop$Machine" ≠ "java/lang/invoke/MethodHandle" ∧ "TagWorkshop$Machine" ≠ "java/lang/invoke/VarHandle" ∧ (parseMethodDescriptor yT_makeSteps.desc).map (fun d => d.parameters.length) = some 1 := ⟨by decide +kernel, by decide +kernel, by decide +kernel⟩
theorem pe_Y_makeSteps : "TagWorkshop$Machine" ≠ "java/lang/invoke/MethodHandle" ∧ "TagWorkshop$Machine" ≠ "java/lang/invoke/VarHandle" ∧ (parseMethodDescriptor yY_makeSteps.desc).map (fun d => d.parameters.length) = some 1 := ⟨by decide +kernel, by decide +kernel, by decide +kernel⟩
theorem pe_K_canGoOn : "TagWorkshop$Machine" ≠ "java/lang/invoke/MethodHandle" ∧ "TagWorkshop$Machine" ≠ "java/lang/invoke/VarHandle" ∧ (parseMethodDescriptor yK_canGoOn.desc).map (fun d => d.parameters.length) = some 0 := ⟨by decide +kernel, by decide +kernel, by decide +kernel⟩
theorem pe_K_step : "TagWorkshop$Machine" ≠ "java/lang/invoke/MethodHandle" ∧ "TagWorkshop$Machine" ≠ "java/lang/invoke/VarHandle" ∧ (parseMethodDescriptor yK_step.desc).map (fun d => d.parameters.length) = some 0 := ⟨by decide +kernel, by decide +kernel, by decide +kernel⟩
def fd_M : u_T := fun k => match k with
  | 0 => ("TagWorkshop$TapeMachine", "writes", "[I", true)
  | 1 => ("TagWorkshop$TapeMachine", "moves", "[I", true)
  | 2 => ("TagWorkshop$TapeMachine", "nexts", "[I", true)
  | 3 => ("TagWorkshop$TapeMachine", "state", "I", false)
  | 4 => ("TagWorkshop$TapeMachine", "symbol", "I", false)
  | 5 => ("TagWorkshop$TapeMachine", "left", "I", false)
  | _ => ("TagWorkshop$TapeMachine", "right", "I", false)
def ft_M : Nat → FieldType := fun k => match k with
  | 0 => .array .int
  | 1 => .array .int
  | 2 => .array .int
  | 3 => .int
  | 4 => .int
  | 5 => .int
  | _ => .int
set_option maxRecDepth 20000 in
theorem fn_M : ∀ a, a < 7 → ∀ b, b < 7 → a ≠ b → (fd_M a).2.1 ≠ (fd_M b).2.1 := by decide +kernel
set_option maxRecDepth 20000 in
theorem ft_M_ok : ∀ k, k < 7 → parseFieldDescriptor (fd_M k).2.2.1 = some (ft_M k) := by decide +kernel
set_option maxRecDepth 20000 in
theorem uw_M {c : Cond} : ∀ w ∈ u_ws "TagWorkshop$TapeMachine" fd_M 7, w ∈ c :: tsAll := fun w h => tl ((by decide +kernel : ∀ w ∈ u_ws "TagWorkshop$TapeMachine" fd_M 7, w ∈ tsAll) w h)
def fd_T : u_T := fun k => match k with
  | 0 => ("TagWorkshop$TagSystem", "packs", "[J", true)
  | 1 => ("TagWorkshop$TagSystem", "sizes", "[I", true)
  | 2 => ("TagWorkshop$TagSystem", "halting", "[Z", true)
  | 3 => ("TagWorkshop$TagSystem", "word", "[I", true)
  | 4 => ("TagWorkshop$TagSystem", "front", "I", false)
  | 5 => ("TagWorkshop$TagSystem", "size", "I", false)
  | 6 => ("TagWorkshop$TagSystem", "letters", "I", false)
  | _ => ("TagWorkshop$TagSystem", "states", "I", false)
def ft_T : Nat → FieldType := fun k => match k with
  | 0 => .array .long
  | 1 => .array .int
  | 2 => .array .boolean
  | 3 => .array .int
  | 4 => .int
  | 5 => .int
  | 6 => .int
  | _ => .int
set_option maxRecDepth 20000 in
theorem fn_T : ∀ a, a < 8 → ∀ b, b < 8 → a ≠ b → (fd_T a).2.1 ≠ (fd_T b).2.1 := by decide +kernel
set_option maxRecDepth 20000 in
theorem ft_T_ok : ∀ k, k < 8 → parseFieldDescriptor (fd_T k).2.2.1 = some (ft_T k) := by decide +kernel
set_option maxRecDepth 20000 in
theorem uw_T {c : Cond} : ∀ w ∈ u_ws "TagWorkshop$TagSystem" fd_T 8, w ∈ c :: tsAll := fun w h => tl ((by decide +kernel : ∀ w ∈ u_ws "TagWorkshop$TagSystem" fd_T 8, w ∈ tsAll) w h)
def fd_Y : u_T := fun k => match k with
  | 0 => ("TagWorkshop$CyclicSystem", "blocks", "LTagWorkshop$TagSystem;", true)
  | _ => ("TagWorkshop$CyclicSystem", "turn", "I", false)
def ft_Y : Nat → FieldType := fun k => match k with
  | 0 => .object "TagWorkshop$TagSystem"
  | _ => .int
set_option maxRecDepth 20000 in
theorem fn_Y : ∀ a, a < 2 → ∀ b, b < 2 → a ≠ b → (fd_Y a).2.1 ≠ (fd_Y b).2.1 := by decide +kernel
set_option maxRecDepth 20000 in
theorem ft_Y_ok : ∀ k, k < 2 → parseFieldDescriptor (fd_Y k).2.2.1 = some (ft_Y k) := by decide +kernel
set_option maxRecDepth 20000 in
theorem uw_Y {c : Cond} : ∀ w ∈ u_ws "TagWorkshop$CyclicSystem" fd_Y 2, w ∈ c :: tsAll := fun w h => tl ((by decide +kernel : ∀ w ∈ u_ws "TagWorkshop$CyclicSystem" fd_Y 2, w ∈ tsAll) w h)
def fd_C : u_T := fun k => match k with
  | 0 => ("TagWorkshop$Code", "state", "I", false)
  | 1 => ("TagWorkshop$Code", "symbol", "I", false)
  | 2 => ("TagWorkshop$Code", "left", "I", false)
  | _ => ("TagWorkshop$Code", "right", "I", false)
def ft_C : Nat → FieldType := fun k => match k with
  | 0 => .int
  | 1 => .int
  | 2 => .int
  | _ => .int
set_option maxRecDepth 20000 in
theorem fn_C : ∀ a, a < 4 → ∀ b, b < 4 → a ≠ b → (fd_C a).2.1 ≠ (fd_C b).2.1 := by decide +kernel
set_option maxRecDepth 20000 in
theorem ft_C_ok : ∀ k, k < 4 → parseFieldDescriptor (fd_C k).2.2.1 = some (ft_C k) := by decide +kernel
set_option maxRecDepth 20000 in
theorem uw_C {c : Cond} : ∀ w ∈ u_ws "TagWorkshop$Code" fd_C 4, w ∈ c :: tsAll := fun w h => tl ((by decide +kernel : ∀ w ∈ u_ws "TagWorkshop$Code" fd_C 4, w ∈ tsAll) w h)
def fd_X : u_T := fun k => match k with
  | 0 => ("TagWorkshop", "machine", "LTagWorkshop$TapeMachine;", true)
  | 1 => ("TagWorkshop", "tagSystem", "LTagWorkshop$TagSystem;", true)
  | 2 => ("TagWorkshop", "cyclicSystem", "LTagWorkshop$CyclicSystem;", true)
  | _ => ("TagWorkshop", "code", "LTagWorkshop$Code;", true)
def ft_X : Nat → FieldType := fun k => match k with
  | 0 => .object "TagWorkshop$TapeMachine"
  | 1 => .object "TagWorkshop$TagSystem"
  | 2 => .object "TagWorkshop$CyclicSystem"
  | _ => .object "TagWorkshop$Code"
set_option maxRecDepth 20000 in
theorem fn_X : ∀ a, a < 4 → ∀ b, b < 4 → a ≠ b → (fd_X a).2.1 ≠ (fd_X b).2.1 := by decide +kernel
set_option maxRecDepth 20000 in
theorem ft_X_ok : ∀ k, k < 4 → parseFieldDescriptor (fd_X k).2.2.1 = some (ft_X k) := by decide +kernel
set_option maxRecDepth 20000 in
theorem uw_X {c : Cond} : ∀ w ∈ u_ws "TagWorkshop" fd_X 4, w ∈ c :: tsAll := fun w h => tl ((by decide +kernel : ∀ w ∈ u_ws "TagWorkshop" fd_X 4, w ∈ tsAll) w h)
def fd_R : u_T := fun k => match k with
  | 0 => ("TagWorkshopModel", "told", "[Z", true)
  | 1 => ("TagWorkshopModel", "writes", "[I", true)
  | 2 => ("TagWorkshopModel", "moves", "[I", true)
  | 3 => ("TagWorkshopModel", "nexts", "[I", true)
  | 4 => ("TagWorkshopModel", "state", "I", false)
  | 5 => ("TagWorkshopModel", "symbol", "I", false)
  | 6 => ("TagWorkshopModel", "left", "I", false)
  | 7 => ("TagWorkshopModel", "right", "I", false)
  | 8 => ("TagWorkshopModel", "letters", "I", false)
  | 9 => ("TagWorkshopModel", "made", "Z", false)
  | 10 => ("TagWorkshopModel", "production", "[I", true)
  | 11 => ("TagWorkshopModel", "length", "[I", true)
  | 12 => ("TagWorkshopModel", "halting", "[Z", true)
  | 13 => ("TagWorkshopModel", "word", "[I", true)
  | 14 => ("TagWorkshopModel", "from", "I", false)
  | 15 => ("TagWorkshopModel", "to", "I", false)
  | 16 => ("TagWorkshopModel", "cyclic", "I", false)
  | 17 => ("TagWorkshopModel", "blocks", "[I", true)
  | 18 => ("TagWorkshopModel", "blocksLong", "[I", true)
  | 19 => ("TagWorkshopModel", "stops", "[Z", true)
  | 20 => ("TagWorkshopModel", "row", "[I", true)
  | 21 => ("TagWorkshopModel", "rowFrom", "I", false)
  | 22 => ("TagWorkshopModel", "rowTo", "I", false)
  | 23 => ("TagWorkshopModel", "gone", "I", false)
  | 24 => ("TagWorkshopModel", "turn", "I", false)
  | 25 => ("TagWorkshopModel", "foundState", "I", false)
  | 26 => ("TagWorkshopModel", "foundSymbol", "I", false)
  | 27 => ("TagWorkshopModel", "foundLeft", "I", false)
  | _ => ("TagWorkshopModel", "foundRight", "I", false)
def ft_R : Nat → FieldType := fun k => match k with
  | 0 => .array .boolean
  | 1 => .array .int
  | 2 => .array .int
  | 3 => .array .int
  | 4 => .int
  | 5 => .int
  | 6 => .int
  | 7 => .int
  | 8 => .int
  | 9 => .boolean
  | 10 => .array .int
  | 11 => .array .int
  | 12 => .array .boolean
  | 13 => .array .int
  | 14 => .int
  | 15 => .int
  | 16 => .int
  | 17 => .array .int
  | 18 => .array .int
  | 19 => .array .boolean
  | 20 => .array .int
  | 21 => .int
  | 22 => .int
  | 23 => .int
  | 24 => .int
  | 25 => .int
  | 26 => .int
  | 27 => .int
  | _ => .int
set_option maxRecDepth 20000 in
theorem fn_R : ∀ a, a < 29 → ∀ b, b < 29 → a ≠ b → (fd_R a).2.1 ≠ (fd_R b).2.1 := by decide +kernel
set_option maxRecDepth 20000 in
theorem ft_R_ok : ∀ k, k < 29 → parseFieldDescriptor (fd_R k).2.2.1 = some (ft_R k) := by decide +kernel
set_option maxRecDepth 20000 in
theorem uw_R {c : Cond} : ∀ w ∈ u_ws "TagWorkshopModel" fd_R 29, w ∈ c :: tsAll := fun w h => tl ((by decide +kernel : ∀ w ∈ u_ws "TagWorkshopModel" fd_R 29, w ∈ tsAll) w h)
abbrev vcl : List vw_C := [("TagWorkshop$TapeMachine", fd_M, 7), ("TagWorkshop$TagSystem", fd_T, 8), ("TagWorkshop$CyclicSystem", fd_Y, 2), ("TagWorkshop$Code", fd_C, 4), ("TagWorkshop", fd_X, 4), ("TagWorkshopModel", fd_R, 29)]
set_option maxRecDepth 20000 in
theorem tv_0 : (.selects "TagWorkshop$TapeMachine" yM_hasBothRules yM_hasBothRules : Cond) ∈ tsAll := List.mem_filter.mpr ⟨List.mem_append_left _ (List.mem_of_getElem? (l := k2_sels lw_privs) (i := 0) (by decide +kernel)), by decide +kernel⟩
set_option maxRecDepth 20000 in
theorem tv_1 : (.selects "TagWorkshop$TagSystem" yT_pack yT_pack : Cond) ∈ tsAll := List.mem_filter.mpr ⟨List.mem_append_left _ (List.mem_of_getElem? (l := k2_sels lw_privs) (i := 1) (by decide +kernel)), by decide +kernel⟩
set_option maxRecDepth 20000 in
theorem tv_2 : (.selects "TagWorkshop$TagSystem" yT_unpack yT_unpack : Cond) ∈ tsAll := List.mem_filter.mpr ⟨List.mem_append_left _ (List.mem_of_getElem? (l := k2_sels lw_privs) (i := 2) (by decide +kernel)), by decide +kernel⟩
set_option maxRecDepth 20000 in
theorem tv_3 : (.selects "TagWorkshop" yX_tagFollowsTape yX_tagFollowsTape : Cond) ∈ tsAll := List.mem_filter.mpr ⟨List.mem_append_left _ (List.mem_of_getElem? (l := k2_sels lw_privs) (i := 3) (by decide +kernel)), by decide +kernel⟩
set_option maxRecDepth 20000 in
theorem tv_4 : (.selects "TagWorkshopModel" yR_tapeCan yR_tapeCan : Cond) ∈ tsAll := List.mem_filter.mpr ⟨List.mem_append_left _ (List.mem_of_getElem? (l := k2_sels lw_privs) (i := 4) (by decide +kernel)), by decide +kernel⟩
set_option maxRecDepth 20000 in
theorem tv_5 : (.selects "TagWorkshopModel" yR_goesOn yR_goesOn : Cond) ∈ tsAll := List.mem_filter.mpr ⟨List.mem_append_left _ (List.mem_of_getElem? (l := k2_sels lw_privs) (i := 5) (by decide +kernel)), by decide +kernel⟩
set_option maxRecDepth 20000 in
theorem tv_6 : (.selects "TagWorkshopModel" yR_tapeStep yR_tapeStep : Cond) ∈ tsAll := List.mem_filter.mpr ⟨List.mem_append_left _ (List.mem_of_getElem? (l := k2_sels lw_privs) (i := 6) (by decide +kernel)), by decide +kernel⟩
set_option maxRecDepth 20000 in
theorem tv_7 : (.selects "TagWorkshopModel" yR_greatest yR_greatest : Cond) ∈ tsAll := List.mem_filter.mpr ⟨List.mem_append_left _ (List.mem_of_getElem? (l := k2_sels lw_privs) (i := 7) (by decide +kernel)), by decide +kernel⟩
set_option maxRecDepth 20000 in
theorem tv_8 : (.selects "TagWorkshopModel" yR_bothTold yR_bothTold : Cond) ∈ tsAll := List.mem_filter.mpr ⟨List.mem_append_left _ (List.mem_of_getElem? (l := k2_sels lw_privs) (i := 8) (by decide +kernel)), by decide +kernel⟩
set_option maxRecDepth 20000 in
theorem tv_9 : (.selects "TagWorkshopModel" yR_emptySystem yR_emptySystem : Cond) ∈ tsAll := List.mem_filter.mpr ⟨List.mem_append_left _ (List.mem_of_getElem? (l := k2_sels lw_privs) (i := 9) (by decide +kernel)), by decide +kernel⟩
set_option maxRecDepth 20000 in
theorem tv_10 : (.selects "TagWorkshopModel" yR_toTheRight yR_toTheRight : Cond) ∈ tsAll := List.mem_filter.mpr ⟨List.mem_append_left _ (List.mem_of_getElem? (l := k2_sels lw_privs) (i := 10) (by decide +kernel)), by decide +kernel⟩
set_option maxRecDepth 20000 in
theorem tv_11 : (.selects "TagWorkshopModel" yR_two yR_two : Cond) ∈ tsAll := List.mem_filter.mpr ⟨List.mem_append_left _ (List.mem_of_getElem? (l := k2_sels lw_privs) (i := 11) (by decide +kernel)), by decide +kernel⟩
set_option maxRecDepth 20000 in
theorem tv_12 : (.selects "TagWorkshopModel" yR_add yR_add : Cond) ∈ tsAll := List.mem_filter.mpr ⟨List.mem_append_left _ (List.mem_of_getElem? (l := k2_sels lw_privs) (i := 12) (by decide +kernel)), by decide +kernel⟩
set_option maxRecDepth 20000 in
theorem tv_13 : (.selects "TagWorkshopModel" yR_toTheLeft yR_toTheLeft : Cond) ∈ tsAll := List.mem_filter.mpr ⟨List.mem_append_left _ (List.mem_of_getElem? (l := k2_sels lw_privs) (i := 13) (by decide +kernel)), by decide +kernel⟩
set_option maxRecDepth 20000 in
theorem tv_14 : (.selects "TagWorkshopModel" yR_putCode yR_putCode : Cond) ∈ tsAll := List.mem_filter.mpr ⟨List.mem_append_left _ (List.mem_of_getElem? (l := k2_sels lw_privs) (i := 14) (by decide +kernel)), by decide +kernel⟩
set_option maxRecDepth 20000 in
theorem tv_15 : (.selects "TagWorkshopModel" yR_push yR_push : Cond) ∈ tsAll := List.mem_filter.mpr ⟨List.mem_append_left _ (List.mem_of_getElem? (l := k2_sels lw_privs) (i := 15) (by decide +kernel)), by decide +kernel⟩
set_option maxRecDepth 20000 in
theorem tv_16 : (.selects "TagWorkshopModel" yR_isLetter yR_isLetter : Cond) ∈ tsAll := List.mem_filter.mpr ⟨List.mem_append_left _ (List.mem_of_getElem? (l := k2_sels lw_privs) (i := 16) (by decide +kernel)), by decide +kernel⟩
set_option maxRecDepth 20000 in
theorem tv_17 : (.selects "TagWorkshopModel" yR_tagCan yR_tagCan : Cond) ∈ tsAll := List.mem_filter.mpr ⟨List.mem_append_left _ (List.mem_of_getElem? (l := k2_sels lw_privs) (i := 17) (by decide +kernel)), by decide +kernel⟩
set_option maxRecDepth 20000 in
theorem tv_18 : (.selects "TagWorkshopModel" yR_tagStep yR_tagStep : Cond) ∈ tsAll := List.mem_filter.mpr ⟨List.mem_append_left _ (List.mem_of_getElem? (l := k2_sels lw_privs) (i := 18) (by decide +kernel)), by decide +kernel⟩
set_option maxRecDepth 20000 in
theorem tv_19 : (.selects "TagWorkshopModel" yR_pushBlock yR_pushBlock : Cond) ∈ tsAll := List.mem_filter.mpr ⟨List.mem_append_left _ (List.mem_of_getElem? (l := k2_sels lw_privs) (i := 19) (by decide +kernel)), by decide +kernel⟩
set_option maxRecDepth 20000 in
theorem tv_20 : (.selects "TagWorkshopModel" yR_cyclicCan yR_cyclicCan : Cond) ∈ tsAll := List.mem_filter.mpr ⟨List.mem_append_left _ (List.mem_of_getElem? (l := k2_sels lw_privs) (i := 20) (by decide +kernel)), by decide +kernel⟩
set_option maxRecDepth 20000 in
theorem tv_21 : (.selects "TagWorkshopModel" yR_bits yR_bits : Cond) ∈ tsAll := List.mem_filter.mpr ⟨List.mem_append_left _ (List.mem_of_getElem? (l := k2_sels lw_privs) (i := 21) (by decide +kernel)), by decide +kernel⟩
set_option maxRecDepth 20000 in
theorem tv_22 : (.selects "TagWorkshopModel" yR_cyclicStep yR_cyclicStep : Cond) ∈ tsAll := List.mem_filter.mpr ⟨List.mem_append_left _ (List.mem_of_getElem? (l := k2_sels lw_privs) (i := 22) (by decide +kernel)), by decide +kernel⟩
set_option maxRecDepth 20000 in
theorem tv_23 : (.selects "TagWorkshopModel" yR_isCode yR_isCode : Cond) ∈ tsAll := List.mem_filter.mpr ⟨List.mem_append_left _ (List.mem_of_getElem? (l := k2_sels lw_privs) (i := 23) (by decide +kernel)), by decide +kernel⟩
set_option maxRecDepth 20000 in
theorem tv_24 : (.selects "TagWorkshopModel" yR_pairs yR_pairs : Cond) ∈ tsAll := List.mem_filter.mpr ⟨List.mem_append_left _ (List.mem_of_getElem? (l := k2_sels lw_privs) (i := 24) (by decide +kernel)), by decide +kernel⟩
set_option maxRecDepth 20000 in
theorem tv_25 : (.selects "TagWorkshopModel" yR_agrees yR_agrees : Cond) ∈ tsAll := List.mem_filter.mpr ⟨List.mem_append_left _ (List.mem_of_getElem? (l := k2_sels lw_privs) (i := 25) (by decide +kernel)), by decide +kernel⟩
set_option maxRecDepth 20000 in
theorem tw_1 : (.initialized "TagWorkshop" : Cond) ∈ tsAll := List.mem_filter.mpr ⟨List.mem_append_right _ (List.mem_of_getElem? (l := tables_1) (i := 1) (by decide +kernel)), by decide +kernel⟩
set_option maxRecDepth 20000 in
theorem tw_2 : (.initialized "TagWorkshop$Machine" : Cond) ∈ tsAll := List.mem_filter.mpr ⟨List.mem_append_right _ (List.mem_of_getElem? (l := tables_1) (i := 2) (by decide +kernel)), by decide +kernel⟩
set_option maxRecDepth 20000 in
theorem tw_3 : (.initialized "TagWorkshop$TapeMachine" : Cond) ∈ tsAll := List.mem_filter.mpr ⟨List.mem_append_right _ (List.mem_of_getElem? (l := tables_1) (i := 3) (by decide +kernel)), by decide +kernel⟩
set_option maxRecDepth 20000 in
theorem tw_4 : (.initialized "TagWorkshop$TagSystem" : Cond) ∈ tsAll := List.mem_filter.mpr ⟨List.mem_append_right _ (List.mem_of_getElem? (l := tables_1) (i := 4) (by decide +kernel)), by decide +kernel⟩
set_option maxRecDepth 20000 in
theorem tw_5 : (.initialized "TagWorkshop$CyclicSystem" : Cond) ∈ tsAll := List.mem_filter.mpr ⟨List.mem_append_right _ (List.mem_of_getElem? (l := tables_1) (i := 5) (by decide +kernel)), by decide +kernel⟩
set_option maxRecDepth 20000 in
theorem tw_6 : (.initialized "TagWorkshop$Code" : Cond) ∈ tsAll := List.mem_filter.mpr ⟨List.mem_append_right _ (List.mem_of_getElem? (l := tables_1) (i := 6) (by decide +kernel)), by decide +kernel⟩
set_option maxRecDepth 20000 in
theorem tw_7 : (.initialized "TagWorkshopModel" : Cond) ∈ tsAll := List.mem_filter.mpr ⟨List.mem_append_right _ (List.mem_of_getElem? (l := tables_1) (i := 7) (by decide +kernel)), by decide +kernel⟩
set_option maxRecDepth 20000 in
theorem tw_8 : (.initialized "TagWorkshop$TagMaker" : Cond) ∈ tsAll := List.mem_filter.mpr ⟨List.mem_append_right _ (List.mem_of_getElem? (l := tables_1) (i := 8) (by decide +kernel)), by decide +kernel⟩
set_option maxRecDepth 20000 in
theorem tw_9 : (.initialized "java/lang/Math" : Cond) ∈ tsAll := List.mem_filter.mpr ⟨List.mem_append_right _ (List.mem_of_getElem? (l := tables_1) (i := 9) (by decide +kernel)), by decide +kernel⟩
set_option maxRecDepth 20000 in
theorem tw_10 : (.initialized "java/lang/System" : Cond) ∈ tsAll := List.mem_filter.mpr ⟨List.mem_append_right _ (List.mem_of_getElem? (l := tables_1) (i := 10) (by decide +kernel)), by decide +kernel⟩
set_option maxRecDepth 20000 in
theorem tw_28 : (.fieldLink "TagWorkshop$TapeMachine" 11 "TagWorkshop$TapeMachine" "writes" "[I" : Cond) ∈ tsAll := List.mem_filter.mpr ⟨List.mem_append_right _ (List.mem_of_getElem? (l := tables_1) (i := 28) (by decide +kernel)), by decide +kernel⟩
set_option maxRecDepth 20000 in
theorem tw_29 : (.fieldLink "TagWorkshop$TapeMachine" 15 "TagWorkshop$TapeMachine" "moves" "[I" : Cond) ∈ tsAll := List.mem_filter.mpr ⟨List.mem_append_right _ (List.mem_of_getElem? (l := tables_1) (i := 29) (by decide +kernel)), by decide +kernel⟩
set_option maxRecDepth 20000 in
theorem tw_30 : (.fieldLink "TagWorkshop$TapeMachine" 18 "TagWorkshop$TapeMachine" "nexts" "[I" : Cond) ∈ tsAll := List.mem_filter.mpr ⟨List.mem_append_right _ (List.mem_of_getElem? (l := tables_1) (i := 30) (by decide +kernel)), by decide +kernel⟩
set_option maxRecDepth 20000 in
theorem tw_31 : (.fieldLink "TagWorkshop$TapeMachine" 21 "TagWorkshop$TapeMachine" "state" "I" : Cond) ∈ tsAll := List.mem_filter.mpr ⟨List.mem_append_right _ (List.mem_of_getElem? (l := tables_1) (i := 31) (by decide +kernel)), by decide +kernel⟩
set_option maxRecDepth 20000 in
theorem tw_32 : (.fieldLink "TagWorkshop$Code" 22 "TagWorkshop$TapeMachine" "state" "I" : Cond) ∈ tsAll := List.mem_filter.mpr ⟨List.mem_append_right _ (List.mem_of_getElem? (l := tables_1) (i := 32) (by decide +kernel)), by decide +kernel⟩
set_option maxRecDepth 20000 in
theorem tw_33 : (.fieldLink "TagWorkshop" 113 "TagWorkshop$TapeMachine" "state" "I" : Cond) ∈ tsAll := List.mem_filter.mpr ⟨List.mem_append_right _ (List.mem_of_getElem? (l := tables_1) (i := 33) (by decide +kernel)), by decide +kernel⟩
set_option maxRecDepth 20000 in
theorem tw_34 : (.fieldLink "TagWorkshop$TapeMachine" 25 "TagWorkshop$TapeMachine" "symbol" "I" : Cond) ∈ tsAll := List.mem_filter.mpr ⟨List.mem_append_right _ (List.mem_of_getElem? (l := tables_1) (i := 34) (by decide +kernel)), by decide +kernel⟩
set_option maxRecDepth 20000 in
theorem tw_35 : (.fieldLink "TagWorkshop$Code" 25 "TagWorkshop$TapeMachine" "symbol" "I" : Cond) ∈ tsAll := List.mem_filter.mpr ⟨List.mem_append_right _ (List.mem_of_getElem? (l := tables_1) (i := 35) (by decide +kernel)), by decide +kernel⟩
set_option maxRecDepth 20000 in
theorem tw_36 : (.fieldLink "TagWorkshop" 116 "TagWorkshop$TapeMachine" "symbol" "I" : Cond) ∈ tsAll := List.mem_filter.mpr ⟨List.mem_append_right _ (List.mem_of_getElem? (l := tables_1) (i := 36) (by decide +kernel)), by decide +kernel⟩
set_option maxRecDepth 20000 in
theorem tw_37 : (.fieldLink "TagWorkshop$TapeMachine" 28 "TagWorkshop$TapeMachine" "left" "I" : Cond) ∈ tsAll := List.mem_filter.mpr ⟨List.mem_append_right _ (List.mem_of_getElem? (l := tables_1) (i := 37) (by decide +kernel)), by decide +kernel⟩
set_option maxRecDepth 20000 in
theorem tw_38 : (.fieldLink "TagWorkshop$Code" 41 "TagWorkshop$TapeMachine" "left" "I" : Cond) ∈ tsAll := List.mem_filter.mpr ⟨List.mem_append_right _ (List.mem_of_getElem? (l := tables_1) (i := 38) (by decide +kernel)), by decide +kernel⟩
set_option maxRecDepth 20000 in
theorem tw_39 : (.fieldLink "TagWorkshop" 119 "TagWorkshop$TapeMachine" "left" "I" : Cond) ∈ tsAll := List.mem_filter.mpr ⟨List.mem_append_right _ (List.mem_of_getElem? (l := tables_1) (i := 39) (by decide +kernel)), by decide +kernel⟩
set_option maxRecDepth 20000 in
theorem tw_40 : (.fieldLink "TagWorkshop$TapeMachine" 31 "TagWorkshop$TapeMachine" "right" "I" : Cond) ∈ tsAll := List.mem_filter.mpr ⟨List.mem_append_right _ (List.mem_of_getElem? (l := tables_1) (i := 40) (by decide +kernel)), by decide +kernel⟩
set_option maxRecDepth 20000 in
theorem tw_41 : (.fieldLink "TagWorkshop$Code" 42 "TagWorkshop$TapeMachine" "right" "I" : Cond) ∈ tsAll := List.mem_filter.mpr ⟨List.mem_append_right _ (List.mem_of_getElem? (l := tables_1) (i := 41) (by decide +kernel)), by decide +kernel⟩
set_option maxRecDepth 20000 in
theorem tw_42 : (.fieldLink "TagWorkshop" 122 "TagWorkshop$TapeMachine" "right" "I" : Cond) ∈ tsAll := List.mem_filter.mpr ⟨List.mem_append_right _ (List.mem_of_getElem? (l := tables_1) (i := 42) (by decide +kernel)), by decide +kernel⟩
set_option maxRecDepth 20000 in
theorem tw_65 : (.fieldLink "TagWorkshop$TagSystem" 11 "TagWorkshop$TagSystem" "packs" "[J" : Cond) ∈ tsAll := List.mem_filter.mpr ⟨List.mem_append_right _ (List.mem_of_getElem? (l := tables_1) (i := 65) (by decide +kernel)), by decide +kernel⟩
set_option maxRecDepth 20000 in
theorem tw_66 : (.fieldLink "TagWorkshop$TagSystem" 15 "TagWorkshop$TagSystem" "sizes" "[I" : Cond) ∈ tsAll := List.mem_filter.mpr ⟨List.mem_append_right _ (List.mem_of_getElem? (l := tables_1) (i := 66) (by decide +kernel)), by decide +kernel⟩
set_option maxRecDepth 20000 in
theorem tw_67 : (.fieldLink "TagWorkshop$TagSystem" 19 "TagWorkshop$TagSystem" "halting" "[Z" : Cond) ∈ tsAll := List.mem_filter.mpr ⟨List.mem_append_right _ (List.mem_of_getElem? (l := tables_1) (i := 67) (by decide +kernel)), by decide +kernel⟩
set_option maxRecDepth 20000 in
theorem tw_68 : (.fieldLink "TagWorkshop$TagSystem" 23 "TagWorkshop$TagSystem" "word" "[I" : Cond) ∈ tsAll := List.mem_filter.mpr ⟨List.mem_append_right _ (List.mem_of_getElem? (l := tables_1) (i := 68) (by decide +kernel)), by decide +kernel⟩
set_option maxRecDepth 20000 in
theorem tw_69 : (.fieldLink "TagWorkshop$TagSystem" 26 "TagWorkshop$TagSystem" "front" "I" : Cond) ∈ tsAll := List.mem_filter.mpr ⟨List.mem_append_right _ (List.mem_of_getElem? (l := tables_1) (i := 69) (by decide +kernel)), by decide +kernel⟩
set_option maxRecDepth 20000 in
theorem tw_70 : (.fieldLink "TagWorkshop$TagSystem" 30 "TagWorkshop$TagSystem" "size" "I" : Cond) ∈ tsAll := List.mem_filter.mpr ⟨List.mem_append_right _ (List.mem_of_getElem? (l := tables_1) (i := 70) (by decide +kernel)), by decide +kernel⟩
set_option maxRecDepth 20000 in
theorem tw_71 : (.fieldLink "TagWorkshop$Code" 58 "TagWorkshop$TagSystem" "size" "I" : Cond) ∈ tsAll := List.mem_filter.mpr ⟨List.mem_append_right _ (List.mem_of_getElem? (l := tables_1) (i := 71) (by decide +kernel)), by decide +kernel⟩
set_option maxRecDepth 20000 in
theorem tw_72 : (.fieldLink "TagWorkshop$CyclicSystem" 33 "TagWorkshop$TagSystem" "size" "I" : Cond) ∈ tsAll := List.mem_filter.mpr ⟨List.mem_append_right _ (List.mem_of_getElem? (l := tables_1) (i := 72) (by decide +kernel)), by decide +kernel⟩
set_option maxRecDepth 20000 in
theorem tw_73 : (.fieldLink "TagWorkshop" 85 "TagWorkshop$TagSystem" "size" "I" : Cond) ∈ tsAll := List.mem_filter.mpr ⟨List.mem_append_right _ (List.mem_of_getElem? (l := tables_1) (i := 73) (by decide +kernel)), by decide +kernel⟩
set_option maxRecDepth 20000 in
theorem tw_74 : (.fieldLink "TagWorkshop$TagSystem" 33 "TagWorkshop$TagSystem" "letters" "I" : Cond) ∈ tsAll := List.mem_filter.mpr ⟨List.mem_append_right _ (List.mem_of_getElem? (l := tables_1) (i := 74) (by decide +kernel)), by decide +kernel⟩
set_option maxRecDepth 20000 in
theorem tw_75 : (.fieldLink "TagWorkshop$CyclicSystem" 30 "TagWorkshop$TagSystem" "letters" "I" : Cond) ∈ tsAll := List.mem_filter.mpr ⟨List.mem_append_right _ (List.mem_of_getElem? (l := tables_1) (i := 75) (by decide +kernel)), by decide +kernel⟩
set_option maxRecDepth 20000 in
theorem tw_76 : (.fieldLink "TagWorkshop" 61 "TagWorkshop$TagSystem" "letters" "I" : Cond) ∈ tsAll := List.mem_filter.mpr ⟨List.mem_append_right _ (List.mem_of_getElem? (l := tables_1) (i := 76) (by decide +kernel)), by decide +kernel⟩
set_option maxRecDepth 20000 in
theorem tw_77 : (.fieldLink "TagWorkshop$TagSystem" 36 "TagWorkshop$TagSystem" "states" "I" : Cond) ∈ tsAll := List.mem_filter.mpr ⟨List.mem_append_right _ (List.mem_of_getElem? (l := tables_1) (i := 77) (by decide +kernel)), by decide +kernel⟩
set_option maxRecDepth 20000 in
theorem tw_78 : (.fieldLink "TagWorkshop$Code" 51 "TagWorkshop$TagSystem" "states" "I" : Cond) ∈ tsAll := List.mem_filter.mpr ⟨List.mem_append_right _ (List.mem_of_getElem? (l := tables_1) (i := 78) (by decide +kernel)), by decide +kernel⟩
set_option maxRecDepth 20000 in
theorem tw_79 : (.fieldLink "TagWorkshop" 163 "TagWorkshop$TagSystem" "states" "I" : Cond) ∈ tsAll := List.mem_filter.mpr ⟨List.mem_append_right _ (List.mem_of_getElem? (l := tables_1) (i := 79) (by decide +kernel)), by decide +kernel⟩
set_option maxRecDepth 20000 in
theorem tw_107 : (.fieldLink "TagWorkshop$CyclicSystem" 12 "TagWorkshop$CyclicSystem" "blocks" "LTagWorkshop$TagSystem;" : Cond) ∈ tsAll := List.mem_filter.mpr ⟨List.mem_append_right _ (List.mem_of_getElem? (l := tables_1) (i := 107) (by decide +kernel)), by decide +kernel⟩
set_option maxRecDepth 20000 in
theorem tw_108 : (.fieldLink "TagWorkshop$CyclicSystem" 18 "TagWorkshop$CyclicSystem" "turn" "I" : Cond) ∈ tsAll := List.mem_filter.mpr ⟨List.mem_append_right _ (List.mem_of_getElem? (l := tables_1) (i := 108) (by decide +kernel)), by decide +kernel⟩
set_option maxRecDepth 20000 in
theorem tw_109 : (.fieldLink "TagWorkshop" 133 "TagWorkshop$CyclicSystem" "turn" "I" : Cond) ∈ tsAll := List.mem_filter.mpr ⟨List.mem_append_right _ (List.mem_of_getElem? (l := tables_1) (i := 109) (by decide +kernel)), by decide +kernel⟩
set_option maxRecDepth 20000 in
theorem tw_121 : (.fieldLink "TagWorkshop$Code" 7 "TagWorkshop$Code" "state" "I" : Cond) ∈ tsAll := List.mem_filter.mpr ⟨List.mem_append_right _ (List.mem_of_getElem? (l := tables_1) (i := 121) (by decide +kernel)), by decide +kernel⟩
set_option maxRecDepth 20000 in
theorem tw_122 : (.fieldLink "TagWorkshop" 146 "TagWorkshop$Code" "state" "I" : Cond) ∈ tsAll := List.mem_filter.mpr ⟨List.mem_append_right _ (List.mem_of_getElem? (l := tables_1) (i := 122) (by decide +kernel)), by decide +kernel⟩
set_option maxRecDepth 20000 in
theorem tw_123 : (.fieldLink "TagWorkshop$Code" 13 "TagWorkshop$Code" "symbol" "I" : Cond) ∈ tsAll := List.mem_filter.mpr ⟨List.mem_append_right _ (List.mem_of_getElem? (l := tables_1) (i := 123) (by decide +kernel)), by decide +kernel⟩
set_option maxRecDepth 20000 in
theorem tw_124 : (.fieldLink "TagWorkshop" 147 "TagWorkshop$Code" "symbol" "I" : Cond) ∈ tsAll := List.mem_filter.mpr ⟨List.mem_append_right _ (List.mem_of_getElem? (l := tables_1) (i := 124) (by decide +kernel)), by decide +kernel⟩
set_option maxRecDepth 20000 in
theorem tw_125 : (.fieldLink "TagWorkshop$Code" 16 "TagWorkshop$Code" "left" "I" : Cond) ∈ tsAll := List.mem_filter.mpr ⟨List.mem_append_right _ (List.mem_of_getElem? (l := tables_1) (i := 125) (by decide +kernel)), by decide +kernel⟩
set_option maxRecDepth 20000 in
theorem tw_126 : (.fieldLink "TagWorkshop" 148 "TagWorkshop$Code" "left" "I" : Cond) ∈ tsAll := List.mem_filter.mpr ⟨List.mem_append_right _ (List.mem_of_getElem? (l := tables_1) (i := 126) (by decide +kernel)), by decide +kernel⟩
set_option maxRecDepth 20000 in
theorem tw_127 : (.fieldLink "TagWorkshop$Code" 19 "TagWorkshop$Code" "right" "I" : Cond) ∈ tsAll := List.mem_filter.mpr ⟨List.mem_append_right _ (List.mem_of_getElem? (l := tables_1) (i := 127) (by decide +kernel)), by decide +kernel⟩
set_option maxRecDepth 20000 in
theorem tw_128 : (.fieldLink "TagWorkshop" 149 "TagWorkshop$Code" "right" "I" : Cond) ∈ tsAll := List.mem_filter.mpr ⟨List.mem_append_right _ (List.mem_of_getElem? (l := tables_1) (i := 128) (by decide +kernel)), by decide +kernel⟩
set_option maxRecDepth 20000 in
theorem tw_138 : (.fieldLink "TagWorkshop" 10 "TagWorkshop" "machine" "LTagWorkshop$TapeMachine;" : Cond) ∈ tsAll := List.mem_filter.mpr ⟨List.mem_append_right _ (List.mem_of_getElem? (l := tables_1) (i := 138) (by decide +kernel)), by decide +kernel⟩
set_option maxRecDepth 20000 in
theorem tw_139 : (.fieldLink "TagWorkshop" 19 "TagWorkshop" "tagSystem" "LTagWorkshop$TagSystem;" : Cond) ∈ tsAll := List.mem_filter.mpr ⟨List.mem_append_right _ (List.mem_of_getElem? (l := tables_1) (i := 139) (by decide +kernel)), by decide +kernel⟩
set_option maxRecDepth 20000 in
theorem tw_140 : (.fieldLink "TagWorkshop" 26 "TagWorkshop" "cyclicSystem" "LTagWorkshop$CyclicSystem;" : Cond) ∈ tsAll := List.mem_filter.mpr ⟨List.mem_append_right _ (List.mem_of_getElem? (l := tables_1) (i := 140) (by decide +kernel)), by decide +kernel⟩
set_option maxRecDepth 20000 in
theorem tw_141 : (.fieldLink "TagWorkshop" 33 "TagWorkshop" "code" "LTagWorkshop$Code;" : Cond) ∈ tsAll := List.mem_filter.mpr ⟨List.mem_append_right _ (List.mem_of_getElem? (l := tables_1) (i := 141) (by decide +kernel)), by decide +kernel⟩
set_option maxRecDepth 20000 in
theorem tw_155 : (.methodLink "TagWorkshop" 37 yM_setRule : Cond) ∈ tsAll := List.mem_filter.mpr ⟨List.mem_append_right _ (List.mem_of_getElem? (l := tables_1) (i := 155) (by decide +kernel)), by decide +kernel⟩
set_option maxRecDepth 20000 in
theorem tw_156 : (.instanceMethod yM_setRule : Cond) ∈ tsAll := List.mem_filter.mpr ⟨List.mem_append_right _ (List.mem_of_getElem? (l := tables_1) (i := 156) (by decide +kernel)), by decide +kernel⟩
set_option maxRecDepth 20000 in
theorem tw_157 : (.selects "TagWorkshop$TapeMachine" yM_setRule yM_setRule : Cond) ∈ tsAll := List.mem_filter.mpr ⟨List.mem_append_right _ (List.mem_of_getElem? (l := tables_1) (i := 157) (by decide +kernel)), by decide +kernel⟩
set_option maxRecDepth 20000 in
theorem tw_158 : (.code yM_setRule prog_7_method_7_code 7 (Option.some .boolean) : Cond) ∈ tsAll := List.mem_filter.mpr ⟨List.mem_append_right _ (List.mem_of_getElem? (l := tables_1) (i := 158) (by decide +kernel)), by decide +kernel⟩
set_option maxRecDepth 20000 in
theorem tw_159 : (.methodLink "TagWorkshop$TapeMachine" 34 yM_isState : Cond) ∈ tsAll := List.mem_filter.mpr ⟨List.mem_append_right _ (List.mem_of_getElem? (l := tables_1) (i := 159) (by decide +kernel)), by decide +kernel⟩
set_option maxRecDepth 20000 in
theorem tw_160 : (.static yM_isState : Cond) ∈ tsAll := List.mem_filter.mpr ⟨List.mem_append_right _ (List.mem_of_getElem? (l := tables_1) (i := 160) (by decide +kernel)), by decide +kernel⟩
set_option maxRecDepth 20000 in
theorem tw_161 : (.code yM_isState prog_7_method_2_code 1 (Option.some .boolean) : Cond) ∈ tsAll := List.mem_filter.mpr ⟨List.mem_append_right _ (List.mem_of_getElem? (l := tables_1) (i := 161) (by decide +kernel)), by decide +kernel⟩
set_option maxRecDepth 20000 in
theorem tw_162 : (.methodLink "TagWorkshop$TapeMachine" 38 yM_isBit : Cond) ∈ tsAll := List.mem_filter.mpr ⟨List.mem_append_right _ (List.mem_of_getElem? (l := tables_1) (i := 162) (by decide +kernel)), by decide +kernel⟩
set_option maxRecDepth 20000 in
theorem tw_163 : (.static yM_isBit : Cond) ∈ tsAll := List.mem_filter.mpr ⟨List.mem_append_right _ (List.mem_of_getElem? (l := tables_1) (i := 163) (by decide +kernel)), by decide +kernel⟩
set_option maxRecDepth 20000 in
theorem tw_164 : (.code yM_isBit prog_7_method_3_code 1 (Option.some .boolean) : Cond) ∈ tsAll := List.mem_filter.mpr ⟨List.mem_append_right _ (List.mem_of_getElem? (l := tables_1) (i := 164) (by decide +kernel)), by decide +kernel⟩
set_option maxRecDepth 20000 in
theorem tw_165 : (.methodLink "TagWorkshop$TapeMachine" 44 yM_place : Cond) ∈ tsAll := List.mem_filter.mpr ⟨List.mem_append_right _ (List.mem_of_getElem? (l := tables_1) (i := 165) (by decide +kernel)), by decide +kernel⟩
set_option maxRecDepth 20000 in
theorem tw_166 : (.static yM_place : Cond) ∈ tsAll := List.mem_filter.mpr ⟨List.mem_append_right _ (List.mem_of_getElem? (l := tables_1) (i := 166) (by decide +kernel)), by decide +kernel⟩
set_option maxRecDepth 20000 in
theorem tw_167 : (.code yM_place prog_7_method_6_code 2 (Option.some .int) : Cond) ∈ tsAll := List.mem_filter.mpr ⟨List.mem_append_right _ (List.mem_of_getElem? (l := tables_1) (i := 167) (by decide +kernel)), by decide +kernel⟩
set_option maxRecDepth 20000 in
theorem tw_172 : (.methodLink "TagWorkshop" 41 yM_setConfiguration : Cond) ∈ tsAll := List.mem_filter.mpr ⟨List.mem_append_right _ (List.mem_of_getElem? (l := tables_1) (i := 172) (by decide +kernel)), by decide +kernel⟩
set_option maxRecDepth 20000 in
theorem tw_173 : (.instanceMethod yM_setConfiguration : Cond) ∈ tsAll := List.mem_filter.mpr ⟨List.mem_append_right _ (List.mem_of_getElem? (l := tables_1) (i := 173) (by decide +kernel)), by decide +kernel⟩
set_option maxRecDepth 20000 in
theorem tw_174 : (.selects "TagWorkshop$TapeMachine" yM_setConfiguration yM_setConfiguration : Cond) ∈ tsAll := List.mem_filter.mpr ⟨List.mem_append_right _ (List.mem_of_getElem? (l := tables_1) (i := 174) (by decide +kernel)), by decide +kernel⟩
set_option maxRecDepth 20000 in
theorem tw_175 : (.code yM_setConfiguration prog_7_method_8_code 5 (Option.some .boolean) : Cond) ∈ tsAll := List.mem_filter.mpr ⟨List.mem_append_right _ (List.mem_of_getElem? (l := tables_1) (i := 175) (by decide +kernel)), by decide +kernel⟩
set_option maxRecDepth 20000 in
theorem tw_176 : (.methodLink "TagWorkshop$TapeMachine" 48 yM_isConfiguration : Cond) ∈ tsAll := List.mem_filter.mpr ⟨List.mem_append_right _ (List.mem_of_getElem? (l := tables_1) (i := 176) (by decide +kernel)), by decide +kernel⟩
set_option maxRecDepth 20000 in
theorem tw_177 : (.static yM_isConfiguration : Cond) ∈ tsAll := List.mem_filter.mpr ⟨List.mem_append_right _ (List.mem_of_getElem? (l := tables_1) (i := 177) (by decide +kernel)), by decide +kernel⟩
set_option maxRecDepth 20000 in
theorem tw_178 : (.code yM_isConfiguration prog_7_method_5_code 4 (Option.some .boolean) : Cond) ∈ tsAll := List.mem_filter.mpr ⟨List.mem_append_right _ (List.mem_of_getElem? (l := tables_1) (i := 178) (by decide +kernel)), by decide +kernel⟩
set_option maxRecDepth 20000 in
theorem tw_179 : (.methodLink "TagWorkshop$TapeMachine" 41 yM_isCells : Cond) ∈ tsAll := List.mem_filter.mpr ⟨List.mem_append_right _ (List.mem_of_getElem? (l := tables_1) (i := 179) (by decide +kernel)), by decide +kernel⟩
set_option maxRecDepth 20000 in
theorem tw_180 : (.static yM_isCells : Cond) ∈ tsAll := List.mem_filter.mpr ⟨List.mem_append_right _ (List.mem_of_getElem? (l := tables_1) (i := 180) (by decide +kernel)), by decide +kernel⟩
set_option maxRecDepth 20000 in
theorem tw_181 : (.code yM_isCells prog_7_method_4_code 1 (Option.some .boolean) : Cond) ∈ tsAll := List.mem_filter.mpr ⟨List.mem_append_right _ (List.mem_of_getElem? (l := tables_1) (i := 181) (by decide +kernel)), by decide +kernel⟩
set_option maxRecDepth 20000 in
theorem tw_186 : (.methodLink "TagWorkshop" 45 yM_hasAllRules : Cond) ∈ tsAll := List.mem_filter.mpr ⟨List.mem_append_right _ (List.mem_of_getElem? (l := tables_1) (i := 186) (by decide +kernel)), by decide +kernel⟩
set_option maxRecDepth 20000 in
theorem tw_187 : (.instanceMethod yM_hasAllRules : Cond) ∈ tsAll := List.mem_filter.mpr ⟨List.mem_append_right _ (List.mem_of_getElem? (l := tables_1) (i := 187) (by decide +kernel)), by decide +kernel⟩
set_option maxRecDepth 20000 in
theorem tw_188 : (.selects "TagWorkshop$TapeMachine" yM_hasAllRules yM_hasAllRules : Cond) ∈ tsAll := List.mem_filter.mpr ⟨List.mem_append_right _ (List.mem_of_getElem? (l := tables_1) (i := 188) (by decide +kernel)), by decide +kernel⟩
set_option maxRecDepth 20000 in
theorem tw_189 : (.code yM_hasAllRules prog_7_method_16_code 2 (Option.some .boolean) : Cond) ∈ tsAll := List.mem_filter.mpr ⟨List.mem_append_right _ (List.mem_of_getElem? (l := tables_1) (i := 189) (by decide +kernel)), by decide +kernel⟩
set_option maxRecDepth 20000 in
theorem tw_190 : (.methodLink "TagWorkshop$TapeMachine" 62 yM_hasBothRules : Cond) ∈ tsAll := List.mem_filter.mpr ⟨List.mem_append_right _ (List.mem_of_getElem? (l := tables_1) (i := 190) (by decide +kernel)), by decide +kernel⟩
set_option maxRecDepth 20000 in
theorem tw_192 : (.instanceMethod yM_hasBothRules : Cond) ∈ tsAll := List.mem_filter.mpr ⟨List.mem_append_right _ (List.mem_of_getElem? (l := tables_1) (i := 192) (by decide +kernel)), by decide +kernel⟩
set_option maxRecDepth 20000 in
theorem tw_193 : (.code yM_hasBothRules prog_7_method_17_code 2 (Option.some .boolean) : Cond) ∈ tsAll := List.mem_filter.mpr ⟨List.mem_append_right _ (List.mem_of_getElem? (l := tables_1) (i := 193) (by decide +kernel)), by decide +kernel⟩
set_option maxRecDepth 20000 in
theorem tw_194 : (.methodLink "TagWorkshop" 49 yG_make : Cond) ∈ tsAll := List.mem_filter.mpr ⟨List.mem_append_right _ (List.mem_of_getElem? (l := tables_1) (i := 194) (by decide +kernel)), by decide +kernel⟩
set_option maxRecDepth 20000 in
theorem tw_195 : (.static yG_make : Cond) ∈ tsAll := List.mem_filter.mpr ⟨List.mem_append_right _ (List.mem_of_getElem? (l := tables_1) (i := 195) (by decide +kernel)), by decide +kernel⟩
set_option maxRecDepth 20000 in
theorem tw_196 : (.code yG_make prog_5_method_6_code 4 (Option.none : Option Jvm.ClassFile.FieldType) : Cond) ∈ tsAll := List.mem_filter.mpr ⟨List.mem_append_right _ (List.mem_of_getElem? (l := tables_1) (i := 196) (by decide +kernel)), by decide +kernel⟩
set_option maxRecDepth 20000 in
theorem tw_197 : (.methodLink "TagWorkshop$TagMaker" 13 yM_greatestState : Cond) ∈ tsAll := List.mem_filter.mpr ⟨List.mem_append_right _ (List.mem_of_getElem? (l := tables_1) (i := 197) (by decide +kernel)), by decide +kernel⟩
set_option maxRecDepth 20000 in
theorem tw_198 : (.instanceMethod yM_greatestState : Cond) ∈ tsAll := List.mem_filter.mpr ⟨List.mem_append_right _ (List.mem_of_getElem? (l := tables_1) (i := 198) (by decide +kernel)), by decide +kernel⟩
set_option maxRecDepth 20000 in
theorem tw_199 : (.selects "TagWorkshop$TapeMachine" yM_greatestState yM_greatestState : Cond) ∈ tsAll := List.mem_filter.mpr ⟨List.mem_append_right _ (List.mem_of_getElem? (l := tables_1) (i := 199) (by decide +kernel)), by decide +kernel⟩
set_option maxRecDepth 20000 in
theorem tw_200 : (.code yM_greatestState prog_7_method_18_code 3 (Option.some .int) : Cond) ∈ tsAll := List.mem_filter.mpr ⟨List.mem_append_right _ (List.mem_of_getElem? (l := tables_1) (i := 200) (by decide +kernel)), by decide +kernel⟩
set_option maxRecDepth 20000 in
theorem tw_201 : (.methodLink "TagWorkshop$TapeMachine" 65 Lib.Math.max.name : Cond) ∈ tsAll := List.mem_filter.mpr ⟨List.mem_append_right _ (List.mem_of_getElem? (l := tables_1) (i := 201) (by decide +kernel)), by decide +kernel⟩
set_option maxRecDepth 20000 in
theorem tw_202 : (.static Lib.Math.max.name : Cond) ∈ tsAll := List.mem_filter.mpr ⟨List.mem_append_right _ (List.mem_of_getElem? (l := tables_1) (i := 202) (by decide +kernel)), by decide +kernel⟩
set_option maxRecDepth 20000 in
theorem tw_203 : (.code Lib.Math.max.name prog_10_method_65_code 2 (Option.some .int) : Cond) ∈ tsAll := List.mem_filter.mpr ⟨List.mem_append_right _ (List.mem_of_getElem? (l := tables_1) (i := 203) (by decide +kernel)), by decide +kernel⟩
set_option maxRecDepth 20000 in
theorem tw_204 : (.methodLink "TagWorkshop$TagMaker" 9 yG_base : Cond) ∈ tsAll := List.mem_filter.mpr ⟨List.mem_append_right _ (List.mem_of_getElem? (l := tables_1) (i := 204) (by decide +kernel)), by decide +kernel⟩
set_option maxRecDepth 20000 in
theorem tw_205 : (.static yG_base : Cond) ∈ tsAll := List.mem_filter.mpr ⟨List.mem_append_right _ (List.mem_of_getElem? (l := tables_1) (i := 205) (by decide +kernel)), by decide +kernel⟩
set_option maxRecDepth 20000 in
theorem tw_206 : (.code yG_base prog_5_method_2_code 2 (Option.some .int) : Cond) ∈ tsAll := List.mem_filter.mpr ⟨List.mem_append_right _ (List.mem_of_getElem? (l := tables_1) (i := 206) (by decide +kernel)), by decide +kernel⟩
set_option maxRecDepth 20000 in
theorem tw_207 : (.methodLink "TagWorkshop$TagMaker" 19 yT_begin : Cond) ∈ tsAll := List.mem_filter.mpr ⟨List.mem_append_right _ (List.mem_of_getElem? (l := tables_1) (i := 207) (by decide +kernel)), by decide +kernel⟩
set_option maxRecDepth 20000 in
theorem tw_208 : (.instanceMethod yT_begin : Cond) ∈ tsAll := List.mem_filter.mpr ⟨List.mem_append_right _ (List.mem_of_getElem? (l := tables_1) (i := 208) (by decide +kernel)), by decide +kernel⟩
set_option maxRecDepth 20000 in
theorem tw_209 : (.selects "TagWorkshop$TagSystem" yT_begin yT_begin : Cond) ∈ tsAll := List.mem_filter.mpr ⟨List.mem_append_right _ (List.mem_of_getElem? (l := tables_1) (i := 209) (by decide +kernel)), by decide +kernel⟩
set_option maxRecDepth 20000 in
theorem tw_210 : (.code yT_begin prog_6_method_2_code 4 (Option.none : Option Jvm.ClassFile.FieldType) : Cond) ∈ tsAll := List.mem_filter.mpr ⟨List.mem_append_right _ (List.mem_of_getElem? (l := tables_1) (i := 210) (by decide +kernel)), by decide +kernel⟩
set_option maxRecDepth 20000 in
theorem tw_211 : (.methodLink "TagWorkshop$TagSystem" 39 yT_clearWord : Cond) ∈ tsAll := List.mem_filter.mpr ⟨List.mem_append_right _ (List.mem_of_getElem? (l := tables_1) (i := 211) (by decide +kernel)), by decide +kernel⟩
set_option maxRecDepth 20000 in
theorem tw_212 : (.instanceMethod yT_clearWord : Cond) ∈ tsAll := List.mem_filter.mpr ⟨List.mem_append_right _ (List.mem_of_getElem? (l := tables_1) (i := 212) (by decide +kernel)), by decide +kernel⟩
set_option maxRecDepth 20000 in
theorem tw_213 : (.selects "TagWorkshop$TagSystem" yT_clearWord yT_clearWord : Cond) ∈ tsAll := List.mem_filter.mpr ⟨List.mem_append_right _ (List.mem_of_getElem? (l := tables_1) (i := 213) (by decide +kernel)), by decide +kernel⟩
set_option maxRecDepth 20000 in
theorem tw_214 : (.code yT_clearWord prog_6_method_12_code 1 (Option.none : Option Jvm.ClassFile.FieldType) : Cond) ∈ tsAll := List.mem_filter.mpr ⟨List.mem_append_right _ (List.mem_of_getElem? (l := tables_1) (i := 214) (by decide +kernel)), by decide +kernel⟩
set_option maxRecDepth 20000 in
theorem tw_215 : (.methodLink "TagWorkshop$TagMaker" 25 yG_makeFor : Cond) ∈ tsAll := List.mem_filter.mpr ⟨List.mem_append_right _ (List.mem_of_getElem? (l := tables_1) (i := 215) (by decide +kernel)), by decide +kernel⟩
set_option maxRecDepth 20000 in
theorem tw_216 : (.static yG_makeFor : Cond) ∈ tsAll := List.mem_filter.mpr ⟨List.mem_append_right _ (List.mem_of_getElem? (l := tables_1) (i := 216) (by decide +kernel)), by decide +kernel⟩
set_option maxRecDepth 20000 in
theorem tw_217 : (.code yG_makeFor prog_5_method_7_code 7 (Option.none : Option Jvm.ClassFile.FieldType) : Cond) ∈ tsAll := List.mem_filter.mpr ⟨List.mem_append_right _ (List.mem_of_getElem? (l := tables_1) (i := 217) (by decide +kernel)), by decide +kernel⟩
set_option maxRecDepth 20000 in
theorem tw_218 : (.methodLink "TagWorkshop$TagMaker" 29 yM_hasStep : Cond) ∈ tsAll := List.mem_filter.mpr ⟨List.mem_append_right _ (List.mem_of_getElem? (l := tables_1) (i := 218) (by decide +kernel)), by decide +kernel⟩
set_option maxRecDepth 20000 in
theorem tw_219 : (.instanceMethod yM_hasStep : Cond) ∈ tsAll := List.mem_filter.mpr ⟨List.mem_append_right _ (List.mem_of_getElem? (l := tables_1) (i := 219) (by decide +kernel)), by decide +kernel⟩
set_option maxRecDepth 20000 in
theorem tw_220 : (.selects "TagWorkshop$TapeMachine" yM_hasStep yM_hasStep : Cond) ∈ tsAll := List.mem_filter.mpr ⟨List.mem_append_right _ (List.mem_of_getElem? (l := tables_1) (i := 220) (by decide +kernel)), by decide +kernel⟩
set_option maxRecDepth 20000 in
theorem tw_221 : (.code yM_hasStep prog_7_method_9_code 3 (Option.some .boolean) : Cond) ∈ tsAll := List.mem_filter.mpr ⟨List.mem_append_right _ (List.mem_of_getElem? (l := tables_1) (i := 221) (by decide +kernel)), by decide +kernel⟩
set_option maxRecDepth 20000 in
theorem tw_222 : (.methodLink "TagWorkshop$TagMaker" 33 yT_setHalting : Cond) ∈ tsAll := List.mem_filter.mpr ⟨List.mem_append_right _ (List.mem_of_getElem? (l := tables_1) (i := 222) (by decide +kernel)), by decide +kernel⟩
set_option maxRecDepth 20000 in
theorem tw_223 : (.instanceMethod yT_setHalting : Cond) ∈ tsAll := List.mem_filter.mpr ⟨List.mem_append_right _ (List.mem_of_getElem? (l := tables_1) (i := 223) (by decide +kernel)), by decide +kernel⟩
set_option maxRecDepth 20000 in
theorem tw_224 : (.selects "TagWorkshop$TagSystem" yT_setHalting yT_setHalting : Cond) ∈ tsAll := List.mem_filter.mpr ⟨List.mem_append_right _ (List.mem_of_getElem? (l := tables_1) (i := 224) (by decide +kernel)), by decide +kernel⟩
set_option maxRecDepth 20000 in
theorem tw_225 : (.code yT_setHalting prog_6_method_11_code 3 (Option.some .boolean) : Cond) ∈ tsAll := List.mem_filter.mpr ⟨List.mem_append_right _ (List.mem_of_getElem? (l := tables_1) (i := 225) (by decide +kernel)), by decide +kernel⟩
set_option maxRecDepth 20000 in
theorem tw_226 : (.methodLink "TagWorkshop$TagSystem" 52 yT_hasLetter : Cond) ∈ tsAll := List.mem_filter.mpr ⟨List.mem_append_right _ (List.mem_of_getElem? (l := tables_1) (i := 226) (by decide +kernel)), by decide +kernel⟩
set_option maxRecDepth 20000 in
theorem tw_227 : (.instanceMethod yT_hasLetter : Cond) ∈ tsAll := List.mem_filter.mpr ⟨List.mem_append_right _ (List.mem_of_getElem? (l := tables_1) (i := 227) (by decide +kernel)), by decide +kernel⟩
set_option maxRecDepth 20000 in
theorem tw_228 : (.selects "TagWorkshop$TagSystem" yT_hasLetter yT_hasLetter : Cond) ∈ tsAll := List.mem_filter.mpr ⟨List.mem_append_right _ (List.mem_of_getElem? (l := tables_1) (i := 228) (by decide +kernel)), by decide +kernel⟩
set_option maxRecDepth 20000 in
theorem tw_229 : (.code yT_hasLetter prog_6_method_4_code 2 (Option.some .boolean) : Cond) ∈ tsAll := List.mem_filter.mpr ⟨List.mem_append_right _ (List.mem_of_getElem? (l := tables_1) (i := 229) (by decide +kernel)), by decide +kernel⟩
set_option maxRecDepth 20000 in
theorem tw_230 : (.methodLink "TagWorkshop$TagMaker" 37 yM_nextOf : Cond) ∈ tsAll := List.mem_filter.mpr ⟨List.mem_append_right _ (List.mem_of_getElem? (l := tables_1) (i := 230) (by decide +kernel)), by decide +kernel⟩
set_option maxRecDepth 20000 in
theorem tw_231 : (.instanceMethod yM_nextOf : Cond) ∈ tsAll := List.mem_filter.mpr ⟨List.mem_append_right _ (List.mem_of_getElem? (l := tables_1) (i := 231) (by decide +kernel)), by decide +kernel⟩
set_option maxRecDepth 20000 in
theorem tw_232 : (.selects "TagWorkshop$TapeMachine" yM_nextOf yM_nextOf : Cond) ∈ tsAll := List.mem_filter.mpr ⟨List.mem_append_right _ (List.mem_of_getElem? (l := tables_1) (i := 232) (by decide +kernel)), by decide +kernel⟩
set_option maxRecDepth 20000 in
theorem tw_233 : (.code yM_nextOf prog_7_method_12_code 3 (Option.some .int) : Cond) ∈ tsAll := List.mem_filter.mpr ⟨List.mem_append_right _ (List.mem_of_getElem? (l := tables_1) (i := 233) (by decide +kernel)), by decide +kernel⟩
set_option maxRecDepth 20000 in
theorem tw_234 : (.methodLink "TagWorkshop$TagMaker" 40 yM_moveOf : Cond) ∈ tsAll := List.mem_filter.mpr ⟨List.mem_append_right _ (List.mem_of_getElem? (l := tables_1) (i := 234) (by decide +kernel)), by decide +kernel⟩
set_option maxRecDepth 20000 in
theorem tw_235 : (.instanceMethod yM_moveOf : Cond) ∈ tsAll := List.mem_filter.mpr ⟨List.mem_append_right _ (List.mem_of_getElem? (l := tables_1) (i := 235) (by decide +kernel)), by decide +kernel⟩
set_option maxRecDepth 20000 in
theorem tw_236 : (.selects "TagWorkshop$TapeMachine" yM_moveOf yM_moveOf : Cond) ∈ tsAll := List.mem_filter.mpr ⟨List.mem_append_right _ (List.mem_of_getElem? (l := tables_1) (i := 236) (by decide +kernel)), by decide +kernel⟩
set_option maxRecDepth 20000 in
theorem tw_237 : (.code yM_moveOf prog_7_method_11_code 3 (Option.some .int) : Cond) ∈ tsAll := List.mem_filter.mpr ⟨List.mem_append_right _ (List.mem_of_getElem? (l := tables_1) (i := 237) (by decide +kernel)), by decide +kernel⟩
set_option maxRecDepth 20000 in
theorem tw_238 : (.fieldLink "TagWorkshop$TagMaker" 43 "TagWorkshop$TagMaker" "RIGHT_PAIRS" "[I" : Cond) ∈ tsAll := List.mem_filter.mpr ⟨List.mem_append_right _ (List.mem_of_getElem? (l := tables_1) (i := 238) (by decide +kernel)), by decide +kernel⟩
set_option maxRecDepth 20000 in
theorem tw_240 : (.fieldLink "TagWorkshop$TagMaker" 47 "TagWorkshop$TagMaker" "LEFT_PAIRS" "[I" : Cond) ∈ tsAll := List.mem_filter.mpr ⟨List.mem_append_right _ (List.mem_of_getElem? (l := tables_1) (i := 240) (by decide +kernel)), by decide +kernel⟩
set_option maxRecDepth 20000 in
theorem tw_242 : (.methodLink "TagWorkshop$TagMaker" 50 yG_addAll : Cond) ∈ tsAll := List.mem_filter.mpr ⟨List.mem_append_right _ (List.mem_of_getElem? (l := tables_1) (i := 242) (by decide +kernel)), by decide +kernel⟩
set_option maxRecDepth 20000 in
theorem tw_243 : (.static yG_addAll : Cond) ∈ tsAll := List.mem_filter.mpr ⟨List.mem_append_right _ (List.mem_of_getElem? (l := tables_1) (i := 243) (by decide +kernel)), by decide +kernel⟩
set_option maxRecDepth 20000 in
theorem tw_244 : (.code yG_addAll prog_5_method_8_code 5 (Option.none : Option Jvm.ClassFile.FieldType) : Cond) ∈ tsAll := List.mem_filter.mpr ⟨List.mem_append_right _ (List.mem_of_getElem? (l := tables_1) (i := 244) (by decide +kernel)), by decide +kernel⟩
set_option maxRecDepth 20000 in
theorem tw_245 : (.methodLink "TagWorkshop$TagMaker" 63 yG_letterOf : Cond) ∈ tsAll := List.mem_filter.mpr ⟨List.mem_append_right _ (List.mem_of_getElem? (l := tables_1) (i := 245) (by decide +kernel)), by decide +kernel⟩
set_option maxRecDepth 20000 in
theorem tw_246 : (.static yG_letterOf : Cond) ∈ tsAll := List.mem_filter.mpr ⟨List.mem_append_right _ (List.mem_of_getElem? (l := tables_1) (i := 246) (by decide +kernel)), by decide +kernel⟩
set_option maxRecDepth 20000 in
theorem tw_247 : (.code yG_letterOf prog_5_method_9_code 3 (Option.some .int) : Cond) ∈ tsAll := List.mem_filter.mpr ⟨List.mem_append_right _ (List.mem_of_getElem? (l := tables_1) (i := 247) (by decide +kernel)), by decide +kernel⟩
set_option maxRecDepth 20000 in
theorem tw_248 : (.methodLink "TagWorkshop$TagMaker" 67 yT_addToProduction : Cond) ∈ tsAll := List.mem_filter.mpr ⟨List.mem_append_right _ (List.mem_of_getElem? (l := tables_1) (i := 248) (by decide +kernel)), by decide +kernel⟩
set_option maxRecDepth 20000 in
theorem tw_249 : (.instanceMethod yT_addToProduction : Cond) ∈ tsAll := List.mem_filter.mpr ⟨List.mem_append_right _ (List.mem_of_getElem? (l := tables_1) (i := 249) (by decide +kernel)), by decide +kernel⟩
set_option maxRecDepth 20000 in
theorem tw_250 : (.selects "TagWorkshop$TagSystem" yT_addToProduction yT_addToProduction : Cond) ∈ tsAll := List.mem_filter.mpr ⟨List.mem_append_right _ (List.mem_of_getElem? (l := tables_1) (i := 250) (by decide +kernel)), by decide +kernel⟩
set_option maxRecDepth 20000 in
theorem tw_251 : (.code yT_addToProduction prog_6_method_9_code 3 (Option.some .boolean) : Cond) ∈ tsAll := List.mem_filter.mpr ⟨List.mem_append_right _ (List.mem_of_getElem? (l := tables_1) (i := 251) (by decide +kernel)), by decide +kernel⟩
set_option maxRecDepth 20000 in
theorem tw_252 : (.methodLink "TagWorkshop$TagSystem" 64 yT_pack : Cond) ∈ tsAll := List.mem_filter.mpr ⟨List.mem_append_right _ (List.mem_of_getElem? (l := tables_1) (i := 252) (by decide +kernel)), by decide +kernel⟩
set_option maxRecDepth 20000 in
theorem tw_254 : (.instanceMethod yT_pack : Cond) ∈ tsAll := List.mem_filter.mpr ⟨List.mem_append_right _ (List.mem_of_getElem? (l := tables_1) (i := 254) (by decide +kernel)), by decide +kernel⟩
set_option maxRecDepth 20000 in
theorem tw_255 : (.code yT_pack prog_6_method_6_code 6 (Option.none : Option Jvm.ClassFile.FieldType) : Cond) ∈ tsAll := List.mem_filter.mpr ⟨List.mem_append_right _ (List.mem_of_getElem? (l := tables_1) (i := 255) (by decide +kernel)), by decide +kernel⟩
set_option maxRecDepth 20000 in
theorem tw_256 : (.constantLong "TagWorkshop$TagSystem" 48 1023 : Cond) ∈ tsAll := List.mem_filter.mpr ⟨List.mem_append_right _ (List.mem_of_getElem? (l := tables_1) (i := 256) (by decide +kernel)), by decide +kernel⟩
set_option maxRecDepth 20000 in
theorem tw_257 : (.constantLong "TagWorkshop$TagSystem" 50 (-1) : Cond) ∈ tsAll := List.mem_filter.mpr ⟨List.mem_append_right _ (List.mem_of_getElem? (l := tables_1) (i := 257) (by decide +kernel)), by decide +kernel⟩
set_option maxRecDepth 20000 in
theorem tw_258 : (.methodLink "TagWorkshop$TagMaker" 54 yM_writeOf : Cond) ∈ tsAll := List.mem_filter.mpr ⟨List.mem_append_right _ (List.mem_of_getElem? (l := tables_1) (i := 258) (by decide +kernel)), by decide +kernel⟩
set_option maxRecDepth 20000 in
theorem tw_259 : (.instanceMethod yM_writeOf : Cond) ∈ tsAll := List.mem_filter.mpr ⟨List.mem_append_right _ (List.mem_of_getElem? (l := tables_1) (i := 259) (by decide +kernel)), by decide +kernel⟩
set_option maxRecDepth 20000 in
theorem tw_260 : (.selects "TagWorkshop$TapeMachine" yM_writeOf yM_writeOf : Cond) ∈ tsAll := List.mem_filter.mpr ⟨List.mem_append_right _ (List.mem_of_getElem? (l := tables_1) (i := 260) (by decide +kernel)), by decide +kernel⟩
set_option maxRecDepth 20000 in
theorem tw_261 : (.code yM_writeOf prog_7_method_10_code 3 (Option.some .int) : Cond) ∈ tsAll := List.mem_filter.mpr ⟨List.mem_append_right _ (List.mem_of_getElem? (l := tables_1) (i := 261) (by decide +kernel)), by decide +kernel⟩
set_option maxRecDepth 20000 in
theorem tw_262 : (.fieldLink "TagWorkshop$TagMaker" 57 "TagWorkshop$TagMaker" "RIGHT_PAIRS_WITH_1" "[I" : Cond) ∈ tsAll := List.mem_filter.mpr ⟨List.mem_append_right _ (List.mem_of_getElem? (l := tables_1) (i := 262) (by decide +kernel)), by decide +kernel⟩
set_option maxRecDepth 20000 in
theorem tw_264 : (.fieldLink "TagWorkshop$TagMaker" 60 "TagWorkshop$TagMaker" "LEFT_PAIRS_WITH_1" "[I" : Cond) ∈ tsAll := List.mem_filter.mpr ⟨List.mem_append_right _ (List.mem_of_getElem? (l := tables_1) (i := 264) (by decide +kernel)), by decide +kernel⟩
set_option maxRecDepth 20000 in
theorem tw_266 : (.methodLink "TagWorkshop" 55 yC_write : Cond) ∈ tsAll := List.mem_filter.mpr ⟨List.mem_append_right _ (List.mem_of_getElem? (l := tables_1) (i := 266) (by decide +kernel)), by decide +kernel⟩
set_option maxRecDepth 20000 in
theorem tw_267 : (.static yC_write : Cond) ∈ tsAll := List.mem_filter.mpr ⟨List.mem_append_right _ (List.mem_of_getElem? (l := tables_1) (i := 267) (by decide +kernel)), by decide +kernel⟩
set_option maxRecDepth 20000 in
theorem tw_268 : (.code yC_write prog_2_method_2_code 3 (Option.none : Option Jvm.ClassFile.FieldType) : Cond) ∈ tsAll := List.mem_filter.mpr ⟨List.mem_append_right _ (List.mem_of_getElem? (l := tables_1) (i := 268) (by decide +kernel)), by decide +kernel⟩
set_option maxRecDepth 20000 in
theorem tw_269 : (.methodLink "TagWorkshop$Code" 26 yG_base : Cond) ∈ tsAll := List.mem_filter.mpr ⟨List.mem_append_right _ (List.mem_of_getElem? (l := tables_1) (i := 269) (by decide +kernel)), by decide +kernel⟩
set_option maxRecDepth 20000 in
theorem tw_270 : (.methodLink "TagWorkshop$Code" 32 yT_clearWord : Cond) ∈ tsAll := List.mem_filter.mpr ⟨List.mem_append_right _ (List.mem_of_getElem? (l := tables_1) (i := 270) (by decide +kernel)), by decide +kernel⟩
set_option maxRecDepth 20000 in
theorem tw_271 : (.methodLink "TagWorkshop$Code" 37 yC_writePairs : Cond) ∈ tsAll := List.mem_filter.mpr ⟨List.mem_append_right _ (List.mem_of_getElem? (l := tables_1) (i := 271) (by decide +kernel)), by decide +kernel⟩
set_option maxRecDepth 20000 in
theorem tw_272 : (.static yC_writePairs : Cond) ∈ tsAll := List.mem_filter.mpr ⟨List.mem_append_right _ (List.mem_of_getElem? (l := tables_1) (i := 272) (by decide +kernel)), by decide +kernel⟩
set_option maxRecDepth 20000 in
theorem tw_273 : (.code yC_writePairs prog_2_method_3_code 4 (Option.none : Option Jvm.ClassFile.FieldType) : Cond) ∈ tsAll := List.mem_filter.mpr ⟨List.mem_append_right _ (List.mem_of_getElem? (l := tables_1) (i := 273) (by decide +kernel)), by decide +kernel⟩
set_option maxRecDepth 20000 in
theorem tw_274 : (.methodLink "TagWorkshop$Code" 43 yT_append : Cond) ∈ tsAll := List.mem_filter.mpr ⟨List.mem_append_right _ (List.mem_of_getElem? (l := tables_1) (i := 274) (by decide +kernel)), by decide +kernel⟩
set_option maxRecDepth 20000 in
theorem tw_275 : (.instanceMethod yT_append : Cond) ∈ tsAll := List.mem_filter.mpr ⟨List.mem_append_right _ (List.mem_of_getElem? (l := tables_1) (i := 275) (by decide +kernel)), by decide +kernel⟩
set_option maxRecDepth 20000 in
theorem tw_276 : (.selects "TagWorkshop$TagSystem" yT_append yT_append : Cond) ∈ tsAll := List.mem_filter.mpr ⟨List.mem_append_right _ (List.mem_of_getElem? (l := tables_1) (i := 276) (by decide +kernel)), by decide +kernel⟩
set_option maxRecDepth 20000 in
theorem tw_277 : (.code yT_append prog_6_method_13_code 2 (Option.none : Option Jvm.ClassFile.FieldType) : Cond) ∈ tsAll := List.mem_filter.mpr ⟨List.mem_append_right _ (List.mem_of_getElem? (l := tables_1) (i := 277) (by decide +kernel)), by decide +kernel⟩
set_option maxRecDepth 20000 in
theorem tw_278 : (.methodLink "TagWorkshop" 58 yY_remove : Cond) ∈ tsAll := List.mem_filter.mpr ⟨List.mem_append_right _ (List.mem_of_getElem? (l := tables_1) (i := 278) (by decide +kernel)), by decide +kernel⟩
set_option maxRecDepth 20000 in
theorem tw_279 : (.instanceMethod yY_remove : Cond) ∈ tsAll := List.mem_filter.mpr ⟨List.mem_append_right _ (List.mem_of_getElem? (l := tables_1) (i := 279) (by decide +kernel)), by decide +kernel⟩
set_option maxRecDepth 20000 in
theorem tw_280 : (.selects "TagWorkshop$CyclicSystem" yY_remove yY_remove : Cond) ∈ tsAll := List.mem_filter.mpr ⟨List.mem_append_right _ (List.mem_of_getElem? (l := tables_1) (i := 280) (by decide +kernel)), by decide +kernel⟩
set_option maxRecDepth 20000 in
theorem tw_281 : (.code yY_remove prog_3_method_3_code 1 (Option.none : Option Jvm.ClassFile.FieldType) : Cond) ∈ tsAll := List.mem_filter.mpr ⟨List.mem_append_right _ (List.mem_of_getElem? (l := tables_1) (i := 281) (by decide +kernel)), by decide +kernel⟩
set_option maxRecDepth 20000 in
theorem tw_282 : (.methodLink "TagWorkshop$CyclicSystem" 26 yT_begin : Cond) ∈ tsAll := List.mem_filter.mpr ⟨List.mem_append_right _ (List.mem_of_getElem? (l := tables_1) (i := 282) (by decide +kernel)), by decide +kernel⟩
set_option maxRecDepth 20000 in
theorem tw_287 : (.methodLink "TagWorkshop" 65 yT_begin : Cond) ∈ tsAll := List.mem_filter.mpr ⟨List.mem_append_right _ (List.mem_of_getElem? (l := tables_1) (i := 287) (by decide +kernel)), by decide +kernel⟩
set_option maxRecDepth 20000 in
theorem tw_292 : (.methodLink "TagWorkshop" 69 yT_addToProduction : Cond) ∈ tsAll := List.mem_filter.mpr ⟨List.mem_append_right _ (List.mem_of_getElem? (l := tables_1) (i := 292) (by decide +kernel)), by decide +kernel⟩
set_option maxRecDepth 20000 in
theorem tw_297 : (.methodLink "TagWorkshop" 73 yT_replaceInProduction : Cond) ∈ tsAll := List.mem_filter.mpr ⟨List.mem_append_right _ (List.mem_of_getElem? (l := tables_1) (i := 297) (by decide +kernel)), by decide +kernel⟩
set_option maxRecDepth 20000 in
theorem tw_298 : (.instanceMethod yT_replaceInProduction : Cond) ∈ tsAll := List.mem_filter.mpr ⟨List.mem_append_right _ (List.mem_of_getElem? (l := tables_1) (i := 298) (by decide +kernel)), by decide +kernel⟩
set_option maxRecDepth 20000 in
theorem tw_299 : (.selects "TagWorkshop$TagSystem" yT_replaceInProduction yT_replaceInProduction : Cond) ∈ tsAll := List.mem_filter.mpr ⟨List.mem_append_right _ (List.mem_of_getElem? (l := tables_1) (i := 299) (by decide +kernel)), by decide +kernel⟩
set_option maxRecDepth 20000 in
theorem tw_300 : (.code yT_replaceInProduction prog_6_method_10_code 5 (Option.some .int) : Cond) ∈ tsAll := List.mem_filter.mpr ⟨List.mem_append_right _ (List.mem_of_getElem? (l := tables_1) (i := 300) (by decide +kernel)), by decide +kernel⟩
set_option maxRecDepth 20000 in
theorem tw_301 : (.methodLink "TagWorkshop$TagSystem" 68 yT_productionLetter : Cond) ∈ tsAll := List.mem_filter.mpr ⟨List.mem_append_right _ (List.mem_of_getElem? (l := tables_1) (i := 301) (by decide +kernel)), by decide +kernel⟩
set_option maxRecDepth 20000 in
theorem tw_302 : (.instanceMethod yT_productionLetter : Cond) ∈ tsAll := List.mem_filter.mpr ⟨List.mem_append_right _ (List.mem_of_getElem? (l := tables_1) (i := 302) (by decide +kernel)), by decide +kernel⟩
set_option maxRecDepth 20000 in
theorem tw_303 : (.selects "TagWorkshop$TagSystem" yT_productionLetter yT_productionLetter : Cond) ∈ tsAll := List.mem_filter.mpr ⟨List.mem_append_right _ (List.mem_of_getElem? (l := tables_1) (i := 303) (by decide +kernel)), by decide +kernel⟩
set_option maxRecDepth 20000 in
theorem tw_304 : (.code yT_productionLetter prog_6_method_8_code 3 (Option.some .int) : Cond) ∈ tsAll := List.mem_filter.mpr ⟨List.mem_append_right _ (List.mem_of_getElem? (l := tables_1) (i := 304) (by decide +kernel)), by decide +kernel⟩
set_option maxRecDepth 20000 in
theorem tw_305 : (.methodLink "TagWorkshop$TagSystem" 56 yT_productionSize : Cond) ∈ tsAll := List.mem_filter.mpr ⟨List.mem_append_right _ (List.mem_of_getElem? (l := tables_1) (i := 305) (by decide +kernel)), by decide +kernel⟩
set_option maxRecDepth 20000 in
theorem tw_306 : (.instanceMethod yT_productionSize : Cond) ∈ tsAll := List.mem_filter.mpr ⟨List.mem_append_right _ (List.mem_of_getElem? (l := tables_1) (i := 306) (by decide +kernel)), by decide +kernel⟩
set_option maxRecDepth 20000 in
theorem tw_307 : (.selects "TagWorkshop$TagSystem" yT_productionSize yT_productionSize : Cond) ∈ tsAll := List.mem_filter.mpr ⟨List.mem_append_right _ (List.mem_of_getElem? (l := tables_1) (i := 307) (by decide +kernel)), by decide +kernel⟩
set_option maxRecDepth 20000 in
theorem tw_308 : (.code yT_productionSize prog_6_method_7_code 2 (Option.some .int) : Cond) ∈ tsAll := List.mem_filter.mpr ⟨List.mem_append_right _ (List.mem_of_getElem? (l := tables_1) (i := 308) (by decide +kernel)), by decide +kernel⟩
set_option maxRecDepth 20000 in
theorem tw_309 : (.methodLink "TagWorkshop$TagSystem" 60 yT_unpack : Cond) ∈ tsAll := List.mem_filter.mpr ⟨List.mem_append_right _ (List.mem_of_getElem? (l := tables_1) (i := 309) (by decide +kernel)), by decide +kernel⟩
set_option maxRecDepth 20000 in
theorem tw_311 : (.instanceMethod yT_unpack : Cond) ∈ tsAll := List.mem_filter.mpr ⟨List.mem_append_right _ (List.mem_of_getElem? (l := tables_1) (i := 311) (by decide +kernel)), by decide +kernel⟩
set_option maxRecDepth 20000 in
theorem tw_312 : (.code yT_unpack prog_6_method_5_code 5 (Option.some .int) : Cond) ∈ tsAll := List.mem_filter.mpr ⟨List.mem_append_right _ (List.mem_of_getElem? (l := tables_1) (i := 312) (by decide +kernel)), by decide +kernel⟩
set_option maxRecDepth 20000 in
theorem tw_317 : (.methodLink "TagWorkshop" 77 yT_setHalting : Cond) ∈ tsAll := List.mem_filter.mpr ⟨List.mem_append_right _ (List.mem_of_getElem? (l := tables_1) (i := 317) (by decide +kernel)), by decide +kernel⟩
set_option maxRecDepth 20000 in
theorem tw_322 : (.methodLink "TagWorkshop" 81 yT_hasLetter : Cond) ∈ tsAll := List.mem_filter.mpr ⟨List.mem_append_right _ (List.mem_of_getElem? (l := tables_1) (i := 322) (by decide +kernel)), by decide +kernel⟩
set_option maxRecDepth 20000 in
theorem tw_323 : (.methodLink "TagWorkshop" 88 yT_append : Cond) ∈ tsAll := List.mem_filter.mpr ⟨List.mem_append_right _ (List.mem_of_getElem? (l := tables_1) (i := 323) (by decide +kernel)), by decide +kernel⟩
set_option maxRecDepth 20000 in
theorem tw_328 : (.methodLink "TagWorkshop" 92 yT_productionLetter : Cond) ∈ tsAll := List.mem_filter.mpr ⟨List.mem_append_right _ (List.mem_of_getElem? (l := tables_1) (i := 328) (by decide +kernel)), by decide +kernel⟩
set_option maxRecDepth 20000 in
theorem tw_333 : (.methodLink "TagWorkshop" 96 yY_makeOf : Cond) ∈ tsAll := List.mem_filter.mpr ⟨List.mem_append_right _ (List.mem_of_getElem? (l := tables_1) (i := 333) (by decide +kernel)), by decide +kernel⟩
set_option maxRecDepth 20000 in
theorem tw_334 : (.instanceMethod yY_makeOf : Cond) ∈ tsAll := List.mem_filter.mpr ⟨List.mem_append_right _ (List.mem_of_getElem? (l := tables_1) (i := 334) (by decide +kernel)), by decide +kernel⟩
set_option maxRecDepth 20000 in
theorem tw_335 : (.selects "TagWorkshop$CyclicSystem" yY_makeOf yY_makeOf : Cond) ∈ tsAll := List.mem_filter.mpr ⟨List.mem_append_right _ (List.mem_of_getElem? (l := tables_1) (i := 335) (by decide +kernel)), by decide +kernel⟩
set_option maxRecDepth 20000 in
theorem tw_336 : (.code yY_makeOf prog_3_method_2_code 2 (Option.none : Option Jvm.ClassFile.FieldType) : Cond) ∈ tsAll := List.mem_filter.mpr ⟨List.mem_append_right _ (List.mem_of_getElem? (l := tables_1) (i := 336) (by decide +kernel)), by decide +kernel⟩
set_option maxRecDepth 20000 in
theorem tw_337 : (.methodLink "TagWorkshop$CyclicSystem" 22 yT_copyFrom : Cond) ∈ tsAll := List.mem_filter.mpr ⟨List.mem_append_right _ (List.mem_of_getElem? (l := tables_1) (i := 337) (by decide +kernel)), by decide +kernel⟩
set_option maxRecDepth 20000 in
theorem tw_338 : (.instanceMethod yT_copyFrom : Cond) ∈ tsAll := List.mem_filter.mpr ⟨List.mem_append_right _ (List.mem_of_getElem? (l := tables_1) (i := 338) (by decide +kernel)), by decide +kernel⟩
set_option maxRecDepth 20000 in
theorem tw_339 : (.selects "TagWorkshop$TagSystem" yT_copyFrom yT_copyFrom : Cond) ∈ tsAll := List.mem_filter.mpr ⟨List.mem_append_right _ (List.mem_of_getElem? (l := tables_1) (i := 339) (by decide +kernel)), by decide +kernel⟩
set_option maxRecDepth 20000 in
theorem tw_340 : (.code yT_copyFrom prog_6_method_3_code 3 (Option.none : Option Jvm.ClassFile.FieldType) : Cond) ∈ tsAll := List.mem_filter.mpr ⟨List.mem_append_right _ (List.mem_of_getElem? (l := tables_1) (i := 340) (by decide +kernel)), by decide +kernel⟩
set_option maxRecDepth 20000 in
theorem tw_341 : (.methodLink "TagWorkshop$TagSystem" 42 arraycopyName : Cond) ∈ tsAll := List.mem_filter.mpr ⟨List.mem_append_right _ (List.mem_of_getElem? (l := tables_1) (i := 341) (by decide +kernel)), by decide +kernel⟩
set_option maxRecDepth 20000 in
theorem tw_342 : (.static arraycopyName : Cond) ∈ tsAll := List.mem_filter.mpr ⟨List.mem_append_right _ (List.mem_of_getElem? (l := tables_1) (i := 342) (by decide +kernel)), by decide +kernel⟩
set_option maxRecDepth 20000 in
theorem tw_343 : (.native arraycopyName : Cond) ∈ tsAll := List.mem_filter.mpr ⟨List.mem_append_right _ (List.mem_of_getElem? (l := tables_1) (i := 343) (by decide +kernel)), by decide +kernel⟩
set_option maxRecDepth 20000 in
theorem tw_344 : (.methodLink "TagWorkshop" 100 yY_appendants : Cond) ∈ tsAll := List.mem_filter.mpr ⟨List.mem_append_right _ (List.mem_of_getElem? (l := tables_1) (i := 344) (by decide +kernel)), by decide +kernel⟩
set_option maxRecDepth 20000 in
theorem tw_345 : (.instanceMethod yY_appendants : Cond) ∈ tsAll := List.mem_filter.mpr ⟨List.mem_append_right _ (List.mem_of_getElem? (l := tables_1) (i := 345) (by decide +kernel)), by decide +kernel⟩
set_option maxRecDepth 20000 in
theorem tw_346 : (.selects "TagWorkshop$CyclicSystem" yY_appendants yY_appendants : Cond) ∈ tsAll := List.mem_filter.mpr ⟨List.mem_append_right _ (List.mem_of_getElem? (l := tables_1) (i := 346) (by decide +kernel)), by decide +kernel⟩
set_option maxRecDepth 20000 in
theorem tw_347 : (.code yY_appendants prog_3_method_4_code 1 (Option.some .int) : Cond) ∈ tsAll := List.mem_filter.mpr ⟨List.mem_append_right _ (List.mem_of_getElem? (l := tables_1) (i := 347) (by decide +kernel)), by decide +kernel⟩
set_option maxRecDepth 20000 in
theorem tw_352 : (.methodLink "TagWorkshop" 104 yY_appendantBit : Cond) ∈ tsAll := List.mem_filter.mpr ⟨List.mem_append_right _ (List.mem_of_getElem? (l := tables_1) (i := 352) (by decide +kernel)), by decide +kernel⟩
set_option maxRecDepth 20000 in
theorem tw_353 : (.instanceMethod yY_appendantBit : Cond) ∈ tsAll := List.mem_filter.mpr ⟨List.mem_append_right _ (List.mem_of_getElem? (l := tables_1) (i := 353) (by decide +kernel)), by decide +kernel⟩
set_option maxRecDepth 20000 in
theorem tw_354 : (.selects "TagWorkshop$CyclicSystem" yY_appendantBit yY_appendantBit : Cond) ∈ tsAll := List.mem_filter.mpr ⟨List.mem_append_right _ (List.mem_of_getElem? (l := tables_1) (i := 354) (by decide +kernel)), by decide +kernel⟩
set_option maxRecDepth 20000 in
theorem tw_355 : (.code yY_appendantBit prog_3_method_7_code 4 (Option.some .int) : Cond) ∈ tsAll := List.mem_filter.mpr ⟨List.mem_append_right _ (List.mem_of_getElem? (l := tables_1) (i := 355) (by decide +kernel)), by decide +kernel⟩
set_option maxRecDepth 20000 in
theorem tw_356 : (.methodLink "TagWorkshop$CyclicSystem" 36 yT_productionSize : Cond) ∈ tsAll := List.mem_filter.mpr ⟨List.mem_append_right _ (List.mem_of_getElem? (l := tables_1) (i := 356) (by decide +kernel)), by decide +kernel⟩
set_option maxRecDepth 20000 in
theorem tw_357 : (.methodLink "TagWorkshop$CyclicSystem" 40 yT_productionLetter : Cond) ∈ tsAll := List.mem_filter.mpr ⟨List.mem_append_right _ (List.mem_of_getElem? (l := tables_1) (i := 357) (by decide +kernel)), by decide +kernel⟩
set_option maxRecDepth 20000 in
theorem tw_358 : (.methodLink "TagWorkshop$CyclicSystem" 44 yY_bitOf : Cond) ∈ tsAll := List.mem_filter.mpr ⟨List.mem_append_right _ (List.mem_of_getElem? (l := tables_1) (i := 358) (by decide +kernel)), by decide +kernel⟩
set_option maxRecDepth 20000 in
theorem tw_359 : (.static yY_bitOf : Cond) ∈ tsAll := List.mem_filter.mpr ⟨List.mem_append_right _ (List.mem_of_getElem? (l := tables_1) (i := 359) (by decide +kernel)), by decide +kernel⟩
set_option maxRecDepth 20000 in
theorem tw_360 : (.code yY_bitOf prog_3_method_6_code 2 (Option.some .int) : Cond) ∈ tsAll := List.mem_filter.mpr ⟨List.mem_append_right _ (List.mem_of_getElem? (l := tables_1) (i := 360) (by decide +kernel)), by decide +kernel⟩
set_option maxRecDepth 20000 in
theorem tw_365 : (.methodLink "TagWorkshop" 107 yM_makeSteps : Cond) ∈ tsAll := List.mem_filter.mpr ⟨List.mem_append_right _ (List.mem_of_getElem? (l := tables_1) (i := 365) (by decide +kernel)), by decide +kernel⟩
set_option maxRecDepth 20000 in
theorem tw_366 : (.sameMethod "TagWorkshop$TapeMachine" "TagWorkshop$Machine" "makeSteps" "(I)I" : Cond) ∈ tsAll := List.mem_filter.mpr ⟨List.mem_append_right _ (List.mem_of_getElem? (l := tables_1) (i := 366) (by decide +kernel)), by decide +kernel⟩
set_option maxRecDepth 20000 in
theorem tw_368 : (.selects "TagWorkshop$TapeMachine" yM_makeSteps yK_makeSteps : Cond) ∈ tsAll := List.mem_filter.mpr ⟨List.mem_append_right _ (List.mem_of_getElem? (l := tables_1) (i := 368) (by decide +kernel)), by decide +kernel⟩
set_option maxRecDepth 20000 in
theorem tw_369 : (.instanceMethod yK_makeSteps : Cond) ∈ tsAll := List.mem_filter.mpr ⟨List.mem_append_right _ (List.mem_of_getElem? (l := tables_1) (i := 369) (by decide +kernel)), by decide +kernel⟩
set_option maxRecDepth 20000 in
theorem tw_370 : (.code yK_makeSteps prog_4_method_4_code 4 (Option.some .int) : Cond) ∈ tsAll := List.mem_filter.mpr ⟨List.mem_append_right _ (List.mem_of_getElem? (l := tables_1) (i := 370) (by decide +kernel)), by decide +kernel⟩
set_option maxRecDepth 20000 in
theorem tw_372 : (.static yX_within : Cond) ∈ tsAll := List.mem_filter.mpr ⟨List.mem_append_right _ (List.mem_of_getElem? (l := tables_1) (i := 372) (by decide +kernel)), by decide +kernel⟩
set_option maxRecDepth 20000 in
theorem tw_373 : (.code yX_within prog_1_method_26_code 2 (Option.some .int) : Cond) ∈ tsAll := List.mem_filter.mpr ⟨List.mem_append_right _ (List.mem_of_getElem? (l := tables_1) (i := 373) (by decide +kernel)), by decide +kernel⟩
set_option maxRecDepth 20000 in
theorem tw_374 : (.methodLink "TagWorkshop" 173 Lib.Math.min.name : Cond) ∈ tsAll := List.mem_filter.mpr ⟨List.mem_append_right _ (List.mem_of_getElem? (l := tables_1) (i := 374) (by decide +kernel)), by decide +kernel⟩
set_option maxRecDepth 20000 in
theorem tw_375 : (.static Lib.Math.min.name : Cond) ∈ tsAll := List.mem_filter.mpr ⟨List.mem_append_right _ (List.mem_of_getElem? (l := tables_1) (i := 375) (by decide +kernel)), by decide +kernel⟩
set_option maxRecDepth 20000 in
theorem tw_376 : (.code Lib.Math.min.name prog_10_method_69_code 2 (Option.some .int) : Cond) ∈ tsAll := List.mem_filter.mpr ⟨List.mem_append_right _ (List.mem_of_getElem? (l := tables_1) (i := 376) (by decide +kernel)), by decide +kernel⟩
set_option maxRecDepth 20000 in
theorem tw_377 : (.methodLink "TagWorkshop" 178 Lib.Math.max.name : Cond) ∈ tsAll := List.mem_filter.mpr ⟨List.mem_append_right _ (List.mem_of_getElem? (l := tables_1) (i := 377) (by decide +kernel)), by decide +kernel⟩
set_option maxRecDepth 20000 in
theorem tw_378 : (.methodLink "TagWorkshop$Machine" 13 yK_canGoOn : Cond) ∈ tsAll := List.mem_filter.mpr ⟨List.mem_append_right _ (List.mem_of_getElem? (l := tables_1) (i := 378) (by decide +kernel)), by decide +kernel⟩
set_option maxRecDepth 20000 in
theorem tw_380 : (.sameMethod "TagWorkshop$Machine" "TagWorkshop$Machine" "canGoOn" "()I" : Cond) ∈ tsAll := List.mem_filter.mpr ⟨List.mem_append_right _ (List.mem_of_getElem? (l := tables_1) (i := 380) (by decide +kernel)), by decide +kernel⟩
set_option maxRecDepth 20000 in
theorem tw_381 : (.selects "TagWorkshop$CyclicSystem" yK_canGoOn yY_canGoOn : Cond) ∈ tsAll := List.mem_filter.mpr ⟨List.mem_append_right _ (List.mem_of_getElem? (l := tables_1) (i := 381) (by decide +kernel)), by decide +kernel⟩
set_option maxRecDepth 20000 in
theorem tw_382 : (.instanceMethod yY_canGoOn : Cond) ∈ tsAll := List.mem_filter.mpr ⟨List.mem_append_right _ (List.mem_of_getElem? (l := tables_1) (i := 382) (by decide +kernel)), by decide +kernel⟩
set_option maxRecDepth 20000 in
theorem tw_383 : (.code yY_canGoOn prog_3_method_10_code 1 (Option.some .int) : Cond) ∈ tsAll := List.mem_filter.mpr ⟨List.mem_append_right _ (List.mem_of_getElem? (l := tables_1) (i := 383) (by decide +kernel)), by decide +kernel⟩
set_option maxRecDepth 20000 in
theorem tw_384 : (.methodLink "TagWorkshop$CyclicSystem" 54 yT_canGoOn : Cond) ∈ tsAll := List.mem_filter.mpr ⟨List.mem_append_right _ (List.mem_of_getElem? (l := tables_1) (i := 384) (by decide +kernel)), by decide +kernel⟩
set_option maxRecDepth 20000 in
theorem tw_385 : (.instanceMethod yT_canGoOn : Cond) ∈ tsAll := List.mem_filter.mpr ⟨List.mem_append_right _ (List.mem_of_getElem? (l := tables_1) (i := 385) (by decide +kernel)), by decide +kernel⟩
set_option maxRecDepth 20000 in
theorem tw_386 : (.selects "TagWorkshop$TagSystem" yT_canGoOn yT_canGoOn : Cond) ∈ tsAll := List.mem_filter.mpr ⟨List.mem_append_right _ (List.mem_of_getElem? (l := tables_1) (i := 386) (by decide +kernel)), by decide +kernel⟩
set_option maxRecDepth 20000 in
theorem tw_387 : (.code yT_canGoOn prog_6_method_17_code 1 (Option.some .int) : Cond) ∈ tsAll := List.mem_filter.mpr ⟨List.mem_append_right _ (List.mem_of_getElem? (l := tables_1) (i := 387) (by decide +kernel)), by decide +kernel⟩
set_option maxRecDepth 20000 in
theorem tw_388 : (.selects "TagWorkshop$TagSystem" yK_canGoOn yT_canGoOn : Cond) ∈ tsAll := List.mem_filter.mpr ⟨List.mem_append_right _ (List.mem_of_getElem? (l := tables_1) (i := 388) (by decide +kernel)), by decide +kernel⟩
set_option maxRecDepth 20000 in
theorem tw_389 : (.selects "TagWorkshop$TapeMachine" yK_canGoOn yM_canGoOn : Cond) ∈ tsAll := List.mem_filter.mpr ⟨List.mem_append_right _ (List.mem_of_getElem? (l := tables_1) (i := 389) (by decide +kernel)), by decide +kernel⟩
set_option maxRecDepth 20000 in
theorem tw_390 : (.instanceMethod yM_canGoOn : Cond) ∈ tsAll := List.mem_filter.mpr ⟨List.mem_append_right _ (List.mem_of_getElem? (l := tables_1) (i := 390) (by decide +kernel)), by decide +kernel⟩
set_option maxRecDepth 20000 in
theorem tw_391 : (.code yM_canGoOn prog_7_method_13_code 2 (Option.some .int) : Cond) ∈ tsAll := List.mem_filter.mpr ⟨List.mem_append_right _ (List.mem_of_getElem? (l := tables_1) (i := 391) (by decide +kernel)), by decide +kernel⟩
set_option maxRecDepth 20000 in
theorem tw_392 : (.methodLink "TagWorkshop$TapeMachine" 52 yM_hasStep : Cond) ∈ tsAll := List.mem_filter.mpr ⟨List.mem_append_right _ (List.mem_of_getElem? (l := tables_1) (i := 392) (by decide +kernel)), by decide +kernel⟩
set_option maxRecDepth 20000 in
theorem tw_393 : (.methodLink "TagWorkshop$TapeMachine" 56 yM_moveOf : Cond) ∈ tsAll := List.mem_filter.mpr ⟨List.mem_append_right _ (List.mem_of_getElem? (l := tables_1) (i := 393) (by decide +kernel)), by decide +kernel⟩
set_option maxRecDepth 20000 in
theorem tw_394 : (.methodLink "TagWorkshop$TapeMachine" 59 yM_writeOf : Cond) ∈ tsAll := List.mem_filter.mpr ⟨List.mem_append_right _ (List.mem_of_getElem? (l := tables_1) (i := 394) (by decide +kernel)), by decide +kernel⟩
set_option maxRecDepth 20000 in
theorem tw_395 : (.methodLink "TagWorkshop$Machine" 19 yK_step : Cond) ∈ tsAll := List.mem_filter.mpr ⟨List.mem_append_right _ (List.mem_of_getElem? (l := tables_1) (i := 395) (by decide +kernel)), by decide +kernel⟩
set_option maxRecDepth 20000 in
theorem tw_397 : (.sameMethod "TagWorkshop$Machine" "TagWorkshop$Machine" "step" "()V" : Cond) ∈ tsAll := List.mem_filter.mpr ⟨List.mem_append_right _ (List.mem_of_getElem? (l := tables_1) (i := 397) (by decide +kernel)), by decide +kernel⟩
set_option maxRecDepth 20000 in
theorem tw_398 : (.selects "TagWorkshop$CyclicSystem" yK_step yY_step : Cond) ∈ tsAll := List.mem_filter.mpr ⟨List.mem_append_right _ (List.mem_of_getElem? (l := tables_1) (i := 398) (by decide +kernel)), by decide +kernel⟩
set_option maxRecDepth 20000 in
theorem tw_399 : (.instanceMethod yY_step : Cond) ∈ tsAll := List.mem_filter.mpr ⟨List.mem_append_right _ (List.mem_of_getElem? (l := tables_1) (i := 399) (by decide +kernel)), by decide +kernel⟩
set_option maxRecDepth 20000 in
theorem tw_400 : (.code yY_step prog_3_method_11_code 2 (Option.none : Option Jvm.ClassFile.FieldType) : Cond) ∈ tsAll := List.mem_filter.mpr ⟨List.mem_append_right _ (List.mem_of_getElem? (l := tables_1) (i := 400) (by decide +kernel)), by decide +kernel⟩
set_option maxRecDepth 20000 in
theorem tw_401 : (.methodLink "TagWorkshop$CyclicSystem" 51 yT_wordLetter : Cond) ∈ tsAll := List.mem_filter.mpr ⟨List.mem_append_right _ (List.mem_of_getElem? (l := tables_1) (i := 401) (by decide +kernel)), by decide +kernel⟩
set_option maxRecDepth 20000 in
theorem tw_402 : (.instanceMethod yT_wordLetter : Cond) ∈ tsAll := List.mem_filter.mpr ⟨List.mem_append_right _ (List.mem_of_getElem? (l := tables_1) (i := 402) (by decide +kernel)), by decide +kernel⟩
set_option maxRecDepth 20000 in
theorem tw_403 : (.selects "TagWorkshop$TagSystem" yT_wordLetter yT_wordLetter : Cond) ∈ tsAll := List.mem_filter.mpr ⟨List.mem_append_right _ (List.mem_of_getElem? (l := tables_1) (i := 403) (by decide +kernel)), by decide +kernel⟩
set_option maxRecDepth 20000 in
theorem tw_404 : (.code yT_wordLetter prog_6_method_16_code 2 (Option.some .int) : Cond) ∈ tsAll := List.mem_filter.mpr ⟨List.mem_append_right _ (List.mem_of_getElem? (l := tables_1) (i := 404) (by decide +kernel)), by decide +kernel⟩
set_option maxRecDepth 20000 in
theorem tw_405 : (.methodLink "TagWorkshop$CyclicSystem" 57 yT_appendProduction : Cond) ∈ tsAll := List.mem_filter.mpr ⟨List.mem_append_right _ (List.mem_of_getElem? (l := tables_1) (i := 405) (by decide +kernel)), by decide +kernel⟩
set_option maxRecDepth 20000 in
theorem tw_406 : (.instanceMethod yT_appendProduction : Cond) ∈ tsAll := List.mem_filter.mpr ⟨List.mem_append_right _ (List.mem_of_getElem? (l := tables_1) (i := 406) (by decide +kernel)), by decide +kernel⟩
set_option maxRecDepth 20000 in
theorem tw_407 : (.selects "TagWorkshop$TagSystem" yT_appendProduction yT_appendProduction : Cond) ∈ tsAll := List.mem_filter.mpr ⟨List.mem_append_right _ (List.mem_of_getElem? (l := tables_1) (i := 407) (by decide +kernel)), by decide +kernel⟩
set_option maxRecDepth 20000 in
theorem tw_408 : (.code yT_appendProduction prog_6_method_14_code 4 (Option.none : Option Jvm.ClassFile.FieldType) : Cond) ∈ tsAll := List.mem_filter.mpr ⟨List.mem_append_right _ (List.mem_of_getElem? (l := tables_1) (i := 408) (by decide +kernel)), by decide +kernel⟩
set_option maxRecDepth 20000 in
theorem tw_409 : (.methodLink "TagWorkshop$TagSystem" 71 yT_append : Cond) ∈ tsAll := List.mem_filter.mpr ⟨List.mem_append_right _ (List.mem_of_getElem? (l := tables_1) (i := 409) (by decide +kernel)), by decide +kernel⟩
set_option maxRecDepth 20000 in
theorem tw_410 : (.methodLink "TagWorkshop$CyclicSystem" 61 yY_appendants : Cond) ∈ tsAll := List.mem_filter.mpr ⟨List.mem_append_right _ (List.mem_of_getElem? (l := tables_1) (i := 410) (by decide +kernel)), by decide +kernel⟩
set_option maxRecDepth 20000 in
theorem tw_411 : (.methodLink "TagWorkshop$CyclicSystem" 64 yT_takeTwo : Cond) ∈ tsAll := List.mem_filter.mpr ⟨List.mem_append_right _ (List.mem_of_getElem? (l := tables_1) (i := 411) (by decide +kernel)), by decide +kernel⟩
set_option maxRecDepth 20000 in
theorem tw_412 : (.instanceMethod yT_takeTwo : Cond) ∈ tsAll := List.mem_filter.mpr ⟨List.mem_append_right _ (List.mem_of_getElem? (l := tables_1) (i := 412) (by decide +kernel)), by decide +kernel⟩
set_option maxRecDepth 20000 in
theorem tw_413 : (.selects "TagWorkshop$TagSystem" yT_takeTwo yT_takeTwo : Cond) ∈ tsAll := List.mem_filter.mpr ⟨List.mem_append_right _ (List.mem_of_getElem? (l := tables_1) (i := 413) (by decide +kernel)), by decide +kernel⟩
set_option maxRecDepth 20000 in
theorem tw_414 : (.code yT_takeTwo prog_6_method_15_code 1 (Option.none : Option Jvm.ClassFile.FieldType) : Cond) ∈ tsAll := List.mem_filter.mpr ⟨List.mem_append_right _ (List.mem_of_getElem? (l := tables_1) (i := 414) (by decide +kernel)), by decide +kernel⟩
set_option maxRecDepth 20000 in
theorem tw_415 : (.selects "TagWorkshop$TagSystem" yK_step yT_step : Cond) ∈ tsAll := List.mem_filter.mpr ⟨List.mem_append_right _ (List.mem_of_getElem? (l := tables_1) (i := 415) (by decide +kernel)), by decide +kernel⟩
set_option maxRecDepth 20000 in
theorem tw_416 : (.instanceMethod yT_step : Cond) ∈ tsAll := List.mem_filter.mpr ⟨List.mem_append_right _ (List.mem_of_getElem? (l := tables_1) (i := 416) (by decide +kernel)), by decide +kernel⟩
set_option maxRecDepth 20000 in
theorem tw_417 : (.code yT_step prog_6_method_18_code 2 (Option.none : Option Jvm.ClassFile.FieldType) : Cond) ∈ tsAll := List.mem_filter.mpr ⟨List.mem_append_right _ (List.mem_of_getElem? (l := tables_1) (i := 417) (by decide +kernel)), by decide +kernel⟩
set_option maxRecDepth 20000 in
theorem tw_418 : (.methodLink "TagWorkshop$TagSystem" 75 yT_takeTwo : Cond) ∈ tsAll := List.mem_filter.mpr ⟨List.mem_append_right _ (List.mem_of_getElem? (l := tables_1) (i := 418) (by decide +kernel)), by decide +kernel⟩
set_option maxRecDepth 20000 in
theorem tw_419 : (.methodLink "TagWorkshop$TagSystem" 78 yT_appendProduction : Cond) ∈ tsAll := List.mem_filter.mpr ⟨List.mem_append_right _ (List.mem_of_getElem? (l := tables_1) (i := 419) (by decide +kernel)), by decide +kernel⟩
set_option maxRecDepth 20000 in
theorem tw_420 : (.selects "TagWorkshop$TapeMachine" yK_step yM_step : Cond) ∈ tsAll := List.mem_filter.mpr ⟨List.mem_append_right _ (List.mem_of_getElem? (l := tables_1) (i := 420) (by decide +kernel)), by decide +kernel⟩
set_option maxRecDepth 20000 in
theorem tw_421 : (.instanceMethod yM_step : Cond) ∈ tsAll := List.mem_filter.mpr ⟨List.mem_append_right _ (List.mem_of_getElem? (l := tables_1) (i := 421) (by decide +kernel)), by decide +kernel⟩
set_option maxRecDepth 20000 in
theorem tw_422 : (.code yM_step prog_7_method_14_code 2 (Option.none : Option Jvm.ClassFile.FieldType) : Cond) ∈ tsAll := List.mem_filter.mpr ⟨List.mem_append_right _ (List.mem_of_getElem? (l := tables_1) (i := 422) (by decide +kernel)), by decide +kernel⟩
set_option maxRecDepth 20000 in
theorem tw_427 : (.methodLink "TagWorkshop" 111 yT_makeSteps : Cond) ∈ tsAll := List.mem_filter.mpr ⟨List.mem_append_right _ (List.mem_of_getElem? (l := tables_1) (i := 427) (by decide +kernel)), by decide +kernel⟩
set_option maxRecDepth 20000 in
theorem tw_428 : (.sameMethod "TagWorkshop$TagSystem" "TagWorkshop$Machine" "makeSteps" "(I)I" : Cond) ∈ tsAll := List.mem_filter.mpr ⟨List.mem_append_right _ (List.mem_of_getElem? (l := tables_1) (i := 428) (by decide +kernel)), by decide +kernel⟩
set_option maxRecDepth 20000 in
theorem tw_429 : (.selects "TagWorkshop$TagSystem" yT_makeSteps yK_makeSteps : Cond) ∈ tsAll := List.mem_filter.mpr ⟨List.mem_append_right _ (List.mem_of_getElem? (l := tables_1) (i := 429) (by decide +kernel)), by decide +kernel⟩
set_option maxRecDepth 20000 in
theorem tw_434 : (.methodLink "TagWorkshop" 112 yY_makeSteps : Cond) ∈ tsAll := List.mem_filter.mpr ⟨List.mem_append_right _ (List.mem_of_getElem? (l := tables_1) (i := 434) (by decide +kernel)), by decide +kernel⟩
set_option maxRecDepth 20000 in
theorem tw_435 : (.sameMethod "TagWorkshop$CyclicSystem" "TagWorkshop$Machine" "makeSteps" "(I)I" : Cond) ∈ tsAll := List.mem_filter.mpr ⟨List.mem_append_right _ (List.mem_of_getElem? (l := tables_1) (i := 435) (by decide +kernel)), by decide +kernel⟩
set_option maxRecDepth 20000 in
theorem tw_436 : (.selects "TagWorkshop$CyclicSystem" yY_makeSteps yK_makeSteps : Cond) ∈ tsAll := List.mem_filter.mpr ⟨List.mem_append_right _ (List.mem_of_getElem? (l := tables_1) (i := 436) (by decide +kernel)), by decide +kernel⟩
set_option maxRecDepth 20000 in
theorem tw_441 : (.methodLink "TagWorkshop" 125 yM_canGoOn : Cond) ∈ tsAll := List.mem_filter.mpr ⟨List.mem_append_right _ (List.mem_of_getElem? (l := tables_1) (i := 441) (by decide +kernel)), by decide +kernel⟩
set_option maxRecDepth 20000 in
theorem tw_446 : (.methodLink "TagWorkshop" 128 yT_canGoOn : Cond) ∈ tsAll := List.mem_filter.mpr ⟨List.mem_append_right _ (List.mem_of_getElem? (l := tables_1) (i := 446) (by decide +kernel)), by decide +kernel⟩
set_option maxRecDepth 20000 in
theorem tw_451 : (.methodLink "TagWorkshop" 129 yY_bits : Cond) ∈ tsAll := List.mem_filter.mpr ⟨List.mem_append_right _ (List.mem_of_getElem? (l := tables_1) (i := 451) (by decide +kernel)), by decide +kernel⟩
set_option maxRecDepth 20000 in
theorem tw_452 : (.instanceMethod yY_bits : Cond) ∈ tsAll := List.mem_filter.mpr ⟨List.mem_append_right _ (List.mem_of_getElem? (l := tables_1) (i := 452) (by decide +kernel)), by decide +kernel⟩
set_option maxRecDepth 20000 in
theorem tw_453 : (.selects "TagWorkshop$CyclicSystem" yY_bits yY_bits : Cond) ∈ tsAll := List.mem_filter.mpr ⟨List.mem_append_right _ (List.mem_of_getElem? (l := tables_1) (i := 453) (by decide +kernel)), by decide +kernel⟩
set_option maxRecDepth 20000 in
theorem tw_454 : (.code yY_bits prog_3_method_5_code 1 (Option.some .int) : Cond) ∈ tsAll := List.mem_filter.mpr ⟨List.mem_append_right _ (List.mem_of_getElem? (l := tables_1) (i := 454) (by decide +kernel)), by decide +kernel⟩
set_option maxRecDepth 20000 in
theorem tw_455 : (.methodLink "TagWorkshop" 132 yY_canGoOn : Cond) ∈ tsAll := List.mem_filter.mpr ⟨List.mem_append_right _ (List.mem_of_getElem? (l := tables_1) (i := 455) (by decide +kernel)), by decide +kernel⟩
set_option maxRecDepth 20000 in
theorem tw_460 : (.methodLink "TagWorkshop" 136 yT_wordLetter : Cond) ∈ tsAll := List.mem_filter.mpr ⟨List.mem_append_right _ (List.mem_of_getElem? (l := tables_1) (i := 460) (by decide +kernel)), by decide +kernel⟩
set_option maxRecDepth 20000 in
theorem tw_465 : (.methodLink "TagWorkshop" 139 yY_wordBit : Cond) ∈ tsAll := List.mem_filter.mpr ⟨List.mem_append_right _ (List.mem_of_getElem? (l := tables_1) (i := 465) (by decide +kernel)), by decide +kernel⟩
set_option maxRecDepth 20000 in
theorem tw_466 : (.instanceMethod yY_wordBit : Cond) ∈ tsAll := List.mem_filter.mpr ⟨List.mem_append_right _ (List.mem_of_getElem? (l := tables_1) (i := 466) (by decide +kernel)), by decide +kernel⟩
set_option maxRecDepth 20000 in
theorem tw_467 : (.selects "TagWorkshop$CyclicSystem" yY_wordBit yY_wordBit : Cond) ∈ tsAll := List.mem_filter.mpr ⟨List.mem_append_right _ (List.mem_of_getElem? (l := tables_1) (i := 467) (by decide +kernel)), by decide +kernel⟩
set_option maxRecDepth 20000 in
theorem tw_468 : (.code yY_wordBit prog_3_method_8_code 4 (Option.some .int) : Cond) ∈ tsAll := List.mem_filter.mpr ⟨List.mem_append_right _ (List.mem_of_getElem? (l := tables_1) (i := 468) (by decide +kernel)), by decide +kernel⟩
set_option maxRecDepth 20000 in
theorem tw_469 : (.methodLink "TagWorkshop$CyclicSystem" 47 yY_bits : Cond) ∈ tsAll := List.mem_filter.mpr ⟨List.mem_append_right _ (List.mem_of_getElem? (l := tables_1) (i := 469) (by decide +kernel)), by decide +kernel⟩
set_option maxRecDepth 20000 in
theorem tw_474 : (.methodLink "TagWorkshop" 142 yC_read : Cond) ∈ tsAll := List.mem_filter.mpr ⟨List.mem_append_right _ (List.mem_of_getElem? (l := tables_1) (i := 474) (by decide +kernel)), by decide +kernel⟩
set_option maxRecDepth 20000 in
theorem tw_475 : (.instanceMethod yC_read : Cond) ∈ tsAll := List.mem_filter.mpr ⟨List.mem_append_right _ (List.mem_of_getElem? (l := tables_1) (i := 475) (by decide +kernel)), by decide +kernel⟩
set_option maxRecDepth 20000 in
theorem tw_476 : (.selects "TagWorkshop$Code" yC_read yC_read : Cond) ∈ tsAll := List.mem_filter.mpr ⟨List.mem_append_right _ (List.mem_of_getElem? (l := tables_1) (i := 476) (by decide +kernel)), by decide +kernel⟩
set_option maxRecDepth 20000 in
theorem tw_477 : (.code yC_read prog_2_method_4_code 5 (Option.some .boolean) : Cond) ∈ tsAll := List.mem_filter.mpr ⟨List.mem_append_right _ (List.mem_of_getElem? (l := tables_1) (i := 477) (by decide +kernel)), by decide +kernel⟩
set_option maxRecDepth 20000 in
theorem tw_478 : (.methodLink "TagWorkshop$Code" 47 yT_wordLetter : Cond) ∈ tsAll := List.mem_filter.mpr ⟨List.mem_append_right _ (List.mem_of_getElem? (l := tables_1) (i := 478) (by decide +kernel)), by decide +kernel⟩
set_option maxRecDepth 20000 in
theorem tw_479 : (.methodLink "TagWorkshop$Code" 54 yG_isBase : Cond) ∈ tsAll := List.mem_filter.mpr ⟨List.mem_append_right _ (List.mem_of_getElem? (l := tables_1) (i := 479) (by decide +kernel)), by decide +kernel⟩
set_option maxRecDepth 20000 in
theorem tw_480 : (.static yG_isBase : Cond) ∈ tsAll := List.mem_filter.mpr ⟨List.mem_append_right _ (List.mem_of_getElem? (l := tables_1) (i := 480) (by decide +kernel)), by decide +kernel⟩
set_option maxRecDepth 20000 in
theorem tw_481 : (.code yG_isBase prog_5_method_3_code 2 (Option.some .boolean) : Cond) ∈ tsAll := List.mem_filter.mpr ⟨List.mem_append_right _ (List.mem_of_getElem? (l := tables_1) (i := 481) (by decide +kernel)), by decide +kernel⟩
set_option maxRecDepth 20000 in
theorem tw_482 : (.methodLink "TagWorkshop$Code" 61 yC_isPair : Cond) ∈ tsAll := List.mem_filter.mpr ⟨List.mem_append_right _ (List.mem_of_getElem? (l := tables_1) (i := 482) (by decide +kernel)), by decide +kernel⟩
set_option maxRecDepth 20000 in
theorem tw_483 : (.static yC_isPair : Cond) ∈ tsAll := List.mem_filter.mpr ⟨List.mem_append_right _ (List.mem_of_getElem? (l := tables_1) (i := 483) (by decide +kernel)), by decide +kernel⟩
set_option maxRecDepth 20000 in
theorem tw_484 : (.code yC_isPair prog_2_method_6_code 3 (Option.some .boolean) : Cond) ∈ tsAll := List.mem_filter.mpr ⟨List.mem_append_right _ (List.mem_of_getElem? (l := tables_1) (i := 484) (by decide +kernel)), by decide +kernel⟩
set_option maxRecDepth 20000 in
theorem tw_485 : (.methodLink "TagWorkshop$Code" 65 yC_pairsEnd : Cond) ∈ tsAll := List.mem_filter.mpr ⟨List.mem_append_right _ (List.mem_of_getElem? (l := tables_1) (i := 485) (by decide +kernel)), by decide +kernel⟩
set_option maxRecDepth 20000 in
theorem tw_486 : (.static yC_pairsEnd : Cond) ∈ tsAll := List.mem_filter.mpr ⟨List.mem_append_right _ (List.mem_of_getElem? (l := tables_1) (i := 486) (by decide +kernel)), by decide +kernel⟩
set_option maxRecDepth 20000 in
theorem tw_487 : (.code yC_pairsEnd prog_2_method_5_code 5 (Option.some .int) : Cond) ∈ tsAll := List.mem_filter.mpr ⟨List.mem_append_right _ (List.mem_of_getElem? (l := tables_1) (i := 487) (by decide +kernel)), by decide +kernel⟩
set_option maxRecDepth 20000 in
theorem tw_488 : (.methodLink "TagWorkshop$Code" 69 yG_stateOf : Cond) ∈ tsAll := List.mem_filter.mpr ⟨List.mem_append_right _ (List.mem_of_getElem? (l := tables_1) (i := 488) (by decide +kernel)), by decide +kernel⟩
set_option maxRecDepth 20000 in
theorem tw_489 : (.static yG_stateOf : Cond) ∈ tsAll := List.mem_filter.mpr ⟨List.mem_append_right _ (List.mem_of_getElem? (l := tables_1) (i := 489) (by decide +kernel)), by decide +kernel⟩
set_option maxRecDepth 20000 in
theorem tw_490 : (.code yG_stateOf prog_5_method_4_code 1 (Option.some .int) : Cond) ∈ tsAll := List.mem_filter.mpr ⟨List.mem_append_right _ (List.mem_of_getElem? (l := tables_1) (i := 490) (by decide +kernel)), by decide +kernel⟩
set_option maxRecDepth 20000 in
theorem tw_491 : (.methodLink "TagWorkshop$Code" 72 yG_symbolOf : Cond) ∈ tsAll := List.mem_filter.mpr ⟨List.mem_append_right _ (List.mem_of_getElem? (l := tables_1) (i := 491) (by decide +kernel)), by decide +kernel⟩
set_option maxRecDepth 20000 in
theorem tw_492 : (.static yG_symbolOf : Cond) ∈ tsAll := List.mem_filter.mpr ⟨List.mem_append_right _ (List.mem_of_getElem? (l := tables_1) (i := 492) (by decide +kernel)), by decide +kernel⟩
set_option maxRecDepth 20000 in
theorem tw_493 : (.code yG_symbolOf prog_5_method_5_code 1 (Option.some .int) : Cond) ∈ tsAll := List.mem_filter.mpr ⟨List.mem_append_right _ (List.mem_of_getElem? (l := tables_1) (i := 493) (by decide +kernel)), by decide +kernel⟩
set_option maxRecDepth 20000 in
theorem tw_498 : (.methodLink "TagWorkshop" 150 yY_borderLetter : Cond) ∈ tsAll := List.mem_filter.mpr ⟨List.mem_append_right _ (List.mem_of_getElem? (l := tables_1) (i := 498) (by decide +kernel)), by decide +kernel⟩
set_option maxRecDepth 20000 in
theorem tw_499 : (.instanceMethod yY_borderLetter : Cond) ∈ tsAll := List.mem_filter.mpr ⟨List.mem_append_right _ (List.mem_of_getElem? (l := tables_1) (i := 499) (by decide +kernel)), by decide +kernel⟩
set_option maxRecDepth 20000 in
theorem tw_500 : (.selects "TagWorkshop$CyclicSystem" yY_borderLetter yY_borderLetter : Cond) ∈ tsAll := List.mem_filter.mpr ⟨List.mem_append_right _ (List.mem_of_getElem? (l := tables_1) (i := 500) (by decide +kernel)), by decide +kernel⟩
set_option maxRecDepth 20000 in
theorem tw_501 : (.code yY_borderLetter prog_3_method_9_code 2 (Option.some .int) : Cond) ∈ tsAll := List.mem_filter.mpr ⟨List.mem_append_right _ (List.mem_of_getElem? (l := tables_1) (i := 501) (by decide +kernel)), by decide +kernel⟩
set_option maxRecDepth 20000 in
theorem tw_503 : (.instanceMethod yX_nextBorder : Cond) ∈ tsAll := List.mem_filter.mpr ⟨List.mem_append_right _ (List.mem_of_getElem? (l := tables_1) (i := 503) (by decide +kernel)), by decide +kernel⟩
set_option maxRecDepth 20000 in
theorem tw_504 : (.selects "TagWorkshop" yX_nextBorder yX_nextBorder : Cond) ∈ tsAll := List.mem_filter.mpr ⟨List.mem_append_right _ (List.mem_of_getElem? (l := tables_1) (i := 504) (by decide +kernel)), by decide +kernel⟩
set_option maxRecDepth 20000 in
theorem tw_505 : (.code yX_nextBorder prog_1_method_23_code 2 (Option.some .int) : Cond) ∈ tsAll := List.mem_filter.mpr ⟨List.mem_append_right _ (List.mem_of_getElem? (l := tables_1) (i := 505) (by decide +kernel)), by decide +kernel⟩
set_option maxRecDepth 20000 in
theorem tw_506 : (.methodLink "TagWorkshop" 153 yT_step : Cond) ∈ tsAll := List.mem_filter.mpr ⟨List.mem_append_right _ (List.mem_of_getElem? (l := tables_1) (i := 506) (by decide +kernel)), by decide +kernel⟩
set_option maxRecDepth 20000 in
theorem tw_511 : (.methodLink "TagWorkshop" 156 yM_isConfiguration : Cond) ∈ tsAll := List.mem_filter.mpr ⟨List.mem_append_right _ (List.mem_of_getElem? (l := tables_1) (i := 511) (by decide +kernel)), by decide +kernel⟩
set_option maxRecDepth 20000 in
theorem tw_512 : (.methodLink "TagWorkshop" 159 yM_tagStepsOf : Cond) ∈ tsAll := List.mem_filter.mpr ⟨List.mem_append_right _ (List.mem_of_getElem? (l := tables_1) (i := 512) (by decide +kernel)), by decide +kernel⟩
set_option maxRecDepth 20000 in
theorem tw_513 : (.instanceMethod yM_tagStepsOf : Cond) ∈ tsAll := List.mem_filter.mpr ⟨List.mem_append_right _ (List.mem_of_getElem? (l := tables_1) (i := 513) (by decide +kernel)), by decide +kernel⟩
set_option maxRecDepth 20000 in
theorem tw_514 : (.selects "TagWorkshop$TapeMachine" yM_tagStepsOf yM_tagStepsOf : Cond) ∈ tsAll := List.mem_filter.mpr ⟨List.mem_append_right _ (List.mem_of_getElem? (l := tables_1) (i := 514) (by decide +kernel)), by decide +kernel⟩
set_option maxRecDepth 20000 in
theorem tw_515 : (.code yM_tagStepsOf prog_7_method_15_code 8 (Option.some .int) : Cond) ∈ tsAll := List.mem_filter.mpr ⟨List.mem_append_right _ (List.mem_of_getElem? (l := tables_1) (i := 515) (by decide +kernel)), by decide +kernel⟩
set_option maxRecDepth 20000 in
theorem tw_520 : (.methodLink "TagWorkshop" 166 yX_within : Cond) ∈ tsAll := List.mem_filter.mpr ⟨List.mem_append_right _ (List.mem_of_getElem? (l := tables_1) (i := 520) (by decide +kernel)), by decide +kernel⟩
set_option maxRecDepth 20000 in
theorem tw_521 : (.methodLink "TagWorkshop" 169 yM_step : Cond) ∈ tsAll := List.mem_filter.mpr ⟨List.mem_append_right _ (List.mem_of_getElem? (l := tables_1) (i := 521) (by decide +kernel)), by decide +kernel⟩
set_option maxRecDepth 20000 in
theorem tw_522 : (.methodLink "TagWorkshop" 170 yX_tagFollowsTape : Cond) ∈ tsAll := List.mem_filter.mpr ⟨List.mem_append_right _ (List.mem_of_getElem? (l := tables_1) (i := 522) (by decide +kernel)), by decide +kernel⟩
set_option maxRecDepth 20000 in
theorem tw_524 : (.instanceMethod yX_tagFollowsTape : Cond) ∈ tsAll := List.mem_filter.mpr ⟨List.mem_append_right _ (List.mem_of_getElem? (l := tables_1) (i := 524) (by decide +kernel)), by decide +kernel⟩
set_option maxRecDepth 20000 in
theorem tw_525 : (.code yX_tagFollowsTape prog_1_method_27_code 1 (Option.some .boolean) : Cond) ∈ tsAll := List.mem_filter.mpr ⟨List.mem_append_right _ (List.mem_of_getElem? (l := tables_1) (i := 525) (by decide +kernel)), by decide +kernel⟩
set_option maxRecDepth 20000 in
theorem tw_526 : (.methodLink "TagWorkshop" 181 yX_nextBorder : Cond) ∈ tsAll := List.mem_filter.mpr ⟨List.mem_append_right _ (List.mem_of_getElem? (l := tables_1) (i := 526) (by decide +kernel)), by decide +kernel⟩
set_option maxRecDepth 20000 in
theorem tw_527 : (.methodLink "TagWorkshop" 184 yC_isOf : Cond) ∈ tsAll := List.mem_filter.mpr ⟨List.mem_append_right _ (List.mem_of_getElem? (l := tables_1) (i := 527) (by decide +kernel)), by decide +kernel⟩
set_option maxRecDepth 20000 in
theorem tw_528 : (.instanceMethod yC_isOf : Cond) ∈ tsAll := List.mem_filter.mpr ⟨List.mem_append_right _ (List.mem_of_getElem? (l := tables_1) (i := 528) (by decide +kernel)), by decide +kernel⟩
set_option maxRecDepth 20000 in
theorem tw_529 : (.selects "TagWorkshop$Code" yC_isOf yC_isOf : Cond) ∈ tsAll := List.mem_filter.mpr ⟨List.mem_append_right _ (List.mem_of_getElem? (l := tables_1) (i := 529) (by decide +kernel)), by decide +kernel⟩
set_option maxRecDepth 20000 in
theorem tw_530 : (.code yC_isOf prog_2_method_7_code 2 (Option.some .boolean) : Cond) ∈ tsAll := List.mem_filter.mpr ⟨List.mem_append_right _ (List.mem_of_getElem? (l := tables_1) (i := 530) (by decide +kernel)), by decide +kernel⟩
set_option maxRecDepth 20000 in
theorem tw_537 : (.fieldLink "TagWorkshopModel" 7 "TagWorkshopModel" "told" "[Z" : Cond) ∈ tsAll := List.mem_filter.mpr ⟨List.mem_append_right _ (List.mem_of_getElem? (l := tables_1) (i := 537) (by decide +kernel)), by decide +kernel⟩
set_option maxRecDepth 20000 in
theorem tw_538 : (.fieldLink "TagWorkshopModel" 13 "TagWorkshopModel" "writes" "[I" : Cond) ∈ tsAll := List.mem_filter.mpr ⟨List.mem_append_right _ (List.mem_of_getElem? (l := tables_1) (i := 538) (by decide +kernel)), by decide +kernel⟩
set_option maxRecDepth 20000 in
theorem tw_539 : (.fieldLink "TagWorkshopModel" 17 "TagWorkshopModel" "moves" "[I" : Cond) ∈ tsAll := List.mem_filter.mpr ⟨List.mem_append_right _ (List.mem_of_getElem? (l := tables_1) (i := 539) (by decide +kernel)), by decide +kernel⟩
set_option maxRecDepth 20000 in
theorem tw_540 : (.fieldLink "TagWorkshopModel" 20 "TagWorkshopModel" "nexts" "[I" : Cond) ∈ tsAll := List.mem_filter.mpr ⟨List.mem_append_right _ (List.mem_of_getElem? (l := tables_1) (i := 540) (by decide +kernel)), by decide +kernel⟩
set_option maxRecDepth 20000 in
theorem tw_541 : (.fieldLink "TagWorkshopModel" 23 "TagWorkshopModel" "state" "I" : Cond) ∈ tsAll := List.mem_filter.mpr ⟨List.mem_append_right _ (List.mem_of_getElem? (l := tables_1) (i := 541) (by decide +kernel)), by decide +kernel⟩
set_option maxRecDepth 20000 in
theorem tw_542 : (.fieldLink "TagWorkshopModel" 61 "TagWorkshopModel" "symbol" "I" : Cond) ∈ tsAll := List.mem_filter.mpr ⟨List.mem_append_right _ (List.mem_of_getElem? (l := tables_1) (i := 542) (by decide +kernel)), by decide +kernel⟩
set_option maxRecDepth 20000 in
theorem tw_543 : (.fieldLink "TagWorkshopModel" 64 "TagWorkshopModel" "left" "I" : Cond) ∈ tsAll := List.mem_filter.mpr ⟨List.mem_append_right _ (List.mem_of_getElem? (l := tables_1) (i := 543) (by decide +kernel)), by decide +kernel⟩
set_option maxRecDepth 20000 in
theorem tw_544 : (.fieldLink "TagWorkshopModel" 67 "TagWorkshopModel" "right" "I" : Cond) ∈ tsAll := List.mem_filter.mpr ⟨List.mem_append_right _ (List.mem_of_getElem? (l := tables_1) (i := 544) (by decide +kernel)), by decide +kernel⟩
set_option maxRecDepth 20000 in
theorem tw_545 : (.fieldLink "TagWorkshopModel" 99 "TagWorkshopModel" "letters" "I" : Cond) ∈ tsAll := List.mem_filter.mpr ⟨List.mem_append_right _ (List.mem_of_getElem? (l := tables_1) (i := 545) (by decide +kernel)), by decide +kernel⟩
set_option maxRecDepth 20000 in
theorem tw_546 : (.fieldLink "TagWorkshopModel" 137 "TagWorkshopModel" "made" "Z" : Cond) ∈ tsAll := List.mem_filter.mpr ⟨List.mem_append_right _ (List.mem_of_getElem? (l := tables_1) (i := 546) (by decide +kernel)), by decide +kernel⟩
set_option maxRecDepth 20000 in
theorem tw_547 : (.fieldLink "TagWorkshopModel" 27 "TagWorkshopModel" "production" "[I" : Cond) ∈ tsAll := List.mem_filter.mpr ⟨List.mem_append_right _ (List.mem_of_getElem? (l := tables_1) (i := 547) (by decide +kernel)), by decide +kernel⟩
set_option maxRecDepth 20000 in
theorem tw_548 : (.fieldLink "TagWorkshopModel" 30 "TagWorkshopModel" "length" "[I" : Cond) ∈ tsAll := List.mem_filter.mpr ⟨List.mem_append_right _ (List.mem_of_getElem? (l := tables_1) (i := 548) (by decide +kernel)), by decide +kernel⟩
set_option maxRecDepth 20000 in
theorem tw_549 : (.fieldLink "TagWorkshopModel" 33 "TagWorkshopModel" "halting" "[Z" : Cond) ∈ tsAll := List.mem_filter.mpr ⟨List.mem_append_right _ (List.mem_of_getElem? (l := tables_1) (i := 549) (by decide +kernel)), by decide +kernel⟩
set_option maxRecDepth 20000 in
theorem tw_550 : (.fieldLink "TagWorkshopModel" 36 "TagWorkshopModel" "word" "[I" : Cond) ∈ tsAll := List.mem_filter.mpr ⟨List.mem_append_right _ (List.mem_of_getElem? (l := tables_1) (i := 550) (by decide +kernel)), by decide +kernel⟩
set_option maxRecDepth 20000 in
theorem tw_551 : (.fieldLink "TagWorkshopModel" 102 "TagWorkshopModel" "from" "I" : Cond) ∈ tsAll := List.mem_filter.mpr ⟨List.mem_append_right _ (List.mem_of_getElem? (l := tables_1) (i := 551) (by decide +kernel)), by decide +kernel⟩
set_option maxRecDepth 20000 in
theorem tw_552 : (.fieldLink "TagWorkshopModel" 105 "TagWorkshopModel" "to" "I" : Cond) ∈ tsAll := List.mem_filter.mpr ⟨List.mem_append_right _ (List.mem_of_getElem? (l := tables_1) (i := 552) (by decide +kernel)), by decide +kernel⟩
set_option maxRecDepth 20000 in
theorem tw_553 : (.fieldLink "TagWorkshopModel" 108 "TagWorkshopModel" "cyclic" "I" : Cond) ∈ tsAll := List.mem_filter.mpr ⟨List.mem_append_right _ (List.mem_of_getElem? (l := tables_1) (i := 553) (by decide +kernel)), by decide +kernel⟩
set_option maxRecDepth 20000 in
theorem tw_554 : (.fieldLink "TagWorkshopModel" 39 "TagWorkshopModel" "blocks" "[I" : Cond) ∈ tsAll := List.mem_filter.mpr ⟨List.mem_append_right _ (List.mem_of_getElem? (l := tables_1) (i := 554) (by decide +kernel)), by decide +kernel⟩
set_option maxRecDepth 20000 in
theorem tw_555 : (.fieldLink "TagWorkshopModel" 42 "TagWorkshopModel" "blocksLong" "[I" : Cond) ∈ tsAll := List.mem_filter.mpr ⟨List.mem_append_right _ (List.mem_of_getElem? (l := tables_1) (i := 555) (by decide +kernel)), by decide +kernel⟩
set_option maxRecDepth 20000 in
theorem tw_556 : (.fieldLink "TagWorkshopModel" 45 "TagWorkshopModel" "stops" "[Z" : Cond) ∈ tsAll := List.mem_filter.mpr ⟨List.mem_append_right _ (List.mem_of_getElem? (l := tables_1) (i := 556) (by decide +kernel)), by decide +kernel⟩
set_option maxRecDepth 20000 in
theorem tw_557 : (.fieldLink "TagWorkshopModel" 48 "TagWorkshopModel" "row" "[I" : Cond) ∈ tsAll := List.mem_filter.mpr ⟨List.mem_append_right _ (List.mem_of_getElem? (l := tables_1) (i := 557) (by decide +kernel)), by decide +kernel⟩
set_option maxRecDepth 20000 in
theorem tw_558 : (.fieldLink "TagWorkshopModel" 111 "TagWorkshopModel" "rowFrom" "I" : Cond) ∈ tsAll := List.mem_filter.mpr ⟨List.mem_append_right _ (List.mem_of_getElem? (l := tables_1) (i := 558) (by decide +kernel)), by decide +kernel⟩
set_option maxRecDepth 20000 in
theorem tw_559 : (.fieldLink "TagWorkshopModel" 114 "TagWorkshopModel" "rowTo" "I" : Cond) ∈ tsAll := List.mem_filter.mpr ⟨List.mem_append_right _ (List.mem_of_getElem? (l := tables_1) (i := 559) (by decide +kernel)), by decide +kernel⟩
set_option maxRecDepth 20000 in
theorem tw_560 : (.fieldLink "TagWorkshopModel" 117 "TagWorkshopModel" "gone" "I" : Cond) ∈ tsAll := List.mem_filter.mpr ⟨List.mem_append_right _ (List.mem_of_getElem? (l := tables_1) (i := 560) (by decide +kernel)), by decide +kernel⟩
set_option maxRecDepth 20000 in
theorem tw_561 : (.fieldLink "TagWorkshopModel" 120 "TagWorkshopModel" "turn" "I" : Cond) ∈ tsAll := List.mem_filter.mpr ⟨List.mem_append_right _ (List.mem_of_getElem? (l := tables_1) (i := 561) (by decide +kernel)), by decide +kernel⟩
set_option maxRecDepth 20000 in
theorem tw_562 : (.fieldLink "TagWorkshopModel" 183 "TagWorkshopModel" "foundState" "I" : Cond) ∈ tsAll := List.mem_filter.mpr ⟨List.mem_append_right _ (List.mem_of_getElem? (l := tables_1) (i := 562) (by decide +kernel)), by decide +kernel⟩
set_option maxRecDepth 20000 in
theorem tw_563 : (.fieldLink "TagWorkshopModel" 186 "TagWorkshopModel" "foundSymbol" "I" : Cond) ∈ tsAll := List.mem_filter.mpr ⟨List.mem_append_right _ (List.mem_of_getElem? (l := tables_1) (i := 563) (by decide +kernel)), by decide +kernel⟩
set_option maxRecDepth 20000 in
theorem tw_564 : (.fieldLink "TagWorkshopModel" 177 "TagWorkshopModel" "foundLeft" "I" : Cond) ∈ tsAll := List.mem_filter.mpr ⟨List.mem_append_right _ (List.mem_of_getElem? (l := tables_1) (i := 564) (by decide +kernel)), by decide +kernel⟩
set_option maxRecDepth 20000 in
theorem tw_565 : (.fieldLink "TagWorkshopModel" 180 "TagWorkshopModel" "foundRight" "I" : Cond) ∈ tsAll := List.mem_filter.mpr ⟨List.mem_append_right _ (List.mem_of_getElem? (l := tables_1) (i := 565) (by decide +kernel)), by decide +kernel⟩
set_option maxRecDepth 20000 in
theorem tw_629 : (.methodLink "TagWorkshopModel" 51 yR_isState : Cond) ∈ tsAll := List.mem_filter.mpr ⟨List.mem_append_right _ (List.mem_of_getElem? (l := tables_1) (i := 629) (by decide +kernel)), by decide +kernel⟩
set_option maxRecDepth 20000 in
theorem tw_630 : (.static yR_isState : Cond) ∈ tsAll := List.mem_filter.mpr ⟨List.mem_append_right _ (List.mem_of_getElem? (l := tables_1) (i := 630) (by decide +kernel)), by decide +kernel⟩
set_option maxRecDepth 20000 in
theorem tw_631 : (.code yR_isState prog_9_method_3_code 1 (Option.some .boolean) : Cond) ∈ tsAll := List.mem_filter.mpr ⟨List.mem_append_right _ (List.mem_of_getElem? (l := tables_1) (i := 631) (by decide +kernel)), by decide +kernel⟩
set_option maxRecDepth 20000 in
theorem tw_632 : (.methodLink "TagWorkshopModel" 55 yR_isBit : Cond) ∈ tsAll := List.mem_filter.mpr ⟨List.mem_append_right _ (List.mem_of_getElem? (l := tables_1) (i := 632) (by decide +kernel)), by decide +kernel⟩
set_option maxRecDepth 20000 in
theorem tw_633 : (.static yR_isBit : Cond) ∈ tsAll := List.mem_filter.mpr ⟨List.mem_append_right _ (List.mem_of_getElem? (l := tables_1) (i := 633) (by decide +kernel)), by decide +kernel⟩
set_option maxRecDepth 20000 in
theorem tw_634 : (.code yR_isBit prog_9_method_2_code 1 (Option.some .boolean) : Cond) ∈ tsAll := List.mem_filter.mpr ⟨List.mem_append_right _ (List.mem_of_getElem? (l := tables_1) (i := 634) (by decide +kernel)), by decide +kernel⟩
set_option maxRecDepth 20000 in
theorem tw_639 : (.methodLink "TagWorkshopModel" 58 yR_isNumber : Cond) ∈ tsAll := List.mem_filter.mpr ⟨List.mem_append_right _ (List.mem_of_getElem? (l := tables_1) (i := 639) (by decide +kernel)), by decide +kernel⟩
set_option maxRecDepth 20000 in
theorem tw_640 : (.static yR_isNumber : Cond) ∈ tsAll := List.mem_filter.mpr ⟨List.mem_append_right _ (List.mem_of_getElem? (l := tables_1) (i := 640) (by decide +kernel)), by decide +kernel⟩
set_option maxRecDepth 20000 in
theorem tw_641 : (.code yR_isNumber prog_9_method_4_code 1 (Option.some .boolean) : Cond) ∈ tsAll := List.mem_filter.mpr ⟨List.mem_append_right _ (List.mem_of_getElem? (l := tables_1) (i := 641) (by decide +kernel)), by decide +kernel⟩
set_option maxRecDepth 20000 in
theorem tw_646 : (.methodLink "TagWorkshopModel" 77 yR_steps : Cond) ∈ tsAll := List.mem_filter.mpr ⟨List.mem_append_right _ (List.mem_of_getElem? (l := tables_1) (i := 646) (by decide +kernel)), by decide +kernel⟩
set_option maxRecDepth 20000 in
theorem tw_647 : (.static yR_steps : Cond) ∈ tsAll := List.mem_filter.mpr ⟨List.mem_append_right _ (List.mem_of_getElem? (l := tables_1) (i := 647) (by decide +kernel)), by decide +kernel⟩
set_option maxRecDepth 20000 in
theorem tw_648 : (.code yR_steps prog_9_method_5_code 1 (Option.some .int) : Cond) ∈ tsAll := List.mem_filter.mpr ⟨List.mem_append_right _ (List.mem_of_getElem? (l := tables_1) (i := 648) (by decide +kernel)), by decide +kernel⟩
set_option maxRecDepth 20000 in
theorem tw_649 : (.methodLink "TagWorkshopModel" 81 yR_tapeCan : Cond) ∈ tsAll := List.mem_filter.mpr ⟨List.mem_append_right _ (List.mem_of_getElem? (l := tables_1) (i := 649) (by decide +kernel)), by decide +kernel⟩
set_option maxRecDepth 20000 in
theorem tw_651 : (.instanceMethod yR_tapeCan : Cond) ∈ tsAll := List.mem_filter.mpr ⟨List.mem_append_right _ (List.mem_of_getElem? (l := tables_1) (i := 651) (by decide +kernel)), by decide +kernel⟩
set_option maxRecDepth 20000 in
theorem tw_652 : (.code yR_tapeCan prog_9_method_10_code 2 (Option.some .int) : Cond) ∈ tsAll := List.mem_filter.mpr ⟨List.mem_append_right _ (List.mem_of_getElem? (l := tables_1) (i := 652) (by decide +kernel)), by decide +kernel⟩
set_option maxRecDepth 20000 in
theorem tw_653 : (.methodLink "TagWorkshopModel" 70 yR_ruleOf : Cond) ∈ tsAll := List.mem_filter.mpr ⟨List.mem_append_right _ (List.mem_of_getElem? (l := tables_1) (i := 653) (by decide +kernel)), by decide +kernel⟩
set_option maxRecDepth 20000 in
theorem tw_654 : (.static yR_ruleOf : Cond) ∈ tsAll := List.mem_filter.mpr ⟨List.mem_append_right _ (List.mem_of_getElem? (l := tables_1) (i := 654) (by decide +kernel)), by decide +kernel⟩
set_option maxRecDepth 20000 in
theorem tw_655 : (.code yR_ruleOf prog_9_method_8_code 2 (Option.some .int) : Cond) ∈ tsAll := List.mem_filter.mpr ⟨List.mem_append_right _ (List.mem_of_getElem? (l := tables_1) (i := 655) (by decide +kernel)), by decide +kernel⟩
set_option maxRecDepth 20000 in
theorem tw_656 : (.methodLink "TagWorkshopModel" 74 yR_goesOn : Cond) ∈ tsAll := List.mem_filter.mpr ⟨List.mem_append_right _ (List.mem_of_getElem? (l := tables_1) (i := 656) (by decide +kernel)), by decide +kernel⟩
set_option maxRecDepth 20000 in
theorem tw_658 : (.instanceMethod yR_goesOn : Cond) ∈ tsAll := List.mem_filter.mpr ⟨List.mem_append_right _ (List.mem_of_getElem? (l := tables_1) (i := 658) (by decide +kernel)), by decide +kernel⟩
set_option maxRecDepth 20000 in
theorem tw_659 : (.code yR_goesOn prog_9_method_9_code 2 (Option.some .boolean) : Cond) ∈ tsAll := List.mem_filter.mpr ⟨List.mem_append_right _ (List.mem_of_getElem? (l := tables_1) (i := 659) (by decide +kernel)), by decide +kernel⟩
set_option maxRecDepth 20000 in
theorem tw_660 : (.methodLink "TagWorkshopModel" 85 yR_tapeStep : Cond) ∈ tsAll := List.mem_filter.mpr ⟨List.mem_append_right _ (List.mem_of_getElem? (l := tables_1) (i := 660) (by decide +kernel)), by decide +kernel⟩
set_option maxRecDepth 20000 in
theorem tw_662 : (.instanceMethod yR_tapeStep : Cond) ∈ tsAll := List.mem_filter.mpr ⟨List.mem_append_right _ (List.mem_of_getElem? (l := tables_1) (i := 662) (by decide +kernel)), by decide +kernel⟩
set_option maxRecDepth 20000 in
theorem tw_663 : (.code yR_tapeStep prog_9_method_11_code 4 (Option.none : Option Jvm.ClassFile.FieldType) : Cond) ∈ tsAll := List.mem_filter.mpr ⟨List.mem_append_right _ (List.mem_of_getElem? (l := tables_1) (i := 663) (by decide +kernel)), by decide +kernel⟩
set_option maxRecDepth 20000 in
theorem tw_672 : (.methodLink "TagWorkshopModel" 131 yR_greatest : Cond) ∈ tsAll := List.mem_filter.mpr ⟨List.mem_append_right _ (List.mem_of_getElem? (l := tables_1) (i := 672) (by decide +kernel)), by decide +kernel⟩
set_option maxRecDepth 20000 in
theorem tw_674 : (.instanceMethod yR_greatest : Cond) ∈ tsAll := List.mem_filter.mpr ⟨List.mem_append_right _ (List.mem_of_getElem? (l := tables_1) (i := 674) (by decide +kernel)), by decide +kernel⟩
set_option maxRecDepth 20000 in
theorem tw_675 : (.code yR_greatest prog_9_method_20_code 4 (Option.some .int) : Cond) ∈ tsAll := List.mem_filter.mpr ⟨List.mem_append_right _ (List.mem_of_getElem? (l := tables_1) (i := 675) (by decide +kernel)), by decide +kernel⟩
set_option maxRecDepth 20000 in
theorem tw_676 : (.methodLink "TagWorkshopModel" 96 yR_bothTold : Cond) ∈ tsAll := List.mem_filter.mpr ⟨List.mem_append_right _ (List.mem_of_getElem? (l := tables_1) (i := 676) (by decide +kernel)), by decide +kernel⟩
set_option maxRecDepth 20000 in
theorem tw_678 : (.instanceMethod yR_bothTold : Cond) ∈ tsAll := List.mem_filter.mpr ⟨List.mem_append_right _ (List.mem_of_getElem? (l := tables_1) (i := 678) (by decide +kernel)), by decide +kernel⟩
set_option maxRecDepth 20000 in
theorem tw_679 : (.code yR_bothTold prog_9_method_19_code 2 (Option.some .boolean) : Cond) ∈ tsAll := List.mem_filter.mpr ⟨List.mem_append_right _ (List.mem_of_getElem? (l := tables_1) (i := 679) (by decide +kernel)), by decide +kernel⟩
set_option maxRecDepth 20000 in
theorem tw_680 : (.methodLink "TagWorkshopModel" 134 yR_emptySystem : Cond) ∈ tsAll := List.mem_filter.mpr ⟨List.mem_append_right _ (List.mem_of_getElem? (l := tables_1) (i := 680) (by decide +kernel)), by decide +kernel⟩
set_option maxRecDepth 20000 in
theorem tw_682 : (.instanceMethod yR_emptySystem : Cond) ∈ tsAll := List.mem_filter.mpr ⟨List.mem_append_right _ (List.mem_of_getElem? (l := tables_1) (i := 682) (by decide +kernel)), by decide +kernel⟩
set_option maxRecDepth 20000 in
theorem tw_683 : (.code yR_emptySystem prog_9_method_21_code 3 (Option.none : Option Jvm.ClassFile.FieldType) : Cond) ∈ tsAll := List.mem_filter.mpr ⟨List.mem_append_right _ (List.mem_of_getElem? (l := tables_1) (i := 683) (by decide +kernel)), by decide +kernel⟩
set_option maxRecDepth 20000 in
theorem tw_684 : (.methodLink "TagWorkshopModel" 123 yR_letterOf : Cond) ∈ tsAll := List.mem_filter.mpr ⟨List.mem_append_right _ (List.mem_of_getElem? (l := tables_1) (i := 684) (by decide +kernel)), by decide +kernel⟩
set_option maxRecDepth 20000 in
theorem tw_685 : (.static yR_letterOf : Cond) ∈ tsAll := List.mem_filter.mpr ⟨List.mem_append_right _ (List.mem_of_getElem? (l := tables_1) (i := 685) (by decide +kernel)), by decide +kernel⟩
set_option maxRecDepth 20000 in
theorem tw_686 : (.code yR_letterOf prog_9_method_14_code 3 (Option.some .int) : Cond) ∈ tsAll := List.mem_filter.mpr ⟨List.mem_append_right _ (List.mem_of_getElem? (l := tables_1) (i := 686) (by decide +kernel)), by decide +kernel⟩
set_option maxRecDepth 20000 in
theorem tw_687 : (.methodLink "TagWorkshopModel" 141 yR_toTheRight : Cond) ∈ tsAll := List.mem_filter.mpr ⟨List.mem_append_right _ (List.mem_of_getElem? (l := tables_1) (i := 687) (by decide +kernel)), by decide +kernel⟩
set_option maxRecDepth 20000 in
theorem tw_689 : (.instanceMethod yR_toTheRight : Cond) ∈ tsAll := List.mem_filter.mpr ⟨List.mem_append_right _ (List.mem_of_getElem? (l := tables_1) (i := 689) (by decide +kernel)), by decide +kernel⟩
set_option maxRecDepth 20000 in
theorem tw_690 : (.code yR_toTheRight prog_9_method_17_code 5 (Option.none : Option Jvm.ClassFile.FieldType) : Cond) ∈ tsAll := List.mem_filter.mpr ⟨List.mem_append_right _ (List.mem_of_getElem? (l := tables_1) (i := 690) (by decide +kernel)), by decide +kernel⟩
set_option maxRecDepth 20000 in
theorem tw_691 : (.methodLink "TagWorkshopModel" 92 yR_two : Cond) ∈ tsAll := List.mem_filter.mpr ⟨List.mem_append_right _ (List.mem_of_getElem? (l := tables_1) (i := 691) (by decide +kernel)), by decide +kernel⟩
set_option maxRecDepth 20000 in
theorem tw_693 : (.instanceMethod yR_two : Cond) ∈ tsAll := List.mem_filter.mpr ⟨List.mem_append_right _ (List.mem_of_getElem? (l := tables_1) (i := 693) (by decide +kernel)), by decide +kernel⟩
set_option maxRecDepth 20000 in
theorem tw_694 : (.code yR_two prog_9_method_16_code 4 (Option.none : Option Jvm.ClassFile.FieldType) : Cond) ∈ tsAll := List.mem_filter.mpr ⟨List.mem_append_right _ (List.mem_of_getElem? (l := tables_1) (i := 694) (by decide +kernel)), by decide +kernel⟩
set_option maxRecDepth 20000 in
theorem tw_695 : (.methodLink "TagWorkshopModel" 88 yR_add : Cond) ∈ tsAll := List.mem_filter.mpr ⟨List.mem_append_right _ (List.mem_of_getElem? (l := tables_1) (i := 695) (by decide +kernel)), by decide +kernel⟩
set_option maxRecDepth 20000 in
theorem tw_697 : (.instanceMethod yR_add : Cond) ∈ tsAll := List.mem_filter.mpr ⟨List.mem_append_right _ (List.mem_of_getElem? (l := tables_1) (i := 697) (by decide +kernel)), by decide +kernel⟩
set_option maxRecDepth 20000 in
theorem tw_698 : (.code yR_add prog_9_method_15_code 3 (Option.none : Option Jvm.ClassFile.FieldType) : Cond) ∈ tsAll := List.mem_filter.mpr ⟨List.mem_append_right _ (List.mem_of_getElem? (l := tables_1) (i := 698) (by decide +kernel)), by decide +kernel⟩
set_option maxRecDepth 20000 in
theorem tw_699 : (.methodLink "TagWorkshopModel" 145 yR_toTheLeft : Cond) ∈ tsAll := List.mem_filter.mpr ⟨List.mem_append_right _ (List.mem_of_getElem? (l := tables_1) (i := 699) (by decide +kernel)), by decide +kernel⟩
set_option maxRecDepth 20000 in
theorem tw_701 : (.instanceMethod yR_toTheLeft : Cond) ∈ tsAll := List.mem_filter.mpr ⟨List.mem_append_right _ (List.mem_of_getElem? (l := tables_1) (i := 701) (by decide +kernel)), by decide +kernel⟩
set_option maxRecDepth 20000 in
theorem tw_702 : (.code yR_toTheLeft prog_9_method_18_code 5 (Option.none : Option Jvm.ClassFile.FieldType) : Cond) ∈ tsAll := List.mem_filter.mpr ⟨List.mem_append_right _ (List.mem_of_getElem? (l := tables_1) (i := 702) (by decide +kernel)), by decide +kernel⟩
set_option maxRecDepth 20000 in
theorem tw_703 : (.methodLink "TagWorkshopModel" 148 yR_putCode : Cond) ∈ tsAll := List.mem_filter.mpr ⟨List.mem_append_right _ (List.mem_of_getElem? (l := tables_1) (i := 703) (by decide +kernel)), by decide +kernel⟩
set_option maxRecDepth 20000 in
theorem tw_705 : (.instanceMethod yR_putCode : Cond) ∈ tsAll := List.mem_filter.mpr ⟨List.mem_append_right _ (List.mem_of_getElem? (l := tables_1) (i := 705) (by decide +kernel)), by decide +kernel⟩
set_option maxRecDepth 20000 in
theorem tw_706 : (.code yR_putCode prog_9_method_22_code 3 (Option.none : Option Jvm.ClassFile.FieldType) : Cond) ∈ tsAll := List.mem_filter.mpr ⟨List.mem_append_right _ (List.mem_of_getElem? (l := tables_1) (i := 706) (by decide +kernel)), by decide +kernel⟩
set_option maxRecDepth 20000 in
theorem tw_707 : (.methodLink "TagWorkshopModel" 127 yR_push : Cond) ∈ tsAll := List.mem_filter.mpr ⟨List.mem_append_right _ (List.mem_of_getElem? (l := tables_1) (i := 707) (by decide +kernel)), by decide +kernel⟩
set_option maxRecDepth 20000 in
theorem tw_709 : (.instanceMethod yR_push : Cond) ∈ tsAll := List.mem_filter.mpr ⟨List.mem_append_right _ (List.mem_of_getElem? (l := tables_1) (i := 709) (by decide +kernel)), by decide +kernel⟩
set_option maxRecDepth 20000 in
theorem tw_710 : (.code yR_push prog_9_method_30_code 3 (Option.none : Option Jvm.ClassFile.FieldType) : Cond) ∈ tsAll := List.mem_filter.mpr ⟨List.mem_append_right _ (List.mem_of_getElem? (l := tables_1) (i := 710) (by decide +kernel)), by decide +kernel⟩
set_option maxRecDepth 20000 in
theorem tw_719 : (.methodLink "TagWorkshopModel" 151 yR_isLetter : Cond) ∈ tsAll := List.mem_filter.mpr ⟨List.mem_append_right _ (List.mem_of_getElem? (l := tables_1) (i := 719) (by decide +kernel)), by decide +kernel⟩
set_option maxRecDepth 20000 in
theorem tw_721 : (.instanceMethod yR_isLetter : Cond) ∈ tsAll := List.mem_filter.mpr ⟨List.mem_append_right _ (List.mem_of_getElem? (l := tables_1) (i := 721) (by decide +kernel)), by decide +kernel⟩
set_option maxRecDepth 20000 in
theorem tw_722 : (.code yR_isLetter prog_9_method_25_code 2 (Option.some .boolean) : Cond) ∈ tsAll := List.mem_filter.mpr ⟨List.mem_append_right _ (List.mem_of_getElem? (l := tables_1) (i := 722) (by decide +kernel)), by decide +kernel⟩
set_option maxRecDepth 20000 in
theorem tw_727 : (.methodLink "TagWorkshopModel" 154 yR_production : Cond) ∈ tsAll := List.mem_filter.mpr ⟨List.mem_append_right _ (List.mem_of_getElem? (l := tables_1) (i := 727) (by decide +kernel)), by decide +kernel⟩
set_option maxRecDepth 20000 in
theorem tw_728 : (.instanceMethod yR_production : Cond) ∈ tsAll := List.mem_filter.mpr ⟨List.mem_append_right _ (List.mem_of_getElem? (l := tables_1) (i := 728) (by decide +kernel)), by decide +kernel⟩
set_option maxRecDepth 20000 in
theorem tw_729 : (.selects "TagWorkshopModel" yR_production yR_production : Cond) ∈ tsAll := List.mem_filter.mpr ⟨List.mem_append_right _ (List.mem_of_getElem? (l := tables_1) (i := 729) (by decide +kernel)), by decide +kernel⟩
set_option maxRecDepth 20000 in
theorem tw_730 : (.code yR_production prog_9_method_29_code 3 (Option.some .int) : Cond) ∈ tsAll := List.mem_filter.mpr ⟨List.mem_append_right _ (List.mem_of_getElem? (l := tables_1) (i := 730) (by decide +kernel)), by decide +kernel⟩
set_option maxRecDepth 20000 in
theorem tw_744 : (.methodLink "TagWorkshopModel" 156 yR_tagCan : Cond) ∈ tsAll := List.mem_filter.mpr ⟨List.mem_append_right _ (List.mem_of_getElem? (l := tables_1) (i := 744) (by decide +kernel)), by decide +kernel⟩
set_option maxRecDepth 20000 in
theorem tw_746 : (.instanceMethod yR_tagCan : Cond) ∈ tsAll := List.mem_filter.mpr ⟨List.mem_append_right _ (List.mem_of_getElem? (l := tables_1) (i := 746) (by decide +kernel)), by decide +kernel⟩
set_option maxRecDepth 20000 in
theorem tw_747 : (.code yR_tagCan prog_9_method_32_code 2 (Option.some .int) : Cond) ∈ tsAll := List.mem_filter.mpr ⟨List.mem_append_right _ (List.mem_of_getElem? (l := tables_1) (i := 747) (by decide +kernel)), by decide +kernel⟩
set_option maxRecDepth 20000 in
theorem tw_748 : (.methodLink "TagWorkshopModel" 159 yR_tagStep : Cond) ∈ tsAll := List.mem_filter.mpr ⟨List.mem_append_right _ (List.mem_of_getElem? (l := tables_1) (i := 748) (by decide +kernel)), by decide +kernel⟩
set_option maxRecDepth 20000 in
theorem tw_750 : (.instanceMethod yR_tagStep : Cond) ∈ tsAll := List.mem_filter.mpr ⟨List.mem_append_right _ (List.mem_of_getElem? (l := tables_1) (i := 750) (by decide +kernel)), by decide +kernel⟩
set_option maxRecDepth 20000 in
theorem tw_751 : (.code yR_tagStep prog_9_method_33_code 3 (Option.none : Option Jvm.ClassFile.FieldType) : Cond) ∈ tsAll := List.mem_filter.mpr ⟨List.mem_append_right _ (List.mem_of_getElem? (l := tables_1) (i := 751) (by decide +kernel)), by decide +kernel⟩
set_option maxRecDepth 20000 in
theorem tw_764 : (.methodLink "TagWorkshopModel" 162 yR_pushBlock : Cond) ∈ tsAll := List.mem_filter.mpr ⟨List.mem_append_right _ (List.mem_of_getElem? (l := tables_1) (i := 764) (by decide +kernel)), by decide +kernel⟩
set_option maxRecDepth 20000 in
theorem tw_766 : (.instanceMethod yR_pushBlock : Cond) ∈ tsAll := List.mem_filter.mpr ⟨List.mem_append_right _ (List.mem_of_getElem? (l := tables_1) (i := 766) (by decide +kernel)), by decide +kernel⟩
set_option maxRecDepth 20000 in
theorem tw_767 : (.code yR_pushBlock prog_9_method_38_code 3 (Option.none : Option Jvm.ClassFile.FieldType) : Cond) ∈ tsAll := List.mem_filter.mpr ⟨List.mem_append_right _ (List.mem_of_getElem? (l := tables_1) (i := 767) (by decide +kernel)), by decide +kernel⟩
set_option maxRecDepth 20000 in
theorem tw_772 : (.methodLink "TagWorkshopModel" 168 yR_cyclicCan : Cond) ∈ tsAll := List.mem_filter.mpr ⟨List.mem_append_right _ (List.mem_of_getElem? (l := tables_1) (i := 772) (by decide +kernel)), by decide +kernel⟩
set_option maxRecDepth 20000 in
theorem tw_774 : (.instanceMethod yR_cyclicCan : Cond) ∈ tsAll := List.mem_filter.mpr ⟨List.mem_append_right _ (List.mem_of_getElem? (l := tables_1) (i := 774) (by decide +kernel)), by decide +kernel⟩
set_option maxRecDepth 20000 in
theorem tw_775 : (.code yR_cyclicCan prog_9_method_40_code 2 (Option.some .int) : Cond) ∈ tsAll := List.mem_filter.mpr ⟨List.mem_append_right _ (List.mem_of_getElem? (l := tables_1) (i := 775) (by decide +kernel)), by decide +kernel⟩
set_option maxRecDepth 20000 in
theorem tw_776 : (.methodLink "TagWorkshopModel" 165 yR_bits : Cond) ∈ tsAll := List.mem_filter.mpr ⟨List.mem_append_right _ (List.mem_of_getElem? (l := tables_1) (i := 776) (by decide +kernel)), by decide +kernel⟩
set_option maxRecDepth 20000 in
theorem tw_778 : (.instanceMethod yR_bits : Cond) ∈ tsAll := List.mem_filter.mpr ⟨List.mem_append_right _ (List.mem_of_getElem? (l := tables_1) (i := 778) (by decide +kernel)), by decide +kernel⟩
set_option maxRecDepth 20000 in
theorem tw_779 : (.code yR_bits prog_9_method_39_code 1 (Option.some .int) : Cond) ∈ tsAll := List.mem_filter.mpr ⟨List.mem_append_right _ (List.mem_of_getElem? (l := tables_1) (i := 779) (by decide +kernel)), by decide +kernel⟩
set_option maxRecDepth 20000 in
theorem tw_780 : (.methodLink "TagWorkshopModel" 171 yR_cyclicStep : Cond) ∈ tsAll := List.mem_filter.mpr ⟨List.mem_append_right _ (List.mem_of_getElem? (l := tables_1) (i := 780) (by decide +kernel)), by decide +kernel⟩
set_option maxRecDepth 20000 in
theorem tw_782 : (.instanceMethod yR_cyclicStep : Cond) ∈ tsAll := List.mem_filter.mpr ⟨List.mem_append_right _ (List.mem_of_getElem? (l := tables_1) (i := 782) (by decide +kernel)), by decide +kernel⟩
set_option maxRecDepth 20000 in
theorem tw_783 : (.code yR_cyclicStep prog_9_method_41_code 3 (Option.none : Option Jvm.ClassFile.FieldType) : Cond) ∈ tsAll := List.mem_filter.mpr ⟨List.mem_append_right _ (List.mem_of_getElem? (l := tables_1) (i := 783) (by decide +kernel)), by decide +kernel⟩
set_option maxRecDepth 20000 in
theorem tw_804 : (.methodLink "TagWorkshopModel" 189 yR_isCode : Cond) ∈ tsAll := List.mem_filter.mpr ⟨List.mem_append_right _ (List.mem_of_getElem? (l := tables_1) (i := 804) (by decide +kernel)), by decide +kernel⟩
set_option maxRecDepth 20000 in
theorem tw_806 : (.instanceMethod yR_isCode : Cond) ∈ tsAll := List.mem_filter.mpr ⟨List.mem_append_right _ (List.mem_of_getElem? (l := tables_1) (i := 806) (by decide +kernel)), by decide +kernel⟩
set_option maxRecDepth 20000 in
theorem tw_807 : (.code yR_isCode prog_9_method_48_code 3 (Option.some .boolean) : Cond) ∈ tsAll := List.mem_filter.mpr ⟨List.mem_append_right _ (List.mem_of_getElem? (l := tables_1) (i := 807) (by decide +kernel)), by decide +kernel⟩
set_option maxRecDepth 20000 in
theorem tw_808 : (.methodLink "TagWorkshopModel" 174 yR_pairs : Cond) ∈ tsAll := List.mem_filter.mpr ⟨List.mem_append_right _ (List.mem_of_getElem? (l := tables_1) (i := 808) (by decide +kernel)), by decide +kernel⟩
set_option maxRecDepth 20000 in
theorem tw_810 : (.instanceMethod yR_pairs : Cond) ∈ tsAll := List.mem_filter.mpr ⟨List.mem_append_right _ (List.mem_of_getElem? (l := tables_1) (i := 810) (by decide +kernel)), by decide +kernel⟩
set_option maxRecDepth 20000 in
theorem tw_811 : (.code yR_pairs prog_9_method_47_code 4 (Option.some .int) : Cond) ∈ tsAll := List.mem_filter.mpr ⟨List.mem_append_right _ (List.mem_of_getElem? (l := tables_1) (i := 811) (by decide +kernel)), by decide +kernel⟩
set_option maxRecDepth 20000 in
theorem tw_813 : (.instanceMethod yR_nextBorder : Cond) ∈ tsAll := List.mem_filter.mpr ⟨List.mem_append_right _ (List.mem_of_getElem? (l := tables_1) (i := 813) (by decide +kernel)), by decide +kernel⟩
set_option maxRecDepth 20000 in
theorem tw_814 : (.selects "TagWorkshopModel" yR_nextBorder yR_nextBorder : Cond) ∈ tsAll := List.mem_filter.mpr ⟨List.mem_append_right _ (List.mem_of_getElem? (l := tables_1) (i := 814) (by decide +kernel)), by decide +kernel⟩
set_option maxRecDepth 20000 in
theorem tw_815 : (.code yR_nextBorder prog_9_method_50_code 2 (Option.some .int) : Cond) ∈ tsAll := List.mem_filter.mpr ⟨List.mem_append_right _ (List.mem_of_getElem? (l := tables_1) (i := 815) (by decide +kernel)), by decide +kernel⟩
set_option maxRecDepth 20000 in
theorem tw_824 : (.methodLink "TagWorkshopModel" 193 yR_nextBorder : Cond) ∈ tsAll := List.mem_filter.mpr ⟨List.mem_append_right _ (List.mem_of_getElem? (l := tables_1) (i := 824) (by decide +kernel)), by decide +kernel⟩
set_option maxRecDepth 20000 in
theorem tw_825 : (.methodLink "TagWorkshopModel" 196 yR_agrees : Cond) ∈ tsAll := List.mem_filter.mpr ⟨List.mem_append_right _ (List.mem_of_getElem? (l := tables_1) (i := 825) (by decide +kernel)), by decide +kernel⟩
set_option maxRecDepth 20000 in
theorem tw_827 : (.instanceMethod yR_agrees : Cond) ∈ tsAll := List.mem_filter.mpr ⟨List.mem_append_right _ (List.mem_of_getElem? (l := tables_1) (i := 827) (by decide +kernel)), by decide +kernel⟩
set_option maxRecDepth 20000 in
theorem tw_828 : (.code yR_agrees prog_9_method_52_code 1 (Option.some .boolean) : Cond) ∈ tsAll := List.mem_filter.mpr ⟨List.mem_append_right _ (List.mem_of_getElem? (l := tables_1) (i := 828) (by decide +kernel)), by decide +kernel⟩
set_option maxRecDepth 20000 in
theorem tw_829 : (.selects "TagWorkshop$TapeMachine" yM_canGoOn yM_canGoOn : Cond) ∈ tsAll := List.mem_filter.mpr ⟨List.mem_append_right _ (List.mem_of_getElem? (l := tables_1) (i := 829) (by decide +kernel)), by decide +kernel⟩
set_option maxRecDepth 20000 in
theorem tw_830 : (.selects "TagWorkshop$CyclicSystem" yY_canGoOn yY_canGoOn : Cond) ∈ tsAll := List.mem_filter.mpr ⟨List.mem_append_right _ (List.mem_of_getElem? (l := tables_1) (i := 830) (by decide +kernel)), by decide +kernel⟩
set_option maxRecDepth 20000 in
theorem tw_831 : (.selects "TagWorkshop$TagSystem" yT_step yT_step : Cond) ∈ tsAll := List.mem_filter.mpr ⟨List.mem_append_right _ (List.mem_of_getElem? (l := tables_1) (i := 831) (by decide +kernel)), by decide +kernel⟩
set_option maxRecDepth 20000 in
theorem tw_832 : (.selects "TagWorkshop$TapeMachine" yM_step yM_step : Cond) ∈ tsAll := List.mem_filter.mpr ⟨List.mem_append_right _ (List.mem_of_getElem? (l := tables_1) (i := 832) (by decide +kernel)), by decide +kernel⟩

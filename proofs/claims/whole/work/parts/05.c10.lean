-- M_tagStepsOf: room (2, 43), Option (Int32)
def fM_tagStepsOf (S : pM) (v1 : Int32) (v2 : Int32) (v3 : Int32) (v4 : Int32) : Option (Int32) :=
  (fM_hasStep S v1 v2).bind fun q1 =>
  if q1 = true then (
    (fM_moveOf S v1 v2).bind fun q4 =>
    if q4 = (1 : Int32) then (
      (fM_writeOf S v1 v2).bind fun q9 =>
      some (((v3 + v4) + (2 : Int32)) + ((2 : Int32) * (((((2 : Int32) * v3) + q9) + (2 : Int32)) + (v4 / (2 : Int32)))))
    ) else (
      (fM_writeOf S v1 v2).bind fun q7 =>
      some (((v3 + v4) + (2 : Int32)) + ((2 : Int32) * (((((2 : Int32) * v4) + q7) + (2 : Int32)) + (v3 / (2 : Int32)))))
    )
  ) else (
    some (-1 : Int32)
  )
set_option maxRecDepth 100000 in
set_option maxHeartbeats 4000000 in
theorem mM_tagStepsOf {V : ee_V} (a : Nat → Nat) (S : pM) (v1 : Int32) (v2 : Int32) (v3 : Int32) (v4 : Int32) (R : Int32) (hf : fM_tagStepsOf S v1 v2 v3 v4 = some R) : wk_I (ee V) yM_tagStepsOf ts_M_tagStepsOf ⟨2, 0, 0, 43⟩ [.ref (a 0), .int v1, .int v2, .int v3, .int v4] (cM V a S) (fun (r : Int32) (_ : Unit) => R = r) (fun _ : Unit => cM V a S) := by
  refine wk_of (ee_ok V) (by decide +kernel) rfl (Nat.le_of_ble_eq_true rfl) ?_
  intro x X Z
  unfold fM_tagStepsOf at hf
  refine wk_lq (lv' := [(0, .ref (a 0)), (1, .int v1), (2, .int v2), (3, .int v3), (4, .int v4)]) rfl ?_
  refine wk_aload_n X 0 dM_tagStepsOf_0 rfl rfl ?_
  refine wk_iload_n X 1 dM_tagStepsOf_1 rfl rfl ?_
  refine wk_iload_n X 2 dM_tagStepsOf_2 rfl rfl ?_
  obtain ⟨q1, h2, hf⟩ := p_ob hf
  refine wk_goI [0, 1, 2, 3] (wk_rV X (mM_hasStep (V := V) a S v1 v2 q1 h2) rfl (gd (tw_221)) [0, 1, 2, 3] rfl rfl 0 rfl rfl (tl tw_392) (tl tw_219) (tl tw_220) (tl tw_3) 2 pd_M_hasStep rfl ⟨rfl, rfl⟩ ⟨Nat.le_of_ble_eq_true rfl, Nat.le_of_ble_eq_true rfl⟩ rfl (Nat.le_of_ble_eq_true rfl) dM_tagStepsOf_3) rfl ?_
  rintro r ⟨⟩ rfl
  refine wk_ws (ws' := cM V a S) rfl ?_
  refine wk_bz_ne X dM_tagStepsOf_6 (tgt := 11) rfl (fun h3 => ?_) (fun h3 => ?_)
  · replace hf := p_it h3 hf
    refine wk_aload_n X 0 dM_tagStepsOf_11 rfl rfl ?_
    refine wk_iload_n X 1 dM_tagStepsOf_12 rfl rfl ?_
    refine wk_iload_n X 2 dM_tagStepsOf_13 rfl rfl ?_
    obtain ⟨q4, h5, hf⟩ := p_ob hf
    refine wk_goI [0, 1, 2, 3] (wk_rV X (mM_moveOf (V := V) a S v1 v2 q4 h5) rfl (gd (tw_237)) [0, 1, 2, 3] rfl rfl 0 rfl rfl (tl tw_393) (tl tw_235) (tl tw_236) (tl tw_3) 2 pd_M_moveOf rfl ⟨rfl, rfl⟩ ⟨Nat.le_of_ble_eq_true rfl, Nat.le_of_ble_eq_true rfl⟩ rfl (Nat.le_of_ble_eq_true rfl) dM_tagStepsOf_14) rfl ?_
    rintro r ⟨⟩ rfl
    refine wk_ws (ws' := cM V a S) rfl ?_
    refine wk_iconst X dM_tagStepsOf_17 (v := (1 : Int32)) (by decide) ?_
    refine wk_icmp_ne X dM_tagStepsOf_18 (tgt := 25) rfl (fun h6 => ?_) (fun h6 => ?_)
    · replace hf := p_ie h6 hf
      refine wk_iconst X dM_tagStepsOf_25 (v := (0 : Int32)) (by decide) ?_
      refine wk_istore X dM_tagStepsOf_26 (Nat.le_of_ble_eq_true rfl) (lv' := [(5, .int (0 : Int32)), (0, .ref (a 0)), (1, .int v1), (2, .int v2), (3, .int v3), (4, .int v4)]) rfl ?_
      refine wk_iload X 0 dM_tagStepsOf_28 rfl ?_
      refine wk_if_eq X dM_tagStepsOf_30 (tgt := 37) rfl (fun _ => ?_) (fun h => absurd (by decide) h)
      refine wk_iload X 5 dM_tagStepsOf_37 rfl ?_
      refine wk_istore X dM_tagStepsOf_39 (Nat.le_of_ble_eq_true rfl) (lv' := [(6, .int v4), (5, .int (0 : Int32)), (0, .ref (a 0)), (1, .int v1), (2, .int v2), (3, .int v3), (4, .int v4)]) rfl ?_
      refine wk_iload X 1 dM_tagStepsOf_41 rfl ?_
      refine wk_if_eq X dM_tagStepsOf_43 (tgt := 51) rfl (fun _ => ?_) (fun h => absurd (by decide) h)
      refine wk_iload_n X 5 dM_tagStepsOf_51 rfl rfl ?_
      refine wk_iconst X dM_tagStepsOf_52 (v := (2 : Int32)) (by decide) ?_
      refine wk_idiv X dM_tagStepsOf_53 (by decide) ?_
      refine wk_istore X dM_tagStepsOf_54 (Nat.le_of_ble_eq_true rfl) (lv' := [(7, .int (v3 / (2 : Int32))), (6, .int v4), (5, .int (0 : Int32)), (0, .ref (a 0)), (1, .int v1), (2, .int v2), (3, .int v3), (4, .int v4)]) rfl ?_
      refine wk_iload_n X 6 dM_tagStepsOf_56 rfl rfl ?_
      refine wk_iload X 7 dM_tagStepsOf_57 rfl ?_
      refine wk_iadd X dM_tagStepsOf_59 ?_
      refine wk_iconst X dM_tagStepsOf_60 (v := (2 : Int32)) (by decide) ?_
      refine wk_iadd X dM_tagStepsOf_61 ?_
      refine wk_iconst X dM_tagStepsOf_62 (v := (2 : Int32)) (by decide) ?_
      refine wk_iconst X dM_tagStepsOf_63 (v := (2 : Int32)) (by decide) ?_
      refine wk_iload X 1 dM_tagStepsOf_64 rfl ?_
      refine wk_imul X dM_tagStepsOf_66 ?_
      refine wk_aload_n X 3 dM_tagStepsOf_67 rfl rfl ?_
      refine wk_iload_n X 4 dM_tagStepsOf_68 rfl rfl ?_
      refine wk_iload_n X 5 dM_tagStepsOf_69 rfl rfl ?_
      obtain ⟨q7, h8, hf⟩ := p_ob hf
      refine wk_goI [0, 1, 2, 3] (wk_rV X (mM_writeOf (V := V) a S v1 v2 q7 h8) rfl (gd (tw_261)) [0, 1, 2, 3] rfl rfl 0 rfl rfl (tl tw_394) (tl tw_259) (tl tw_260) (tl tw_3) 2 pd_M_writeOf rfl ⟨rfl, rfl⟩ ⟨Nat.le_of_ble_eq_true rfl, Nat.le_of_ble_eq_true rfl⟩ rfl (Nat.le_of_ble_eq_true rfl) dM_tagStepsOf_70) rfl ?_
      rintro r ⟨⟩ rfl
      refine wk_ws (ws' := cM V a S) rfl ?_
      refine wk_iadd X dM_tagStepsOf_73 ?_
      refine wk_iconst X dM_tagStepsOf_74 (v := (2 : Int32)) (by decide) ?_
      refine wk_iadd X dM_tagStepsOf_75 ?_
      refine wk_iload X 0 dM_tagStepsOf_76 rfl ?_
      refine wk_iadd X dM_tagStepsOf_78 ?_
      refine wk_imul X dM_tagStepsOf_79 ?_
      refine wk_iadd X dM_tagStepsOf_80 ?_
      have hf := Option.some.inj hf
      exact wk_iret X Z rfl dM_tagStepsOf_81 () (Eq.symm hf) rfl rfl
    · replace hf := p_it h6 hf
      refine wk_iconst X dM_tagStepsOf_21 (v := (1 : Int32)) (by decide) ?_
      refine wk_goto X dM_tagStepsOf_22 (tgt := 26) rfl ?_
      refine wk_istore X dM_tagStepsOf_26 (Nat.le_of_ble_eq_true rfl) (lv' := [(5, .int (1 : Int32)), (0, .ref (a 0)), (1, .int v1), (2, .int v2), (3, .int v3), (4, .int v4)]) rfl ?_
      refine wk_iload X 0 dM_tagStepsOf_28 rfl ?_
      refine wk_if_eq X dM_tagStepsOf_30 (tgt := 37) rfl (fun h => absurd h (by decide)) (fun _ => ?_)
      refine wk_iload_n X 4 dM_tagStepsOf_33 rfl rfl ?_
      refine wk_goto X dM_tagStepsOf_34 (tgt := 39) rfl ?_
      refine wk_istore X dM_tagStepsOf_39 (Nat.le_of_ble_eq_true rfl) (lv' := [(6, .int v3), (5, .int (1 : Int32)), (0, .ref (a 0)), (1, .int v1), (2, .int v2), (3, .int v3), (4, .int v4)]) rfl ?_
      refine wk_iload X 1 dM_tagStepsOf_41 rfl ?_
      refine wk_if_eq X dM_tagStepsOf_43 (tgt := 51) rfl (fun h => absurd h (by decide)) (fun _ => ?_)
      refine wk_iload X 6 dM_tagStepsOf_46 rfl ?_
      refine wk_goto X dM_tagStepsOf_48 (tgt := 52) rfl ?_
      refine wk_iconst X dM_tagStepsOf_52 (v := (2 : Int32)) (by decide) ?_
      refine wk_idiv X dM_tagStepsOf_53 (by decide) ?_
      refine wk_istore X dM_tagStepsOf_54 (Nat.le_of_ble_eq_true rfl) (lv' := [(7, .int (v4 / (2 : Int32))), (6, .int v3), (5, .int (1 : Int32)), (0, .ref (a 0)), (1, .int v1), (2, .int v2), (3, .int v3), (4, .int v4)]) rfl ?_
      refine wk_iload_n X 6 dM_tagStepsOf_56 rfl rfl ?_
      refine wk_iload X 7 dM_tagStepsOf_57 rfl ?_
      refine wk_iadd X dM_tagStepsOf_59 ?_
      refine wk_iconst X dM_tagStepsOf_60 (v := (2 : Int32)) (by decide) ?_
      refine wk_iadd X dM_tagStepsOf_61 ?_
      refine wk_iconst X dM_tagStepsOf_62 (v := (2 : Int32)) (by decide) ?_
      refine wk_iconst X dM_tagStepsOf_63 (v := (2 : Int32)) (by decide) ?_
      refine wk_iload X 1 dM_tagStepsOf_64 rfl ?_
      refine wk_imul X dM_tagStepsOf_66 ?_
      refine wk_aload_n X 3 dM_tagStepsOf_67 rfl rfl ?_
      refine wk_iload_n X 4 dM_tagStepsOf_68 rfl rfl ?_
      refine wk_iload_n X 5 dM_tagStepsOf_69 rfl rfl ?_
      obtain ⟨q9, h10, hf⟩ := p_ob hf
      refine wk_goI [0, 1, 2, 3] (wk_rV X (mM_writeOf (V := V) a S v1 v2 q9 h10) rfl (gd (tw_261)) [0, 1, 2, 3] rfl rfl 0 rfl rfl (tl tw_394) (tl tw_259) (tl tw_260) (tl tw_3) 2 pd_M_writeOf rfl ⟨rfl, rfl⟩ ⟨Nat.le_of_ble_eq_true rfl, Nat.le_of_ble_eq_true rfl⟩ rfl (Nat.le_of_ble_eq_true rfl) dM_tagStepsOf_70) rfl ?_
      rintro r ⟨⟩ rfl
      refine wk_ws (ws' := cM V a S) rfl ?_
      refine wk_iadd X dM_tagStepsOf_73 ?_
      refine wk_iconst X dM_tagStepsOf_74 (v := (2 : Int32)) (by decide) ?_
      refine wk_iadd X dM_tagStepsOf_75 ?_
      refine wk_iload X 0 dM_tagStepsOf_76 rfl ?_
      refine wk_iadd X dM_tagStepsOf_78 ?_
      refine wk_imul X dM_tagStepsOf_79 ?_
      refine wk_iadd X dM_tagStepsOf_80 ?_
      have hf := Option.some.inj hf
      exact wk_iret X Z rfl dM_tagStepsOf_81 () (Eq.symm hf) rfl rfl
  · replace hf := p_ie h3 hf
    refine wk_iconst X dM_tagStepsOf_9 (v := (-1 : Int32)) (by decide) ?_
    have hf := Option.some.inj hf
    exact wk_iret X Z rfl dM_tagStepsOf_10 () (Eq.symm hf) rfl rfl
-- X_roundCost: room (3, 70), Option (Int32)
def fX_roundCost (S : pX) (v1 : Int32) (v2 : Int32) (v3 : Int32) (v4 : Int32) : Option (Int32) :=
  if (fM_isConfiguration v1 v2 v3 v4) = true then (
    (fM_tagStepsOf S.1 v1 v2 v3 v4).bind fun q2 =>
    some q2
  ) else (
    some (-1 : Int32)
  )
set_option maxRecDepth 100000 in
set_option maxHeartbeats 4000000 in
theorem mX_roundCost {V : ee_V} (a : Nat → Nat) (S : pX) (v1 : Int32) (v2 : Int32) (v3 : Int32) (v4 : Int32) (R : Int32) (hf : fX_roundCost S v1 v2 v3 v4 = some R) : wk_I (ee V) yX_roundCost ts_X_roundCost ⟨3, 0, 0, 70⟩ [.ref (a 0), .int v1, .int v2, .int v3, .int v4] (cX V a S) (fun (r : Int32) (_ : Unit) => R = r) (fun _ : Unit => cX V a S) := by
  refine wk_of (ee_ok V) (by decide +kernel) rfl (Nat.le_of_ble_eq_true rfl) ?_
  intro x X Z
  unfold fX_roundCost at hf
  refine wk_lq (lv' := [(0, .ref (a 0)), (1, .int v1), (2, .int v2), (3, .int v3), (4, .int v4)]) rfl ?_
  refine wk_iload_n X 1 dX_roundCost_0 rfl rfl ?_
  refine wk_iload_n X 2 dX_roundCost_1 rfl rfl ?_
  refine wk_iload_n X 3 dX_roundCost_2 rfl rfl ?_
  refine wk_iload X 4 dX_roundCost_3 rfl ?_
  refine wk_goI [] (wk_rS X (mM_isConfiguration (V := V) v1 v2 v3 v4 (fM_isConfiguration v1 v2 v3 v4) rfl) rfl (gd (tw_178)) [] rfl rfl (tl tw_511) (tl tw_177) (tl tw_3) 4 pd_M_isConfiguration rfl ⟨rfl, rfl⟩ ⟨Nat.le_of_ble_eq_true rfl, Nat.le_of_ble_eq_true rfl⟩ rfl (Nat.le_of_ble_eq_true rfl) dX_roundCost_5) rfl ?_
  rintro r ⟨⟩ rfl
  refine wk_ws (ws' := cX V a S) rfl ?_
  refine wk_bz_ne X dX_roundCost_8 (tgt := 13) rfl (fun h1 => ?_) (fun h1 => ?_)
  · replace hf := p_it h1 hf
    refine wk_aload_n X 0 dX_roundCost_13 rfl rfl ?_
    refine wk_get X uw_X 0 rfl rfl 0 (Nat.le_of_ble_eq_true rfl) (tl tw_138) rfl rfl dX_roundCost_14 ?_
    refine wk_iload_n X 1 dX_roundCost_17 rfl rfl ?_
    refine wk_iload_n X 2 dX_roundCost_18 rfl rfl ?_
    refine wk_iload_n X 3 dX_roundCost_19 rfl rfl ?_
    refine wk_iload X 4 dX_roundCost_20 rfl ?_
    obtain ⟨q2, h3, hf⟩ := p_ob hf
    refine wk_goI [1, 2, 3, 4] (wk_rV X (mM_tagStepsOf (V := V) (fun i => a (i + 1)) S.1 v1 v2 v3 v4 q2 h3) rfl (gd (tw_515)) [1, 2, 3, 4] rfl rfl 1 rfl rfl (tl tw_512) (tl tw_513) (tl tw_514) (tl tw_3) 4 pd_M_tagStepsOf rfl ⟨rfl, rfl⟩ ⟨Nat.le_of_ble_eq_true rfl, Nat.le_of_ble_eq_true rfl⟩ rfl (Nat.le_of_ble_eq_true rfl) dX_roundCost_22) rfl ?_
    rintro r ⟨⟩ rfl
    refine wk_ws (ws' := cX V a S) rfl ?_
    have hf := Option.some.inj hf
    exact wk_iret X Z rfl dX_roundCost_25 () (Eq.symm hf) rfl rfl
  · replace hf := p_ie h1 hf
    refine wk_iconst X dX_roundCost_11 (v := (-1 : Int32)) (by decide) ?_
    have hf := Option.some.inj hf
    exact wk_iret X Z rfl dX_roundCost_12 () (Eq.symm hf) rfl rfl
-- C_isOf: room (0, 0), Bool
def fC_isOf (S : pC) (S2 : pM) : Bool :=
  if S.1 = S2.2.2.2.1 then (
    if S.2.1 = S2.2.2.2.2.1 then (
      if S.2.2.1 = S2.2.2.2.2.2.1 then (
        if S.2.2.2 = S2.2.2.2.2.2.2 then (
          true
        ) else (
          false
        )
      ) else (
        false
      )
    ) else (
      false
    )
  ) else (
    false
  )
set_option maxRecDepth 100000 in
set_option maxHeartbeats 4000000 in
theorem mC_isOf {V : ee_V} (a b : Nat → Nat) (S : pC) (S2 : pM) (R : Bool) (hf : fC_isOf S S2 = R) : wk_I (ee V) yC_isOf ts_C_isOf ⟨0, 0, 0, 0⟩ [.ref (a 0), .ref (b 0)] (cC V a S ++ cM V b S2) (fun (r : Int32) (_ : Unit) => p_b (R) = r) (fun _ : Unit => cC V a S ++ cM V b S2) := by
  refine wk_of (ee_ok V) (by decide +kernel) rfl (Nat.le_of_ble_eq_true rfl) ?_
  intro x X Z
  unfold fC_isOf at hf
  refine wk_lq (lv' := [(0, .ref (a 0)), (1, .ref (b 0))]) rfl ?_
  refine wk_aload_n X 0 dC_isOf_0 rfl rfl ?_
  refine wk_get X uw_C 0 rfl rfl 0 (Nat.le_of_ble_eq_true rfl) (tl tw_121) rfl rfl dC_isOf_1 ?_
  refine wk_aload_n X 1 dC_isOf_4 rfl rfl ?_
  refine wk_get X uw_M 1 rfl rfl 3 (Nat.le_of_ble_eq_true rfl) (tl tw_32) rfl rfl dC_isOf_5 ?_
  refine wk_icmp_ne X dC_isOf_8 (tgt := 48) rfl (fun h1 => ?_) (fun h1 => ?_)
  · replace hf := p_ie h1 hf
    refine wk_iconst X dC_isOf_48 (v := (0 : Int32)) (by decide) ?_
    exact wk_iret X Z rfl dC_isOf_49 () (Eq.symm (congrArg p_b hf)) rfl rfl
  · replace hf := p_it h1 hf
    refine wk_aload_n X 0 dC_isOf_11 rfl rfl ?_
    refine wk_get X uw_C 0 rfl rfl 1 (Nat.le_of_ble_eq_true rfl) (tl tw_123) rfl rfl dC_isOf_12 ?_
    refine wk_aload_n X 1 dC_isOf_15 rfl rfl ?_
    refine wk_get X uw_M 1 rfl rfl 4 (Nat.le_of_ble_eq_true rfl) (tl tw_35) rfl rfl dC_isOf_16 ?_
    refine wk_icmp_ne X dC_isOf_19 (tgt := 48) rfl (fun h2 => ?_) (fun h2 => ?_)
    · replace hf := p_ie h2 hf
      refine wk_iconst X dC_isOf_48 (v := (0 : Int32)) (by decide) ?_
      exact wk_iret X Z rfl dC_isOf_49 () (Eq.symm (congrArg p_b hf)) rfl rfl
    · replace hf := p_it h2 hf
      refine wk_aload_n X 0 dC_isOf_22 rfl rfl ?_
      refine wk_get X uw_C 0 rfl rfl 2 (Nat.le_of_ble_eq_true rfl) (tl tw_125) rfl rfl dC_isOf_23 ?_
      refine wk_aload_n X 1 dC_isOf_26 rfl rfl ?_
      refine wk_get X uw_M 1 rfl rfl 5 (Nat.le_of_ble_eq_true rfl) (tl tw_38) rfl rfl dC_isOf_27 ?_
      refine wk_icmp_ne X dC_isOf_30 (tgt := 48) rfl (fun h3 => ?_) (fun h3 => ?_)
      · replace hf := p_ie h3 hf
        refine wk_iconst X dC_isOf_48 (v := (0 : Int32)) (by decide) ?_
        exact wk_iret X Z rfl dC_isOf_49 () (Eq.symm (congrArg p_b hf)) rfl rfl
      · replace hf := p_it h3 hf
        refine wk_aload_n X 0 dC_isOf_33 rfl rfl ?_
        refine wk_get X uw_C 0 rfl rfl 3 (Nat.le_of_ble_eq_true rfl) (tl tw_127) rfl rfl dC_isOf_34 ?_
        refine wk_aload_n X 1 dC_isOf_37 rfl rfl ?_
        refine wk_get X uw_M 1 rfl rfl 6 (Nat.le_of_ble_eq_true rfl) (tl tw_41) rfl rfl dC_isOf_38 ?_
        refine wk_icmp_ne X dC_isOf_41 (tgt := 48) rfl (fun h4 => ?_) (fun h4 => ?_)
        · replace hf := p_ie h4 hf
          refine wk_iconst X dC_isOf_48 (v := (0 : Int32)) (by decide) ?_
          exact wk_iret X Z rfl dC_isOf_49 () (Eq.symm (congrArg p_b hf)) rfl rfl
        · replace hf := p_it h4 hf
          refine wk_iconst X dC_isOf_44 (v := (1 : Int32)) (by decide) ?_
          refine wk_goto X dC_isOf_45 (tgt := 49) rfl ?_
          exact wk_iret X Z rfl dC_isOf_49 () (Eq.symm (congrArg p_b hf)) rfl rfl
-- X_tagFollowsTape: room (5, 112), Option (Bool × pX)
def fX_tagFollowsTape (S : pX) : Option (Bool × pX) :=
  (fX_nextBorder S).bind fun q1 =>
  if q1.1 ≤ 0 then (
    some (false, q1.2)
  ) else (
    if (fC_isOf q1.2.2.2.2 q1.2.1) = true then (
      some (true, q1.2)
    ) else (
      some (false, q1.2)
    )
  )
set_option maxRecDepth 100000 in
set_option maxHeartbeats 4000000 in
theorem mX_tagFollowsTape {V : ee_V} (a : Nat → Nat) (S : pX) (R : Bool × pX) (hf : fX_tagFollowsTape S = some R) : wk_I (ee V) yX_tagFollowsTape ts_X_tagFollowsTape ⟨5, 0, 0, 112⟩ [.ref (a 0)] (cX V a S) (fun (r : Int32) (u : pX) => p_b (R.1) = r ∧ R.2 = u) (fun u : pX => cX V a u) := by
  refine wk_of (ee_ok V) (by decide +kernel) rfl (Nat.le_of_ble_eq_true rfl) ?_
  intro x X Z
  unfold fX_tagFollowsTape at hf
  refine wk_lq (lv' := [(0, .ref (a 0))]) rfl ?_
  refine wk_aload_n X 0 dX_tagFollowsTape_0 rfl rfl ?_
  obtain ⟨q1, h2, hf⟩ := p_ob hf
  refine wk_goI [0, 1, 2, 3, 4, 5, 6, 7, 8, 9, 10, 11, 12, 13, 14, 15, 16] (wk_rV X (mX_nextBorder (V := V) a S q1 h2) rfl (gd (tw_505)) [0, 1, 2, 3, 4, 5, 6, 7, 8, 9, 10, 11, 12, 13, 14, 15, 16] rfl rfl 0 rfl rfl (tl tw_526) (tl tw_503) (tl tw_504) (tl tw_1) 0 pd_X_nextBorder rfl ⟨rfl, rfl⟩ ⟨Nat.le_of_ble_eq_true rfl, Nat.le_of_ble_eq_true rfl⟩ rfl (Nat.le_of_ble_eq_true rfl) dX_tagFollowsTape_1) rfl ?_
  rintro r u ⟨rfl, rfl⟩
  refine wk_ws (ws' := cX V a q1.2) rfl ?_
  refine wk_if_le X dX_tagFollowsTape_4 (tgt := 25) rfl (fun h3 => ?_) (fun h3 => ?_)
  · replace hf := p_it h3 hf
    refine wk_iconst X dX_tagFollowsTape_25 (v := (0 : Int32)) (by decide) ?_
    have hf := Option.some.inj hf
    exact wk_iret X Z rfl dX_tagFollowsTape_26 (q1.2) ⟨Eq.symm (congrArg p_b (congrArg Prod.fst hf)), Eq.symm (congrArg Prod.snd hf)⟩ rfl rfl
  · replace hf := p_ie h3 hf
    refine wk_aload_n X 0 dX_tagFollowsTape_7 rfl rfl ?_
    refine wk_get X uw_X 0 rfl rfl 3 (Nat.le_of_ble_eq_true rfl) (tl tw_141) rfl rfl dX_tagFollowsTape_8 ?_
    refine wk_aload_n X 0 dX_tagFollowsTape_11 rfl rfl ?_
    refine wk_get X uw_X 0 rfl rfl 0 (Nat.le_of_ble_eq_true rfl) (tl tw_138) rfl rfl dX_tagFollowsTape_12 ?_
    refine wk_goI [16, 1, 2, 3, 4] (wk_rV X (mC_isOf (V := V) (fun i => a (i + 16)) (fun i => a (i + 1)) q1.2.2.2.2 q1.2.1 (fC_isOf q1.2.2.2.2 q1.2.1) rfl) rfl (gd (tw_530)) [16, 1, 2, 3, 4] rfl rfl 16 rfl rfl (tl tw_527) (tl tw_528) (tl tw_529) (tl tw_6) 1 pd_C_isOf rfl ⟨rfl, rfl⟩ ⟨Nat.le_of_ble_eq_true rfl, Nat.le_of_ble_eq_true rfl⟩ rfl (Nat.le_of_ble_eq_true rfl) dX_tagFollowsTape_15) rfl ?_
    rintro r ⟨⟩ rfl
    refine wk_ws (ws' := cX V a q1.2) rfl ?_
    refine wk_bz_eq X dX_tagFollowsTape_18 (tgt := 25) rfl (fun h4 => ?_) (fun h4 => ?_)
    · replace hf := p_ie h4 hf
      refine wk_iconst X dX_tagFollowsTape_25 (v := (0 : Int32)) (by decide) ?_
      have hf := Option.some.inj hf
      exact wk_iret X Z rfl dX_tagFollowsTape_26 (q1.2) ⟨Eq.symm (congrArg p_b (congrArg Prod.fst hf)), Eq.symm (congrArg Prod.snd hf)⟩ rfl rfl
    · replace hf := p_it h4 hf
      refine wk_iconst X dX_tagFollowsTape_21 (v := (1 : Int32)) (by decide) ?_
      refine wk_goto X dX_tagFollowsTape_22 (tgt := 26) rfl ?_
      have hf := Option.some.inj hf
      exact wk_iret X Z rfl dX_tagFollowsTape_26 (q1.2) ⟨Eq.symm (congrArg p_b (congrArg Prod.fst hf)), Eq.symm (congrArg Prod.snd hf)⟩ rfl rfl
-- X_lockStep: room (6, 132), Option (Int32 × pX)
def fX_lockStep_L40 : Nat → pX → Int32 → Int32 → Int32 → Option (Int32 × pX)
  | 0, _, _, _, _ => none
  | n + 1, S, v1, v2, v3 =>
    if v2 ≤ v3 then (
      some ((0 : Int32), S)
    ) else (
      (fM_canGoOn S.1).bind fun q5 =>
      if q5 = (-2 : Int32) then (
        some ((-2 : Int32), S)
      ) else (
        if q5 = 0 then (
          (fT_canGoOn S.2.1).bind fun q14 =>
          if q14 = 0 then (
            some ((0 : Int32), S)
          ) else (
            some (((1 : Int32) + v3), S)
          )
        ) else (
          (fM_step S.1).bind fun q9 =>
          (fX_tagFollowsTape (q9, S.2.1, S.2.2.1, S.2.2.2)).bind fun q11 =>
          if q11.1 = true then (
            fX_lockStep_L40 n q11.2 v1 v2 (v3 + (1 : Int32))
          ) else (
            some (((1 : Int32) + v3), q11.2)
          )
        )
      )
    )
def fX_lockStep (S : pX) (v1 : Int32) : Option (Int32 × pX) :=
  if S.1.2.2.2.1 ≤ S.2.1.2.2.2.2.2.2.2 then (
    (fC_write S.2.1 S.1).bind fun q2 =>
    fX_lockStep_L40 100000 (S.1, q2, S.2.2.1, S.2.2.2) v1 (fX_within v1 (200 : Int32)) (0 : Int32)
  ) else (
    some ((-1 : Int32), S)
  )
set_option maxRecDepth 100000 in
set_option maxHeartbeats 4000000 in
theorem wX_lockStep_L40 {V : ee_V} (a : Nat → Nat) (S0 : pX) {x : wk_C} (X : wk_K (ee V) x cX_lockStep 5 "TagWorkshop" ts_X_lockStep ⟨6, 0, 0, 132⟩) (R : Int32 × pX) (Z : wk_N x (some .int) (va_Qi (fun (r : Int32) (u : pX) => R.1 = r ∧ R.2 = u) (wk_B (ee V) (cX V a S0) (fun u : pX => cX V a u)) (wk_in (cX V a S0))) (cX V a S0)) : ∀ (n : Nat) (S : pX) (v1 : Int32) (v2 : Int32) (v3 : Int32), fX_lockStep_L40 n S v1 v2 v3 = some R → wk_G (ee V) x 5 (cX V a S) 40 [(0, .ref (a 0)), (1, .int v1), (2, .int v2), (3, .int v3)] [] := by
  intro n
  induction n with
  | zero => intro S v1 v2 v3 hf; exact absurd hf (by rw [fX_lockStep_L40]; exact fun h => by cases h)
  | succ n ih =>
    intro S v1 v2 v3 hf
    rw [fX_lockStep_L40] at hf
    refine wk_iload_n X 3 dX_lockStep_40 rfl rfl ?_
    refine wk_iload_n X 2 dX_lockStep_41 rfl rfl ?_
    refine wk_icmp_ge X dX_lockStep_42 (tgt := 111) rfl (fun h4 => ?_) (fun h4 => ?_)
    · replace hf := p_it h4 hf
      refine wk_iconst X dX_lockStep_111 (v := (0 : Int32)) (by decide) ?_
      have hf := Option.some.inj hf
      exact wk_iret X Z rfl dX_lockStep_112 (S) ⟨Eq.symm (congrArg Prod.fst hf), Eq.symm (congrArg Prod.snd hf)⟩ rfl rfl
    · replace hf := p_ie h4 hf
      refine wk_aload_n X 0 dX_lockStep_45 rfl rfl ?_
      refine wk_get X uw_X 0 rfl rfl 0 (Nat.le_of_ble_eq_true rfl) (tl tw_138) rfl rfl dX_lockStep_46 ?_
      obtain ⟨q5, h6, hf⟩ := p_ob hf
      refine wk_goI [1, 2, 3, 4] (wk_rV X (mM_canGoOn (V := V) (fun i => a (i + 1)) S.1 q5 h6) rfl (gd (tw_391)) [1, 2, 3, 4] rfl rfl 1 rfl rfl (tl tw_441) (tl tw_390) (tl tw_829) (tl tw_3) 0 pd_M_canGoOn rfl ⟨rfl, rfl⟩ ⟨Nat.le_of_ble_eq_true rfl, Nat.le_of_ble_eq_true rfl⟩ rfl (Nat.le_of_ble_eq_true rfl) dX_lockStep_49) rfl ?_
      rintro r ⟨⟩ rfl
      refine wk_ws (ws' := cX V a S) rfl ?_
      refine wk_istore X dX_lockStep_52 (Nat.le_of_ble_eq_true rfl) (lv' := [(4, .int q5), (0, .ref (a 0)), (1, .int v1), (2, .int v2), (3, .int v3)]) rfl ?_
      refine wk_iload X 0 dX_lockStep_54 rfl ?_
      refine wk_bipush X dX_lockStep_56 (v := (-2 : Int32)) (by decide) ?_
      refine wk_icmp_ne X dX_lockStep_58 (tgt := 64) rfl (fun h7 => ?_) (fun h7 => ?_)
      · replace hf := p_ie h7 hf
        refine wk_iload X 0 dX_lockStep_64 rfl ?_
        refine wk_if_ne X dX_lockStep_66 (tgt := 87) rfl (fun h8 => ?_) (fun h8 => ?_)
        · replace hf := p_ie h8 hf
          refine wk_aload_n X 1 dX_lockStep_87 rfl rfl ?_
          refine wk_get X uw_X 0 rfl rfl 0 (Nat.le_of_ble_eq_true rfl) (tl tw_138) rfl rfl dX_lockStep_88 ?_
          obtain ⟨q9, h10, hf⟩ := p_ob hf
          refine wk_goV [1, 2, 3, 4] (wk_rV X (mM_step (V := V) (fun i => a (i + 1)) S.1 q9 h10) rfl (gd (tw_422)) [1, 2, 3, 4] rfl rfl 1 rfl rfl (tl tw_521) (tl tw_421) (tl tw_832) (tl tw_3) 0 pd_M_step rfl ⟨rfl, rfl⟩ ⟨Nat.le_of_ble_eq_true rfl, Nat.le_of_ble_eq_true rfl⟩ rfl (Nat.le_of_ble_eq_true rfl) dX_lockStep_91) rfl ?_
          rintro u rfl
          refine wk_ws (ws' := cX V a (q9, S.2.1, S.2.2.1, S.2.2.2)) rfl ?_
          refine wk_aload_n X 1 dX_lockStep_94 rfl rfl ?_
          obtain ⟨q11, h12, hf⟩ := p_ob hf
          refine wk_goI [0, 1, 2, 3, 4, 5, 6, 7, 8, 9, 10, 11, 12, 13, 14, 15, 16] (wk_rV X (mX_tagFollowsTape (V := V) a (q9, S.2.1, S.2.2.1, S.2.2.2) q11 h12) rfl (gd (tw_525)) [0, 1, 2, 3, 4, 5, 6, 7, 8, 9, 10, 11, 12, 13, 14, 15, 16] rfl rfl 0 rfl rfl (tl tw_522) (tl tw_524) (tl tv_3) (tl tw_1) 0 pd_X_tagFollowsTape rfl ⟨rfl, rfl⟩ ⟨Nat.le_of_ble_eq_true rfl, Nat.le_of_ble_eq_true rfl⟩ rfl (Nat.le_of_ble_eq_true rfl) dX_lockStep_95) rfl ?_
          rintro r u ⟨rfl, rfl⟩
          refine wk_ws (ws' := cX V a q11.2) rfl ?_
          refine wk_bz_ne X dX_lockStep_98 (tgt := 105) rfl (fun h13 => ?_) (fun h13 => ?_)
          · replace hf := p_it h13 hf
            refine wk_iinc X 4 dX_lockStep_105 (v := (v3 + (1 : Int32))) rfl rfl (Nat.le_of_ble_eq_true rfl) (lv' := [(3, .int (v3 + (1 : Int32))), (4, .int q5), (0, .ref (a 0)), (1, .int v1), (2, .int v2)]) rfl ?_
            refine wk_goto X dX_lockStep_108 (tgt := 40) rfl ?_
            refine wk_lv [2, 3, 4, 0] (lv' := [(0, .ref (a 0)), (1, .int v1), (2, .int v2), (3, .int (v3 + (1 : Int32)))]) rfl ?_
            exact ih q11.2 v1 v2 (v3 + (1 : Int32)) hf
          · replace hf := p_ie h13 hf
            refine wk_iconst X dX_lockStep_101 (v := (1 : Int32)) (by decide) ?_
            refine wk_iload_n X 4 dX_lockStep_102 rfl rfl ?_
            refine wk_iadd X dX_lockStep_103 ?_
            have hf := Option.some.inj hf
            exact wk_iret X Z rfl dX_lockStep_104 (q11.2) ⟨Eq.symm (congrArg Prod.fst hf), Eq.symm (congrArg Prod.snd hf)⟩ rfl rfl
        · replace hf := p_it h8 hf
          refine wk_aload_n X 1 dX_lockStep_69 rfl rfl ?_
          refine wk_get X uw_X 0 rfl rfl 1 (Nat.le_of_ble_eq_true rfl) (tl tw_139) rfl rfl dX_lockStep_70 ?_
          obtain ⟨q14, h15, hf⟩ := p_ob hf
          refine wk_goI [5, 6, 7, 8, 9] (wk_rV X (mT_canGoOn (V := V) (fun i => a (i + 5)) S.2.1 q14 h15) rfl (gd (tw_387)) [5, 6, 7, 8, 9] rfl rfl 5 rfl rfl (tl tw_446) (tl tw_385) (tl tw_386) (tl tw_4) 0 pd_T_canGoOn rfl ⟨rfl, rfl⟩ ⟨Nat.le_of_ble_eq_true rfl, Nat.le_of_ble_eq_true rfl⟩ rfl (Nat.le_of_ble_eq_true rfl) dX_lockStep_73) rfl ?_
          rintro r ⟨⟩ rfl
          refine wk_ws (ws' := cX V a S) rfl ?_
          refine wk_if_ne X dX_lockStep_76 (tgt := 83) rfl (fun h16 => ?_) (fun h16 => ?_)
          · replace hf := p_ie h16 hf
            refine wk_iconst X dX_lockStep_83 (v := (1 : Int32)) (by decide) ?_
            refine wk_iload_n X 4 dX_lockStep_84 rfl rfl ?_
            refine wk_iadd X dX_lockStep_85 ?_
            have hf := Option.some.inj hf
            exact wk_iret X Z rfl dX_lockStep_86 (S) ⟨Eq.symm (congrArg Prod.fst hf), Eq.symm (congrArg Prod.snd hf)⟩ rfl rfl
          · replace hf := p_it h16 hf
            refine wk_iconst X dX_lockStep_79 (v := (0 : Int32)) (by decide) ?_
            refine wk_goto X dX_lockStep_80 (tgt := 86) rfl ?_
            have hf := Option.some.inj hf
            exact wk_iret X Z rfl dX_lockStep_86 (S) ⟨Eq.symm (congrArg Prod.fst hf), Eq.symm (congrArg Prod.snd hf)⟩ rfl rfl
      · replace hf := p_it h7 hf
        refine wk_bipush X dX_lockStep_61 (v := (-2 : Int32)) (by decide) ?_
        have hf := Option.some.inj hf
        exact wk_iret X Z rfl dX_lockStep_63 (S) ⟨Eq.symm (congrArg Prod.fst hf), Eq.symm (congrArg Prod.snd hf)⟩ rfl rfl
set_option maxRecDepth 100000 in
set_option maxHeartbeats 4000000 in
theorem mX_lockStep {V : ee_V} (a : Nat → Nat) (S : pX) (v1 : Int32) (R : Int32 × pX) (hf : fX_lockStep S v1 = some R) : wk_I (ee V) yX_lockStep ts_X_lockStep ⟨6, 0, 0, 132⟩ [.ref (a 0), .int v1] (cX V a S) (fun (r : Int32) (u : pX) => R.1 = r ∧ R.2 = u) (fun u : pX => cX V a u) := by
  refine wk_of (ee_ok V) (by decide +kernel) rfl (Nat.le_of_ble_eq_true rfl) ?_
  intro x X Z
  unfold fX_lockStep at hf
  refine wk_lq (lv' := [(0, .ref (a 0)), (1, .int v1)]) rfl ?_
  refine wk_aload_n X 0 dX_lockStep_0 rfl rfl ?_
  refine wk_get X uw_X 0 rfl rfl 0 (Nat.le_of_ble_eq_true rfl) (tl tw_138) rfl rfl dX_lockStep_1 ?_
  refine wk_get X uw_M 1 rfl rfl 3 (Nat.le_of_ble_eq_true rfl) (tl tw_33) rfl rfl dX_lockStep_4 ?_
  refine wk_aload_n X 0 dX_lockStep_7 rfl rfl ?_
  refine wk_get X uw_X 0 rfl rfl 1 (Nat.le_of_ble_eq_true rfl) (tl tw_139) rfl rfl dX_lockStep_8 ?_
  refine wk_get X uw_T 5 rfl rfl 7 (Nat.le_of_ble_eq_true rfl) (tl tw_79) rfl rfl dX_lockStep_11 ?_
  refine wk_icmp_le X dX_lockStep_14 (tgt := 19) rfl (fun h1 => ?_) (fun h1 => ?_)
  · replace hf := p_it h1 hf
    refine wk_aload_n X 0 dX_lockStep_19 rfl rfl ?_
    refine wk_get X uw_X 0 rfl rfl 1 (Nat.le_of_ble_eq_true rfl) (tl tw_139) rfl rfl dX_lockStep_20 ?_
    refine wk_aload_n X 0 dX_lockStep_23 rfl rfl ?_
    refine wk_get X uw_X 0 rfl rfl 0 (Nat.le_of_ble_eq_true rfl) (tl tw_138) rfl rfl dX_lockStep_24 ?_
    obtain ⟨q2, h3, hf⟩ := p_ob hf
    refine wk_goV [5, 6, 7, 8, 9, 1, 2, 3, 4] (wk_rS X (mC_write (V := V) (fun i => a (i + 5)) (fun i => a (i + 1)) S.2.1 S.1 q2 h3) rfl (gd (tw_268)) [5, 6, 7, 8, 9, 1, 2, 3, 4] rfl rfl (tl tw_266) (tl tw_267) (tl tw_6) 2 pd_C_write rfl ⟨rfl, rfl⟩ ⟨Nat.le_of_ble_eq_true rfl, Nat.le_of_ble_eq_true rfl⟩ rfl (Nat.le_of_ble_eq_true rfl) dX_lockStep_27) rfl ?_
    rintro u rfl
    refine wk_ws (ws' := cX V a (S.1, q2, S.2.2.1, S.2.2.2)) rfl ?_
    refine wk_iload_n X 1 dX_lockStep_30 rfl rfl ?_
    refine wk_sipush X dX_lockStep_31 (v := (200 : Int32)) (by decide) ?_
    refine wk_goI [] (wk_rS X (mX_within (V := V) v1 (200 : Int32) (fX_within v1 (200 : Int32)) rfl) rfl (gd (tw_373)) [] rfl rfl (tl tw_520) (tl tw_372) (tl tw_1) 2 pd_X_within rfl ⟨rfl, rfl⟩ ⟨Nat.le_of_ble_eq_true rfl, Nat.le_of_ble_eq_true rfl⟩ rfl (Nat.le_of_ble_eq_true rfl) dX_lockStep_34) rfl ?_
    rintro r ⟨⟩ rfl
    refine wk_ws (ws' := cX V a (S.1, q2, S.2.2.1, S.2.2.2)) rfl ?_
    refine wk_istore_n X dX_lockStep_37 rfl (Nat.le_of_ble_eq_true rfl) (lv' := [(2, .int (fX_within v1 (200 : Int32))), (0, .ref (a 0)), (1, .int v1)]) rfl ?_
    refine wk_iconst X dX_lockStep_38 (v := (0 : Int32)) (by decide) ?_
    refine wk_istore_n X dX_lockStep_39 rfl (Nat.le_of_ble_eq_true rfl) (lv' := [(3, .int (0 : Int32)), (2, .int (fX_within v1 (200 : Int32))), (0, .ref (a 0)), (1, .int v1)]) rfl ?_
    refine wk_lv [2, 3, 1, 0] (lv' := [(0, .ref (a 0)), (1, .int v1), (2, .int (fX_within v1 (200 : Int32))), (3, .int (0 : Int32))]) rfl ?_
    exact wX_lockStep_L40 a S X R Z 100000 (S.1, q2, S.2.2.1, S.2.2.2) v1 (fX_within v1 (200 : Int32)) (0 : Int32) hf
  · replace hf := p_ie h1 hf
    refine wk_iconst X dX_lockStep_17 (v := (-1 : Int32)) (by decide) ?_
    have hf := Option.some.inj hf
    exact wk_iret X Z rfl dX_lockStep_18 (S) ⟨Eq.symm (congrArg Prod.fst hf), Eq.symm (congrArg Prod.snd hf)⟩ rfl rfl

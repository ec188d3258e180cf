-- R_roundCost: room (1, 21), Option (Int32)
def fR_roundCost (S : pR) (v1 : Int32) (v2 : Int32) (v3 : Int32) (v4 : Int32) : Option (Int32) :=
  if (fR_isState v1) = true then (
    if (fR_isBit v2) = true then (
      if (fR_isNumber v3) = true then (
        if (fR_isNumber v4) = true then (
          (fR_goesOn S (fR_ruleOf v1 v2)).bind fun q5 =>
          if q5 = true then (
            (p_rd 16 S.1.2.2.1 (fR_ruleOf v1 v2)).bind fun q8 =>
            if q8 = (1 : Int32) then (
              (p_rd 16 S.1.2.1 (fR_ruleOf v1 v2)).bind fun q17 =>
              some (((v3 + v4) + (2 : Int32)) + ((2 : Int32) * (((((2 : Int32) * v3) + q17) + (2 : Int32)) + (v4 / (2 : Int32)))))
            ) else (
              (p_rd 16 S.1.2.1 (fR_ruleOf v1 v2)).bind fun q13 =>
              some (((v3 + v4) + (2 : Int32)) + ((2 : Int32) * (((((2 : Int32) * v4) + q13) + (2 : Int32)) + (v3 / (2 : Int32)))))
            )
          ) else (
            some (-1 : Int32)
          )
        ) else (
          some (-1 : Int32)
        )
      ) else (
        some (-1 : Int32)
      )
    ) else (
      some (-1 : Int32)
    )
  ) else (
    some (-1 : Int32)
  )
set_option maxRecDepth 100000 in
set_option maxHeartbeats 4000000 in
theorem mR_roundCost {V : ee_V} (a : Nat → Nat) (S : pR) (v1 : Int32) (v2 : Int32) (v3 : Int32) (v4 : Int32) (R : Int32) (hf : fR_roundCost S v1 v2 v3 v4 = some R) : wk_I (ee V) yR_roundCost ts_R_roundCost ⟨1, 0, 0, 21⟩ [.ref (a 0), .int v1, .int v2, .int v3, .int v4] (cR V a S) (fun (r : Int32) (_ : Unit) => R = r) (fun _ : Unit => cR V a S) := by
  refine wk_of (ee_ok V) (by decide +kernel) rfl (Nat.le_of_ble_eq_true rfl) ?_
  intro x X Z
  unfold fR_roundCost at hf
  refine wk_lq (lv' := [(0, .ref (a 0)), (1, .int v1), (2, .int v2), (3, .int v3), (4, .int v4)]) rfl ?_
  refine wk_iload_n X 1 dR_roundCost_0 rfl rfl ?_
  refine wk_goI [] (wk_rS X (mR_isState (V := V) v1 (fR_isState v1) rfl) rfl (gd (tw_631)) [] rfl rfl (tl tw_629) (tl tw_630) (tl tw_7) 1 pd_R_isState rfl ⟨rfl, rfl⟩ ⟨Nat.le_of_ble_eq_true rfl, Nat.le_of_ble_eq_true rfl⟩ rfl (Nat.le_of_ble_eq_true rfl) dR_roundCost_1) rfl ?_
  rintro r ⟨⟩ rfl
  refine wk_ws (ws' := cR V a S) rfl ?_
  refine wk_bz_eq X dR_roundCost_4 (tgt := 29) rfl (fun h1 => ?_) (fun h1 => ?_)
  · replace hf := p_ie h1 hf
    refine wk_iconst X dR_roundCost_29 (v := (-1 : Int32)) (by decide) ?_
    have hf := Option.some.inj hf
    exact wk_iret X Z rfl dR_roundCost_30 () (Eq.symm hf) rfl rfl
  · replace hf := p_it h1 hf
    refine wk_iload_n X 2 dR_roundCost_7 rfl rfl ?_
    refine wk_goI [] (wk_rS X (mR_isBit (V := V) v2 (fR_isBit v2) rfl) rfl (gd (tw_634)) [] rfl rfl (tl tw_632) (tl tw_633) (tl tw_7) 1 pd_R_isBit rfl ⟨rfl, rfl⟩ ⟨Nat.le_of_ble_eq_true rfl, Nat.le_of_ble_eq_true rfl⟩ rfl (Nat.le_of_ble_eq_true rfl) dR_roundCost_8) rfl ?_
    rintro r ⟨⟩ rfl
    refine wk_ws (ws' := cR V a S) rfl ?_
    refine wk_bz_eq X dR_roundCost_11 (tgt := 29) rfl (fun h2 => ?_) (fun h2 => ?_)
    · replace hf := p_ie h2 hf
      refine wk_iconst X dR_roundCost_29 (v := (-1 : Int32)) (by decide) ?_
      have hf := Option.some.inj hf
      exact wk_iret X Z rfl dR_roundCost_30 () (Eq.symm hf) rfl rfl
    · replace hf := p_it h2 hf
      refine wk_iload_n X 3 dR_roundCost_14 rfl rfl ?_
      refine wk_goI [] (wk_rS X (mR_isNumber (V := V) v3 (fR_isNumber v3) rfl) rfl (gd (tw_641)) [] rfl rfl (tl tw_639) (tl tw_640) (tl tw_7) 1 pd_R_isNumber rfl ⟨rfl, rfl⟩ ⟨Nat.le_of_ble_eq_true rfl, Nat.le_of_ble_eq_true rfl⟩ rfl (Nat.le_of_ble_eq_true rfl) dR_roundCost_15) rfl ?_
      rintro r ⟨⟩ rfl
      refine wk_ws (ws' := cR V a S) rfl ?_
      refine wk_bz_eq X dR_roundCost_18 (tgt := 29) rfl (fun h3 => ?_) (fun h3 => ?_)
      · replace hf := p_ie h3 hf
        refine wk_iconst X dR_roundCost_29 (v := (-1 : Int32)) (by decide) ?_
        have hf := Option.some.inj hf
        exact wk_iret X Z rfl dR_roundCost_30 () (Eq.symm hf) rfl rfl
      · replace hf := p_it h3 hf
        refine wk_iload X 4 dR_roundCost_21 rfl ?_
        refine wk_goI [] (wk_rS X (mR_isNumber (V := V) v4 (fR_isNumber v4) rfl) rfl (gd (tw_641)) [] rfl rfl (tl tw_639) (tl tw_640) (tl tw_7) 1 pd_R_isNumber rfl ⟨rfl, rfl⟩ ⟨Nat.le_of_ble_eq_true rfl, Nat.le_of_ble_eq_true rfl⟩ rfl (Nat.le_of_ble_eq_true rfl) dR_roundCost_23) rfl ?_
        rintro r ⟨⟩ rfl
        refine wk_ws (ws' := cR V a S) rfl ?_
        refine wk_bz_ne X dR_roundCost_26 (tgt := 31) rfl (fun h4 => ?_) (fun h4 => ?_)
        · replace hf := p_it h4 hf
          refine wk_iload_n X 1 dR_roundCost_31 rfl rfl ?_
          refine wk_iload_n X 2 dR_roundCost_32 rfl rfl ?_
          refine wk_goI [] (wk_rS X (mR_ruleOf (V := V) v1 v2 (fR_ruleOf v1 v2) rfl) rfl (gd (tw_655)) [] rfl rfl (tl tw_653) (tl tw_654) (tl tw_7) 2 pd_R_ruleOf rfl ⟨rfl, rfl⟩ ⟨Nat.le_of_ble_eq_true rfl, Nat.le_of_ble_eq_true rfl⟩ rfl (Nat.le_of_ble_eq_true rfl) dR_roundCost_33) rfl ?_
          rintro r ⟨⟩ rfl
          refine wk_ws (ws' := cR V a S) rfl ?_
          refine wk_istore X dR_roundCost_36 (Nat.le_of_ble_eq_true rfl) (lv' := [(5, .int (fR_ruleOf v1 v2)), (0, .ref (a 0)), (1, .int v1), (2, .int v2), (3, .int v3), (4, .int v4)]) rfl ?_
          refine wk_aload_n X 1 dR_roundCost_38 rfl rfl ?_
          refine wk_iload X 0 dR_roundCost_39 rfl ?_
          obtain ⟨q5, h6, hf⟩ := p_ob hf
          refine wk_goI [0, 1, 2, 3, 4, 5, 6, 7, 8, 9, 10, 11, 12] (wk_rV X (mR_goesOn (V := V) a S (fR_ruleOf v1 v2) q5 h6) rfl (gd (tw_659)) [0, 1, 2, 3, 4, 5, 6, 7, 8, 9, 10, 11, 12] rfl rfl 0 rfl rfl (tl tw_656) (tl tw_658) (tl tv_5) (tl tw_7) 1 pd_R_goesOn rfl ⟨rfl, rfl⟩ ⟨Nat.le_of_ble_eq_true rfl, Nat.le_of_ble_eq_true rfl⟩ rfl (Nat.le_of_ble_eq_true rfl) dR_roundCost_41) rfl ?_
          rintro r ⟨⟩ rfl
          refine wk_ws (ws' := cR V a S) rfl ?_
          refine wk_bz_ne X dR_roundCost_44 (tgt := 49) rfl (fun h7 => ?_) (fun h7 => ?_)
          · replace hf := p_it h7 hf
            refine wk_aload_n X 1 dR_roundCost_49 rfl rfl ?_
            refine wk_get X uw_R 0 rfl rfl 2 (Nat.le_of_ble_eq_true rfl) (tl tw_539) rfl rfl dR_roundCost_50 ?_
            refine wk_iload X 0 dR_roundCost_53 rfl ?_
            obtain ⟨q8, h9, hf⟩ := p_ob hf
            obtain ⟨h9i, h9e⟩ := p_rd_some h9
            refine wk_iald X 3 0 rfl rfl h9i h9e dR_roundCost_55 ?_
            refine wk_iconst X dR_roundCost_56 (v := (1 : Int32)) (by decide) ?_
            refine wk_icmp_ne X dR_roundCost_57 (tgt := 64) rfl (fun h10 => ?_) (fun h10 => ?_)
            · replace hf := p_ie h10 hf
              refine wk_iload X 5 dR_roundCost_64 rfl ?_
              refine wk_istore X dR_roundCost_66 (Nat.le_of_ble_eq_true rfl) (lv' := [(6, .int v4), (5, .int (fR_ruleOf v1 v2)), (0, .ref (a 0)), (1, .int v1), (2, .int v2), (3, .int v3), (4, .int v4)]) rfl ?_
              refine wk_aload_n X 2 dR_roundCost_68 rfl rfl ?_
              refine wk_get X uw_R 0 rfl rfl 2 (Nat.le_of_ble_eq_true rfl) (tl tw_539) rfl rfl dR_roundCost_69 ?_
              refine wk_iload X 1 dR_roundCost_72 rfl ?_
              refine wk_iald X 3 0 rfl rfl h9i h9e dR_roundCost_74 ?_
              refine wk_iconst X dR_roundCost_75 (v := (1 : Int32)) (by decide) ?_
              refine wk_icmp_ne X dR_roundCost_76 (tgt := 84) rfl (fun _ => ?_) (fun h => absurd h h10)
              refine wk_iload_n X 5 dR_roundCost_84 rfl rfl ?_
              refine wk_iconst X dR_roundCost_85 (v := (2 : Int32)) (by decide) ?_
              refine wk_idiv X dR_roundCost_86 (by decide) ?_
              refine wk_istore X dR_roundCost_87 (Nat.le_of_ble_eq_true rfl) (lv' := [(7, .int (v3 / (2 : Int32))), (6, .int v4), (5, .int (fR_ruleOf v1 v2)), (0, .ref (a 0)), (1, .int v1), (2, .int v2), (3, .int v3), (4, .int v4)]) rfl ?_
              refine wk_iload_n X 6 dR_roundCost_89 rfl rfl ?_
              refine wk_iload X 7 dR_roundCost_90 rfl ?_
              refine wk_iadd X dR_roundCost_92 ?_
              refine wk_iconst X dR_roundCost_93 (v := (2 : Int32)) (by decide) ?_
              refine wk_iadd X dR_roundCost_94 ?_
              refine wk_iconst X dR_roundCost_95 (v := (2 : Int32)) (by decide) ?_
              refine wk_iconst X dR_roundCost_96 (v := (2 : Int32)) (by decide) ?_
              refine wk_iload X 1 dR_roundCost_97 rfl ?_
              refine wk_imul X dR_roundCost_99 ?_
              refine wk_aload_n X 3 dR_roundCost_100 rfl rfl ?_
              refine wk_get X uw_R 0 rfl rfl 1 (Nat.le_of_ble_eq_true rfl) (tl tw_538) rfl rfl dR_roundCost_101 ?_
              refine wk_iload X 2 dR_roundCost_104 rfl ?_
              obtain ⟨q13, h14, hf⟩ := p_ob hf
              obtain ⟨h14i, h14e⟩ := p_rd_some h14
              refine wk_iald X 2 0 rfl rfl h14i h14e dR_roundCost_106 ?_
              refine wk_iadd X dR_roundCost_107 ?_
              refine wk_iconst X dR_roundCost_108 (v := (2 : Int32)) (by decide) ?_
              refine wk_iadd X dR_roundCost_109 ?_
              refine wk_iload X 0 dR_roundCost_110 rfl ?_
              refine wk_iadd X dR_roundCost_112 ?_
              refine wk_imul X dR_roundCost_113 ?_
              refine wk_iadd X dR_roundCost_114 ?_
              have hf := Option.some.inj hf
              exact wk_iret X Z rfl dR_roundCost_115 () (Eq.symm hf) rfl rfl
            · replace hf := p_it h10 hf
              refine wk_iload_n X 4 dR_roundCost_60 rfl rfl ?_
              refine wk_goto X dR_roundCost_61 (tgt := 66) rfl ?_
              refine wk_istore X dR_roundCost_66 (Nat.le_of_ble_eq_true rfl) (lv' := [(6, .int v3), (5, .int (fR_ruleOf v1 v2)), (0, .ref (a 0)), (1, .int v1), (2, .int v2), (3, .int v3), (4, .int v4)]) rfl ?_
              refine wk_aload_n X 2 dR_roundCost_68 rfl rfl ?_
              refine wk_get X uw_R 0 rfl rfl 2 (Nat.le_of_ble_eq_true rfl) (tl tw_539) rfl rfl dR_roundCost_69 ?_
              refine wk_iload X 1 dR_roundCost_72 rfl ?_
              refine wk_iald X 3 0 rfl rfl h9i h9e dR_roundCost_74 ?_
              refine wk_iconst X dR_roundCost_75 (v := (1 : Int32)) (by decide) ?_
              refine wk_icmp_ne X dR_roundCost_76 (tgt := 84) rfl (fun h => absurd h10 h) (fun _ => ?_)
              refine wk_iload X 6 dR_roundCost_79 rfl ?_
              refine wk_goto X dR_roundCost_81 (tgt := 85) rfl ?_
              refine wk_iconst X dR_roundCost_85 (v := (2 : Int32)) (by decide) ?_
              refine wk_idiv X dR_roundCost_86 (by decide) ?_
              refine wk_istore X dR_roundCost_87 (Nat.le_of_ble_eq_true rfl) (lv' := [(7, .int (v4 / (2 : Int32))), (6, .int v3), (5, .int (fR_ruleOf v1 v2)), (0, .ref (a 0)), (1, .int v1), (2, .int v2), (3, .int v3), (4, .int v4)]) rfl ?_
              refine wk_iload_n X 6 dR_roundCost_89 rfl rfl ?_
              refine wk_iload X 7 dR_roundCost_90 rfl ?_
              refine wk_iadd X dR_roundCost_92 ?_
              refine wk_iconst X dR_roundCost_93 (v := (2 : Int32)) (by decide) ?_
              refine wk_iadd X dR_roundCost_94 ?_
              refine wk_iconst X dR_roundCost_95 (v := (2 : Int32)) (by decide) ?_
              refine wk_iconst X dR_roundCost_96 (v := (2 : Int32)) (by decide) ?_
              refine wk_iload X 1 dR_roundCost_97 rfl ?_
              refine wk_imul X dR_roundCost_99 ?_
              refine wk_aload_n X 3 dR_roundCost_100 rfl rfl ?_
              refine wk_get X uw_R 0 rfl rfl 1 (Nat.le_of_ble_eq_true rfl) (tl tw_538) rfl rfl dR_roundCost_101 ?_
              refine wk_iload X 2 dR_roundCost_104 rfl ?_
              obtain ⟨q17, h18, hf⟩ := p_ob hf
              obtain ⟨h18i, h18e⟩ := p_rd_some h18
              refine wk_iald X 2 0 rfl rfl h18i h18e dR_roundCost_106 ?_
              refine wk_iadd X dR_roundCost_107 ?_
              refine wk_iconst X dR_roundCost_108 (v := (2 : Int32)) (by decide) ?_
              refine wk_iadd X dR_roundCost_109 ?_
              refine wk_iload X 0 dR_roundCost_110 rfl ?_
              refine wk_iadd X dR_roundCost_112 ?_
              refine wk_imul X dR_roundCost_113 ?_
              refine wk_iadd X dR_roundCost_114 ?_
              have hf := Option.some.inj hf
              exact wk_iret X Z rfl dR_roundCost_115 () (Eq.symm hf) rfl rfl
          · replace hf := p_ie h7 hf
            refine wk_iconst X dR_roundCost_47 (v := (-1 : Int32)) (by decide) ?_
            have hf := Option.some.inj hf
            exact wk_iret X Z rfl dR_roundCost_48 () (Eq.symm hf) rfl rfl
        · replace hf := p_ie h4 hf
          refine wk_iconst X dR_roundCost_29 (v := (-1 : Int32)) (by decide) ?_
          have hf := Option.some.inj hf
          exact wk_iret X Z rfl dR_roundCost_30 () (Eq.symm hf) rfl rfl
-- R_agrees: room (2, 45), Option (Bool × pR)
def fR_agrees (S : pR) : Option (Bool × pR) :=
  (fR_isCode S).bind fun q1 =>
  if q1.1 = true then (
    if q1.2.2.2.2.1 = q1.2.1.2.2.2.2.1 then (
      if q1.2.2.2.2.2.1 = q1.2.1.2.2.2.2.2.1 then (
        if q1.2.2.2.2.2.2.1 = q1.2.1.2.2.2.2.2.2.1 then (
          if q1.2.2.2.2.2.2.2 = q1.2.1.2.2.2.2.2.2.2 then (
            some (true, q1.2)
          ) else (
            some (false, q1.2)
          )
        ) else (
          some (false, q1.2)
        )
      ) else (
        some (false, q1.2)
      )
    ) else (
      some (false, q1.2)
    )
  ) else (
    some (false, q1.2)
  )
set_option maxRecDepth 100000 in
set_option maxHeartbeats 4000000 in
theorem mR_agrees {V : ee_V} (a : Nat → Nat) (S : pR) (R : Bool × pR) (hf : fR_agrees S = some R) : wk_I (ee V) yR_agrees ts_R_agrees ⟨2, 0, 0, 45⟩ [.ref (a 0)] (cR V a S) (fun (r : Int32) (u : pR) => p_b (R.1) = r ∧ R.2 = u) (fun u : pR => cR V a u) := by
  refine wk_of (ee_ok V) (by decide +kernel) rfl (Nat.le_of_ble_eq_true rfl) ?_
  intro x X Z
  unfold fR_agrees at hf
  refine wk_lq (lv' := [(0, .ref (a 0))]) rfl ?_
  refine wk_aload_n X 0 dR_agrees_0 rfl rfl ?_
  obtain ⟨q1, h2, hf⟩ := p_ob hf
  refine wk_goI [0, 1, 2, 3, 4, 5, 6, 7, 8, 9, 10, 11, 12] (wk_rV X (mR_isCode (V := V) a S q1 h2) rfl (gd (tw_807)) [0, 1, 2, 3, 4, 5, 6, 7, 8, 9, 10, 11, 12] rfl rfl 0 rfl rfl (tl tw_804) (tl tw_806) (tl tv_23) (tl tw_7) 0 pd_R_isCode rfl ⟨rfl, rfl⟩ ⟨Nat.le_of_ble_eq_true rfl, Nat.le_of_ble_eq_true rfl⟩ rfl (Nat.le_of_ble_eq_true rfl) dR_agrees_1) rfl ?_
  rintro r u ⟨rfl, rfl⟩
  refine wk_ws (ws' := cR V a q1.2) rfl ?_
  refine wk_bz_eq X dR_agrees_4 (tgt := 55) rfl (fun h3 => ?_) (fun h3 => ?_)
  · replace hf := p_ie h3 hf
    refine wk_iconst X dR_agrees_55 (v := (0 : Int32)) (by decide) ?_
    have hf := Option.some.inj hf
    exact wk_iret X Z rfl dR_agrees_56 (q1.2) ⟨(congrArg p_b (p_fst hf)), p_snd hf⟩ rfl rfl
  · replace hf := p_it h3 hf
    refine wk_aload_n X 0 dR_agrees_7 rfl rfl ?_
    refine wk_get X uw_R 0 rfl rfl 25 (Nat.le_of_ble_eq_true rfl) (tl tw_562) rfl rfl dR_agrees_8 ?_
    refine wk_aload_n X 0 dR_agrees_11 rfl rfl ?_
    refine wk_get X uw_R 0 rfl rfl 4 (Nat.le_of_ble_eq_true rfl) (tl tw_541) rfl rfl dR_agrees_12 ?_
    refine wk_icmp_ne X dR_agrees_15 (tgt := 55) rfl (fun h4 => ?_) (fun h4 => ?_)
    · replace hf := p_ie h4 hf
      refine wk_iconst X dR_agrees_55 (v := (0 : Int32)) (by decide) ?_
      have hf := Option.some.inj hf
      exact wk_iret X Z rfl dR_agrees_56 (q1.2) ⟨(congrArg p_b (p_fst hf)), p_snd hf⟩ rfl rfl
    · replace hf := p_it h4 hf
      refine wk_aload_n X 0 dR_agrees_18 rfl rfl ?_
      refine wk_get X uw_R 0 rfl rfl 26 (Nat.le_of_ble_eq_true rfl) (tl tw_563) rfl rfl dR_agrees_19 ?_
      refine wk_aload_n X 0 dR_agrees_22 rfl rfl ?_
      refine wk_get X uw_R 0 rfl rfl 5 (Nat.le_of_ble_eq_true rfl) (tl tw_542) rfl rfl dR_agrees_23 ?_
      refine wk_icmp_ne X dR_agrees_26 (tgt := 55) rfl (fun h5 => ?_) (fun h5 => ?_)
      · replace hf := p_ie h5 hf
        refine wk_iconst X dR_agrees_55 (v := (0 : Int32)) (by decide) ?_
        have hf := Option.some.inj hf
        exact wk_iret X Z rfl dR_agrees_56 (q1.2) ⟨(congrArg p_b (p_fst hf)), p_snd hf⟩ rfl rfl
      · replace hf := p_it h5 hf
        refine wk_aload_n X 0 dR_agrees_29 rfl rfl ?_
        refine wk_get X uw_R 0 rfl rfl 27 (Nat.le_of_ble_eq_true rfl) (tl tw_564) rfl rfl dR_agrees_30 ?_
        refine wk_aload_n X 0 dR_agrees_33 rfl rfl ?_
        refine wk_get X uw_R 0 rfl rfl 6 (Nat.le_of_ble_eq_true rfl) (tl tw_543) rfl rfl dR_agrees_34 ?_
        refine wk_icmp_ne X dR_agrees_37 (tgt := 55) rfl (fun h6 => ?_) (fun h6 => ?_)
        · replace hf := p_ie h6 hf
          refine wk_iconst X dR_agrees_55 (v := (0 : Int32)) (by decide) ?_
          have hf := Option.some.inj hf
          exact wk_iret X Z rfl dR_agrees_56 (q1.2) ⟨(congrArg p_b (p_fst hf)), p_snd hf⟩ rfl rfl
        · replace hf := p_it h6 hf
          refine wk_aload_n X 0 dR_agrees_40 rfl rfl ?_
          refine wk_get X uw_R 0 rfl rfl 28 (Nat.le_of_ble_eq_true rfl) (tl tw_565) rfl rfl dR_agrees_41 ?_
          refine wk_aload_n X 0 dR_agrees_44 rfl rfl ?_
          refine wk_get X uw_R 0 rfl rfl 7 (Nat.le_of_ble_eq_true rfl) (tl tw_544) rfl rfl dR_agrees_45 ?_
          refine wk_icmp_ne X dR_agrees_48 (tgt := 55) rfl (fun h7 => ?_) (fun h7 => ?_)
          · replace hf := p_ie h7 hf
            refine wk_iconst X dR_agrees_55 (v := (0 : Int32)) (by decide) ?_
            have hf := Option.some.inj hf
            exact wk_iret X Z rfl dR_agrees_56 (q1.2) ⟨(congrArg p_b (p_fst hf)), p_snd hf⟩ rfl rfl
          · replace hf := p_it h7 hf
            refine wk_iconst X dR_agrees_51 (v := (1 : Int32)) (by decide) ?_
            refine wk_goto X dR_agrees_52 (tgt := 56) rfl ?_
            have hf := Option.some.inj hf
            exact wk_iret X Z rfl dR_agrees_56 (q1.2) ⟨(congrArg p_b (p_fst hf)), p_snd hf⟩ rfl rfl
-- R_lockStep: room (3, 66), Option (Int32 × pR)
def fR_lockStep_L29 : Nat → pR → Int32 → Int32 → Option (Int32 × pR)
  | 0, _, _, _ => none
  | n + 1, S, v1, v2 =>
    if v1 ≤ v2 then (
      some ((0 : Int32), S)
    ) else (
      if (200 : Int32) ≤ v2 then (
        some ((0 : Int32), S)
      ) else (
        (fR_tapeCan S).bind fun q7 =>
        if q7 = (-2 : Int32) then (
          some ((-2 : Int32), S)
        ) else (
          if q7 = 0 then (
            (fR_tagCan S).bind fun q19 =>
            if q19 = 0 then (
              some ((0 : Int32), S)
            ) else (
              some (((1 : Int32) + v2), S)
            )
          ) else (
            (fR_tapeStep S).bind fun q11 =>
            (fR_nextBorder q11).bind fun q13 =>
            if q13.1 = 0 then (
              some (((1 : Int32) + v2), q13.2)
            ) else (
              (fR_agrees q13.2).bind fun q16 =>
              if q16.1 = true then (
                fR_lockStep_L29 n q16.2 v1 (v2 + (1 : Int32))
              ) else (
                some (((1 : Int32) + v2), q16.2)
              )
            )
          )
        )
      )
    )
def fR_lockStep (S : pR) (v1 : Int32) : Option (Int32 × pR) :=
  if S.2.1.2.1 = true then (
    if ((36 : Int32) * S.1.2.2.2.2.1) < S.2.1.1 then (
      (fR_putCode S).bind fun q3 =>
      fR_lockStep_L29 100000 q3 v1 (0 : Int32)
    ) else (
      some ((-1 : Int32), S)
    )
  ) else (
    some ((-1 : Int32), S)
  )
set_option maxRecDepth 100000 in
set_option maxHeartbeats 4000000 in
theorem wR_lockStep_L29 {V : ee_V} (a : Nat → Nat) (S0 : pR) {x : wk_C} (X : wk_K (ee V) x cR_lockStep 4 "TagWorkshopModel" ts_R_lockStep ⟨3, 0, 0, 66⟩) (R : Int32 × pR) (Z : wk_N x (some .int) (va_Qi (fun (r : Int32) (u : pR) => R.1 = r ∧ R.2 = u) (wk_B (ee V) (cR V a S0) (fun u : pR => cR V a u)) (wk_in (cR V a S0))) (cR V a S0)) : ∀ (n : Nat) (S : pR) (v1 : Int32) (v2 : Int32), fR_lockStep_L29 n S v1 v2 = some R → wk_G (ee V) x 4 (cR V a S) 29 [(0, .ref (a 0)), (1, .int v1), (2, .int v2)] [] := by
  intro n
  induction n with
  | zero => intro S v1 v2 hf; exact absurd hf (by rw [fR_lockStep_L29]; exact fun h => by cases h)
  | succ n ih =>
    intro S v1 v2 hf
    rw [fR_lockStep_L29] at hf
    refine wk_iload_n X 2 dR_lockStep_29 rfl rfl ?_
    refine wk_iload_n X 1 dR_lockStep_30 rfl rfl ?_
    refine wk_icmp_ge X dR_lockStep_31 (tgt := 102) rfl (fun h5 => ?_) (fun h5 => ?_)
    · replace hf := p_it h5 hf
      refine wk_iconst X dR_lockStep_102 (v := (0 : Int32)) (by decide) ?_
      have hf := Option.some.inj hf
      exact wk_iret X Z rfl dR_lockStep_103 (S) ⟨(p_fst hf), p_snd hf⟩ rfl rfl
    · replace hf := p_ie h5 hf
      refine wk_iload_n X 2 dR_lockStep_34 rfl rfl ?_
      refine wk_sipush X dR_lockStep_35 (v := (200 : Int32)) (by decide) ?_
      refine wk_icmp_ge X dR_lockStep_38 (tgt := 102) rfl (fun h6 => ?_) (fun h6 => ?_)
      · replace hf := p_it h6 hf
        refine wk_iconst X dR_lockStep_102 (v := (0 : Int32)) (by decide) ?_
        have hf := Option.some.inj hf
        exact wk_iret X Z rfl dR_lockStep_103 (S) ⟨(p_fst hf), p_snd hf⟩ rfl rfl
      · replace hf := p_ie h6 hf
        refine wk_aload_n X 0 dR_lockStep_41 rfl rfl ?_
        obtain ⟨q7, h8, hf⟩ := p_ob hf
        refine wk_goI [0, 1, 2, 3, 4, 5, 6, 7, 8, 9, 10, 11, 12] (wk_rV X (mR_tapeCan (V := V) a S q7 h8) rfl (gd (tw_652)) [0, 1, 2, 3, 4, 5, 6, 7, 8, 9, 10, 11, 12] rfl rfl 0 rfl rfl (tl tw_649) (tl tw_651) (tl tv_4) (tl tw_7) 0 pd_R_tapeCan rfl ⟨rfl, rfl⟩ ⟨Nat.le_of_ble_eq_true rfl, Nat.le_of_ble_eq_true rfl⟩ rfl (Nat.le_of_ble_eq_true rfl) dR_lockStep_42) rfl ?_
        rintro r ⟨⟩ rfl
        refine wk_ws (ws' := cR V a S) rfl ?_
        refine wk_istore_n X dR_lockStep_45 rfl (Nat.le_of_ble_eq_true rfl) (lv' := [(3, .int q7), (0, .ref (a 0)), (1, .int v1), (2, .int v2)]) rfl ?_
        refine wk_iload_n X 0 dR_lockStep_46 rfl rfl ?_
        refine wk_bipush X dR_lockStep_47 (v := (-2 : Int32)) (by decide) ?_
        refine wk_icmp_ne X dR_lockStep_49 (tgt := 55) rfl (fun h9 => ?_) (fun h9 => ?_)
        · replace hf := p_ie h9 hf
          refine wk_iload_n X 0 dR_lockStep_55 rfl rfl ?_
          refine wk_if_ne X dR_lockStep_56 (tgt := 74) rfl (fun h10 => ?_) (fun h10 => ?_)
          · replace hf := p_ie h10 hf
            refine wk_aload_n X 1 dR_lockStep_74 rfl rfl ?_
            obtain ⟨q11, h12, hf⟩ := p_ob hf
            refine wk_goV [0, 1, 2, 3, 4, 5, 6, 7, 8, 9, 10, 11, 12] (wk_rV X (mR_tapeStep (V := V) a S q11 h12) rfl (gd (tw_663)) [0, 1, 2, 3, 4, 5, 6, 7, 8, 9, 10, 11, 12] rfl rfl 0 rfl rfl (tl tw_660) (tl tw_662) (tl tv_6) (tl tw_7) 0 pd_R_tapeStep rfl ⟨rfl, rfl⟩ ⟨Nat.le_of_ble_eq_true rfl, Nat.le_of_ble_eq_true rfl⟩ rfl (Nat.le_of_ble_eq_true rfl) dR_lockStep_75) rfl ?_
            rintro u rfl
            refine wk_ws (ws' := cR V a q11) rfl ?_
            refine wk_aload_n X 1 dR_lockStep_78 rfl rfl ?_
            obtain ⟨q13, h14, hf⟩ := p_ob hf
            refine wk_goI [0, 1, 2, 3, 4, 5, 6, 7, 8, 9, 10, 11, 12] (wk_rV X (mR_nextBorder (V := V) a q11 q13 h14) rfl (gd (tw_815)) [0, 1, 2, 3, 4, 5, 6, 7, 8, 9, 10, 11, 12] rfl rfl 0 rfl rfl (tl tw_824) (tl tw_813) (tl tw_814) (tl tw_7) 0 pd_R_nextBorder rfl ⟨rfl, rfl⟩ ⟨Nat.le_of_ble_eq_true rfl, Nat.le_of_ble_eq_true rfl⟩ rfl (Nat.le_of_ble_eq_true rfl) dR_lockStep_79) rfl ?_
            rintro r u ⟨rfl, rfl⟩
            refine wk_ws (ws' := cR V a q13.2) rfl ?_
            refine wk_if_eq X dR_lockStep_82 (tgt := 92) rfl (fun h15 => ?_) (fun h15 => ?_)
            · replace hf := p_it h15 hf
              refine wk_iconst X dR_lockStep_92 (v := (1 : Int32)) (by decide) ?_
              refine wk_iload_n X 3 dR_lockStep_93 rfl rfl ?_
              refine wk_iadd X dR_lockStep_94 ?_
              have hf := Option.some.inj hf
              exact wk_iret X Z rfl dR_lockStep_95 (q13.2) ⟨(p_fst hf), p_snd hf⟩ rfl rfl
            · replace hf := p_ie h15 hf
              refine wk_aload_n X 1 dR_lockStep_85 rfl rfl ?_
              obtain ⟨q16, h17, hf⟩ := p_ob hf
              refine wk_goI [0, 1, 2, 3, 4, 5, 6, 7, 8, 9, 10, 11, 12] (wk_rV X (mR_agrees (V := V) a q13.2 q16 h17) rfl (gd (tw_828)) [0, 1, 2, 3, 4, 5, 6, 7, 8, 9, 10, 11, 12] rfl rfl 0 rfl rfl (tl tw_825) (tl tw_827) (tl tv_25) (tl tw_7) 0 pd_R_agrees rfl ⟨rfl, rfl⟩ ⟨Nat.le_of_ble_eq_true rfl, Nat.le_of_ble_eq_true rfl⟩ rfl (Nat.le_of_ble_eq_true rfl) dR_lockStep_86) rfl ?_
              rintro r u ⟨rfl, rfl⟩
              refine wk_ws (ws' := cR V a q16.2) rfl ?_
              refine wk_bz_ne X dR_lockStep_89 (tgt := 96) rfl (fun h18 => ?_) (fun h18 => ?_)
              · replace hf := p_it h18 hf
                refine wk_iinc X 3 dR_lockStep_96 (v := (v2 + (1 : Int32))) rfl rfl (Nat.le_of_ble_eq_true rfl) (lv' := [(2, .int (v2 + (1 : Int32))), (3, .int q7), (0, .ref (a 0)), (1, .int v1)]) rfl ?_
                refine wk_goto X dR_lockStep_99 (tgt := 29) rfl ?_
                refine wk_lv [2, 3, 0] (lv' := [(0, .ref (a 0)), (1, .int v1), (2, .int (v2 + (1 : Int32)))]) rfl ?_
                exact ih q16.2 v1 (v2 + (1 : Int32)) hf
              · replace hf := p_ie h18 hf
                refine wk_iconst X dR_lockStep_92 (v := (1 : Int32)) (by decide) ?_
                refine wk_iload_n X 3 dR_lockStep_93 rfl rfl ?_
                refine wk_iadd X dR_lockStep_94 ?_
                have hf := Option.some.inj hf
                exact wk_iret X Z rfl dR_lockStep_95 (q16.2) ⟨(p_fst hf), p_snd hf⟩ rfl rfl
          · replace hf := p_it h10 hf
            refine wk_aload_n X 1 dR_lockStep_59 rfl rfl ?_
            obtain ⟨q19, h20, hf⟩ := p_ob hf
            refine wk_goI [0, 1, 2, 3, 4, 5, 6, 7, 8, 9, 10, 11, 12] (wk_rV X (mR_tagCan (V := V) a S q19 h20) rfl (gd (tw_747)) [0, 1, 2, 3, 4, 5, 6, 7, 8, 9, 10, 11, 12] rfl rfl 0 rfl rfl (tl tw_744) (tl tw_746) (tl tv_17) (tl tw_7) 0 pd_R_tagCan rfl ⟨rfl, rfl⟩ ⟨Nat.le_of_ble_eq_true rfl, Nat.le_of_ble_eq_true rfl⟩ rfl (Nat.le_of_ble_eq_true rfl) dR_lockStep_60) rfl ?_
            rintro r ⟨⟩ rfl
            refine wk_ws (ws' := cR V a S) rfl ?_
            refine wk_if_ne X dR_lockStep_63 (tgt := 70) rfl (fun h21 => ?_) (fun h21 => ?_)
            · replace hf := p_ie h21 hf
              refine wk_iconst X dR_lockStep_70 (v := (1 : Int32)) (by decide) ?_
              refine wk_iload_n X 3 dR_lockStep_71 rfl rfl ?_
              refine wk_iadd X dR_lockStep_72 ?_
              have hf := Option.some.inj hf
              exact wk_iret X Z rfl dR_lockStep_73 (S) ⟨(p_fst hf), p_snd hf⟩ rfl rfl
            · replace hf := p_it h21 hf
              refine wk_iconst X dR_lockStep_66 (v := (0 : Int32)) (by decide) ?_
              refine wk_goto X dR_lockStep_67 (tgt := 73) rfl ?_
              have hf := Option.some.inj hf
              exact wk_iret X Z rfl dR_lockStep_73 (S) ⟨(p_fst hf), p_snd hf⟩ rfl rfl
        · replace hf := p_it h9 hf
          refine wk_bipush X dR_lockStep_52 (v := (-2 : Int32)) (by decide) ?_
          have hf := Option.some.inj hf
          exact wk_iret X Z rfl dR_lockStep_54 (S) ⟨(p_fst hf), p_snd hf⟩ rfl rfl
set_option maxRecDepth 100000 in
set_option maxHeartbeats 4000000 in
theorem mR_lockStep {V : ee_V} (a : Nat → Nat) (S : pR) (v1 : Int32) (R : Int32 × pR) (hf : fR_lockStep S v1 = some R) : wk_I (ee V) yR_lockStep ts_R_lockStep ⟨3, 0, 0, 66⟩ [.ref (a 0), .int v1] (cR V a S) (fun (r : Int32) (u : pR) => R.1 = r ∧ R.2 = u) (fun u : pR => cR V a u) := by
  refine wk_of (ee_ok V) (by decide +kernel) rfl (Nat.le_of_ble_eq_true rfl) ?_
  intro x X Z
  unfold fR_lockStep at hf
  refine wk_lq (lv' := [(0, .ref (a 0)), (1, .int v1)]) rfl ?_
  refine wk_aload_n X 0 dR_lockStep_0 rfl rfl ?_
  refine wk_get X uw_R 0 rfl rfl 9 (Nat.le_of_ble_eq_true rfl) (tl tw_546) rfl rfl dR_lockStep_1 ?_
  refine wk_bz_eq X dR_lockStep_4 (tgt := 21) rfl (fun h1 => ?_) (fun h1 => ?_)
  · replace hf := p_ie h1 hf
    refine wk_iconst X dR_lockStep_21 (v := (-1 : Int32)) (by decide) ?_
    have hf := Option.some.inj hf
    exact wk_iret X Z rfl dR_lockStep_22 (S) ⟨(p_fst hf), p_snd hf⟩ rfl rfl
  · replace hf := p_it h1 hf
    refine wk_bipush X dR_lockStep_7 (v := (36 : Int32)) (by decide) ?_
    refine wk_aload_n X 0 dR_lockStep_9 rfl rfl ?_
    refine wk_get X uw_R 0 rfl rfl 4 (Nat.le_of_ble_eq_true rfl) (tl tw_541) rfl rfl dR_lockStep_10 ?_
    refine wk_imul X dR_lockStep_13 ?_
    refine wk_aload_n X 0 dR_lockStep_14 rfl rfl ?_
    refine wk_get X uw_R 0 rfl rfl 8 (Nat.le_of_ble_eq_true rfl) (tl tw_545) rfl rfl dR_lockStep_15 ?_
    refine wk_icmp_lt X dR_lockStep_18 (tgt := 23) rfl (fun h2 => ?_) (fun h2 => ?_)
    · replace hf := p_it h2 hf
      refine wk_aload_n X 0 dR_lockStep_23 rfl rfl ?_
      obtain ⟨q3, h4, hf⟩ := p_ob hf
      refine wk_goV [0, 1, 2, 3, 4, 5, 6, 7, 8, 9, 10, 11, 12] (wk_rV X (mR_putCode (V := V) a S q3 h4) rfl (gd (tw_706)) [0, 1, 2, 3, 4, 5, 6, 7, 8, 9, 10, 11, 12] rfl rfl 0 rfl rfl (tl tw_703) (tl tw_705) (tl tv_14) (tl tw_7) 0 pd_R_putCode rfl ⟨rfl, rfl⟩ ⟨Nat.le_of_ble_eq_true rfl, Nat.le_of_ble_eq_true rfl⟩ rfl (Nat.le_of_ble_eq_true rfl) dR_lockStep_24) rfl ?_
      rintro u rfl
      refine wk_ws (ws' := cR V a q3) rfl ?_
      refine wk_iconst X dR_lockStep_27 (v := (0 : Int32)) (by decide) ?_
      refine wk_istore_n X dR_lockStep_28 rfl (Nat.le_of_ble_eq_true rfl) (lv' := [(2, .int (0 : Int32)), (0, .ref (a 0)), (1, .int v1)]) rfl ?_
      refine wk_lv [1, 2, 0] (lv' := [(0, .ref (a 0)), (1, .int v1), (2, .int (0 : Int32))]) rfl ?_
      exact wR_lockStep_L29 a S X R Z 100000 q3 v1 (0 : Int32) hf
    · replace hf := p_ie h2 hf
      refine wk_iconst X dR_lockStep_21 (v := (-1 : Int32)) (by decide) ?_
      have hf := Option.some.inj hf
      exact wk_iret X Z rfl dR_lockStep_22 (S) ⟨(p_fst hf), p_snd hf⟩ rfl rfl

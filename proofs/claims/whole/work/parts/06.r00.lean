-- R_isState: room (0, 0), Bool
def fR_isState (v0 : Int32) : Bool :=
  if v0 < (1 : Int32) then (
    false
  ) else (
    if (8 : Int32) < v0 then (
      false
    ) else (
      true
    )
  )
set_option maxRecDepth 100000 in
set_option maxHeartbeats 4000000 in
theorem mR_isState {V : ee_V} (v0 : Int32) (R : Bool) (hf : fR_isState v0 = R) : wk_I (ee V) yR_isState ts_R_isState ⟨0, 0, 0, 0⟩ [.int v0] (([] : va_W)) (fun (r : Int32) (_ : Unit) => p_b (R) = r) (fun _ : Unit => ([] : va_W)) := by
  refine wk_of (ee_ok V) (by decide +kernel) rfl (Nat.le_of_ble_eq_true rfl) ?_
  intro x X Z
  unfold fR_isState at hf
  refine wk_lq (lv' := [(0, .int v0)]) rfl ?_
  refine wk_iload_n X 0 dR_isState_0 rfl rfl ?_
  refine wk_iconst X dR_isState_1 (v := (1 : Int32)) (by decide) ?_
  refine wk_icmp_lt X dR_isState_2 (tgt := 15) rfl (fun h1 => ?_) (fun h1 => ?_)
  · replace hf := p_it h1 hf
    refine wk_iconst X dR_isState_15 (v := (0 : Int32)) (by decide) ?_
    exact wk_iret X Z rfl dR_isState_16 () (Eq.symm (congrArg p_b hf)) rfl rfl
  · replace hf := p_ie h1 hf
    refine wk_iload_n X 0 dR_isState_5 rfl rfl ?_
    refine wk_bipush X dR_isState_6 (v := (8 : Int32)) (by decide) ?_
    refine wk_icmp_gt X dR_isState_8 (tgt := 15) rfl (fun h2 => ?_) (fun h2 => ?_)
    · replace hf := p_it h2 hf
      refine wk_iconst X dR_isState_15 (v := (0 : Int32)) (by decide) ?_
      exact wk_iret X Z rfl dR_isState_16 () (Eq.symm (congrArg p_b hf)) rfl rfl
    · replace hf := p_ie h2 hf
      refine wk_iconst X dR_isState_11 (v := (1 : Int32)) (by decide) ?_
      refine wk_goto X dR_isState_12 (tgt := 16) rfl ?_
      exact wk_iret X Z rfl dR_isState_16 () (Eq.symm (congrArg p_b hf)) rfl rfl
-- R_isBit: room (0, 0), Bool
def fR_isBit (v0 : Int32) : Bool :=
  if v0 = 0 then (
    true
  ) else (
    if v0 = (1 : Int32) then (
      true
    ) else (
      false
    )
  )
set_option maxRecDepth 100000 in
set_option maxHeartbeats 4000000 in
theorem mR_isBit {V : ee_V} (v0 : Int32) (R : Bool) (hf : fR_isBit v0 = R) : wk_I (ee V) yR_isBit ts_R_isBit ⟨0, 0, 0, 0⟩ [.int v0] (([] : va_W)) (fun (r : Int32) (_ : Unit) => p_b (R) = r) (fun _ : Unit => ([] : va_W)) := by
  refine wk_of (ee_ok V) (by decide +kernel) rfl (Nat.le_of_ble_eq_true rfl) ?_
  intro x X Z
  unfold fR_isBit at hf
  refine wk_lq (lv' := [(0, .int v0)]) rfl ?_
  refine wk_iload_n X 0 dR_isBit_0 rfl rfl ?_
  refine wk_if_eq X dR_isBit_1 (tgt := 9) rfl (fun h1 => ?_) (fun h1 => ?_)
  · replace hf := p_it h1 hf
    refine wk_iconst X dR_isBit_9 (v := (1 : Int32)) (by decide) ?_
    refine wk_goto X dR_isBit_10 (tgt := 14) rfl ?_
    exact wk_iret X Z rfl dR_isBit_14 () (Eq.symm (congrArg p_b hf)) rfl rfl
  · replace hf := p_ie h1 hf
    refine wk_iload_n X 0 dR_isBit_4 rfl rfl ?_
    refine wk_iconst X dR_isBit_5 (v := (1 : Int32)) (by decide) ?_
    refine wk_icmp_ne X dR_isBit_6 (tgt := 13) rfl (fun h2 => ?_) (fun h2 => ?_)
    · replace hf := p_ie h2 hf
      refine wk_iconst X dR_isBit_13 (v := (0 : Int32)) (by decide) ?_
      exact wk_iret X Z rfl dR_isBit_14 () (Eq.symm (congrArg p_b hf)) rfl rfl
    · replace hf := p_it h2 hf
      refine wk_iconst X dR_isBit_9 (v := (1 : Int32)) (by decide) ?_
      refine wk_goto X dR_isBit_10 (tgt := 14) rfl ?_
      exact wk_iret X Z rfl dR_isBit_14 () (Eq.symm (congrArg p_b hf)) rfl rfl
-- R_rule: room (1, 20), Option (Bool × pR)
def fR_rule (S : pR) (v1 : Int32) (v2 : Int32) (v3 : Int32) (v4 : Int32) (v5 : Int32) : Option (Bool × pR) :=
  if (fR_isState v1) = true then (
    if (fR_isBit v2) = true then (
      if (fR_isBit v3) = true then (
        if (fR_isBit v4) = true then (
          if v5 < 0 then (
            some (false, S)
          ) else (
            if v5 ≤ (8 : Int32) then (
              (p_wr 16 S.1.1 (((2 : Int32) * (v1 - (1 : Int32))) + v2) (1 : Int32)).bind fun q7 =>
              (p_wr 16 S.1.2.1 (((2 : Int32) * (v1 - (1 : Int32))) + v2) v3).bind fun q9 =>
              (p_wr 16 S.1.2.2.1 (((2 : Int32) * (v1 - (1 : Int32))) + v2) v4).bind fun q11 =>
              (p_wr 16 S.1.2.2.2.1 (((2 : Int32) * (v1 - (1 : Int32))) + v2) v5).bind fun q13 =>
              some (true, ((q7, q9, q11, q13, S.1.2.2.2.2.1, S.1.2.2.2.2.2.1, S.1.2.2.2.2.2.2.1, S.1.2.2.2.2.2.2.2), S.2.1, S.2.2.1, S.2.2.2))
            ) else (
              some (false, S)
            )
          )
        ) else (
          some (false, S)
        )
      ) else (
        some (false, S)
      )
    ) else (
      some (false, S)
    )
  ) else (
    some (false, S)
  )
set_option maxRecDepth 100000 in
set_option maxHeartbeats 4000000 in
theorem mR_rule {V : ee_V} (a : Nat → Nat) (S : pR) (v1 : Int32) (v2 : Int32) (v3 : Int32) (v4 : Int32) (v5 : Int32) (R : Bool × pR) (hf : fR_rule S v1 v2 v3 v4 v5 = some R) : wk_I (ee V) yR_rule ts_R_rule ⟨1, 0, 0, 20⟩ [.ref (a 0), .int v1, .int v2, .int v3, .int v4, .int v5] (cR V a S) (fun (r : Int32) (u : pR) => p_b (R.1) = r ∧ R.2 = u) (fun u : pR => cR V a u) := by
  refine wk_of (ee_ok V) (by decide +kernel) rfl (Nat.le_of_ble_eq_true rfl) ?_
  intro x X Z
  unfold fR_rule at hf
  refine wk_lq (lv' := [(0, .ref (a 0)), (1, .int v1), (2, .int v2), (3, .int v3), (4, .int v4), (5, .int v5)]) rfl ?_
  refine wk_iload_n X 1 dR_rule_0 rfl rfl ?_
  refine wk_goI [] (wk_rS X (mR_isState (V := V) v1 (fR_isState v1) rfl) rfl (gd (tw_631)) [] rfl rfl (tl tw_629) (tl tw_630) (tl tw_7) 1 pd_R_isState rfl ⟨rfl, rfl⟩ ⟨Nat.le_of_ble_eq_true rfl, Nat.le_of_ble_eq_true rfl⟩ rfl (Nat.le_of_ble_eq_true rfl) dR_rule_1) rfl ?_
  rintro r ⟨⟩ rfl
  refine wk_ws (ws' := cR V a S) rfl ?_
  refine wk_bz_eq X dR_rule_4 (tgt := 41) rfl (fun h1 => ?_) (fun h1 => ?_)
  · replace hf := p_ie h1 hf
    refine wk_iconst X dR_rule_41 (v := (0 : Int32)) (by decide) ?_
    have hf := Option.some.inj hf
    exact wk_iret X Z rfl dR_rule_42 (S) ⟨Eq.symm (congrArg p_b (congrArg Prod.fst hf)), Eq.symm (congrArg Prod.snd hf)⟩ rfl rfl
  · replace hf := p_it h1 hf
    refine wk_iload_n X 2 dR_rule_7 rfl rfl ?_
    refine wk_goI [] (wk_rS X (mR_isBit (V := V) v2 (fR_isBit v2) rfl) rfl (gd (tw_634)) [] rfl rfl (tl tw_632) (tl tw_633) (tl tw_7) 1 pd_R_isBit rfl ⟨rfl, rfl⟩ ⟨Nat.le_of_ble_eq_true rfl, Nat.le_of_ble_eq_true rfl⟩ rfl (Nat.le_of_ble_eq_true rfl) dR_rule_8) rfl ?_
    rintro r ⟨⟩ rfl
    refine wk_ws (ws' := cR V a S) rfl ?_
    refine wk_bz_eq X dR_rule_11 (tgt := 41) rfl (fun h2 => ?_) (fun h2 => ?_)
    · replace hf := p_ie h2 hf
      refine wk_iconst X dR_rule_41 (v := (0 : Int32)) (by decide) ?_
      have hf := Option.some.inj hf
      exact wk_iret X Z rfl dR_rule_42 (S) ⟨Eq.symm (congrArg p_b (congrArg Prod.fst hf)), Eq.symm (congrArg Prod.snd hf)⟩ rfl rfl
    · replace hf := p_it h2 hf
      refine wk_iload_n X 3 dR_rule_14 rfl rfl ?_
      refine wk_goI [] (wk_rS X (mR_isBit (V := V) v3 (fR_isBit v3) rfl) rfl (gd (tw_634)) [] rfl rfl (tl tw_632) (tl tw_633) (tl tw_7) 1 pd_R_isBit rfl ⟨rfl, rfl⟩ ⟨Nat.le_of_ble_eq_true rfl, Nat.le_of_ble_eq_true rfl⟩ rfl (Nat.le_of_ble_eq_true rfl) dR_rule_15) rfl ?_
      rintro r ⟨⟩ rfl
      refine wk_ws (ws' := cR V a S) rfl ?_
      refine wk_bz_eq X dR_rule_18 (tgt := 41) rfl (fun h3 => ?_) (fun h3 => ?_)
      · replace hf := p_ie h3 hf
        refine wk_iconst X dR_rule_41 (v := (0 : Int32)) (by decide) ?_
        have hf := Option.some.inj hf
        exact wk_iret X Z rfl dR_rule_42 (S) ⟨Eq.symm (congrArg p_b (congrArg Prod.fst hf)), Eq.symm (congrArg Prod.snd hf)⟩ rfl rfl
      · replace hf := p_it h3 hf
        refine wk_iload X 4 dR_rule_21 rfl ?_
        refine wk_goI [] (wk_rS X (mR_isBit (V := V) v4 (fR_isBit v4) rfl) rfl (gd (tw_634)) [] rfl rfl (tl tw_632) (tl tw_633) (tl tw_7) 1 pd_R_isBit rfl ⟨rfl, rfl⟩ ⟨Nat.le_of_ble_eq_true rfl, Nat.le_of_ble_eq_true rfl⟩ rfl (Nat.le_of_ble_eq_true rfl) dR_rule_23) rfl ?_
        rintro r ⟨⟩ rfl
        refine wk_ws (ws' := cR V a S) rfl ?_
        refine wk_bz_eq X dR_rule_26 (tgt := 41) rfl (fun h4 => ?_) (fun h4 => ?_)
        · replace hf := p_ie h4 hf
          refine wk_iconst X dR_rule_41 (v := (0 : Int32)) (by decide) ?_
          have hf := Option.some.inj hf
          exact wk_iret X Z rfl dR_rule_42 (S) ⟨Eq.symm (congrArg p_b (congrArg Prod.fst hf)), Eq.symm (congrArg Prod.snd hf)⟩ rfl rfl
        · replace hf := p_it h4 hf
          refine wk_iload X 5 dR_rule_29 rfl ?_
          refine wk_if_lt X dR_rule_31 (tgt := 41) rfl (fun h5 => ?_) (fun h5 => ?_)
          · replace hf := p_it h5 hf
            refine wk_iconst X dR_rule_41 (v := (0 : Int32)) (by decide) ?_
            have hf := Option.some.inj hf
            exact wk_iret X Z rfl dR_rule_42 (S) ⟨Eq.symm (congrArg p_b (congrArg Prod.fst hf)), Eq.symm (congrArg Prod.snd hf)⟩ rfl rfl
          · replace hf := p_ie h5 hf
            refine wk_iload X 5 dR_rule_34 rfl ?_
            refine wk_bipush X dR_rule_36 (v := (8 : Int32)) (by decide) ?_
            refine wk_icmp_le X dR_rule_38 (tgt := 43) rfl (fun h6 => ?_) (fun h6 => ?_)
            · replace hf := p_it h6 hf
              refine wk_iconst X dR_rule_43 (v := (2 : Int32)) (by decide) ?_
              refine wk_iload_n X 1 dR_rule_44 rfl rfl ?_
              refine wk_iconst X dR_rule_45 (v := (1 : Int32)) (by decide) ?_
              refine wk_isub X dR_rule_46 ?_
              refine wk_imul X dR_rule_47 ?_
              refine wk_iload_n X 2 dR_rule_48 rfl rfl ?_
              refine wk_iadd X dR_rule_49 ?_
              refine wk_istore X dR_rule_50 (Nat.le_of_ble_eq_true rfl) (lv' := [(6, .int (((2 : Int32) * (v1 - (1 : Int32))) + v2)), (0, .ref (a 0)), (1, .int v1), (2, .int v2), (3, .int v3), (4, .int v4), (5, .int v5)]) rfl ?_
              refine wk_aload_n X 1 dR_rule_52 rfl rfl ?_
              refine wk_get X uw_R 0 rfl rfl 0 (Nat.le_of_ble_eq_true rfl) (tl tw_537) rfl rfl dR_rule_53 ?_
              refine wk_iload X 0 dR_rule_56 rfl ?_
              refine wk_iconst X dR_rule_58 (v := (1 : Int32)) (by decide) ?_
              obtain ⟨q7, h8, hf⟩ := p_ob hf
              obtain ⟨h8i, h8e⟩ := p_wr_some h8
              refine wk_zast X 1 1 rfl rfl h8i (by decide) h8e dR_rule_59 (ws' := cR V a ((q7, S.1.2.1, S.1.2.2.1, S.1.2.2.2.1, S.1.2.2.2.2.1, S.1.2.2.2.2.2.1, S.1.2.2.2.2.2.2.1, S.1.2.2.2.2.2.2.2), S.2.1, S.2.2.1, S.2.2.2)) rfl ?_
              refine wk_aload_n X 1 dR_rule_60 rfl rfl ?_
              refine wk_get X uw_R 0 rfl rfl 1 (Nat.le_of_ble_eq_true rfl) (tl tw_538) rfl rfl dR_rule_61 ?_
              refine wk_iload X 0 dR_rule_64 rfl ?_
              refine wk_iload_n X 4 dR_rule_66 rfl rfl ?_
              obtain ⟨q9, h10, hf⟩ := p_ob hf
              obtain ⟨h10i, h10e⟩ := p_wr_some h10
              refine wk_iast X 2 0 rfl rfl h10i h10e dR_rule_67 (ws' := cR V a ((q7, q9, S.1.2.2.1, S.1.2.2.2.1, S.1.2.2.2.2.1, S.1.2.2.2.2.2.1, S.1.2.2.2.2.2.2.1, S.1.2.2.2.2.2.2.2), S.2.1, S.2.2.1, S.2.2.2)) rfl ?_
              refine wk_aload_n X 1 dR_rule_68 rfl rfl ?_
              refine wk_get X uw_R 0 rfl rfl 2 (Nat.le_of_ble_eq_true rfl) (tl tw_539) rfl rfl dR_rule_69 ?_
              refine wk_iload X 0 dR_rule_72 rfl ?_
              refine wk_iload X 5 dR_rule_74 rfl ?_
              obtain ⟨q11, h12, hf⟩ := p_ob hf
              obtain ⟨h12i, h12e⟩ := p_wr_some h12
              refine wk_iast X 3 0 rfl rfl h12i h12e dR_rule_76 (ws' := cR V a ((q7, q9, q11, S.1.2.2.2.1, S.1.2.2.2.2.1, S.1.2.2.2.2.2.1, S.1.2.2.2.2.2.2.1, S.1.2.2.2.2.2.2.2), S.2.1, S.2.2.1, S.2.2.2)) rfl ?_
              refine wk_aload_n X 1 dR_rule_77 rfl rfl ?_
              refine wk_get X uw_R 0 rfl rfl 3 (Nat.le_of_ble_eq_true rfl) (tl tw_540) rfl rfl dR_rule_78 ?_
              refine wk_iload X 0 dR_rule_81 rfl ?_
              refine wk_iload X 6 dR_rule_83 rfl ?_
              obtain ⟨q13, h14, hf⟩ := p_ob hf
              obtain ⟨h14i, h14e⟩ := p_wr_some h14
              refine wk_iast X 4 0 rfl rfl h14i h14e dR_rule_85 (ws' := cR V a ((q7, q9, q11, q13, S.1.2.2.2.2.1, S.1.2.2.2.2.2.1, S.1.2.2.2.2.2.2.1, S.1.2.2.2.2.2.2.2), S.2.1, S.2.2.1, S.2.2.2)) rfl ?_
              refine wk_iconst X dR_rule_86 (v := (1 : Int32)) (by decide) ?_
              have hf := Option.some.inj hf
              exact wk_iret X Z rfl dR_rule_87 (((q7, q9, q11, q13, S.1.2.2.2.2.1, S.1.2.2.2.2.2.1, S.1.2.2.2.2.2.2.1, S.1.2.2.2.2.2.2.2), S.2.1, S.2.2.1, S.2.2.2)) ⟨Eq.symm (congrArg p_b (congrArg Prod.fst hf)), Eq.symm (congrArg Prod.snd hf)⟩ rfl rfl
            · replace hf := p_ie h6 hf
              refine wk_iconst X dR_rule_41 (v := (0 : Int32)) (by decide) ?_
              have hf := Option.some.inj hf
              exact wk_iret X Z rfl dR_rule_42 (S) ⟨Eq.symm (congrArg p_b (congrArg Prod.fst hf)), Eq.symm (congrArg Prod.snd hf)⟩ rfl rfl
-- R_isNumber: room (0, 0), Bool
def fR_isNumber (v0 : Int32) : Bool :=
  if v0 < 0 then (
    false
  ) else (
    if (255 : Int32) < v0 then (
      false
    ) else (
      true
    )
  )
set_option maxRecDepth 100000 in
set_option maxHeartbeats 4000000 in
theorem mR_isNumber {V : ee_V} (v0 : Int32) (R : Bool) (hf : fR_isNumber v0 = R) : wk_I (ee V) yR_isNumber ts_R_isNumber ⟨0, 0, 0, 0⟩ [.int v0] (([] : va_W)) (fun (r : Int32) (_ : Unit) => p_b (R) = r) (fun _ : Unit => ([] : va_W)) := by
  refine wk_of (ee_ok V) (by decide +kernel) rfl (Nat.le_of_ble_eq_true rfl) ?_
  intro x X Z
  unfold fR_isNumber at hf
  refine wk_lq (lv' := [(0, .int v0)]) rfl ?_
  refine wk_iload_n X 0 dR_isNumber_0 rfl rfl ?_
  refine wk_if_lt X dR_isNumber_1 (tgt := 15) rfl (fun h1 => ?_) (fun h1 => ?_)
  · replace hf := p_it h1 hf
    refine wk_iconst X dR_isNumber_15 (v := (0 : Int32)) (by decide) ?_
    exact wk_iret X Z rfl dR_isNumber_16 () (Eq.symm (congrArg p_b hf)) rfl rfl
  · replace hf := p_ie h1 hf
    refine wk_iload_n X 0 dR_isNumber_4 rfl rfl ?_
    refine wk_sipush X dR_isNumber_5 (v := (255 : Int32)) (by decide) ?_
    refine wk_icmp_gt X dR_isNumber_8 (tgt := 15) rfl (fun h2 => ?_) (fun h2 => ?_)
    · replace hf := p_it h2 hf
      refine wk_iconst X dR_isNumber_15 (v := (0 : Int32)) (by decide) ?_
      exact wk_iret X Z rfl dR_isNumber_16 () (Eq.symm (congrArg p_b hf)) rfl rfl
    · replace hf := p_ie h2 hf
      refine wk_iconst X dR_isNumber_11 (v := (1 : Int32)) (by decide) ?_
      refine wk_goto X dR_isNumber_12 (tgt := 16) rfl ?_
      exact wk_iret X Z rfl dR_isNumber_16 () (Eq.symm (congrArg p_b hf)) rfl rfl
-- R_tape: room (1, 20), Bool × pR
def fR_tape (S : pR) (v1 : Int32) (v2 : Int32) (v3 : Int32) (v4 : Int32) : Bool × pR :=
  if (fR_isState v1) = true then (
    if (fR_isBit v2) = true then (
      if (fR_isNumber v3) = true then (
        if (fR_isNumber v4) = true then (
          (true, ((S.1.1, S.1.2.1, S.1.2.2.1, S.1.2.2.2.1, v1, v2, v3, v4), S.2.1, S.2.2.1, S.2.2.2))
        ) else (
          (false, S)
        )
      ) else (
        (false, S)
      )
    ) else (
      (false, S)
    )
  ) else (
    (false, S)
  )
set_option maxRecDepth 100000 in
set_option maxHeartbeats 4000000 in
theorem mR_tape {V : ee_V} (a : Nat → Nat) (S : pR) (v1 : Int32) (v2 : Int32) (v3 : Int32) (v4 : Int32) (R : Bool × pR) (hf : fR_tape S v1 v2 v3 v4 = R) : wk_I (ee V) yR_tape ts_R_tape ⟨1, 0, 0, 20⟩ [.ref (a 0), .int v1, .int v2, .int v3, .int v4] (cR V a S) (fun (r : Int32) (u : pR) => p_b (R.1) = r ∧ R.2 = u) (fun u : pR => cR V a u) := by
  refine wk_of (ee_ok V) (by decide +kernel) rfl (Nat.le_of_ble_eq_true rfl) ?_
  intro x X Z
  unfold fR_tape at hf
  refine wk_lq (lv' := [(0, .ref (a 0)), (1, .int v1), (2, .int v2), (3, .int v3), (4, .int v4)]) rfl ?_
  refine wk_iload_n X 1 dR_tape_0 rfl rfl ?_
  refine wk_goI [] (wk_rS X (mR_isState (V := V) v1 (fR_isState v1) rfl) rfl (gd (tw_631)) [] rfl rfl (tl tw_629) (tl tw_630) (tl tw_7) 1 pd_R_isState rfl ⟨rfl, rfl⟩ ⟨Nat.le_of_ble_eq_true rfl, Nat.le_of_ble_eq_true rfl⟩ rfl (Nat.le_of_ble_eq_true rfl) dR_tape_1) rfl ?_
  rintro r ⟨⟩ rfl
  refine wk_ws (ws' := cR V a S) rfl ?_
  refine wk_bz_eq X dR_tape_4 (tgt := 29) rfl (fun h1 => ?_) (fun h1 => ?_)
  · replace hf := p_ie h1 hf
    refine wk_iconst X dR_tape_29 (v := (0 : Int32)) (by decide) ?_
    exact wk_iret X Z rfl dR_tape_30 (S) ⟨Eq.symm (congrArg p_b (congrArg Prod.fst hf)), Eq.symm (congrArg Prod.snd hf)⟩ rfl rfl
  · replace hf := p_it h1 hf
    refine wk_iload_n X 2 dR_tape_7 rfl rfl ?_
    refine wk_goI [] (wk_rS X (mR_isBit (V := V) v2 (fR_isBit v2) rfl) rfl (gd (tw_634)) [] rfl rfl (tl tw_632) (tl tw_633) (tl tw_7) 1 pd_R_isBit rfl ⟨rfl, rfl⟩ ⟨Nat.le_of_ble_eq_true rfl, Nat.le_of_ble_eq_true rfl⟩ rfl (Nat.le_of_ble_eq_true rfl) dR_tape_8) rfl ?_
    rintro r ⟨⟩ rfl
    refine wk_ws (ws' := cR V a S) rfl ?_
    refine wk_bz_eq X dR_tape_11 (tgt := 29) rfl (fun h2 => ?_) (fun h2 => ?_)
    · replace hf := p_ie h2 hf
      refine wk_iconst X dR_tape_29 (v := (0 : Int32)) (by decide) ?_
      exact wk_iret X Z rfl dR_tape_30 (S) ⟨Eq.symm (congrArg p_b (congrArg Prod.fst hf)), Eq.symm (congrArg Prod.snd hf)⟩ rfl rfl
    · replace hf := p_it h2 hf
      refine wk_iload_n X 3 dR_tape_14 rfl rfl ?_
      refine wk_goI [] (wk_rS X (mR_isNumber (V := V) v3 (fR_isNumber v3) rfl) rfl (gd (tw_641)) [] rfl rfl (tl tw_639) (tl tw_640) (tl tw_7) 1 pd_R_isNumber rfl ⟨rfl, rfl⟩ ⟨Nat.le_of_ble_eq_true rfl, Nat.le_of_ble_eq_true rfl⟩ rfl (Nat.le_of_ble_eq_true rfl) dR_tape_15) rfl ?_
      rintro r ⟨⟩ rfl
      refine wk_ws (ws' := cR V a S) rfl ?_
      refine wk_bz_eq X dR_tape_18 (tgt := 29) rfl (fun h3 => ?_) (fun h3 => ?_)
      · replace hf := p_ie h3 hf
        refine wk_iconst X dR_tape_29 (v := (0 : Int32)) (by decide) ?_
        exact wk_iret X Z rfl dR_tape_30 (S) ⟨Eq.symm (congrArg p_b (congrArg Prod.fst hf)), Eq.symm (congrArg Prod.snd hf)⟩ rfl rfl
      · replace hf := p_it h3 hf
        refine wk_iload X 4 dR_tape_21 rfl ?_
        refine wk_goI [] (wk_rS X (mR_isNumber (V := V) v4 (fR_isNumber v4) rfl) rfl (gd (tw_641)) [] rfl rfl (tl tw_639) (tl tw_640) (tl tw_7) 1 pd_R_isNumber rfl ⟨rfl, rfl⟩ ⟨Nat.le_of_ble_eq_true rfl, Nat.le_of_ble_eq_true rfl⟩ rfl (Nat.le_of_ble_eq_true rfl) dR_tape_23) rfl ?_
        rintro r ⟨⟩ rfl
        refine wk_ws (ws' := cR V a S) rfl ?_
        refine wk_bz_ne X dR_tape_26 (tgt := 31) rfl (fun h4 => ?_) (fun h4 => ?_)
        · replace hf := p_it h4 hf
          refine wk_aload_n X 0 dR_tape_31 rfl rfl ?_
          refine wk_iload_n X 1 dR_tape_32 rfl rfl ?_
          refine wk_put X uw_R 0 rfl rfl 4 (Nat.le_of_ble_eq_true rfl) ft_R ft_R_ok fn_R (tl tw_541) rfl rfl rfl rfl (Nat.le_of_ble_eq_true rfl) dR_tape_33 (ws' := cR V a ((S.1.1, S.1.2.1, S.1.2.2.1, S.1.2.2.2.1, v1, S.1.2.2.2.2.2.1, S.1.2.2.2.2.2.2.1, S.1.2.2.2.2.2.2.2), S.2.1, S.2.2.1, S.2.2.2)) rfl ?_
          refine wk_aload_n X 0 dR_tape_36 rfl rfl ?_
          refine wk_iload_n X 2 dR_tape_37 rfl rfl ?_
          refine wk_put X uw_R 0 rfl rfl 5 (Nat.le_of_ble_eq_true rfl) ft_R ft_R_ok fn_R (tl tw_542) rfl rfl rfl rfl (Nat.le_of_ble_eq_true rfl) dR_tape_38 (ws' := cR V a ((S.1.1, S.1.2.1, S.1.2.2.1, S.1.2.2.2.1, v1, v2, S.1.2.2.2.2.2.2.1, S.1.2.2.2.2.2.2.2), S.2.1, S.2.2.1, S.2.2.2)) rfl ?_
          refine wk_aload_n X 0 dR_tape_41 rfl rfl ?_
          refine wk_iload_n X 3 dR_tape_42 rfl rfl ?_
          refine wk_put X uw_R 0 rfl rfl 6 (Nat.le_of_ble_eq_true rfl) ft_R ft_R_ok fn_R (tl tw_543) rfl rfl rfl rfl (Nat.le_of_ble_eq_true rfl) dR_tape_43 (ws' := cR V a ((S.1.1, S.1.2.1, S.1.2.2.1, S.1.2.2.2.1, v1, v2, v3, S.1.2.2.2.2.2.2.2), S.2.1, S.2.2.1, S.2.2.2)) rfl ?_
          refine wk_aload_n X 0 dR_tape_46 rfl rfl ?_
          refine wk_iload X 4 dR_tape_47 rfl ?_
          refine wk_put X uw_R 0 rfl rfl 7 (Nat.le_of_ble_eq_true rfl) ft_R ft_R_ok fn_R (tl tw_544) rfl rfl rfl rfl (Nat.le_of_ble_eq_true rfl) dR_tape_49 (ws' := cR V a ((S.1.1, S.1.2.1, S.1.2.2.1, S.1.2.2.2.1, v1, v2, v3, v4), S.2.1, S.2.2.1, S.2.2.2)) rfl ?_
          refine wk_iconst X dR_tape_52 (v := (1 : Int32)) (by decide) ?_
          exact wk_iret X Z rfl dR_tape_53 (((S.1.1, S.1.2.1, S.1.2.2.1, S.1.2.2.2.1, v1, v2, v3, v4), S.2.1, S.2.2.1, S.2.2.2)) ⟨Eq.symm (congrArg p_b (congrArg Prod.fst hf)), Eq.symm (congrArg Prod.snd hf)⟩ rfl rfl
        · replace hf := p_ie h4 hf
          refine wk_iconst X dR_tape_29 (v := (0 : Int32)) (by decide) ?_
          exact wk_iret X Z rfl dR_tape_30 (S) ⟨Eq.symm (congrArg p_b (congrArg Prod.fst hf)), Eq.symm (congrArg Prod.snd hf)⟩ rfl rfl
-- R_steps: room (0, 0), Int32
def fR_steps (v0 : Int32) : Int32 :=
  if 0 ≤ v0 then (
    if (20000 : Int32) ≤ v0 then (
      (20000 : Int32)
    ) else (
      v0
    )
  ) else (
    (0 : Int32)
  )
set_option maxRecDepth 100000 in
set_option maxHeartbeats 4000000 in
theorem mR_steps {V : ee_V} (v0 : Int32) (R : Int32) (hf : fR_steps v0 = R) : wk_I (ee V) yR_steps ts_R_steps ⟨0, 0, 0, 0⟩ [.int v0] (([] : va_W)) (fun (r : Int32) (_ : Unit) => R = r) (fun _ : Unit => ([] : va_W)) := by
  refine wk_of (ee_ok V) (by decide +kernel) rfl (Nat.le_of_ble_eq_true rfl) ?_
  intro x X Z
  unfold fR_steps at hf
  refine wk_lq (lv' := [(0, .int v0)]) rfl ?_
  refine wk_iload_n X 0 dR_steps_0 rfl rfl ?_
  refine wk_if_ge X dR_steps_1 (tgt := 8) rfl (fun h1 => ?_) (fun h1 => ?_)
  · replace hf := p_it h1 hf
    refine wk_iload_n X 0 dR_steps_8 rfl rfl ?_
    refine wk_sipush X dR_steps_9 (v := (20000 : Int32)) (by decide) ?_
    refine wk_icmp_ge X dR_steps_12 (tgt := 19) rfl (fun h2 => ?_) (fun h2 => ?_)
    · replace hf := p_it h2 hf
      refine wk_sipush X dR_steps_19 (v := (20000 : Int32)) (by decide) ?_
      exact wk_iret X Z rfl dR_steps_22 () (Eq.symm hf) rfl rfl
    · replace hf := p_ie h2 hf
      refine wk_iload_n X 0 dR_steps_15 rfl rfl ?_
      refine wk_goto X dR_steps_16 (tgt := 22) rfl ?_
      exact wk_iret X Z rfl dR_steps_22 () (Eq.symm hf) rfl rfl
  · replace hf := p_ie h1 hf
    refine wk_iconst X dR_steps_4 (v := (0 : Int32)) (by decide) ?_
    refine wk_goto X dR_steps_5 (tgt := 22) rfl ?_
    exact wk_iret X Z rfl dR_steps_22 () (Eq.symm hf) rfl rfl
-- R_ruleOf: room (0, 0), Int32
def fR_ruleOf (v0 : Int32) (v1 : Int32) : Int32 :=
  (((2 : Int32) * (v0 - (1 : Int32))) + v1)
set_option maxRecDepth 100000 in
set_option maxHeartbeats 4000000 in
theorem mR_ruleOf {V : ee_V} (v0 : Int32) (v1 : Int32) (R : Int32) (hf : fR_ruleOf v0 v1 = R) : wk_I (ee V) yR_ruleOf ts_R_ruleOf ⟨0, 0, 0, 0⟩ [.int v0, .int v1] (([] : va_W)) (fun (r : Int32) (_ : Unit) => R = r) (fun _ : Unit => ([] : va_W)) := by
  refine wk_of (ee_ok V) (by decide +kernel) rfl (Nat.le_of_ble_eq_true rfl) ?_
  intro x X Z
  unfold fR_ruleOf at hf
  refine wk_lq (lv' := [(0, .int v0), (1, .int v1)]) rfl ?_
  refine wk_iconst X dR_ruleOf_0 (v := (2 : Int32)) (by decide) ?_
  refine wk_iload_n X 0 dR_ruleOf_1 rfl rfl ?_
  refine wk_iconst X dR_ruleOf_2 (v := (1 : Int32)) (by decide) ?_
  refine wk_isub X dR_ruleOf_3 ?_
  refine wk_imul X dR_ruleOf_4 ?_
  refine wk_iload_n X 1 dR_ruleOf_5 rfl rfl ?_
  refine wk_iadd X dR_ruleOf_6 ?_
  exact wk_iret X Z rfl dR_ruleOf_7 () (Eq.symm hf) rfl rfl
-- R_goesOn: room (0, 0), Option (Bool)
def fR_goesOn (S : pR) (v1 : Int32) : Option (Bool) :=
  (p_rd 16 S.1.1 v1).bind fun q1 =>
  if q1 = 0 then (
    some false
  ) else (
    (p_rd 16 S.1.2.2.2.1 v1).bind fun q4 =>
    if q4 ≤ 0 then (
      some false
    ) else (
      some true
    )
  )
set_option maxRecDepth 100000 in
set_option maxHeartbeats 4000000 in
theorem mR_goesOn {V : ee_V} (a : Nat → Nat) (S : pR) (v1 : Int32) (R : Bool) (hf : fR_goesOn S v1 = some R) : wk_I (ee V) yR_goesOn ts_R_goesOn ⟨0, 0, 0, 0⟩ [.ref (a 0), .int v1] (cR V a S) (fun (r : Int32) (_ : Unit) => p_b (R) = r) (fun _ : Unit => cR V a S) := by
  refine wk_of (ee_ok V) (by decide +kernel) rfl (Nat.le_of_ble_eq_true rfl) ?_
  intro x X Z
  unfold fR_goesOn at hf
  refine wk_lq (lv' := [(0, .ref (a 0)), (1, .int v1)]) rfl ?_
  refine wk_aload_n X 0 dR_goesOn_0 rfl rfl ?_
  refine wk_get X uw_R 0 rfl rfl 0 (Nat.le_of_ble_eq_true rfl) (tl tw_537) rfl rfl dR_goesOn_1 ?_
  refine wk_iload_n X 1 dR_goesOn_4 rfl rfl ?_
  obtain ⟨q1, h2, hf⟩ := p_ob hf
  obtain ⟨h2i, h2e⟩ := p_rd_some h2
  refine wk_zald X 1 1 rfl rfl h2i h2e dR_goesOn_5 ?_
  refine wk_if_eq X dR_goesOn_6 (tgt := 22) rfl (fun h3 => ?_) (fun h3 => ?_)
  · replace hf := p_it h3 hf
    refine wk_iconst X dR_goesOn_22 (v := (0 : Int32)) (by decide) ?_
    have hf := Option.some.inj hf
    exact wk_iret X Z rfl dR_goesOn_23 () (Eq.symm (congrArg p_b hf)) rfl rfl
  · replace hf := p_ie h3 hf
    refine wk_aload_n X 0 dR_goesOn_9 rfl rfl ?_
    refine wk_get X uw_R 0 rfl rfl 3 (Nat.le_of_ble_eq_true rfl) (tl tw_540) rfl rfl dR_goesOn_10 ?_
    refine wk_iload_n X 1 dR_goesOn_13 rfl rfl ?_
    obtain ⟨q4, h5, hf⟩ := p_ob hf
    obtain ⟨h5i, h5e⟩ := p_rd_some h5
    refine wk_iald X 4 0 rfl rfl h5i h5e dR_goesOn_14 ?_
    refine wk_if_le X dR_goesOn_15 (tgt := 22) rfl (fun h6 => ?_) (fun h6 => ?_)
    · replace hf := p_it h6 hf
      refine wk_iconst X dR_goesOn_22 (v := (0 : Int32)) (by decide) ?_
      have hf := Option.some.inj hf
      exact wk_iret X Z rfl dR_goesOn_23 () (Eq.symm (congrArg p_b hf)) rfl rfl
    · replace hf := p_ie h6 hf
      refine wk_iconst X dR_goesOn_18 (v := (1 : Int32)) (by decide) ?_
      refine wk_goto X dR_goesOn_19 (tgt := 23) rfl ?_
      have hf := Option.some.inj hf
      exact wk_iret X Z rfl dR_goesOn_23 () (Eq.symm (congrArg p_b hf)) rfl rfl

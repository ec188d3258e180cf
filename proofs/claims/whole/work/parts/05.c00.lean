-- M_isState: room (0, 0), Bool
def fM_isState (v0 : Int32) : Bool :=
  if v0 < (1 : Int32) then (
    false
  ) else (
    if (8 : Int32) < v0 then (
      false
    ) else (
      true
    )
  )
set_option maxRecDepth 100000 in
set_option maxHeartbeats 4000000 in
theorem mM_isState {V : ee_V} (v0 : Int32) (R : Bool) (hf : fM_isState v0 = R) : wk_I (ee V) yM_isState ts_M_isState ⟨0, 0, 0, 0⟩ [.int v0] (([] : va_W)) (fun (r : Int32) (_ : Unit) => p_b (R) = r) (fun _ : Unit => ([] : va_W)) := by
  refine wk_of (ee_ok V) (by decide +kernel) rfl (Nat.le_of_ble_eq_true rfl) ?_
  intro x X Z
  unfold fM_isState at hf
  refine wk_lq (lv' := [(0, .int v0)]) rfl ?_
  refine wk_iload_n X 0 dM_isState_0 rfl rfl ?_
  refine wk_iconst X dM_isState_1 (v := (1 : Int32)) (by decide) ?_
  refine wk_icmp_lt X dM_isState_2 (tgt := 15) rfl (fun h1 => ?_) (fun h1 => ?_)
  · replace hf := p_it h1 hf
    refine wk_iconst X dM_isState_15 (v := (0 : Int32)) (by decide) ?_
    exact wk_iret X Z rfl dM_isState_16 () (Eq.symm (congrArg p_b hf)) rfl rfl
  · replace hf := p_ie h1 hf
    refine wk_iload_n X 0 dM_isState_5 rfl rfl ?_
    refine wk_bipush X dM_isState_6 (v := (8 : Int32)) (by decide) ?_
    refine wk_icmp_gt X dM_isState_8 (tgt := 15) rfl (fun h2 => ?_) (fun h2 => ?_)
    · replace hf := p_it h2 hf
      refine wk_iconst X dM_isState_15 (v := (0 : Int32)) (by decide) ?_
      exact wk_iret X Z rfl dM_isState_16 () (Eq.symm (congrArg p_b hf)) rfl rfl
    · replace hf := p_ie h2 hf
      refine wk_iconst X dM_isState_11 (v := (1 : Int32)) (by decide) ?_
      refine wk_goto X dM_isState_12 (tgt := 16) rfl ?_
      exact wk_iret X Z rfl dM_isState_16 () (Eq.symm (congrArg p_b hf)) rfl rfl
-- M_isBit: room (0, 0), Bool
def fM_isBit (v0 : Int32) : Bool :=
  if v0 = 0 then (
    true
  ) else (
    if v0 = (1 : Int32) then (
      true
    ) else (
      false
    )
  )
set_option maxRecDepth 100000 in
set_option maxHeartbeats 4000000 in
theorem mM_isBit {V : ee_V} (v0 : Int32) (R : Bool) (hf : fM_isBit v0 = R) : wk_I (ee V) yM_isBit ts_M_isBit ⟨0, 0, 0, 0⟩ [.int v0] (([] : va_W)) (fun (r : Int32) (_ : Unit) => p_b (R) = r) (fun _ : Unit => ([] : va_W)) := by
  refine wk_of (ee_ok V) (by decide +kernel) rfl (Nat.le_of_ble_eq_true rfl) ?_
  intro x X Z
  unfold fM_isBit at hf
  refine wk_lq (lv' := [(0, .int v0)]) rfl ?_
  refine wk_iload_n X 0 dM_isBit_0 rfl rfl ?_
  refine wk_if_eq X dM_isBit_1 (tgt := 9) rfl (fun h1 => ?_) (fun h1 => ?_)
  · replace hf := p_it h1 hf
    refine wk_iconst X dM_isBit_9 (v := (1 : Int32)) (by decide) ?_
    refine wk_goto X dM_isBit_10 (tgt := 14) rfl ?_
    exact wk_iret X Z rfl dM_isBit_14 () (Eq.symm (congrArg p_b hf)) rfl rfl
  · replace hf := p_ie h1 hf
    refine wk_iload_n X 0 dM_isBit_4 rfl rfl ?_
    refine wk_iconst X dM_isBit_5 (v := (1 : Int32)) (by decide) ?_
    refine wk_icmp_ne X dM_isBit_6 (tgt := 13) rfl (fun h2 => ?_) (fun h2 => ?_)
    · replace hf := p_ie h2 hf
      refine wk_iconst X dM_isBit_13 (v := (0 : Int32)) (by decide) ?_
      exact wk_iret X Z rfl dM_isBit_14 () (Eq.symm (congrArg p_b hf)) rfl rfl
    · replace hf := p_it h2 hf
      refine wk_iconst X dM_isBit_9 (v := (1 : Int32)) (by decide) ?_
      refine wk_goto X dM_isBit_10 (tgt := 14) rfl ?_
      exact wk_iret X Z rfl dM_isBit_14 () (Eq.symm (congrArg p_b hf)) rfl rfl
-- M_place: room (0, 0), Int32
def fM_place (v0 : Int32) (v1 : Int32) : Int32 :=
  (((2 : Int32) * (v0 - (1 : Int32))) + v1)
set_option maxRecDepth 100000 in
set_option maxHeartbeats 4000000 in
theorem mM_place {V : ee_V} (v0 : Int32) (v1 : Int32) (R : Int32) (hf : fM_place v0 v1 = R) : wk_I (ee V) yM_place ts_M_place ⟨0, 0, 0, 0⟩ [.int v0, .int v1] (([] : va_W)) (fun (r : Int32) (_ : Unit) => R = r) (fun _ : Unit => ([] : va_W)) := by
  refine wk_of (ee_ok V) (by decide +kernel) rfl (Nat.le_of_ble_eq_true rfl) ?_
  intro x X Z
  unfold fM_place at hf
  refine wk_lq (lv' := [(0, .int v0), (1, .int v1)]) rfl ?_
  refine wk_iconst X dM_place_0 (v := (2 : Int32)) (by decide) ?_
  refine wk_iload_n X 0 dM_place_1 rfl rfl ?_
  refine wk_iconst X dM_place_2 (v := (1 : Int32)) (by decide) ?_
  refine wk_isub X dM_place_3 ?_
  refine wk_imul X dM_place_4 ?_
  refine wk_iload_n X 1 dM_place_5 rfl rfl ?_
  refine wk_iadd X dM_place_6 ?_
  exact wk_iret X Z rfl dM_place_7 () (Eq.symm hf) rfl rfl
-- M_setRule: room (1, 21), Option (Bool × pM)
def fM_setRule (S : pM) (v1 : Int32) (v2 : Int32) (v3 : Int32) (v4 : Int32) (v5 : Int32) : Option (Bool × pM) :=
  if (fM_isState v1) = true then (
    if (fM_isBit v2) = true then (
      if (fM_isBit v3) = true then (
        if (fM_isBit v4) = true then (
          if v5 = 0 then (
            (p_wr 16 S.1 (fM_place v1 v2) v3).bind fun q6 =>
            (p_wr 16 S.2.1 (fM_place v1 v2) v4).bind fun q8 =>
            (p_wr 16 S.2.2.1 (fM_place v1 v2) v5).bind fun q10 =>
            some (true, (q6, q8, q10, S.2.2.2.1, S.2.2.2.2.1, S.2.2.2.2.2.1, S.2.2.2.2.2.2))
          ) else (
            if (fM_isState v5) = true then (
              (p_wr 16 S.1 (fM_place v1 v2) v3).bind fun q13 =>
              (p_wr 16 S.2.1 (fM_place v1 v2) v4).bind fun q15 =>
              (p_wr 16 S.2.2.1 (fM_place v1 v2) v5).bind fun q17 =>
              some (true, (q13, q15, q17, S.2.2.2.1, S.2.2.2.2.1, S.2.2.2.2.2.1, S.2.2.2.2.2.2))
            ) else (
              some (false, S)
            )
          )
        ) else (
          some (false, S)
        )
      ) else (
        some (false, S)
      )
    ) else (
      some (false, S)
    )
  ) else (
    some (false, S)
  )
set_option maxRecDepth 100000 in
set_option maxHeartbeats 4000000 in
theorem mM_setRule {V : ee_V} (a : Nat → Nat) (S : pM) (v1 : Int32) (v2 : Int32) (v3 : Int32) (v4 : Int32) (v5 : Int32) (R : Bool × pM) (hf : fM_setRule S v1 v2 v3 v4 v5 = some R) : wk_I (ee V) yM_setRule ts_M_setRule ⟨1, 0, 0, 21⟩ [.ref (a 0), .int v1, .int v2, .int v3, .int v4, .int v5] (cM V a S) (fun (r : Int32) (u : pM) => p_b (R.1) = r ∧ R.2 = u) (fun u : pM => cM V a u) := by
  refine wk_of (ee_ok V) (by decide +kernel) rfl (Nat.le_of_ble_eq_true rfl) ?_
  intro x X Z
  unfold fM_setRule at hf
  refine wk_lq (lv' := [(0, .ref (a 0)), (1, .int v1), (2, .int v2), (3, .int v3), (4, .int v4), (5, .int v5)]) rfl ?_
  refine wk_iload_n X 1 dM_setRule_0 rfl rfl ?_
  refine wk_goI [] (wk_rS X (mM_isState (V := V) v1 (fM_isState v1) rfl) rfl (gd (tw_161)) [] rfl rfl (tl tw_159) (tl tw_160) (tl tw_3) 1 pd_M_isState rfl ⟨rfl, rfl⟩ ⟨Nat.le_of_ble_eq_true rfl, Nat.le_of_ble_eq_true rfl⟩ rfl (Nat.le_of_ble_eq_true rfl) dM_setRule_1) rfl ?_
  rintro r ⟨⟩ rfl
  refine wk_ws (ws' := cM V a S) rfl ?_
  refine wk_bz_eq X dM_setRule_4 (tgt := 29) rfl (fun h1 => ?_) (fun h1 => ?_)
  · replace hf := p_ie h1 hf
    refine wk_iconst X dM_setRule_29 (v := (0 : Int32)) (by decide) ?_
    have hf := Option.some.inj hf
    exact wk_iret X Z rfl dM_setRule_30 (S) ⟨Eq.symm (congrArg p_b (congrArg Prod.fst hf)), Eq.symm (congrArg Prod.snd hf)⟩ rfl rfl
  · replace hf := p_it h1 hf
    refine wk_iload_n X 2 dM_setRule_7 rfl rfl ?_
    refine wk_goI [] (wk_rS X (mM_isBit (V := V) v2 (fM_isBit v2) rfl) rfl (gd (tw_164)) [] rfl rfl (tl tw_162) (tl tw_163) (tl tw_3) 1 pd_M_isBit rfl ⟨rfl, rfl⟩ ⟨Nat.le_of_ble_eq_true rfl, Nat.le_of_ble_eq_true rfl⟩ rfl (Nat.le_of_ble_eq_true rfl) dM_setRule_8) rfl ?_
    rintro r ⟨⟩ rfl
    refine wk_ws (ws' := cM V a S) rfl ?_
    refine wk_bz_eq X dM_setRule_11 (tgt := 29) rfl (fun h2 => ?_) (fun h2 => ?_)
    · replace hf := p_ie h2 hf
      refine wk_iconst X dM_setRule_29 (v := (0 : Int32)) (by decide) ?_
      have hf := Option.some.inj hf
      exact wk_iret X Z rfl dM_setRule_30 (S) ⟨Eq.symm (congrArg p_b (congrArg Prod.fst hf)), Eq.symm (congrArg Prod.snd hf)⟩ rfl rfl
    · replace hf := p_it h2 hf
      refine wk_iload_n X 3 dM_setRule_14 rfl rfl ?_
      refine wk_goI [] (wk_rS X (mM_isBit (V := V) v3 (fM_isBit v3) rfl) rfl (gd (tw_164)) [] rfl rfl (tl tw_162) (tl tw_163) (tl tw_3) 1 pd_M_isBit rfl ⟨rfl, rfl⟩ ⟨Nat.le_of_ble_eq_true rfl, Nat.le_of_ble_eq_true rfl⟩ rfl (Nat.le_of_ble_eq_true rfl) dM_setRule_15) rfl ?_
      rintro r ⟨⟩ rfl
      refine wk_ws (ws' := cM V a S) rfl ?_
      refine wk_bz_eq X dM_setRule_18 (tgt := 29) rfl (fun h3 => ?_) (fun h3 => ?_)
      · replace hf := p_ie h3 hf
        refine wk_iconst X dM_setRule_29 (v := (0 : Int32)) (by decide) ?_
        have hf := Option.some.inj hf
        exact wk_iret X Z rfl dM_setRule_30 (S) ⟨Eq.symm (congrArg p_b (congrArg Prod.fst hf)), Eq.symm (congrArg Prod.snd hf)⟩ rfl rfl
      · replace hf := p_it h3 hf
        refine wk_iload X 4 dM_setRule_21 rfl ?_
        refine wk_goI [] (wk_rS X (mM_isBit (V := V) v4 (fM_isBit v4) rfl) rfl (gd (tw_164)) [] rfl rfl (tl tw_162) (tl tw_163) (tl tw_3) 1 pd_M_isBit rfl ⟨rfl, rfl⟩ ⟨Nat.le_of_ble_eq_true rfl, Nat.le_of_ble_eq_true rfl⟩ rfl (Nat.le_of_ble_eq_true rfl) dM_setRule_23) rfl ?_
        rintro r ⟨⟩ rfl
        refine wk_ws (ws' := cM V a S) rfl ?_
        refine wk_bz_ne X dM_setRule_26 (tgt := 31) rfl (fun h4 => ?_) (fun h4 => ?_)
        · replace hf := p_it h4 hf
          refine wk_iload X 5 dM_setRule_31 rfl ?_
          refine wk_if_eq X dM_setRule_33 (tgt := 46) rfl (fun h5 => ?_) (fun h5 => ?_)
          · replace hf := p_it h5 hf
            refine wk_iload_n X 1 dM_setRule_46 rfl rfl ?_
            refine wk_iload_n X 2 dM_setRule_47 rfl rfl ?_
            refine wk_goI [] (wk_rS X (mM_place (V := V) v1 v2 (fM_place v1 v2) rfl) rfl (gd (tw_167)) [] rfl rfl (tl tw_165) (tl tw_166) (tl tw_3) 2 pd_M_place rfl ⟨rfl, rfl⟩ ⟨Nat.le_of_ble_eq_true rfl, Nat.le_of_ble_eq_true rfl⟩ rfl (Nat.le_of_ble_eq_true rfl) dM_setRule_48) rfl ?_
            rintro r ⟨⟩ rfl
            refine wk_ws (ws' := cM V a S) rfl ?_
            refine wk_istore X dM_setRule_51 (Nat.le_of_ble_eq_true rfl) (lv' := [(6, .int (fM_place v1 v2)), (0, .ref (a 0)), (1, .int v1), (2, .int v2), (3, .int v3), (4, .int v4), (5, .int v5)]) rfl ?_
            refine wk_aload_n X 1 dM_setRule_53 rfl rfl ?_
            refine wk_get X uw_M 0 rfl rfl 0 (Nat.le_of_ble_eq_true rfl) (tl tw_28) rfl rfl dM_setRule_54 ?_
            refine wk_iload X 0 dM_setRule_57 rfl ?_
            refine wk_iload_n X 4 dM_setRule_59 rfl rfl ?_
            obtain ⟨q6, h7, hf⟩ := p_ob hf
            obtain ⟨h7i, h7e⟩ := p_wr_some h7
            refine wk_iast X 1 0 rfl rfl h7i h7e dM_setRule_60 (ws' := cM V a (q6, S.2.1, S.2.2.1, S.2.2.2.1, S.2.2.2.2.1, S.2.2.2.2.2.1, S.2.2.2.2.2.2)) rfl ?_
            refine wk_aload_n X 1 dM_setRule_61 rfl rfl ?_
            refine wk_get X uw_M 0 rfl rfl 1 (Nat.le_of_ble_eq_true rfl) (tl tw_29) rfl rfl dM_setRule_62 ?_
            refine wk_iload X 0 dM_setRule_65 rfl ?_
            refine wk_iload X 5 dM_setRule_67 rfl ?_
            obtain ⟨q8, h9, hf⟩ := p_ob hf
            obtain ⟨h9i, h9e⟩ := p_wr_some h9
            refine wk_iast X 2 0 rfl rfl h9i h9e dM_setRule_69 (ws' := cM V a (q6, q8, S.2.2.1, S.2.2.2.1, S.2.2.2.2.1, S.2.2.2.2.2.1, S.2.2.2.2.2.2)) rfl ?_
            refine wk_aload_n X 1 dM_setRule_70 rfl rfl ?_
            refine wk_get X uw_M 0 rfl rfl 2 (Nat.le_of_ble_eq_true rfl) (tl tw_30) rfl rfl dM_setRule_71 ?_
            refine wk_iload X 0 dM_setRule_74 rfl ?_
            refine wk_iload X 6 dM_setRule_76 rfl ?_
            obtain ⟨q10, h11, hf⟩ := p_ob hf
            obtain ⟨h11i, h11e⟩ := p_wr_some h11
            refine wk_iast X 3 0 rfl rfl h11i h11e dM_setRule_78 (ws' := cM V a (q6, q8, q10, S.2.2.2.1, S.2.2.2.2.1, S.2.2.2.2.2.1, S.2.2.2.2.2.2)) rfl ?_
            refine wk_iconst X dM_setRule_79 (v := (1 : Int32)) (by decide) ?_
            have hf := Option.some.inj hf
            exact wk_iret X Z rfl dM_setRule_80 ((q6, q8, q10, S.2.2.2.1, S.2.2.2.2.1, S.2.2.2.2.2.1, S.2.2.2.2.2.2)) ⟨Eq.symm (congrArg p_b (congrArg Prod.fst hf)), Eq.symm (congrArg Prod.snd hf)⟩ rfl rfl
          · replace hf := p_ie h5 hf
            refine wk_iload X 5 dM_setRule_36 rfl ?_
            refine wk_goI [] (wk_rS X (mM_isState (V := V) v5 (fM_isState v5) rfl) rfl (gd (tw_161)) [] rfl rfl (tl tw_159) (tl tw_160) (tl tw_3) 1 pd_M_isState rfl ⟨rfl, rfl⟩ ⟨Nat.le_of_ble_eq_true rfl, Nat.le_of_ble_eq_true rfl⟩ rfl (Nat.le_of_ble_eq_true rfl) dM_setRule_38) rfl ?_
            rintro r ⟨⟩ rfl
            refine wk_ws (ws' := cM V a S) rfl ?_
            refine wk_bz_ne X dM_setRule_41 (tgt := 46) rfl (fun h12 => ?_) (fun h12 => ?_)
            · replace hf := p_it h12 hf
              refine wk_iload_n X 1 dM_setRule_46 rfl rfl ?_
              refine wk_iload_n X 2 dM_setRule_47 rfl rfl ?_
              refine wk_goI [] (wk_rS X (mM_place (V := V) v1 v2 (fM_place v1 v2) rfl) rfl (gd (tw_167)) [] rfl rfl (tl tw_165) (tl tw_166) (tl tw_3) 2 pd_M_place rfl ⟨rfl, rfl⟩ ⟨Nat.le_of_ble_eq_true rfl, Nat.le_of_ble_eq_true rfl⟩ rfl (Nat.le_of_ble_eq_true rfl) dM_setRule_48) rfl ?_
              rintro r ⟨⟩ rfl
              refine wk_ws (ws' := cM V a S) rfl ?_
              refine wk_istore X dM_setRule_51 (Nat.le_of_ble_eq_true rfl) (lv' := [(6, .int (fM_place v1 v2)), (0, .ref (a 0)), (1, .int v1), (2, .int v2), (3, .int v3), (4, .int v4), (5, .int v5)]) rfl ?_
              refine wk_aload_n X 1 dM_setRule_53 rfl rfl ?_
              refine wk_get X uw_M 0 rfl rfl 0 (Nat.le_of_ble_eq_true rfl) (tl tw_28) rfl rfl dM_setRule_54 ?_
              refine wk_iload X 0 dM_setRule_57 rfl ?_
              refine wk_iload_n X 4 dM_setRule_59 rfl rfl ?_
              obtain ⟨q13, h14, hf⟩ := p_ob hf
              obtain ⟨h14i, h14e⟩ := p_wr_some h14
              refine wk_iast X 1 0 rfl rfl h14i h14e dM_setRule_60 (ws' := cM V a (q13, S.2.1, S.2.2.1, S.2.2.2.1, S.2.2.2.2.1, S.2.2.2.2.2.1, S.2.2.2.2.2.2)) rfl ?_
              refine wk_aload_n X 1 dM_setRule_61 rfl rfl ?_
              refine wk_get X uw_M 0 rfl rfl 1 (Nat.le_of_ble_eq_true rfl) (tl tw_29) rfl rfl dM_setRule_62 ?_
              refine wk_iload X 0 dM_setRule_65 rfl ?_
              refine wk_iload X 5 dM_setRule_67 rfl ?_
              obtain ⟨q15, h16, hf⟩ := p_ob hf
              obtain ⟨h16i, h16e⟩ := p_wr_some h16
              refine wk_iast X 2 0 rfl rfl h16i h16e dM_setRule_69 (ws' := cM V a (q13, q15, S.2.2.1, S.2.2.2.1, S.2.2.2.2.1, S.2.2.2.2.2.1, S.2.2.2.2.2.2)) rfl ?_
              refine wk_aload_n X 1 dM_setRule_70 rfl rfl ?_
              refine wk_get X uw_M 0 rfl rfl 2 (Nat.le_of_ble_eq_true rfl) (tl tw_30) rfl rfl dM_setRule_71 ?_
              refine wk_iload X 0 dM_setRule_74 rfl ?_
              refine wk_iload X 6 dM_setRule_76 rfl ?_
              obtain ⟨q17, h18, hf⟩ := p_ob hf
              obtain ⟨h18i, h18e⟩ := p_wr_some h18
              refine wk_iast X 3 0 rfl rfl h18i h18e dM_setRule_78 (ws' := cM V a (q13, q15, q17, S.2.2.2.1, S.2.2.2.2.1, S.2.2.2.2.2.1, S.2.2.2.2.2.2)) rfl ?_
              refine wk_iconst X dM_setRule_79 (v := (1 : Int32)) (by decide) ?_
              have hf := Option.some.inj hf
              exact wk_iret X Z rfl dM_setRule_80 ((q13, q15, q17, S.2.2.2.1, S.2.2.2.2.1, S.2.2.2.2.2.1, S.2.2.2.2.2.2)) ⟨Eq.symm (congrArg p_b (congrArg Prod.fst hf)), Eq.symm (congrArg Prod.snd hf)⟩ rfl rfl
            · replace hf := p_ie h12 hf
              refine wk_iconst X dM_setRule_44 (v := (0 : Int32)) (by decide) ?_
              have hf := Option.some.inj hf
              exact wk_iret X Z rfl dM_setRule_45 (S) ⟨Eq.symm (congrArg p_b (congrArg Prod.fst hf)), Eq.symm (congrArg Prod.snd hf)⟩ rfl rfl
        · replace hf := p_ie h4 hf
          refine wk_iconst X dM_setRule_29 (v := (0 : Int32)) (by decide) ?_
          have hf := Option.some.inj hf
          exact wk_iret X Z rfl dM_setRule_30 (S) ⟨Eq.symm (congrArg p_b (congrArg Prod.fst hf)), Eq.symm (congrArg Prod.snd hf)⟩ rfl rfl
-- X_rule: room (2, 47), Option (Bool × pX)
def fX_rule (S : pX) (v1 : Int32) (v2 : Int32) (v3 : Int32) (v4 : Int32) (v5 : Int32) : Option (Bool × pX) :=
  (fM_setRule S.1 v1 v2 v3 v4 v5).bind fun q1 =>
  some (q1.1, (q1.2, S.2.1, S.2.2.1, S.2.2.2))
set_option maxRecDepth 100000 in
set_option maxHeartbeats 4000000 in
theorem mX_rule {V : ee_V} (a : Nat → Nat) (S : pX) (v1 : Int32) (v2 : Int32) (v3 : Int32) (v4 : Int32) (v5 : Int32) (R : Bool × pX) (hf : fX_rule S v1 v2 v3 v4 v5 = some R) : wk_I (ee V) yX_rule ts_X_rule ⟨2, 0, 0, 47⟩ [.ref (a 0), .int v1, .int v2, .int v3, .int v4, .int v5] (cX V a S) (fun (r : Int32) (u : pX) => p_b (R.1) = r ∧ R.2 = u) (fun u : pX => cX V a u) := by
  refine wk_of (ee_ok V) (by decide +kernel) rfl (Nat.le_of_ble_eq_true rfl) ?_
  intro x X Z
  unfold fX_rule at hf
  refine wk_lq (lv' := [(0, .ref (a 0)), (1, .int v1), (2, .int v2), (3, .int v3), (4, .int v4), (5, .int v5)]) rfl ?_
  refine wk_aload_n X 0 dX_rule_0 rfl rfl ?_
  refine wk_get X uw_X 0 rfl rfl 0 (Nat.le_of_ble_eq_true rfl) (tl tw_138) rfl rfl dX_rule_1 ?_
  refine wk_iload_n X 1 dX_rule_4 rfl rfl ?_
  refine wk_iload_n X 2 dX_rule_5 rfl rfl ?_
  refine wk_iload_n X 3 dX_rule_6 rfl rfl ?_
  refine wk_iload X 4 dX_rule_7 rfl ?_
  refine wk_iload X 5 dX_rule_9 rfl ?_
  obtain ⟨q1, h2, hf⟩ := p_ob hf
  refine wk_goI [1, 2, 3, 4] (wk_rV X (mM_setRule (V := V) (fun i => a (i + 1)) S.1 v1 v2 v3 v4 v5 q1 h2) rfl (gd (tw_158)) [1, 2, 3, 4] rfl rfl 1 rfl rfl (tl tw_155) (tl tw_156) (tl tw_157) (tl tw_3) 5 pd_M_setRule rfl ⟨rfl, rfl⟩ ⟨Nat.le_of_ble_eq_true rfl, Nat.le_of_ble_eq_true rfl⟩ rfl (Nat.le_of_ble_eq_true rfl) dX_rule_11) rfl ?_
  rintro r u ⟨rfl, rfl⟩
  refine wk_ws (ws' := cX V a (q1.2, S.2.1, S.2.2.1, S.2.2.2)) rfl ?_
  have hf := Option.some.inj hf
  exact wk_iret X Z (p_nar _) dX_rule_14 ((q1.2, S.2.1, S.2.2.1, S.2.2.2)) ⟨Eq.symm (congrArg p_b (congrArg Prod.fst hf)), Eq.symm (congrArg Prod.snd hf)⟩ rfl rfl
-- M_isCells: room (0, 0), Bool
def fM_isCells (v0 : Int32) : Bool :=
  if v0 < 0 then (
    false
  ) else (
    if (255 : Int32) < v0 then (
      false
    ) else (
      true
    )
  )
set_option maxRecDepth 100000 in
set_option maxHeartbeats 4000000 in
theorem mM_isCells {V : ee_V} (v0 : Int32) (R : Bool) (hf : fM_isCells v0 = R) : wk_I (ee V) yM_isCells ts_M_isCells ⟨0, 0, 0, 0⟩ [.int v0] (([] : va_W)) (fun (r : Int32) (_ : Unit) => p_b (R) = r) (fun _ : Unit => ([] : va_W)) := by
  refine wk_of (ee_ok V) (by decide +kernel) rfl (Nat.le_of_ble_eq_true rfl) ?_
  intro x X Z
  unfold fM_isCells at hf
  refine wk_lq (lv' := [(0, .int v0)]) rfl ?_
  refine wk_iload_n X 0 dM_isCells_0 rfl rfl ?_
  refine wk_if_lt X dM_isCells_1 (tgt := 15) rfl (fun h1 => ?_) (fun h1 => ?_)
  · replace hf := p_it h1 hf
    refine wk_iconst X dM_isCells_15 (v := (0 : Int32)) (by decide) ?_
    exact wk_iret X Z rfl dM_isCells_16 () (Eq.symm (congrArg p_b hf)) rfl rfl
  · replace hf := p_ie h1 hf
    refine wk_iload_n X 0 dM_isCells_4 rfl rfl ?_
    refine wk_sipush X dM_isCells_5 (v := (255 : Int32)) (by decide) ?_
    refine wk_icmp_gt X dM_isCells_8 (tgt := 15) rfl (fun h2 => ?_) (fun h2 => ?_)
    · replace hf := p_it h2 hf
      refine wk_iconst X dM_isCells_15 (v := (0 : Int32)) (by decide) ?_
      exact wk_iret X Z rfl dM_isCells_16 () (Eq.symm (congrArg p_b hf)) rfl rfl
    · replace hf := p_ie h2 hf
      refine wk_iconst X dM_isCells_11 (v := (1 : Int32)) (by decide) ?_
      refine wk_goto X dM_isCells_12 (tgt := 16) rfl ?_
      exact wk_iret X Z rfl dM_isCells_16 () (Eq.symm (congrArg p_b hf)) rfl rfl
-- M_isConfiguration: room (1, 20), Bool
def fM_isConfiguration (v0 : Int32) (v1 : Int32) (v2 : Int32) (v3 : Int32) : Bool :=
  if (fM_isState v0) = true then (
    if (fM_isBit v1) = true then (
      if (fM_isCells v2) = true then (
        if (fM_isCells v3) = true then (
          true
        ) else (
          false
        )
      ) else (
        false
      )
    ) else (
      false
    )
  ) else (
    false
  )
set_option maxRecDepth 100000 in
set_option maxHeartbeats 4000000 in
theorem mM_isConfiguration {V : ee_V} (v0 : Int32) (v1 : Int32) (v2 : Int32) (v3 : Int32) (R : Bool) (hf : fM_isConfiguration v0 v1 v2 v3 = R) : wk_I (ee V) yM_isConfiguration ts_M_isConfiguration ⟨1, 0, 0, 20⟩ [.int v0, .int v1, .int v2, .int v3] (([] : va_W)) (fun (r : Int32) (_ : Unit) => p_b (R) = r) (fun _ : Unit => ([] : va_W)) := by
  refine wk_of (ee_ok V) (by decide +kernel) rfl (Nat.le_of_ble_eq_true rfl) ?_
  intro x X Z
  unfold fM_isConfiguration at hf
  refine wk_lq (lv' := [(0, .int v0), (1, .int v1), (2, .int v2), (3, .int v3)]) rfl ?_
  refine wk_iload_n X 0 dM_isConfiguration_0 rfl rfl ?_
  refine wk_goI [] (wk_rS X (mM_isState (V := V) v0 (fM_isState v0) rfl) rfl (gd (tw_161)) [] rfl rfl (tl tw_159) (tl tw_160) (tl tw_3) 1 pd_M_isState rfl ⟨rfl, rfl⟩ ⟨Nat.le_of_ble_eq_true rfl, Nat.le_of_ble_eq_true rfl⟩ rfl (Nat.le_of_ble_eq_true rfl) dM_isConfiguration_1) rfl ?_
  rintro r ⟨⟩ rfl
  refine wk_ws (ws' := ([] : va_W)) rfl ?_
  refine wk_bz_eq X dM_isConfiguration_4 (tgt := 32) rfl (fun h1 => ?_) (fun h1 => ?_)
  · replace hf := p_ie h1 hf
    refine wk_iconst X dM_isConfiguration_32 (v := (0 : Int32)) (by decide) ?_
    exact wk_iret X Z rfl dM_isConfiguration_33 () (Eq.symm (congrArg p_b hf)) rfl rfl
  · replace hf := p_it h1 hf
    refine wk_iload_n X 1 dM_isConfiguration_7 rfl rfl ?_
    refine wk_goI [] (wk_rS X (mM_isBit (V := V) v1 (fM_isBit v1) rfl) rfl (gd (tw_164)) [] rfl rfl (tl tw_162) (tl tw_163) (tl tw_3) 1 pd_M_isBit rfl ⟨rfl, rfl⟩ ⟨Nat.le_of_ble_eq_true rfl, Nat.le_of_ble_eq_true rfl⟩ rfl (Nat.le_of_ble_eq_true rfl) dM_isConfiguration_8) rfl ?_
    rintro r ⟨⟩ rfl
    refine wk_ws (ws' := ([] : va_W)) rfl ?_
    refine wk_bz_eq X dM_isConfiguration_11 (tgt := 32) rfl (fun h2 => ?_) (fun h2 => ?_)
    · replace hf := p_ie h2 hf
      refine wk_iconst X dM_isConfiguration_32 (v := (0 : Int32)) (by decide) ?_
      exact wk_iret X Z rfl dM_isConfiguration_33 () (Eq.symm (congrArg p_b hf)) rfl rfl
    · replace hf := p_it h2 hf
      refine wk_iload_n X 2 dM_isConfiguration_14 rfl rfl ?_
      refine wk_goI [] (wk_rS X (mM_isCells (V := V) v2 (fM_isCells v2) rfl) rfl (gd (tw_181)) [] rfl rfl (tl tw_179) (tl tw_180) (tl tw_3) 1 pd_M_isCells rfl ⟨rfl, rfl⟩ ⟨Nat.le_of_ble_eq_true rfl, Nat.le_of_ble_eq_true rfl⟩ rfl (Nat.le_of_ble_eq_true rfl) dM_isConfiguration_15) rfl ?_
      rintro r ⟨⟩ rfl
      refine wk_ws (ws' := ([] : va_W)) rfl ?_
      refine wk_bz_eq X dM_isConfiguration_18 (tgt := 32) rfl (fun h3 => ?_) (fun h3 => ?_)
      · replace hf := p_ie h3 hf
        refine wk_iconst X dM_isConfiguration_32 (v := (0 : Int32)) (by decide) ?_
        exact wk_iret X Z rfl dM_isConfiguration_33 () (Eq.symm (congrArg p_b hf)) rfl rfl
      · replace hf := p_it h3 hf
        refine wk_iload_n X 3 dM_isConfiguration_21 rfl rfl ?_
        refine wk_goI [] (wk_rS X (mM_isCells (V := V) v3 (fM_isCells v3) rfl) rfl (gd (tw_181)) [] rfl rfl (tl tw_179) (tl tw_180) (tl tw_3) 1 pd_M_isCells rfl ⟨rfl, rfl⟩ ⟨Nat.le_of_ble_eq_true rfl, Nat.le_of_ble_eq_true rfl⟩ rfl (Nat.le_of_ble_eq_true rfl) dM_isConfiguration_22) rfl ?_
        rintro r ⟨⟩ rfl
        refine wk_ws (ws' := ([] : va_W)) rfl ?_
        refine wk_bz_eq X dM_isConfiguration_25 (tgt := 32) rfl (fun h4 => ?_) (fun h4 => ?_)
        · replace hf := p_ie h4 hf
          refine wk_iconst X dM_isConfiguration_32 (v := (0 : Int32)) (by decide) ?_
          exact wk_iret X Z rfl dM_isConfiguration_33 () (Eq.symm (congrArg p_b hf)) rfl rfl
        · replace hf := p_it h4 hf
          refine wk_iconst X dM_isConfiguration_28 (v := (1 : Int32)) (by decide) ?_
          refine wk_goto X dM_isConfiguration_29 (tgt := 33) rfl ?_
          exact wk_iret X Z rfl dM_isConfiguration_33 () (Eq.symm (congrArg p_b hf)) rfl rfl
-- M_setConfiguration: room (2, 43), Bool × pM
def fM_setConfiguration (S : pM) (v1 : Int32) (v2 : Int32) (v3 : Int32) (v4 : Int32) : Bool × pM :=
  if (fM_isConfiguration v1 v2 v3 v4) = true then (
    (true, (S.1, S.2.1, S.2.2.1, v1, v2, v3, v4))
  ) else (
    (false, S)
  )
set_option maxRecDepth 100000 in
set_option maxHeartbeats 4000000 in
theorem mM_setConfiguration {V : ee_V} (a : Nat → Nat) (S : pM) (v1 : Int32) (v2 : Int32) (v3 : Int32) (v4 : Int32) (R : Bool × pM) (hf : fM_setConfiguration S v1 v2 v3 v4 = R) : wk_I (ee V) yM_setConfiguration ts_M_setConfiguration ⟨2, 0, 0, 43⟩ [.ref (a 0), .int v1, .int v2, .int v3, .int v4] (cM V a S) (fun (r : Int32) (u : pM) => p_b (R.1) = r ∧ R.2 = u) (fun u : pM => cM V a u) := by
  refine wk_of (ee_ok V) (by decide +kernel) rfl (Nat.le_of_ble_eq_true rfl) ?_
  intro x X Z
  unfold fM_setConfiguration at hf
  refine wk_lq (lv' := [(0, .ref (a 0)), (1, .int v1), (2, .int v2), (3, .int v3), (4, .int v4)]) rfl ?_
  refine wk_iload_n X 1 dM_setConfiguration_0 rfl rfl ?_
  refine wk_iload_n X 2 dM_setConfiguration_1 rfl rfl ?_
  refine wk_iload_n X 3 dM_setConfiguration_2 rfl rfl ?_
  refine wk_iload X 4 dM_setConfiguration_3 rfl ?_
  refine wk_goI [] (wk_rS X (mM_isConfiguration (V := V) v1 v2 v3 v4 (fM_isConfiguration v1 v2 v3 v4) rfl) rfl (gd (tw_178)) [] rfl rfl (tl tw_176) (tl tw_177) (tl tw_3) 4 pd_M_isConfiguration rfl ⟨rfl, rfl⟩ ⟨Nat.le_of_ble_eq_true rfl, Nat.le_of_ble_eq_true rfl⟩ rfl (Nat.le_of_ble_eq_true rfl) dM_setConfiguration_5) rfl ?_
  rintro r ⟨⟩ rfl
  refine wk_ws (ws' := cM V a S) rfl ?_
  refine wk_bz_ne X dM_setConfiguration_8 (tgt := 13) rfl (fun h1 => ?_) (fun h1 => ?_)
  · replace hf := p_it h1 hf
    refine wk_aload_n X 0 dM_setConfiguration_13 rfl rfl ?_
    refine wk_iload_n X 1 dM_setConfiguration_14 rfl rfl ?_
    refine wk_put X uw_M 0 rfl rfl 3 (Nat.le_of_ble_eq_true rfl) ft_M ft_M_ok fn_M (tl tw_31) rfl rfl rfl rfl (Nat.le_of_ble_eq_true rfl) dM_setConfiguration_15 (ws' := cM V a (S.1, S.2.1, S.2.2.1, v1, S.2.2.2.2.1, S.2.2.2.2.2.1, S.2.2.2.2.2.2)) rfl ?_
    refine wk_aload_n X 0 dM_setConfiguration_18 rfl rfl ?_
    refine wk_iload_n X 2 dM_setConfiguration_19 rfl rfl ?_
    refine wk_put X uw_M 0 rfl rfl 4 (Nat.le_of_ble_eq_true rfl) ft_M ft_M_ok fn_M (tl tw_34) rfl rfl rfl rfl (Nat.le_of_ble_eq_true rfl) dM_setConfiguration_20 (ws' := cM V a (S.1, S.2.1, S.2.2.1, v1, v2, S.2.2.2.2.2.1, S.2.2.2.2.2.2)) rfl ?_
    refine wk_aload_n X 0 dM_setConfiguration_23 rfl rfl ?_
    refine wk_iload_n X 3 dM_setConfiguration_24 rfl rfl ?_
    refine wk_put X uw_M 0 rfl rfl 5 (Nat.le_of_ble_eq_true rfl) ft_M ft_M_ok fn_M (tl tw_37) rfl rfl rfl rfl (Nat.le_of_ble_eq_true rfl) dM_setConfiguration_25 (ws' := cM V a (S.1, S.2.1, S.2.2.1, v1, v2, v3, S.2.2.2.2.2.2)) rfl ?_
    refine wk_aload_n X 0 dM_setConfiguration_28 rfl rfl ?_
    refine wk_iload X 4 dM_setConfiguration_29 rfl ?_
    refine wk_put X uw_M 0 rfl rfl 6 (Nat.le_of_ble_eq_true rfl) ft_M ft_M_ok fn_M (tl tw_40) rfl rfl rfl rfl (Nat.le_of_ble_eq_true rfl) dM_setConfiguration_31 (ws' := cM V a (S.1, S.2.1, S.2.2.1, v1, v2, v3, v4)) rfl ?_
    refine wk_iconst X dM_setConfiguration_34 (v := (1 : Int32)) (by decide) ?_
    exact wk_iret X Z rfl dM_setConfiguration_35 ((S.1, S.2.1, S.2.2.1, v1, v2, v3, v4)) ⟨Eq.symm (congrArg p_b (congrArg Prod.fst hf)), Eq.symm (congrArg Prod.snd hf)⟩ rfl rfl
  · replace hf := p_ie h1 hf
    refine wk_iconst X dM_setConfiguration_11 (v := (0 : Int32)) (by decide) ?_
    exact wk_iret X Z rfl dM_setConfiguration_12 (S) ⟨Eq.symm (congrArg p_b (congrArg Prod.fst hf)), Eq.symm (congrArg Prod.snd hf)⟩ rfl rfl
-- X_tape: room (3, 67), Bool × pX
def fX_tape (S : pX) (v1 : Int32) (v2 : Int32) (v3 : Int32) (v4 : Int32) : Bool × pX :=
  ((fM_setConfiguration S.1 v1 v2 v3 v4).1, ((fM_setConfiguration S.1 v1 v2 v3 v4).2, S.2.1, S.2.2.1, S.2.2.2))
set_option maxRecDepth 100000 in
set_option maxHeartbeats 4000000 in
theorem mX_tape {V : ee_V} (a : Nat → Nat) (S : pX) (v1 : Int32) (v2 : Int32) (v3 : Int32) (v4 : Int32) (R : Bool × pX) (hf : fX_tape S v1 v2 v3 v4 = R) : wk_I (ee V) yX_tape ts_X_tape ⟨3, 0, 0, 67⟩ [.ref (a 0), .int v1, .int v2, .int v3, .int v4] (cX V a S) (fun (r : Int32) (u : pX) => p_b (R.1) = r ∧ R.2 = u) (fun u : pX => cX V a u) := by
  refine wk_of (ee_ok V) (by decide +kernel) rfl (Nat.le_of_ble_eq_true rfl) ?_
  intro x X Z
  unfold fX_tape at hf
  refine wk_lq (lv' := [(0, .ref (a 0)), (1, .int v1), (2, .int v2), (3, .int v3), (4, .int v4)]) rfl ?_
  refine wk_aload_n X 0 dX_tape_0 rfl rfl ?_
  refine wk_get X uw_X 0 rfl rfl 0 (Nat.le_of_ble_eq_true rfl) (tl tw_138) rfl rfl dX_tape_1 ?_
  refine wk_iload_n X 1 dX_tape_4 rfl rfl ?_
  refine wk_iload_n X 2 dX_tape_5 rfl rfl ?_
  refine wk_iload_n X 3 dX_tape_6 rfl rfl ?_
  refine wk_iload X 4 dX_tape_7 rfl ?_
  refine wk_goI [1, 2, 3, 4] (wk_rV X (mM_setConfiguration (V := V) (fun i => a (i + 1)) S.1 v1 v2 v3 v4 (fM_setConfiguration S.1 v1 v2 v3 v4) rfl) rfl (gd (tw_175)) [1, 2, 3, 4] rfl rfl 1 rfl rfl (tl tw_172) (tl tw_173) (tl tw_174) (tl tw_3) 4 pd_M_setConfiguration rfl ⟨rfl, rfl⟩ ⟨Nat.le_of_ble_eq_true rfl, Nat.le_of_ble_eq_true rfl⟩ rfl (Nat.le_of_ble_eq_true rfl) dX_tape_9) rfl ?_
  rintro r u ⟨rfl, rfl⟩
  refine wk_ws (ws' := cX V a ((fM_setConfiguration S.1 v1 v2 v3 v4).2, S.2.1, S.2.2.1, S.2.2.2)) rfl ?_
  exact wk_iret X Z (p_nar _) dX_tape_12 (((fM_setConfiguration S.1 v1 v2 v3 v4).2, S.2.1, S.2.2.1, S.2.2.2)) ⟨Eq.symm (congrArg p_b (congrArg Prod.fst hf)), Eq.symm (congrArg Prod.snd hf)⟩ rfl rfl

-- M_nextOf: room (1, 21), Option (Int32)
def fM_nextOf (S : pM) (v1 : Int32) (v2 : Int32) : Option (Int32) :=
  (p_rd 16 S.2.2.1 (fM_place v1 v2)).bind fun q1 =>
  some q1
set_option maxRecDepth 100000 in
set_option maxHeartbeats 4000000 in
theorem mM_nextOf {V : ee_V} (a : Nat → Nat) (S : pM) (v1 : Int32) (v2 : Int32) (R : Int32) (hf : fM_nextOf S v1 v2 = some R) : wk_I (ee V) yM_nextOf ts_M_nextOf ⟨1, 0, 0, 21⟩ [.ref (a 0), .int v1, .int v2] (cM V a S) (fun (r : Int32) (_ : Unit) => R = r) (fun _ : Unit => cM V a S) := by
  refine wk_of (ee_ok V) (by decide +kernel) rfl (Nat.le_of_ble_eq_true rfl) ?_
  intro x X Z
  unfold fM_nextOf at hf
  refine wk_lq (lv' := [(0, .ref (a 0)), (1, .int v1), (2, .int v2)]) rfl ?_
  refine wk_aload_n X 0 dM_nextOf_0 rfl rfl ?_
  refine wk_get X uw_M 0 rfl rfl 2 (Nat.le_of_ble_eq_true rfl) (tl tw_30) rfl rfl dM_nextOf_1 ?_
  refine wk_iload_n X 1 dM_nextOf_4 rfl rfl ?_
  refine wk_iload_n X 2 dM_nextOf_5 rfl rfl ?_
  refine wk_goI [] (wk_rS X (mM_place (V := V) v1 v2 (fM_place v1 v2) rfl) rfl (gd (tw_167)) [] rfl rfl (tl tw_165) (tl tw_166) (tl tw_3) 2 pd_M_place rfl ⟨rfl, rfl⟩ ⟨Nat.le_of_ble_eq_true rfl, Nat.le_of_ble_eq_true rfl⟩ rfl (Nat.le_of_ble_eq_true rfl) dM_nextOf_6) rfl ?_
  rintro r ⟨⟩ rfl
  refine wk_ws (ws' := cM V a S) rfl ?_
  obtain ⟨q1, h2, hf⟩ := p_ob hf
  obtain ⟨h2i, h2e⟩ := p_rd_some h2
  refine wk_iald X 3 0 rfl rfl h2i h2e dM_nextOf_9 ?_
  have hf := Option.some.inj hf
  exact wk_iret X Z rfl dM_nextOf_10 () (Eq.symm hf) rfl rfl
-- M_moveOf: room (1, 21), Option (Int32)
def fM_moveOf (S : pM) (v1 : Int32) (v2 : Int32) : Option (Int32) :=
  (p_rd 16 S.2.1 (fM_place v1 v2)).bind fun q1 =>
  some q1
set_option maxRecDepth 100000 in
set_option maxHeartbeats 4000000 in
theorem mM_moveOf {V : ee_V} (a : Nat → Nat) (S : pM) (v1 : Int32) (v2 : Int32) (R : Int32) (hf : fM_moveOf S v1 v2 = some R) : wk_I (ee V) yM_moveOf ts_M_moveOf ⟨1, 0, 0, 21⟩ [.ref (a 0), .int v1, .int v2] (cM V a S) (fun (r : Int32) (_ : Unit) => R = r) (fun _ : Unit => cM V a S) := by
  refine wk_of (ee_ok V) (by decide +kernel) rfl (Nat.le_of_ble_eq_true rfl) ?_
  intro x X Z
  unfold fM_moveOf at hf
  refine wk_lq (lv' := [(0, .ref (a 0)), (1, .int v1), (2, .int v2)]) rfl ?_
  refine wk_aload_n X 0 dM_moveOf_0 rfl rfl ?_
  refine wk_get X uw_M 0 rfl rfl 1 (Nat.le_of_ble_eq_true rfl) (tl tw_29) rfl rfl dM_moveOf_1 ?_
  refine wk_iload_n X 1 dM_moveOf_4 rfl rfl ?_
  refine wk_iload_n X 2 dM_moveOf_5 rfl rfl ?_
  refine wk_goI [] (wk_rS X (mM_place (V := V) v1 v2 (fM_place v1 v2) rfl) rfl (gd (tw_167)) [] rfl rfl (tl tw_165) (tl tw_166) (tl tw_3) 2 pd_M_place rfl ⟨rfl, rfl⟩ ⟨Nat.le_of_ble_eq_true rfl, Nat.le_of_ble_eq_true rfl⟩ rfl (Nat.le_of_ble_eq_true rfl) dM_moveOf_6) rfl ?_
  rintro r ⟨⟩ rfl
  refine wk_ws (ws' := cM V a S) rfl ?_
  obtain ⟨q1, h2, hf⟩ := p_ob hf
  obtain ⟨h2i, h2e⟩ := p_rd_some h2
  refine wk_iald X 2 0 rfl rfl h2i h2e dM_moveOf_9 ?_
  have hf := Option.some.inj hf
  exact wk_iret X Z rfl dM_moveOf_10 () (Eq.symm hf) rfl rfl
-- G_letterOf: room (0, 0), Int32
def fG_letterOf (v0 : Int32) (v1 : Int32) (v2 : Int32) : Int32 :=
  if v0 = (54 : Int32) then (
    (0 : Int32)
  ) else (
    if (18 : Int32) ≤ v0 then (
      ((v2 + v0) - (18 : Int32))
    ) else (
      (v1 + v0)
    )
  )
set_option maxRecDepth 100000 in
set_option maxHeartbeats 4000000 in
theorem mG_letterOf {V : ee_V} (v0 : Int32) (v1 : Int32) (v2 : Int32) (R : Int32) (hf : fG_letterOf v0 v1 v2 = R) : wk_I (ee V) yG_letterOf ts_G_letterOf ⟨0, 0, 0, 0⟩ [.int v0, .int v1, .int v2] (([] : va_W)) (fun (r : Int32) (_ : Unit) => R = r) (fun _ : Unit => ([] : va_W)) := by
  refine wk_of (ee_ok V) (by decide +kernel) rfl (Nat.le_of_ble_eq_true rfl) ?_
  intro x X Z
  unfold fG_letterOf at hf
  refine wk_lq (lv' := [(0, .int v0), (1, .int v1), (2, .int v2)]) rfl ?_
  refine wk_iload_n X 0 dG_letterOf_0 rfl rfl ?_
  refine wk_bipush X dG_letterOf_1 (v := (54 : Int32)) (by decide) ?_
  refine wk_icmp_ne X dG_letterOf_3 (tgt := 8) rfl (fun h1 => ?_) (fun h1 => ?_)
  · replace hf := p_ie h1 hf
    refine wk_iload_n X 0 dG_letterOf_8 rfl rfl ?_
    refine wk_bipush X dG_letterOf_9 (v := (18 : Int32)) (by decide) ?_
    refine wk_icmp_ge X dG_letterOf_11 (tgt := 20) rfl (fun h2 => ?_) (fun h2 => ?_)
    · replace hf := p_it h2 hf
      refine wk_iload_n X 2 dG_letterOf_20 rfl rfl ?_
      refine wk_iload_n X 0 dG_letterOf_21 rfl rfl ?_
      refine wk_iadd X dG_letterOf_22 ?_
      refine wk_bipush X dG_letterOf_23 (v := (18 : Int32)) (by decide) ?_
      refine wk_isub X dG_letterOf_25 ?_
      exact wk_iret X Z rfl dG_letterOf_26 () (Eq.symm hf) rfl rfl
    · replace hf := p_ie h2 hf
      refine wk_iload_n X 1 dG_letterOf_14 rfl rfl ?_
      refine wk_iload_n X 0 dG_letterOf_15 rfl rfl ?_
      refine wk_iadd X dG_letterOf_16 ?_
      refine wk_goto X dG_letterOf_17 (tgt := 26) rfl ?_
      exact wk_iret X Z rfl dG_letterOf_26 () (Eq.symm hf) rfl rfl
  · replace hf := p_it h1 hf
    refine wk_iconst X dG_letterOf_6 (v := (0 : Int32)) (by decide) ?_
    exact wk_iret X Z rfl dG_letterOf_7 () (Eq.symm hf) rfl rfl
-- T_pack: room (0, 0), Option (pT)
def fT_pack (S : pT) (v1 : Int32) (v2 : Int32) (v3 : Int32) : Option (pT) :=
  (p_rd 600 S.1 ((v1 * (2 : Int32)) + (v2 / (6 : Int32)))).bind fun q1 =>
  (p_wrL 600 S.1 ((v1 * (2 : Int32)) + (v2 / (6 : Int32))) ((q1 &&& (((1023 : Int64) <<< (Int32.toInt64 ((10 : Int32) * (v2 - v2 / (6 : Int32) * (6 : Int32))) &&& 63)) ^^^ (-1 : Int64))) ||| ((Int32.toInt64 v3) <<< (Int32.toInt64 ((10 : Int32) * (v2 - v2 / (6 : Int32) * (6 : Int32))) &&& 63)))).bind fun q3 =>
  some (q3, S.2.1, S.2.2.1, S.2.2.2.1, S.2.2.2.2.1, S.2.2.2.2.2.1, S.2.2.2.2.2.2.1, S.2.2.2.2.2.2.2)
set_option maxRecDepth 100000 in
set_option maxHeartbeats 4000000 in
theorem mT_pack {V : ee_V} (a : Nat → Nat) (S : pT) (v1 : Int32) (v2 : Int32) (v3 : Int32) (R : pT) (hf : fT_pack S v1 v2 v3 = some R) : wk_V (ee V) yT_pack ts_T_pack ⟨0, 0, 0, 0⟩ [.ref (a 0), .int v1, .int v2, .int v3] (cT V a S) (fun u : pT => R = u) (fun u : pT => cT V a u) := by
  refine wk_of (ee_ok V) (by decide +kernel) rfl (Nat.le_of_ble_eq_true rfl) ?_
  intro x X Z
  unfold fT_pack at hf
  refine wk_lq (lv' := [(0, .ref (a 0)), (1, .int v1), (2, .int v2), (3, .int v3)]) rfl ?_
  refine wk_iload_n X 1 dT_pack_0 rfl rfl ?_
  refine wk_iconst X dT_pack_1 (v := (2 : Int32)) (by decide) ?_
  refine wk_imul X dT_pack_2 ?_
  refine wk_iload_n X 2 dT_pack_3 rfl rfl ?_
  refine wk_bipush X dT_pack_4 (v := (6 : Int32)) (by decide) ?_
  refine wk_idiv X dT_pack_6 (by decide) ?_
  refine wk_iadd X dT_pack_7 ?_
  refine wk_istore X dT_pack_8 (Nat.le_of_ble_eq_true rfl) (lv' := [(4, .int ((v1 * (2 : Int32)) + (v2 / (6 : Int32)))), (0, .ref (a 0)), (1, .int v1), (2, .int v2), (3, .int v3)]) rfl ?_
  refine wk_bipush X dT_pack_10 (v := (10 : Int32)) (by decide) ?_
  refine wk_iload_n X 3 dT_pack_12 rfl rfl ?_
  refine wk_bipush X dT_pack_13 (v := (6 : Int32)) (by decide) ?_
  refine wk_irem X dT_pack_15 (by decide) ?_
  refine wk_imul X dT_pack_16 ?_
  refine wk_istore X dT_pack_17 (Nat.le_of_ble_eq_true rfl) (lv' := [(5, .int ((10 : Int32) * (v2 - v2 / (6 : Int32) * (6 : Int32)))), (4, .int ((v1 * (2 : Int32)) + (v2 / (6 : Int32)))), (0, .ref (a 0)), (1, .int v1), (2, .int v2), (3, .int v3)]) rfl ?_
  refine wk_aload_n X 2 dT_pack_19 rfl rfl ?_
  refine wk_get X uw_T 0 rfl rfl 0 (Nat.le_of_ble_eq_true rfl) (tl tw_65) rfl rfl dT_pack_20 ?_
  refine wk_iload X 1 dT_pack_23 rfl ?_
  refine wk_aload_n X 2 dT_pack_25 rfl rfl ?_
  refine wk_get X uw_T 0 rfl rfl 0 (Nat.le_of_ble_eq_true rfl) (tl tw_65) rfl rfl dT_pack_26 ?_
  refine wk_iload X 1 dT_pack_29 rfl ?_
  obtain ⟨q1, h2, hf⟩ := p_ob hf
  obtain ⟨h2i, h2e⟩ := p_rd_some h2
  refine wk_lald X 1 2 rfl rfl h2i h2e dT_pack_31 ?_
  refine wk_ldc2 X (v := (1023 : Int64)) (tl tw_256) dT_pack_32 ?_
  refine wk_iload X 0 dT_pack_35 rfl ?_
  refine wk_lshl X dT_pack_37 rfl ?_
  refine wk_ldc2 X (v := (-1 : Int64)) (tl tw_257) dT_pack_38 ?_
  refine wk_lxor X dT_pack_41 ?_
  refine wk_land X dT_pack_42 ?_
  refine wk_iload_n X 5 dT_pack_43 rfl rfl ?_
  refine wk_i2l X dT_pack_44 rfl ?_
  refine wk_iload X 0 dT_pack_45 rfl ?_
  refine wk_lshl X dT_pack_47 rfl ?_
  refine wk_lor X dT_pack_48 ?_
  obtain ⟨q3, h4, hf⟩ := p_ob hf
  obtain ⟨h4i, h4e⟩ := p_wrL_some h4
  refine wk_last X 1 2 rfl rfl h4i h4e dT_pack_49 (ws' := cT V a (q3, S.2.1, S.2.2.1, S.2.2.2.1, S.2.2.2.2.1, S.2.2.2.2.2.1, S.2.2.2.2.2.2.1, S.2.2.2.2.2.2.2)) rfl ?_
  have hf := Option.some.inj hf
  exact wk_vret X Z dT_pack_50 ((q3, S.2.1, S.2.2.1, S.2.2.2.1, S.2.2.2.2.1, S.2.2.2.2.2.1, S.2.2.2.2.2.2.1, S.2.2.2.2.2.2.2)) (Eq.symm hf) rfl rfl
-- T_addToProduction: room (1, 25), Option (Bool × pT)
def fT_addToProduction (S : pT) (v1 : Int32) (v2 : Int32) : Option (Bool × pT) :=
  if (fT_hasLetter S v1) = true then (
    if (fT_hasLetter S v2) = true then (
      (p_rd 300 S.2.1 v1).bind fun q3 =>
      if q3 < (12 : Int32) then (
        (fT_pack S v1 q3 v2).bind fun q8 =>
        (p_rd 300 q8.2.1 v1).bind fun q10 =>
        (p_wr 300 q8.2.1 v1 (q10 + (1 : Int32))).bind fun q12 =>
        some (true, (q8.1, q12, q8.2.2.1, q8.2.2.2.1, q8.2.2.2.2.1, q8.2.2.2.2.2.1, q8.2.2.2.2.2.2.1, q8.2.2.2.2.2.2.2))
      ) else (
        some (false, S)
      )
    ) else (
      some (false, S)
    )
  ) else (
    some (false, S)
  )
set_option maxRecDepth 100000 in
set_option maxHeartbeats 4000000 in
theorem mT_addToProduction {V : ee_V} (a : Nat → Nat) (S : pT) (v1 : Int32) (v2 : Int32) (R : Bool × pT) (hf : fT_addToProduction S v1 v2 = some R) : wk_I (ee V) yT_addToProduction ts_T_addToProduction ⟨1, 0, 0, 25⟩ [.ref (a 0), .int v1, .int v2] (cT V a S) (fun (r : Int32) (u : pT) => p_b (R.1) = r ∧ R.2 = u) (fun u : pT => cT V a u) := by
  refine wk_of (ee_ok V) (by decide +kernel) rfl (Nat.le_of_ble_eq_true rfl) ?_
  intro x X Z
  unfold fT_addToProduction at hf
  refine wk_lq (lv' := [(0, .ref (a 0)), (1, .int v1), (2, .int v2)]) rfl ?_
  refine wk_aload_n X 0 dT_addToProduction_0 rfl rfl ?_
  refine wk_iload_n X 1 dT_addToProduction_1 rfl rfl ?_
  refine wk_goI [0, 1, 2, 3, 4] (wk_rV X (mT_hasLetter (V := V) a S v1 (fT_hasLetter S v1) rfl) rfl (gd (tw_229)) [0, 1, 2, 3, 4] rfl rfl 0 rfl rfl (tl tw_226) (tl tw_227) (tl tw_228) (tl tw_4) 1 pd_T_hasLetter rfl ⟨rfl, rfl⟩ ⟨Nat.le_of_ble_eq_true rfl, Nat.le_of_ble_eq_true rfl⟩ rfl (Nat.le_of_ble_eq_true rfl) dT_addToProduction_2) rfl ?_
  rintro r ⟨⟩ rfl
  refine wk_ws (ws' := cT V a S) rfl ?_
  refine wk_bz_eq X dT_addToProduction_5 (tgt := 27) rfl (fun h1 => ?_) (fun h1 => ?_)
  · replace hf := p_ie h1 hf
    refine wk_iconst X dT_addToProduction_27 (v := (0 : Int32)) (by decide) ?_
    have hf := Option.some.inj hf
    exact wk_iret X Z rfl dT_addToProduction_28 (S) ⟨Eq.symm (congrArg p_b (congrArg Prod.fst hf)), Eq.symm (congrArg Prod.snd hf)⟩ rfl rfl
  · replace hf := p_it h1 hf
    refine wk_aload_n X 0 dT_addToProduction_8 rfl rfl ?_
    refine wk_iload_n X 2 dT_addToProduction_9 rfl rfl ?_
    refine wk_goI [0, 1, 2, 3, 4] (wk_rV X (mT_hasLetter (V := V) a S v2 (fT_hasLetter S v2) rfl) rfl (gd (tw_229)) [0, 1, 2, 3, 4] rfl rfl 0 rfl rfl (tl tw_226) (tl tw_227) (tl tw_228) (tl tw_4) 1 pd_T_hasLetter rfl ⟨rfl, rfl⟩ ⟨Nat.le_of_ble_eq_true rfl, Nat.le_of_ble_eq_true rfl⟩ rfl (Nat.le_of_ble_eq_true rfl) dT_addToProduction_10) rfl ?_
    rintro r ⟨⟩ rfl
    refine wk_ws (ws' := cT V a S) rfl ?_
    refine wk_bz_eq X dT_addToProduction_13 (tgt := 27) rfl (fun h2 => ?_) (fun h2 => ?_)
    · replace hf := p_ie h2 hf
      refine wk_iconst X dT_addToProduction_27 (v := (0 : Int32)) (by decide) ?_
      have hf := Option.some.inj hf
      exact wk_iret X Z rfl dT_addToProduction_28 (S) ⟨Eq.symm (congrArg p_b (congrArg Prod.fst hf)), Eq.symm (congrArg Prod.snd hf)⟩ rfl rfl
    · replace hf := p_it h2 hf
      refine wk_aload_n X 0 dT_addToProduction_16 rfl rfl ?_
      refine wk_get X uw_T 0 rfl rfl 1 (Nat.le_of_ble_eq_true rfl) (tl tw_66) rfl rfl dT_addToProduction_17 ?_
      refine wk_iload_n X 1 dT_addToProduction_20 rfl rfl ?_
      obtain ⟨q3, h4, hf⟩ := p_ob hf
      obtain ⟨h4i, h4e⟩ := p_rd_some h4
      refine wk_iald X 2 0 rfl rfl h4i h4e dT_addToProduction_21 ?_
      refine wk_bipush X dT_addToProduction_22 (v := (12 : Int32)) (by decide) ?_
      refine wk_icmp_lt X dT_addToProduction_24 (tgt := 29) rfl (fun h5 => ?_) (fun h5 => ?_)
      · replace hf := p_it h5 hf
        refine wk_aload_n X 0 dT_addToProduction_29 rfl rfl ?_
        refine wk_iload_n X 1 dT_addToProduction_30 rfl rfl ?_
        refine wk_aload_n X 0 dT_addToProduction_31 rfl rfl ?_
        refine wk_get X uw_T 0 rfl rfl 1 (Nat.le_of_ble_eq_true rfl) (tl tw_66) rfl rfl dT_addToProduction_32 ?_
        refine wk_iload_n X 1 dT_addToProduction_35 rfl rfl ?_
        refine wk_iald X 2 0 rfl rfl h4i h4e dT_addToProduction_36 ?_
        refine wk_iload_n X 2 dT_addToProduction_37 rfl rfl ?_
        obtain ⟨q8, h9, hf⟩ := p_ob hf
        refine wk_goV [0, 1, 2, 3, 4] (wk_rV X (mT_pack (V := V) a S v1 q3 v2 q8 h9) rfl (gd (tw_255)) [0, 1, 2, 3, 4] rfl rfl 0 rfl rfl (tl tw_252) (tl tw_254) (tl tv_1) (tl tw_4) 3 pd_T_pack rfl ⟨rfl, rfl⟩ ⟨Nat.le_of_ble_eq_true rfl, Nat.le_of_ble_eq_true rfl⟩ rfl (Nat.le_of_ble_eq_true rfl) dT_addToProduction_38) rfl ?_
        rintro u rfl
        refine wk_ws (ws' := cT V a q8) rfl ?_
        refine wk_aload_n X 0 dT_addToProduction_41 rfl rfl ?_
        refine wk_get X uw_T 0 rfl rfl 1 (Nat.le_of_ble_eq_true rfl) (tl tw_66) rfl rfl dT_addToProduction_42 ?_
        refine wk_iload_n X 1 dT_addToProduction_45 rfl rfl ?_
        refine wk_dup2 X dT_addToProduction_46 rfl rfl ?_
        obtain ⟨q10, h11, hf⟩ := p_ob hf
        obtain ⟨h11i, h11e⟩ := p_rd_some h11
        refine wk_iald X 2 0 rfl rfl h11i h11e dT_addToProduction_47 ?_
        refine wk_iconst X dT_addToProduction_48 (v := (1 : Int32)) (by decide) ?_
        refine wk_iadd X dT_addToProduction_49 ?_
        obtain ⟨q12, h13, hf⟩ := p_ob hf
        obtain ⟨h13i, h13e⟩ := p_wr_some h13
        refine wk_iast X 2 0 rfl rfl h13i h13e dT_addToProduction_50 (ws' := cT V a (q8.1, q12, q8.2.2.1, q8.2.2.2.1, q8.2.2.2.2.1, q8.2.2.2.2.2.1, q8.2.2.2.2.2.2.1, q8.2.2.2.2.2.2.2)) rfl ?_
        refine wk_iconst X dT_addToProduction_51 (v := (1 : Int32)) (by decide) ?_
        have hf := Option.some.inj hf
        exact wk_iret X Z rfl dT_addToProduction_52 ((q8.1, q12, q8.2.2.1, q8.2.2.2.1, q8.2.2.2.2.1, q8.2.2.2.2.2.1, q8.2.2.2.2.2.2.1, q8.2.2.2.2.2.2.2)) ⟨Eq.symm (congrArg p_b (congrArg Prod.fst hf)), Eq.symm (congrArg Prod.snd hf)⟩ rfl rfl
      · replace hf := p_ie h5 hf
        refine wk_iconst X dT_addToProduction_27 (v := (0 : Int32)) (by decide) ?_
        have hf := Option.some.inj hf
        exact wk_iret X Z rfl dT_addToProduction_28 (S) ⟨Eq.symm (congrArg p_b (congrArg Prod.fst hf)), Eq.symm (congrArg Prod.snd hf)⟩ rfl rfl
-- G_addAll: room (2, 47), Option (pT)
def fG_addAll_L3 (k1 : Nat) : Nat → pT → Int32 → Int32 → Int32 → Option (pT)
  | 0, _, _, _, _ => none
  | n + 1, S, v2, v3, v4 =>
    if (nI (tb_n k1)) ≤ (v4 + (1 : Int32)) then (
      some S
    ) else (
      (p_rd (tb_n k1) (tb_f k1) v4).bind fun q2 =>
      (p_rd (tb_n k1) (tb_f k1) (v4 + (1 : Int32))).bind fun q4 =>
      (fT_addToProduction S (v2 + q2) (fG_letterOf q4 v2 v3)).bind fun q6 =>
      fG_addAll_L3 k1 n q6.2 v2 v3 (v4 + (2 : Int32))
    )
def fG_addAll (S : pT) (k1 : Nat) (v2 : Int32) (v3 : Int32) : Option (pT) :=
  fG_addAll_L3 k1 100000 S v2 v3 (0 : Int32)
set_option maxRecDepth 100000 in
set_option maxHeartbeats 4000000 in
theorem wG_addAll_L3 {V : ee_V} (a : Nat → Nat) (k1 : Nat) (S0 : pT) (hk : k1 < 4) {x : wk_C} (X : wk_K (ee V) x cG_addAll 5 "TagWorkshop$TagMaker" ts_G_addAll ⟨2, 0, 0, 47⟩) (R : pT) (Z : wk_N x none (va_Qv (fun u : pT => R = u) (wk_B (ee V) (cT V a S0) (fun u : pT => cT V a u)) (wk_in (cT V a S0))) (cT V a S0)) : ∀ (n : Nat) (S : pT) (v2 : Int32) (v3 : Int32) (v4 : Int32), fG_addAll_L3 k1 n S v2 v3 v4 = some R → wk_G (ee V) x 5 (cT V a S) 3 [(0, .ref (a 0)), (1, .ref (ev_t V k1)), (2, .int v2), (3, .int v3), (4, .int v4)] [] := by
  intro n
  induction n with
  | zero => intro S v2 v3 v4 hf; exact absurd hf (by rw [fG_addAll_L3]; exact fun h => by cases h)
  | succ n ih =>
    intro S v2 v3 v4 hf
    rw [fG_addAll_L3] at hf
    refine wk_iload X 4 dG_addAll_3 rfl ?_
    refine wk_iconst X dG_addAll_5 (v := (1 : Int32)) (by decide) ?_
    refine wk_iadd X dG_addAll_6 ?_
    refine wk_aload_n X 1 dG_addAll_7 rfl rfl ?_
    refine wk_tlen X (am_t X.am _ hk) rfl dG_addAll_8 ?_
    refine wk_icmp_ge X dG_addAll_9 (tgt := 40) rfl (fun h1 => ?_) (fun h1 => ?_)
    · replace hf := p_it h1 hf
      have hf := Option.some.inj hf
      exact wk_vret X Z dG_addAll_40 (S) (Eq.symm hf) rfl rfl
    · replace hf := p_ie h1 hf
      refine wk_aload_n X 0 dG_addAll_12 rfl rfl ?_
      refine wk_iload_n X 2 dG_addAll_13 rfl rfl ?_
      refine wk_aload_n X 1 dG_addAll_14 rfl rfl ?_
      refine wk_iload X 4 dG_addAll_15 rfl ?_
      obtain ⟨q2, h3, hf⟩ := p_ob hf
      obtain ⟨h3i, h3e⟩ := p_rd_some h3
      refine wk_ti X (am_t X.am _ hk) h3i (congrArg Value.int h3e) dG_addAll_17 ?_
      refine wk_iadd X dG_addAll_18 ?_
      refine wk_aload_n X 1 dG_addAll_19 rfl rfl ?_
      refine wk_iload X 4 dG_addAll_20 rfl ?_
      refine wk_iconst X dG_addAll_22 (v := (1 : Int32)) (by decide) ?_
      refine wk_iadd X dG_addAll_23 ?_
      obtain ⟨q4, h5, hf⟩ := p_ob hf
      obtain ⟨h5i, h5e⟩ := p_rd_some h5
      refine wk_ti X (am_t X.am _ hk) h5i (congrArg Value.int h5e) dG_addAll_24 ?_
      refine wk_iload_n X 2 dG_addAll_25 rfl rfl ?_
      refine wk_iload_n X 3 dG_addAll_26 rfl rfl ?_
      refine wk_goI [] (wk_rS X (mG_letterOf (V := V) q4 v2 v3 (fG_letterOf q4 v2 v3) rfl) rfl (gd (tw_247)) [] rfl rfl (tl tw_245) (tl tw_246) (tl tw_8) 3 pd_G_letterOf rfl ⟨rfl, rfl⟩ ⟨Nat.le_of_ble_eq_true rfl, Nat.le_of_ble_eq_true rfl⟩ rfl (Nat.le_of_ble_eq_true rfl) dG_addAll_27) rfl ?_
      rintro r ⟨⟩ rfl
      refine wk_ws (ws' := cT V a S) rfl ?_
      obtain ⟨q6, h7, hf⟩ := p_ob hf
      refine wk_goI [0, 1, 2, 3, 4] (wk_rV X (mT_addToProduction (V := V) a S (v2 + q2) (fG_letterOf q4 v2 v3) q6 h7) rfl (gd (tw_251)) [0, 1, 2, 3, 4] rfl rfl 0 rfl rfl (tl tw_248) (tl tw_249) (tl tw_250) (tl tw_4) 2 pd_T_addToProduction rfl ⟨rfl, rfl⟩ ⟨Nat.le_of_ble_eq_true rfl, Nat.le_of_ble_eq_true rfl⟩ rfl (Nat.le_of_ble_eq_true rfl) dG_addAll_30) rfl ?_
      rintro r u ⟨rfl, rfl⟩
      refine wk_ws (ws' := cT V a q6.2) rfl ?_
      refine wk_pop X dG_addAll_33 rfl ?_
      refine wk_iinc X 4 dG_addAll_34 (v := (v4 + (2 : Int32))) rfl rfl (Nat.le_of_ble_eq_true rfl) (lv' := [(4, .int (v4 + (2 : Int32))), (0, .ref (a 0)), (1, .ref (ev_t V k1)), (2, .int v2), (3, .int v3)]) rfl ?_
      refine wk_goto X dG_addAll_37 (tgt := 3) rfl ?_
      refine wk_lv [1, 2, 3, 4, 0] (lv' := [(0, .ref (a 0)), (1, .ref (ev_t V k1)), (2, .int v2), (3, .int v3), (4, .int (v4 + (2 : Int32)))]) rfl ?_
      exact ih q6.2 v2 v3 (v4 + (2 : Int32)) hf
set_option maxRecDepth 100000 in
set_option maxHeartbeats 4000000 in
theorem mG_addAll {V : ee_V} (a : Nat → Nat) (S : pT) (k1 : Nat) (v2 : Int32) (v3 : Int32) (hk : k1 < 4) (R : pT) (hf : fG_addAll S k1 v2 v3 = some R) : wk_V (ee V) yG_addAll ts_G_addAll ⟨2, 0, 0, 47⟩ [.ref (a 0), .ref (ev_t V k1), .int v2, .int v3] (cT V a S) (fun u : pT => R = u) (fun u : pT => cT V a u) := by
  refine wk_of (ee_ok V) (by decide +kernel) rfl (Nat.le_of_ble_eq_true rfl) ?_
  intro x X Z
  unfold fG_addAll at hf
  refine wk_lq (lv' := [(0, .ref (a 0)), (1, .ref (ev_t V k1)), (2, .int v2), (3, .int v3)]) rfl ?_
  refine wk_iconst X dG_addAll_0 (v := (0 : Int32)) (by decide) ?_
  refine wk_istore X dG_addAll_1 (Nat.le_of_ble_eq_true rfl) (lv' := [(4, .int (0 : Int32)), (0, .ref (a 0)), (1, .ref (ev_t V k1)), (2, .int v2), (3, .int v3)]) rfl ?_
  refine wk_lv [1, 2, 3, 4, 0] (lv' := [(0, .ref (a 0)), (1, .ref (ev_t V k1)), (2, .int v2), (3, .int v3), (4, .int (0 : Int32))]) rfl ?_
  exact wG_addAll_L3 a k1 S hk X R Z 100000 S v2 v3 (0 : Int32) hf
-- M_writeOf: room (1, 21), Option (Int32)
def fM_writeOf (S : pM) (v1 : Int32) (v2 : Int32) : Option (Int32) :=
  (p_rd 16 S.1 (fM_place v1 v2)).bind fun q1 =>
  some q1
set_option maxRecDepth 100000 in
set_option maxHeartbeats 4000000 in
theorem mM_writeOf {V : ee_V} (a : Nat → Nat) (S : pM) (v1 : Int32) (v2 : Int32) (R : Int32) (hf : fM_writeOf S v1 v2 = some R) : wk_I (ee V) yM_writeOf ts_M_writeOf ⟨1, 0, 0, 21⟩ [.ref (a 0), .int v1, .int v2] (cM V a S) (fun (r : Int32) (_ : Unit) => R = r) (fun _ : Unit => cM V a S) := by
  refine wk_of (ee_ok V) (by decide +kernel) rfl (Nat.le_of_ble_eq_true rfl) ?_
  intro x X Z
  unfold fM_writeOf at hf
  refine wk_lq (lv' := [(0, .ref (a 0)), (1, .int v1), (2, .int v2)]) rfl ?_
  refine wk_aload_n X 0 dM_writeOf_0 rfl rfl ?_
  refine wk_get X uw_M 0 rfl rfl 0 (Nat.le_of_ble_eq_true rfl) (tl tw_28) rfl rfl dM_writeOf_1 ?_
  refine wk_iload_n X 1 dM_writeOf_4 rfl rfl ?_
  refine wk_iload_n X 2 dM_writeOf_5 rfl rfl ?_
  refine wk_goI [] (wk_rS X (mM_place (V := V) v1 v2 (fM_place v1 v2) rfl) rfl (gd (tw_167)) [] rfl rfl (tl tw_165) (tl tw_166) (tl tw_3) 2 pd_M_place rfl ⟨rfl, rfl⟩ ⟨Nat.le_of_ble_eq_true rfl, Nat.le_of_ble_eq_true rfl⟩ rfl (Nat.le_of_ble_eq_true rfl) dM_writeOf_6) rfl ?_
  rintro r ⟨⟩ rfl
  refine wk_ws (ws' := cM V a S) rfl ?_
  obtain ⟨q1, h2, hf⟩ := p_ob hf
  obtain ⟨h2i, h2e⟩ := p_rd_some h2
  refine wk_iald X 1 0 rfl rfl h2i h2e dM_writeOf_9 ?_
  have hf := Option.some.inj hf
  exact wk_iret X Z rfl dM_writeOf_10 () (Eq.symm hf) rfl rfl

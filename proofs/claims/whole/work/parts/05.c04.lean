-- X_compileTag: room (5, 120), Option (Int32 × pX)
def fX_compileTag (S : pX) : Option (Int32 × pX) :=
  (fM_hasAllRules S.1).bind fun q1 =>
  if q1 = true then (
    (fG_make S.2.1 S.1).bind fun q4 =>
    (fC_write q4 S.1).bind fun q6 =>
    (fY_remove S.2.2.1).bind fun q8 =>
    some (q6.2.2.2.2.2.2.1, (S.1, q6, q8, S.2.2.2))
  ) else (
    some ((0 : Int32), S)
  )
set_option maxRecDepth 100000 in
set_option maxHeartbeats 4000000 in
theorem mX_compileTag {V : ee_V} (a : Nat → Nat) (S : pX) (R : Int32 × pX) (hf : fX_compileTag S = some R) : wk_I (ee V) yX_compileTag ts_X_compileTag ⟨5, 0, 0, 120⟩ [.ref (a 0)] (cX V a S) (fun (r : Int32) (u : pX) => R.1 = r ∧ R.2 = u) (fun u : pX => cX V a u) := by
  refine wk_of (ee_ok V) (by decide +kernel) rfl (Nat.le_of_ble_eq_true rfl) ?_
  intro x X Z
  unfold fX_compileTag at hf
  refine wk_lq (lv' := [(0, .ref (a 0))]) rfl ?_
  refine wk_aload_n X 0 dX_compileTag_0 rfl rfl ?_
  refine wk_get X uw_X 0 rfl rfl 0 (Nat.le_of_ble_eq_true rfl) (tl tw_138) rfl rfl dX_compileTag_1 ?_
  obtain ⟨q1, h2, hf⟩ := p_ob hf
  refine wk_goI [1, 2, 3, 4] (wk_rV X (mM_hasAllRules (V := V) (fun i => a (i + 1)) S.1 q1 h2) rfl (gd (tw_189)) [1, 2, 3, 4] rfl rfl 1 rfl rfl (tl tw_186) (tl tw_187) (tl tw_188) (tl tw_3) 0 pd_M_hasAllRules rfl ⟨rfl, rfl⟩ ⟨Nat.le_of_ble_eq_true rfl, Nat.le_of_ble_eq_true rfl⟩ rfl (Nat.le_of_ble_eq_true rfl) dX_compileTag_4) rfl ?_
  rintro r ⟨⟩ rfl
  refine wk_ws (ws' := cX V a S) rfl ?_
  refine wk_bz_ne X dX_compileTag_7 (tgt := 12) rfl (fun h3 => ?_) (fun h3 => ?_)
  · replace hf := p_it h3 hf
    refine wk_aload_n X 0 dX_compileTag_12 rfl rfl ?_
    refine wk_get X uw_X 0 rfl rfl 1 (Nat.le_of_ble_eq_true rfl) (tl tw_139) rfl rfl dX_compileTag_13 ?_
    refine wk_aload_n X 0 dX_compileTag_16 rfl rfl ?_
    refine wk_get X uw_X 0 rfl rfl 0 (Nat.le_of_ble_eq_true rfl) (tl tw_138) rfl rfl dX_compileTag_17 ?_
    obtain ⟨q4, h5, hf⟩ := p_ob hf
    refine wk_goV [5, 6, 7, 8, 9, 1, 2, 3, 4] (wk_rS X (mG_make (V := V) (fun i => a (i + 5)) (fun i => a (i + 1)) S.2.1 S.1 q4 h5) rfl (gd (tw_196)) [5, 6, 7, 8, 9, 1, 2, 3, 4] rfl rfl (tl tw_194) (tl tw_195) (tl tw_8) 2 pd_G_make rfl ⟨rfl, rfl⟩ ⟨Nat.le_of_ble_eq_true rfl, Nat.le_of_ble_eq_true rfl⟩ rfl (Nat.le_of_ble_eq_true rfl) dX_compileTag_20) rfl ?_
    rintro u rfl
    refine wk_ws (ws' := cX V a (S.1, q4, S.2.2.1, S.2.2.2)) rfl ?_
    refine wk_aload_n X 0 dX_compileTag_23 rfl rfl ?_
    refine wk_get X uw_X 0 rfl rfl 1 (Nat.le_of_ble_eq_true rfl) (tl tw_139) rfl rfl dX_compileTag_24 ?_
    refine wk_aload_n X 0 dX_compileTag_27 rfl rfl ?_
    refine wk_get X uw_X 0 rfl rfl 0 (Nat.le_of_ble_eq_true rfl) (tl tw_138) rfl rfl dX_compileTag_28 ?_
    obtain ⟨q6, h7, hf⟩ := p_ob hf
    refine wk_goV [5, 6, 7, 8, 9, 1, 2, 3, 4] (wk_rS X (mC_write (V := V) (fun i => a (i + 5)) (fun i => a (i + 1)) q4 S.1 q6 h7) rfl (gd (tw_268)) [5, 6, 7, 8, 9, 1, 2, 3, 4] rfl rfl (tl tw_266) (tl tw_267) (tl tw_6) 2 pd_C_write rfl ⟨rfl, rfl⟩ ⟨Nat.le_of_ble_eq_true rfl, Nat.le_of_ble_eq_true rfl⟩ rfl (Nat.le_of_ble_eq_true rfl) dX_compileTag_31) rfl ?_
    rintro u rfl
    refine wk_ws (ws' := cX V a (S.1, q6, S.2.2.1, S.2.2.2)) rfl ?_
    refine wk_aload_n X 0 dX_compileTag_34 rfl rfl ?_
    refine wk_get X uw_X 0 rfl rfl 2 (Nat.le_of_ble_eq_true rfl) (tl tw_140) rfl rfl dX_compileTag_35 ?_
    obtain ⟨q8, h9, hf⟩ := p_ob hf
    refine wk_goV [10, 11, 12, 13, 14, 15] (wk_rV X (mY_remove (V := V) (fun i => a (i + 10)) S.2.2.1 q8 h9) rfl (gd (tw_281)) [10, 11, 12, 13, 14, 15] rfl rfl 10 rfl rfl (tl tw_278) (tl tw_279) (tl tw_280) (tl tw_5) 0 pd_Y_remove rfl ⟨rfl, rfl⟩ ⟨Nat.le_of_ble_eq_true rfl, Nat.le_of_ble_eq_true rfl⟩ rfl (Nat.le_of_ble_eq_true rfl) dX_compileTag_38) rfl ?_
    rintro u rfl
    refine wk_ws (ws' := cX V a (S.1, q6, q8, S.2.2.2)) rfl ?_
    refine wk_aload_n X 0 dX_compileTag_41 rfl rfl ?_
    refine wk_get X uw_X 0 rfl rfl 1 (Nat.le_of_ble_eq_true rfl) (tl tw_139) rfl rfl dX_compileTag_42 ?_
    refine wk_get X uw_T 5 rfl rfl 6 (Nat.le_of_ble_eq_true rfl) (tl tw_76) rfl rfl dX_compileTag_45 ?_
    have hf := Option.some.inj hf
    exact wk_iret X Z rfl dX_compileTag_48 ((S.1, q6, q8, S.2.2.2)) ⟨Eq.symm (congrArg Prod.fst hf), Eq.symm (congrArg Prod.snd hf)⟩ rfl rfl
  · replace hf := p_ie h3 hf
    refine wk_iconst X dX_compileTag_10 (v := (0 : Int32)) (by decide) ?_
    have hf := Option.some.inj hf
    exact wk_iret X Z rfl dX_compileTag_11 (S) ⟨Eq.symm (congrArg Prod.fst hf), Eq.symm (congrArg Prod.snd hf)⟩ rfl rfl
-- X_ownTag: room (3, 63), Option (Bool × pX)
def fX_ownTag (S : pX) (v1 : Int32) : Option (Bool × pX) :=
  if v1 < (1 : Int32) then (
    some (false, S)
  ) else (
    if v1 ≤ (300 : Int32) then (
      (fT_begin S.2.1 v1 (0 : Int32)).bind fun q3 =>
      (fY_remove S.2.2.1).bind fun q5 =>
      some (true, (S.1, q3, q5, S.2.2.2))
    ) else (
      some (false, S)
    )
  )
set_option maxRecDepth 100000 in
set_option maxHeartbeats 4000000 in
theorem mX_ownTag {V : ee_V} (a : Nat → Nat) (S : pX) (v1 : Int32) (R : Bool × pX) (hf : fX_ownTag S v1 = some R) : wk_I (ee V) yX_ownTag ts_X_ownTag ⟨3, 0, 0, 63⟩ [.ref (a 0), .int v1] (cX V a S) (fun (r : Int32) (u : pX) => p_b (R.1) = r ∧ R.2 = u) (fun u : pX => cX V a u) := by
  refine wk_of (ee_ok V) (by decide +kernel) rfl (Nat.le_of_ble_eq_true rfl) ?_
  intro x X Z
  unfold fX_ownTag at hf
  refine wk_lq (lv' := [(0, .ref (a 0)), (1, .int v1)]) rfl ?_
  refine wk_iload_n X 1 dX_ownTag_0 rfl rfl ?_
  refine wk_iconst X dX_ownTag_1 (v := (1 : Int32)) (by decide) ?_
  refine wk_icmp_lt X dX_ownTag_2 (tgt := 12) rfl (fun h1 => ?_) (fun h1 => ?_)
  · replace hf := p_it h1 hf
    refine wk_iconst X dX_ownTag_12 (v := (0 : Int32)) (by decide) ?_
    have hf := Option.some.inj hf
    exact wk_iret X Z rfl dX_ownTag_13 (S) ⟨Eq.symm (congrArg p_b (congrArg Prod.fst hf)), Eq.symm (congrArg Prod.snd hf)⟩ rfl rfl
  · replace hf := p_ie h1 hf
    refine wk_iload_n X 1 dX_ownTag_5 rfl rfl ?_
    refine wk_sipush X dX_ownTag_6 (v := (300 : Int32)) (by decide) ?_
    refine wk_icmp_le X dX_ownTag_9 (tgt := 14) rfl (fun h2 => ?_) (fun h2 => ?_)
    · replace hf := p_it h2 hf
      refine wk_aload_n X 0 dX_ownTag_14 rfl rfl ?_
      refine wk_get X uw_X 0 rfl rfl 1 (Nat.le_of_ble_eq_true rfl) (tl tw_139) rfl rfl dX_ownTag_15 ?_
      refine wk_iload_n X 1 dX_ownTag_18 rfl rfl ?_
      refine wk_iconst X dX_ownTag_19 (v := (0 : Int32)) (by decide) ?_
      obtain ⟨q3, h4, hf⟩ := p_ob hf
      refine wk_goV [5, 6, 7, 8, 9] (wk_rV X (mT_begin (V := V) (fun i => a (i + 5)) S.2.1 v1 (0 : Int32) q3 h4) rfl (gd (tw_210)) [5, 6, 7, 8, 9] rfl rfl 5 rfl rfl (tl tw_287) (tl tw_208) (tl tw_209) (tl tw_4) 2 pd_T_begin rfl ⟨rfl, rfl⟩ ⟨Nat.le_of_ble_eq_true rfl, Nat.le_of_ble_eq_true rfl⟩ rfl (Nat.le_of_ble_eq_true rfl) dX_ownTag_20) rfl ?_
      rintro u rfl
      refine wk_ws (ws' := cX V a (S.1, q3, S.2.2.1, S.2.2.2)) rfl ?_
      refine wk_aload_n X 0 dX_ownTag_23 rfl rfl ?_
      refine wk_get X uw_X 0 rfl rfl 2 (Nat.le_of_ble_eq_true rfl) (tl tw_140) rfl rfl dX_ownTag_24 ?_
      obtain ⟨q5, h6, hf⟩ := p_ob hf
      refine wk_goV [10, 11, 12, 13, 14, 15] (wk_rV X (mY_remove (V := V) (fun i => a (i + 10)) S.2.2.1 q5 h6) rfl (gd (tw_281)) [10, 11, 12, 13, 14, 15] rfl rfl 10 rfl rfl (tl tw_278) (tl tw_279) (tl tw_280) (tl tw_5) 0 pd_Y_remove rfl ⟨rfl, rfl⟩ ⟨Nat.le_of_ble_eq_true rfl, Nat.le_of_ble_eq_true rfl⟩ rfl (Nat.le_of_ble_eq_true rfl) dX_ownTag_27) rfl ?_
      rintro u rfl
      refine wk_ws (ws' := cX V a (S.1, q3, q5, S.2.2.2)) rfl ?_
      refine wk_iconst X dX_ownTag_30 (v := (1 : Int32)) (by decide) ?_
      have hf := Option.some.inj hf
      exact wk_iret X Z rfl dX_ownTag_31 ((S.1, q3, q5, S.2.2.2)) ⟨Eq.symm (congrArg p_b (congrArg Prod.fst hf)), Eq.symm (congrArg Prod.snd hf)⟩ rfl rfl
    · replace hf := p_ie h2 hf
      refine wk_iconst X dX_ownTag_12 (v := (0 : Int32)) (by decide) ?_
      have hf := Option.some.inj hf
      exact wk_iret X Z rfl dX_ownTag_13 (S) ⟨Eq.symm (congrArg p_b (congrArg Prod.fst hf)), Eq.symm (congrArg Prod.snd hf)⟩ rfl rfl
-- X_extend: room (2, 47), Option (Bool × pX)
def fX_extend (S : pX) (v1 : Int32) (v2 : Int32) : Option (Bool × pX) :=
  (fT_addToProduction S.2.1 v1 v2).bind fun q1 =>
  some (q1.1, (S.1, q1.2, S.2.2.1, S.2.2.2))
set_option maxRecDepth 100000 in
set_option maxHeartbeats 4000000 in
theorem mX_extend {V : ee_V} (a : Nat → Nat) (S : pX) (v1 : Int32) (v2 : Int32) (R : Bool × pX) (hf : fX_extend S v1 v2 = some R) : wk_I (ee V) yX_extend ts_X_extend ⟨2, 0, 0, 47⟩ [.ref (a 0), .int v1, .int v2] (cX V a S) (fun (r : Int32) (u : pX) => p_b (R.1) = r ∧ R.2 = u) (fun u : pX => cX V a u) := by
  refine wk_of (ee_ok V) (by decide +kernel) rfl (Nat.le_of_ble_eq_true rfl) ?_
  intro x X Z
  unfold fX_extend at hf
  refine wk_lq (lv' := [(0, .ref (a 0)), (1, .int v1), (2, .int v2)]) rfl ?_
  refine wk_aload_n X 0 dX_extend_0 rfl rfl ?_
  refine wk_get X uw_X 0 rfl rfl 1 (Nat.le_of_ble_eq_true rfl) (tl tw_139) rfl rfl dX_extend_1 ?_
  refine wk_iload_n X 1 dX_extend_4 rfl rfl ?_
  refine wk_iload_n X 2 dX_extend_5 rfl rfl ?_
  obtain ⟨q1, h2, hf⟩ := p_ob hf
  refine wk_goI [5, 6, 7, 8, 9] (wk_rV X (mT_addToProduction (V := V) (fun i => a (i + 5)) S.2.1 v1 v2 q1 h2) rfl (gd (tw_251)) [5, 6, 7, 8, 9] rfl rfl 5 rfl rfl (tl tw_292) (tl tw_249) (tl tw_250) (tl tw_4) 2 pd_T_addToProduction rfl ⟨rfl, rfl⟩ ⟨Nat.le_of_ble_eq_true rfl, Nat.le_of_ble_eq_true rfl⟩ rfl (Nat.le_of_ble_eq_true rfl) dX_extend_6) rfl ?_
  rintro r u ⟨rfl, rfl⟩
  refine wk_ws (ws' := cX V a (S.1, q1.2, S.2.2.1, S.2.2.2)) rfl ?_
  have hf := Option.some.inj hf
  exact wk_iret X Z (p_nar _) dX_extend_9 ((S.1, q1.2, S.2.2.1, S.2.2.2)) ⟨Eq.symm (congrArg p_b (congrArg Prod.fst hf)), Eq.symm (congrArg Prod.snd hf)⟩ rfl rfl
-- T_productionSize: room (1, 21), Option (Int32)
def fT_productionSize (S : pT) (v1 : Int32) : Option (Int32) :=
  if (fT_hasLetter S v1) = true then (
    (p_rd 300 S.2.1 v1).bind fun q2 =>
    some q2
  ) else (
    some (0 : Int32)
  )
set_option maxRecDepth 100000 in
set_option maxHeartbeats 4000000 in
theorem mT_productionSize {V : ee_V} (a : Nat → Nat) (S : pT) (v1 : Int32) (R : Int32) (hf : fT_productionSize S v1 = some R) : wk_I (ee V) yT_productionSize ts_T_productionSize ⟨1, 0, 0, 21⟩ [.ref (a 0), .int v1] (cT V a S) (fun (r : Int32) (_ : Unit) => R = r) (fun _ : Unit => cT V a S) := by
  refine wk_of (ee_ok V) (by decide +kernel) rfl (Nat.le_of_ble_eq_true rfl) ?_
  intro x X Z
  unfold fT_productionSize at hf
  refine wk_lq (lv' := [(0, .ref (a 0)), (1, .int v1)]) rfl ?_
  refine wk_aload_n X 0 dT_productionSize_0 rfl rfl ?_
  refine wk_iload_n X 1 dT_productionSize_1 rfl rfl ?_
  refine wk_goI [0, 1, 2, 3, 4] (wk_rV X (mT_hasLetter (V := V) a S v1 (fT_hasLetter S v1) rfl) rfl (gd (tw_229)) [0, 1, 2, 3, 4] rfl rfl 0 rfl rfl (tl tw_226) (tl tw_227) (tl tw_228) (tl tw_4) 1 pd_T_hasLetter rfl ⟨rfl, rfl⟩ ⟨Nat.le_of_ble_eq_true rfl, Nat.le_of_ble_eq_true rfl⟩ rfl (Nat.le_of_ble_eq_true rfl) dT_productionSize_2) rfl ?_
  rintro r ⟨⟩ rfl
  refine wk_ws (ws' := cT V a S) rfl ?_
  refine wk_bz_eq X dT_productionSize_5 (tgt := 17) rfl (fun h1 => ?_) (fun h1 => ?_)
  · replace hf := p_ie h1 hf
    refine wk_iconst X dT_productionSize_17 (v := (0 : Int32)) (by decide) ?_
    have hf := Option.some.inj hf
    exact wk_iret X Z rfl dT_productionSize_18 () (Eq.symm hf) rfl rfl
  · replace hf := p_it h1 hf
    refine wk_aload_n X 0 dT_productionSize_8 rfl rfl ?_
    refine wk_get X uw_T 0 rfl rfl 1 (Nat.le_of_ble_eq_true rfl) (tl tw_66) rfl rfl dT_productionSize_9 ?_
    refine wk_iload_n X 1 dT_productionSize_12 rfl rfl ?_
    obtain ⟨q2, h3, hf⟩ := p_ob hf
    obtain ⟨h3i, h3e⟩ := p_rd_some h3
    refine wk_iald X 2 0 rfl rfl h3i h3e dT_productionSize_13 ?_
    refine wk_goto X dT_productionSize_14 (tgt := 18) rfl ?_
    have hf := Option.some.inj hf
    exact wk_iret X Z rfl dT_productionSize_18 () (Eq.symm hf) rfl rfl
-- T_unpack: room (0, 0), Option (Int32)
def fT_unpack (S : pT) (v1 : Int32) (v2 : Int32) : Option (Int32) :=
  (p_rd 600 S.1 ((v1 * (2 : Int32)) + (v2 / (6 : Int32)))).bind fun q1 =>
  some (Int64.toInt32 ((q1 >>> (Int32.toInt64 ((10 : Int32) * (v2 - v2 / (6 : Int32) * (6 : Int32))) &&& 63)) &&& (1023 : Int64)))
set_option maxRecDepth 100000 in
set_option maxHeartbeats 4000000 in
theorem mT_unpack {V : ee_V} (a : Nat → Nat) (S : pT) (v1 : Int32) (v2 : Int32) (R : Int32) (hf : fT_unpack S v1 v2 = some R) : wk_I (ee V) yT_unpack ts_T_unpack ⟨0, 0, 0, 0⟩ [.ref (a 0), .int v1, .int v2] (cT V a S) (fun (r : Int32) (_ : Unit) => R = r) (fun _ : Unit => cT V a S) := by
  refine wk_of (ee_ok V) (by decide +kernel) rfl (Nat.le_of_ble_eq_true rfl) ?_
  intro x X Z
  unfold fT_unpack at hf
  refine wk_lq (lv' := [(0, .ref (a 0)), (1, .int v1), (2, .int v2)]) rfl ?_
  refine wk_aload_n X 0 dT_unpack_0 rfl rfl ?_
  refine wk_get X uw_T 0 rfl rfl 0 (Nat.le_of_ble_eq_true rfl) (tl tw_65) rfl rfl dT_unpack_1 ?_
  refine wk_iload_n X 1 dT_unpack_4 rfl rfl ?_
  refine wk_iconst X dT_unpack_5 (v := (2 : Int32)) (by decide) ?_
  refine wk_imul X dT_unpack_6 ?_
  refine wk_iload_n X 2 dT_unpack_7 rfl rfl ?_
  refine wk_bipush X dT_unpack_8 (v := (6 : Int32)) (by decide) ?_
  refine wk_idiv X dT_unpack_10 (by decide) ?_
  refine wk_iadd X dT_unpack_11 ?_
  obtain ⟨q1, h2, hf⟩ := p_ob hf
  obtain ⟨h2i, h2e⟩ := p_rd_some h2
  refine wk_lald X 1 2 rfl rfl h2i h2e dT_unpack_12 ?_
  refine wk_lstore_n X dT_unpack_13 rfl (Nat.le_of_ble_eq_true rfl) (lv' := [(3, .long q1), (0, .ref (a 0)), (1, .int v1), (2, .int v2)]) rfl ?_
  refine wk_lload_n X 0 dT_unpack_14 rfl rfl ?_
  refine wk_bipush X dT_unpack_15 (v := (10 : Int32)) (by decide) ?_
  refine wk_iload_n X 3 dT_unpack_17 rfl rfl ?_
  refine wk_bipush X dT_unpack_18 (v := (6 : Int32)) (by decide) ?_
  refine wk_irem X dT_unpack_20 (by decide) ?_
  refine wk_imul X dT_unpack_21 ?_
  refine wk_lshr X dT_unpack_22 rfl ?_
  refine wk_ldc2 X (v := (1023 : Int64)) (tl tw_256) dT_unpack_23 ?_
  refine wk_land X dT_unpack_26 ?_
  refine wk_l2i X dT_unpack_27 rfl ?_
  have hf := Option.some.inj hf
  exact wk_iret X Z rfl dT_unpack_28 () (Eq.symm hf) rfl rfl
-- T_productionLetter: room (2, 42), Option (Int32)
def fT_productionLetter (S : pT) (v1 : Int32) (v2 : Int32) : Option (Int32) :=
  if v2 < 0 then (
    some (-1 : Int32)
  ) else (
    (fT_productionSize S v1).bind fun q2 =>
    if q2 ≤ v2 then (
      some (-1 : Int32)
    ) else (
      (fT_unpack S v1 v2).bind fun q5 =>
      some q5
    )
  )
set_option maxRecDepth 100000 in
set_option maxHeartbeats 4000000 in
theorem mT_productionLetter {V : ee_V} (a : Nat → Nat) (S : pT) (v1 : Int32) (v2 : Int32) (R : Int32) (hf : fT_productionLetter S v1 v2 = some R) : wk_I (ee V) yT_productionLetter ts_T_productionLetter ⟨2, 0, 0, 42⟩ [.ref (a 0), .int v1, .int v2] (cT V a S) (fun (r : Int32) (_ : Unit) => R = r) (fun _ : Unit => cT V a S) := by
  refine wk_of (ee_ok V) (by decide +kernel) rfl (Nat.le_of_ble_eq_true rfl) ?_
  intro x X Z
  unfold fT_productionLetter at hf
  refine wk_lq (lv' := [(0, .ref (a 0)), (1, .int v1), (2, .int v2)]) rfl ?_
  refine wk_iload_n X 2 dT_productionLetter_0 rfl rfl ?_
  refine wk_if_lt X dT_productionLetter_1 (tgt := 22) rfl (fun h1 => ?_) (fun h1 => ?_)
  · replace hf := p_it h1 hf
    refine wk_iconst X dT_productionLetter_22 (v := (-1 : Int32)) (by decide) ?_
    have hf := Option.some.inj hf
    exact wk_iret X Z rfl dT_productionLetter_23 () (Eq.symm hf) rfl rfl
  · replace hf := p_ie h1 hf
    refine wk_iload_n X 2 dT_productionLetter_4 rfl rfl ?_
    refine wk_aload_n X 0 dT_productionLetter_5 rfl rfl ?_
    refine wk_iload_n X 1 dT_productionLetter_6 rfl rfl ?_
    obtain ⟨q2, h3, hf⟩ := p_ob hf
    refine wk_goI [0, 1, 2, 3, 4] (wk_rV X (mT_productionSize (V := V) a S v1 q2 h3) rfl (gd (tw_308)) [0, 1, 2, 3, 4] rfl rfl 0 rfl rfl (tl tw_305) (tl tw_306) (tl tw_307) (tl tw_4) 1 pd_T_productionSize rfl ⟨rfl, rfl⟩ ⟨Nat.le_of_ble_eq_true rfl, Nat.le_of_ble_eq_true rfl⟩ rfl (Nat.le_of_ble_eq_true rfl) dT_productionLetter_7) rfl ?_
    rintro r ⟨⟩ rfl
    refine wk_ws (ws' := cT V a S) rfl ?_
    refine wk_icmp_ge X dT_productionLetter_10 (tgt := 22) rfl (fun h4 => ?_) (fun h4 => ?_)
    · replace hf := p_it h4 hf
      refine wk_iconst X dT_productionLetter_22 (v := (-1 : Int32)) (by decide) ?_
      have hf := Option.some.inj hf
      exact wk_iret X Z rfl dT_productionLetter_23 () (Eq.symm hf) rfl rfl
    · replace hf := p_ie h4 hf
      refine wk_aload_n X 0 dT_productionLetter_13 rfl rfl ?_
      refine wk_iload_n X 1 dT_productionLetter_14 rfl rfl ?_
      refine wk_iload_n X 2 dT_productionLetter_15 rfl rfl ?_
      obtain ⟨q5, h6, hf⟩ := p_ob hf
      refine wk_goI [0, 1, 2, 3, 4] (wk_rV X (mT_unpack (V := V) a S v1 v2 q5 h6) rfl (gd (tw_312)) [0, 1, 2, 3, 4] rfl rfl 0 rfl rfl (tl tw_309) (tl tw_311) (tl tv_2) (tl tw_4) 2 pd_T_unpack rfl ⟨rfl, rfl⟩ ⟨Nat.le_of_ble_eq_true rfl, Nat.le_of_ble_eq_true rfl⟩ rfl (Nat.le_of_ble_eq_true rfl) dT_productionLetter_16) rfl ?_
      rintro r ⟨⟩ rfl
      refine wk_ws (ws' := cT V a S) rfl ?_
      refine wk_goto X dT_productionLetter_19 (tgt := 23) rfl ?_
      have hf := Option.some.inj hf
      exact wk_iret X Z rfl dT_productionLetter_23 () (Eq.symm hf) rfl rfl
-- T_replaceInProduction: room (3, 64), Option (Int32 × pT)
def fT_replaceInProduction (S : pT) (v1 : Int32) (v2 : Int32) (v3 : Int32) : Option (Int32 × pT) :=
  (fT_productionLetter S v1 v2).bind fun q1 =>
  if q1 = (-1 : Int32) then (
    some ((-1 : Int32), S)
  ) else (
    if (fT_hasLetter S v3) = true then (
      (fT_pack S v1 v2 v3).bind fun q5 =>
      some (q1, q5)
    ) else (
      some ((-1 : Int32), S)
    )
  )
set_option maxRecDepth 100000 in
set_option maxHeartbeats 4000000 in
theorem mT_replaceInProduction {V : ee_V} (a : Nat → Nat) (S : pT) (v1 : Int32) (v2 : Int32) (v3 : Int32) (R : Int32 × pT) (hf : fT_replaceInProduction S v1 v2 v3 = some R) : wk_I (ee V) yT_replaceInProduction ts_T_replaceInProduction ⟨3, 0, 0, 64⟩ [.ref (a 0), .int v1, .int v2, .int v3] (cT V a S) (fun (r : Int32) (u : pT) => R.1 = r ∧ R.2 = u) (fun u : pT => cT V a u) := by
  refine wk_of (ee_ok V) (by decide +kernel) rfl (Nat.le_of_ble_eq_true rfl) ?_
  intro x X Z
  unfold fT_replaceInProduction at hf
  refine wk_lq (lv' := [(0, .ref (a 0)), (1, .int v1), (2, .int v2), (3, .int v3)]) rfl ?_
  refine wk_aload_n X 0 dT_replaceInProduction_0 rfl rfl ?_
  refine wk_iload_n X 1 dT_replaceInProduction_1 rfl rfl ?_
  refine wk_iload_n X 2 dT_replaceInProduction_2 rfl rfl ?_
  obtain ⟨q1, h2, hf⟩ := p_ob hf
  refine wk_goI [0, 1, 2, 3, 4] (wk_rV X (mT_productionLetter (V := V) a S v1 v2 q1 h2) rfl (gd (tw_304)) [0, 1, 2, 3, 4] rfl rfl 0 rfl rfl (tl tw_301) (tl tw_302) (tl tw_303) (tl tw_4) 2 pd_T_productionLetter rfl ⟨rfl, rfl⟩ ⟨Nat.le_of_ble_eq_true rfl, Nat.le_of_ble_eq_true rfl⟩ rfl (Nat.le_of_ble_eq_true rfl) dT_replaceInProduction_3) rfl ?_
  rintro r ⟨⟩ rfl
  refine wk_ws (ws' := cT V a S) rfl ?_
  refine wk_istore X dT_replaceInProduction_6 (Nat.le_of_ble_eq_true rfl) (lv' := [(4, .int q1), (0, .ref (a 0)), (1, .int v1), (2, .int v2), (3, .int v3)]) rfl ?_
  refine wk_iload X 0 dT_replaceInProduction_8 rfl ?_
  refine wk_iconst X dT_replaceInProduction_10 (v := (-1 : Int32)) (by decide) ?_
  refine wk_icmp_eq X dT_replaceInProduction_11 (tgt := 22) rfl (fun h3 => ?_) (fun h3 => ?_)
  · replace hf := p_it h3 hf
    refine wk_iconst X dT_replaceInProduction_22 (v := (-1 : Int32)) (by decide) ?_
    have hf := Option.some.inj hf
    exact wk_iret X Z rfl dT_replaceInProduction_23 (S) ⟨Eq.symm (congrArg Prod.fst hf), Eq.symm (congrArg Prod.snd hf)⟩ rfl rfl
  · replace hf := p_ie h3 hf
    refine wk_aload_n X 1 dT_replaceInProduction_14 rfl rfl ?_
    refine wk_iload_n X 4 dT_replaceInProduction_15 rfl rfl ?_
    refine wk_goI [0, 1, 2, 3, 4] (wk_rV X (mT_hasLetter (V := V) a S v3 (fT_hasLetter S v3) rfl) rfl (gd (tw_229)) [0, 1, 2, 3, 4] rfl rfl 0 rfl rfl (tl tw_226) (tl tw_227) (tl tw_228) (tl tw_4) 1 pd_T_hasLetter rfl ⟨rfl, rfl⟩ ⟨Nat.le_of_ble_eq_true rfl, Nat.le_of_ble_eq_true rfl⟩ rfl (Nat.le_of_ble_eq_true rfl) dT_replaceInProduction_16) rfl ?_
    rintro r ⟨⟩ rfl
    refine wk_ws (ws' := cT V a S) rfl ?_
    refine wk_bz_ne X dT_replaceInProduction_19 (tgt := 24) rfl (fun h4 => ?_) (fun h4 => ?_)
    · replace hf := p_it h4 hf
      refine wk_aload_n X 1 dT_replaceInProduction_24 rfl rfl ?_
      refine wk_iload_n X 2 dT_replaceInProduction_25 rfl rfl ?_
      refine wk_iload_n X 3 dT_replaceInProduction_26 rfl rfl ?_
      refine wk_iload_n X 4 dT_replaceInProduction_27 rfl rfl ?_
      obtain ⟨q5, h6, hf⟩ := p_ob hf
      refine wk_goV [0, 1, 2, 3, 4] (wk_rV X (mT_pack (V := V) a S v1 v2 v3 q5 h6) rfl (gd (tw_255)) [0, 1, 2, 3, 4] rfl rfl 0 rfl rfl (tl tw_252) (tl tw_254) (tl tv_1) (tl tw_4) 3 pd_T_pack rfl ⟨rfl, rfl⟩ ⟨Nat.le_of_ble_eq_true rfl, Nat.le_of_ble_eq_true rfl⟩ rfl (Nat.le_of_ble_eq_true rfl) dT_replaceInProduction_28) rfl ?_
      rintro u rfl
      refine wk_ws (ws' := cT V a q5) rfl ?_
      refine wk_iload X 0 dT_replaceInProduction_31 rfl ?_
      have hf := Option.some.inj hf
      exact wk_iret X Z rfl dT_replaceInProduction_33 (q5) ⟨Eq.symm (congrArg Prod.fst hf), Eq.symm (congrArg Prod.snd hf)⟩ rfl rfl
    · replace hf := p_ie h4 hf
      refine wk_iconst X dT_replaceInProduction_22 (v := (-1 : Int32)) (by decide) ?_
      have hf := Option.some.inj hf
      exact wk_iret X Z rfl dT_replaceInProduction_23 (S) ⟨Eq.symm (congrArg Prod.fst hf), Eq.symm (congrArg Prod.snd hf)⟩ rfl rfl
-- X_spoil: room (4, 88), Option (Int32 × pX)
def fX_spoil (S : pX) (v1 : Int32) (v2 : Int32) (v3 : Int32) : Option (Int32 × pX) :=
  (fT_replaceInProduction S.2.1 v1 v2 v3).bind fun q1 =>
  some (q1.1, (S.1, q1.2, S.2.2.1, S.2.2.2))
set_option maxRecDepth 100000 in
set_option maxHeartbeats 4000000 in
theorem mX_spoil {V : ee_V} (a : Nat → Nat) (S : pX) (v1 : Int32) (v2 : Int32) (v3 : Int32) (R : Int32 × pX) (hf : fX_spoil S v1 v2 v3 = some R) : wk_I (ee V) yX_spoil ts_X_spoil ⟨4, 0, 0, 88⟩ [.ref (a 0), .int v1, .int v2, .int v3] (cX V a S) (fun (r : Int32) (u : pX) => R.1 = r ∧ R.2 = u) (fun u : pX => cX V a u) := by
  refine wk_of (ee_ok V) (by decide +kernel) rfl (Nat.le_of_ble_eq_true rfl) ?_
  intro x X Z
  unfold fX_spoil at hf
  refine wk_lq (lv' := [(0, .ref (a 0)), (1, .int v1), (2, .int v2), (3, .int v3)]) rfl ?_
  refine wk_aload_n X 0 dX_spoil_0 rfl rfl ?_
  refine wk_get X uw_X 0 rfl rfl 1 (Nat.le_of_ble_eq_true rfl) (tl tw_139) rfl rfl dX_spoil_1 ?_
  refine wk_iload_n X 1 dX_spoil_4 rfl rfl ?_
  refine wk_iload_n X 2 dX_spoil_5 rfl rfl ?_
  refine wk_iload_n X 3 dX_spoil_6 rfl rfl ?_
  obtain ⟨q1, h2, hf⟩ := p_ob hf
  refine wk_goI [5, 6, 7, 8, 9] (wk_rV X (mT_replaceInProduction (V := V) (fun i => a (i + 5)) S.2.1 v1 v2 v3 q1 h2) rfl (gd (tw_300)) [5, 6, 7, 8, 9] rfl rfl 5 rfl rfl (tl tw_297) (tl tw_298) (tl tw_299) (tl tw_4) 3 pd_T_replaceInProduction rfl ⟨rfl, rfl⟩ ⟨Nat.le_of_ble_eq_true rfl, Nat.le_of_ble_eq_true rfl⟩ rfl (Nat.le_of_ble_eq_true rfl) dX_spoil_7) rfl ?_
  rintro r u ⟨rfl, rfl⟩
  refine wk_ws (ws' := cX V a (S.1, q1.2, S.2.2.1, S.2.2.2)) rfl ?_
  have hf := Option.some.inj hf
  exact wk_iret X Z rfl dX_spoil_10 ((S.1, q1.2, S.2.2.1, S.2.2.2)) ⟨Eq.symm (congrArg Prod.fst hf), Eq.symm (congrArg Prod.snd hf)⟩ rfl rfl
-- X_halts: room (2, 43), Option (Bool × pX)
def fX_halts (S : pX) (v1 : Int32) (v2 : Bool) : Option (Bool × pX) :=
  (fT_setHalting S.2.1 v1 v2).bind fun q1 =>
  some (q1.1, (S.1, q1.2, S.2.2.1, S.2.2.2))
set_option maxRecDepth 100000 in
set_option maxHeartbeats 4000000 in
theorem mX_halts {V : ee_V} (a : Nat → Nat) (S : pX) (v1 : Int32) (v2 : Bool) (R : Bool × pX) (hf : fX_halts S v1 v2 = some R) : wk_I (ee V) yX_halts ts_X_halts ⟨2, 0, 0, 43⟩ [.ref (a 0), .int v1, .int (p_b v2)] (cX V a S) (fun (r : Int32) (u : pX) => p_b (R.1) = r ∧ R.2 = u) (fun u : pX => cX V a u) := by
  refine wk_of (ee_ok V) (by decide +kernel) rfl (Nat.le_of_ble_eq_true rfl) ?_
  intro x X Z
  unfold fX_halts at hf
  refine wk_lq (lv' := [(0, .ref (a 0)), (1, .int v1), (2, .int (p_b v2))]) rfl ?_
  refine wk_aload_n X 0 dX_halts_0 rfl rfl ?_
  refine wk_get X uw_X 0 rfl rfl 1 (Nat.le_of_ble_eq_true rfl) (tl tw_139) rfl rfl dX_halts_1 ?_
  refine wk_iload_n X 1 dX_halts_4 rfl rfl ?_
  refine wk_iload_n X 2 dX_halts_5 rfl rfl ?_
  obtain ⟨q1, h2, hf⟩ := p_ob hf
  refine wk_goI [5, 6, 7, 8, 9] (wk_rV X (mT_setHalting (V := V) (fun i => a (i + 5)) S.2.1 v1 v2 q1 h2) rfl (gd (tw_225)) [5, 6, 7, 8, 9] rfl rfl 5 rfl rfl (tl tw_317) (tl tw_223) (tl tw_224) (tl tw_4) 2 pd_T_setHalting rfl ⟨rfl, rfl⟩ ⟨Nat.le_of_ble_eq_true rfl, Nat.le_of_ble_eq_true rfl⟩ rfl (Nat.le_of_ble_eq_true rfl) dX_halts_6) rfl ?_
  rintro r u ⟨rfl, rfl⟩
  refine wk_ws (ws' := cX V a (S.1, q1.2, S.2.2.1, S.2.2.2)) rfl ?_
  have hf := Option.some.inj hf
  exact wk_iret X Z (p_nar _) dX_halts_9 ((S.1, q1.2, S.2.2.1, S.2.2.2)) ⟨Eq.symm (congrArg p_b (congrArg Prod.fst hf)), Eq.symm (congrArg Prod.snd hf)⟩ rfl rfl
-- X_put: room (1, 21), Option (Bool × pX)
def fX_put (S : pX) (v1 : Int32) : Option (Bool × pX) :=
  if (fT_hasLetter S.2.1 v1) = true then (
    if S.2.1.2.2.2.2.2.1 < (4000 : Int32) then (
      (fT_append S.2.1 v1).bind fun q3 =>
      some (true, (S.1, q3, S.2.2.1, S.2.2.2))
    ) else (
      some (false, S)
    )
  ) else (
    some (false, S)
  )
set_option maxRecDepth 100000 in
set_option maxHeartbeats 4000000 in
theorem mX_put {V : ee_V} (a : Nat → Nat) (S : pX) (v1 : Int32) (R : Bool × pX) (hf : fX_put S v1 = some R) : wk_I (ee V) yX_put ts_X_put ⟨1, 0, 0, 21⟩ [.ref (a 0), .int v1] (cX V a S) (fun (r : Int32) (u : pX) => p_b (R.1) = r ∧ R.2 = u) (fun u : pX => cX V a u) := by
  refine wk_of (ee_ok V) (by decide +kernel) rfl (Nat.le_of_ble_eq_true rfl) ?_
  intro x X Z
  unfold fX_put at hf
  refine wk_lq (lv' := [(0, .ref (a 0)), (1, .int v1)]) rfl ?_
  refine wk_aload_n X 0 dX_put_0 rfl rfl ?_
  refine wk_get X uw_X 0 rfl rfl 1 (Nat.le_of_ble_eq_true rfl) (tl tw_139) rfl rfl dX_put_1 ?_
  refine wk_iload_n X 1 dX_put_4 rfl rfl ?_
  refine wk_goI [5, 6, 7, 8, 9] (wk_rV X (mT_hasLetter (V := V) (fun i => a (i + 5)) S.2.1 v1 (fT_hasLetter S.2.1 v1) rfl) rfl (gd (tw_229)) [5, 6, 7, 8, 9] rfl rfl 5 rfl rfl (tl tw_322) (tl tw_227) (tl tw_228) (tl tw_4) 1 pd_T_hasLetter rfl ⟨rfl, rfl⟩ ⟨Nat.le_of_ble_eq_true rfl, Nat.le_of_ble_eq_true rfl⟩ rfl (Nat.le_of_ble_eq_true rfl) dX_put_5) rfl ?_
  rintro r ⟨⟩ rfl
  refine wk_ws (ws' := cX V a S) rfl ?_
  refine wk_bz_eq X dX_put_8 (tgt := 24) rfl (fun h1 => ?_) (fun h1 => ?_)
  · replace hf := p_ie h1 hf
    refine wk_iconst X dX_put_24 (v := (0 : Int32)) (by decide) ?_
    have hf := Option.some.inj hf
    exact wk_iret X Z rfl dX_put_25 (S) ⟨Eq.symm (congrArg p_b (congrArg Prod.fst hf)), Eq.symm (congrArg Prod.snd hf)⟩ rfl rfl
  · replace hf := p_it h1 hf
    refine wk_aload_n X 0 dX_put_11 rfl rfl ?_
    refine wk_get X uw_X 0 rfl rfl 1 (Nat.le_of_ble_eq_true rfl) (tl tw_139) rfl rfl dX_put_12 ?_
    refine wk_get X uw_T 5 rfl rfl 5 (Nat.le_of_ble_eq_true rfl) (tl tw_73) rfl rfl dX_put_15 ?_
    refine wk_sipush X dX_put_18 (v := (4000 : Int32)) (by decide) ?_
    refine wk_icmp_lt X dX_put_21 (tgt := 26) rfl (fun h2 => ?_) (fun h2 => ?_)
    · replace hf := p_it h2 hf
      refine wk_aload_n X 0 dX_put_26 rfl rfl ?_
      refine wk_get X uw_X 0 rfl rfl 1 (Nat.le_of_ble_eq_true rfl) (tl tw_139) rfl rfl dX_put_27 ?_
      refine wk_iload_n X 1 dX_put_30 rfl rfl ?_
      obtain ⟨q3, h4, hf⟩ := p_ob hf
      refine wk_goV [5, 6, 7, 8, 9] (wk_rV X (mT_append (V := V) (fun i => a (i + 5)) S.2.1 v1 q3 h4) rfl (gd (tw_277)) [5, 6, 7, 8, 9] rfl rfl 5 rfl rfl (tl tw_323) (tl tw_275) (tl tw_276) (tl tw_4) 1 pd_T_append rfl ⟨rfl, rfl⟩ ⟨Nat.le_of_ble_eq_true rfl, Nat.le_of_ble_eq_true rfl⟩ rfl (Nat.le_of_ble_eq_true rfl) dX_put_31) rfl ?_
      rintro u rfl
      refine wk_ws (ws' := cX V a (S.1, q3, S.2.2.1, S.2.2.2)) rfl ?_
      refine wk_iconst X dX_put_34 (v := (1 : Int32)) (by decide) ?_
      have hf := Option.some.inj hf
      exact wk_iret X Z rfl dX_put_35 ((S.1, q3, S.2.2.1, S.2.2.2)) ⟨Eq.symm (congrArg p_b (congrArg Prod.fst hf)), Eq.symm (congrArg Prod.snd hf)⟩ rfl rfl
    · replace hf := p_ie h2 hf
      refine wk_iconst X dX_put_24 (v := (0 : Int32)) (by decide) ?_
      have hf := Option.some.inj hf
      exact wk_iret X Z rfl dX_put_25 (S) ⟨Eq.symm (congrArg p_b (congrArg Prod.fst hf)), Eq.symm (congrArg Prod.snd hf)⟩ rfl rfl
-- X_production: room (3, 64), Option (Int32)
def fX_production (S : pX) (v1 : Int32) (v2 : Int32) : Option (Int32) :=
  (fT_productionLetter S.2.1 v1 v2).bind fun q1 =>
  some q1
set_option maxRecDepth 100000 in
set_option maxHeartbeats 4000000 in
theorem mX_production {V : ee_V} (a : Nat → Nat) (S : pX) (v1 : Int32) (v2 : Int32) (R : Int32) (hf : fX_production S v1 v2 = some R) : wk_I (ee V) yX_production ts_X_production ⟨3, 0, 0, 64⟩ [.ref (a 0), .int v1, .int v2] (cX V a S) (fun (r : Int32) (_ : Unit) => R = r) (fun _ : Unit => cX V a S) := by
  refine wk_of (ee_ok V) (by decide +kernel) rfl (Nat.le_of_ble_eq_true rfl) ?_
  intro x X Z
  unfold fX_production at hf
  refine wk_lq (lv' := [(0, .ref (a 0)), (1, .int v1), (2, .int v2)]) rfl ?_
  refine wk_aload_n X 0 dX_production_0 rfl rfl ?_
  refine wk_get X uw_X 0 rfl rfl 1 (Nat.le_of_ble_eq_true rfl) (tl tw_139) rfl rfl dX_production_1 ?_
  refine wk_iload_n X 1 dX_production_4 rfl rfl ?_
  refine wk_iload_n X 2 dX_production_5 rfl rfl ?_
  obtain ⟨q1, h2, hf⟩ := p_ob hf
  refine wk_goI [5, 6, 7, 8, 9] (wk_rV X (mT_productionLetter (V := V) (fun i => a (i + 5)) S.2.1 v1 v2 q1 h2) rfl (gd (tw_304)) [5, 6, 7, 8, 9] rfl rfl 5 rfl rfl (tl tw_328) (tl tw_302) (tl tw_303) (tl tw_4) 2 pd_T_productionLetter rfl ⟨rfl, rfl⟩ ⟨Nat.le_of_ble_eq_true rfl, Nat.le_of_ble_eq_true rfl⟩ rfl (Nat.le_of_ble_eq_true rfl) dX_production_6) rfl ?_
  rintro r ⟨⟩ rfl
  refine wk_ws (ws' := cX V a S) rfl ?_
  have hf := Option.some.inj hf
  exact wk_iret X Z rfl dX_production_9 () (Eq.symm hf) rfl rfl

-- R_tapeCan: room (1, 21), Option (Int32)
def fR_tapeCan (S : pR) : Option (Int32) :=
  (fR_goesOn S (fR_ruleOf S.1.2.2.2.2.1 S.1.2.2.2.2.2.1)).bind fun q1 =>
  if q1 = true then (
    (p_rd 16 S.1.2.2.1 (fR_ruleOf S.1.2.2.2.2.1 S.1.2.2.2.2.2.1)).bind fun q4 =>
    if q4 = (1 : Int32) then (
      (p_rd 16 S.1.2.1 (fR_ruleOf S.1.2.2.2.2.1 S.1.2.2.2.2.2.1)).bind fun q10 =>
      if (((2 : Int32) * S.1.2.2.2.2.2.2.1) + q10) < (256 : Int32) then (
        some (1 : Int32)
      ) else (
        some (-2 : Int32)
      )
    ) else (
      (p_rd 16 S.1.2.1 (fR_ruleOf S.1.2.2.2.2.1 S.1.2.2.2.2.2.1)).bind fun q7 =>
      if (((2 : Int32) * S.1.2.2.2.2.2.2.2) + q7) < (256 : Int32) then (
        some (1 : Int32)
      ) else (
        some (-2 : Int32)
      )
    )
  ) else (
    some (0 : Int32)
  )
set_option maxRecDepth 100000 in
set_option maxHeartbeats 4000000 in
theorem mR_tapeCan {V : ee_V} (a : Nat → Nat) (S : pR) (R : Int32) (hf : fR_tapeCan S = some R) : wk_I (ee V) yR_tapeCan ts_R_tapeCan ⟨1, 0, 0, 21⟩ [.ref (a 0)] (cR V a S) (fun (r : Int32) (_ : Unit) => R = r) (fun _ : Unit => cR V a S) := by
  refine wk_of (ee_ok V) (by decide +kernel) rfl (Nat.le_of_ble_eq_true rfl) ?_
  intro x X Z
  unfold fR_tapeCan at hf
  refine wk_lq (lv' := [(0, .ref (a 0))]) rfl ?_
  refine wk_aload_n X 0 dR_tapeCan_0 rfl rfl ?_
  refine wk_get X uw_R 0 rfl rfl 4 (Nat.le_of_ble_eq_true rfl) (tl tw_541) rfl rfl dR_tapeCan_1 ?_
  refine wk_aload_n X 0 dR_tapeCan_4 rfl rfl ?_
  refine wk_get X uw_R 0 rfl rfl 5 (Nat.le_of_ble_eq_true rfl) (tl tw_542) rfl rfl dR_tapeCan_5 ?_
  refine wk_goI [] (wk_rS X (mR_ruleOf (V := V) S.1.2.2.2.2.1 S.1.2.2.2.2.2.1 (fR_ruleOf S.1.2.2.2.2.1 S.1.2.2.2.2.2.1) rfl) rfl (gd (tw_655)) [] rfl rfl (tl tw_653) (tl tw_654) (tl tw_7) 2 pd_R_ruleOf rfl ⟨rfl, rfl⟩ ⟨Nat.le_of_ble_eq_true rfl, Nat.le_of_ble_eq_true rfl⟩ rfl (Nat.le_of_ble_eq_true rfl) dR_tapeCan_8) rfl ?_
  rintro r ⟨⟩ rfl
  refine wk_ws (ws' := cR V a S) rfl ?_
  refine wk_istore_n X dR_tapeCan_11 rfl (Nat.le_of_ble_eq_true rfl) (lv' := [(1, .int (fR_ruleOf S.1.2.2.2.2.1 S.1.2.2.2.2.2.1)), (0, .ref (a 0))]) rfl ?_
  refine wk_aload_n X 1 dR_tapeCan_12 rfl rfl ?_
  refine wk_iload_n X 0 dR_tapeCan_13 rfl rfl ?_
  obtain ⟨q1, h2, hf⟩ := p_ob hf
  refine wk_goI [0, 1, 2, 3, 4, 5, 6, 7, 8, 9, 10, 11, 12] (wk_rV X (mR_goesOn (V := V) a S (fR_ruleOf S.1.2.2.2.2.1 S.1.2.2.2.2.2.1) q1 h2) rfl (gd (tw_659)) [0, 1, 2, 3, 4, 5, 6, 7, 8, 9, 10, 11, 12] rfl rfl 0 rfl rfl (tl tw_656) (tl tw_658) (tl tv_5) (tl tw_7) 1 pd_R_goesOn rfl ⟨rfl, rfl⟩ ⟨Nat.le_of_ble_eq_true rfl, Nat.le_of_ble_eq_true rfl⟩ rfl (Nat.le_of_ble_eq_true rfl) dR_tapeCan_14) rfl ?_
  rintro r ⟨⟩ rfl
  refine wk_ws (ws' := cR V a S) rfl ?_
  refine wk_bz_ne X dR_tapeCan_17 (tgt := 22) rfl (fun h3 => ?_) (fun h3 => ?_)
  · replace hf := p_it h3 hf
    refine wk_iconst X dR_tapeCan_22 (v := (2 : Int32)) (by decide) ?_
    refine wk_aload_n X 1 dR_tapeCan_23 rfl rfl ?_
    refine wk_get X uw_R 0 rfl rfl 2 (Nat.le_of_ble_eq_true rfl) (tl tw_539) rfl rfl dR_tapeCan_24 ?_
    refine wk_iload_n X 0 dR_tapeCan_27 rfl rfl ?_
    obtain ⟨q4, h5, hf⟩ := p_ob hf
    obtain ⟨h5i, h5e⟩ := p_rd_some h5
    refine wk_iald X 3 0 rfl rfl h5i h5e dR_tapeCan_28 ?_
    refine wk_iconst X dR_tapeCan_29 (v := (1 : Int32)) (by decide) ?_
    refine wk_icmp_ne X dR_tapeCan_30 (tgt := 40) rfl (fun h6 => ?_) (fun h6 => ?_)
    · replace hf := p_ie h6 hf
      refine wk_aload_n X 1 dR_tapeCan_40 rfl rfl ?_
      refine wk_get X uw_R 0 rfl rfl 7 (Nat.le_of_ble_eq_true rfl) (tl tw_544) rfl rfl dR_tapeCan_41 ?_
      refine wk_imul X dR_tapeCan_44 ?_
      refine wk_aload_n X 1 dR_tapeCan_45 rfl rfl ?_
      refine wk_get X uw_R 0 rfl rfl 1 (Nat.le_of_ble_eq_true rfl) (tl tw_538) rfl rfl dR_tapeCan_46 ?_
      refine wk_iload_n X 0 dR_tapeCan_49 rfl rfl ?_
      obtain ⟨q7, h8, hf⟩ := p_ob hf
      obtain ⟨h8i, h8e⟩ := p_rd_some h8
      refine wk_iald X 2 0 rfl rfl h8i h8e dR_tapeCan_50 ?_
      refine wk_iadd X dR_tapeCan_51 ?_
      refine wk_sipush X dR_tapeCan_52 (v := (256 : Int32)) (by decide) ?_
      refine wk_icmp_lt X dR_tapeCan_55 (tgt := 63) rfl (fun h9 => ?_) (fun h9 => ?_)
      · replace hf := p_it h9 hf
        refine wk_iconst X dR_tapeCan_63 (v := (1 : Int32)) (by decide) ?_
        have hf := Option.some.inj hf
        exact wk_iret X Z rfl dR_tapeCan_64 () (Eq.symm hf) rfl rfl
      · replace hf := p_ie h9 hf
        refine wk_bipush X dR_tapeCan_58 (v := (-2 : Int32)) (by decide) ?_
        refine wk_goto X dR_tapeCan_60 (tgt := 64) rfl ?_
        have hf := Option.some.inj hf
        exact wk_iret X Z rfl dR_tapeCan_64 () (Eq.symm hf) rfl rfl
    · replace hf := p_it h6 hf
      refine wk_aload_n X 1 dR_tapeCan_33 rfl rfl ?_
      refine wk_get X uw_R 0 rfl rfl 6 (Nat.le_of_ble_eq_true rfl) (tl tw_543) rfl rfl dR_tapeCan_34 ?_
      refine wk_goto X dR_tapeCan_37 (tgt := 44) rfl ?_
      refine wk_imul X dR_tapeCan_44 ?_
      refine wk_aload_n X 1 dR_tapeCan_45 rfl rfl ?_
      refine wk_get X uw_R 0 rfl rfl 1 (Nat.le_of_ble_eq_true rfl) (tl tw_538) rfl rfl dR_tapeCan_46 ?_
      refine wk_iload_n X 0 dR_tapeCan_49 rfl rfl ?_
      obtain ⟨q10, h11, hf⟩ := p_ob hf
      obtain ⟨h11i, h11e⟩ := p_rd_some h11
      refine wk_iald X 2 0 rfl rfl h11i h11e dR_tapeCan_50 ?_
      refine wk_iadd X dR_tapeCan_51 ?_
      refine wk_sipush X dR_tapeCan_52 (v := (256 : Int32)) (by decide) ?_
      refine wk_icmp_lt X dR_tapeCan_55 (tgt := 63) rfl (fun h12 => ?_) (fun h12 => ?_)
      · replace hf := p_it h12 hf
        refine wk_iconst X dR_tapeCan_63 (v := (1 : Int32)) (by decide) ?_
        have hf := Option.some.inj hf
        exact wk_iret X Z rfl dR_tapeCan_64 () (Eq.symm hf) rfl rfl
      · replace hf := p_ie h12 hf
        refine wk_bipush X dR_tapeCan_58 (v := (-2 : Int32)) (by decide) ?_
        refine wk_goto X dR_tapeCan_60 (tgt := 64) rfl ?_
        have hf := Option.some.inj hf
        exact wk_iret X Z rfl dR_tapeCan_64 () (Eq.symm hf) rfl rfl
  · replace hf := p_ie h3 hf
    refine wk_iconst X dR_tapeCan_20 (v := (0 : Int32)) (by decide) ?_
    have hf := Option.some.inj hf
    exact wk_iret X Z rfl dR_tapeCan_21 () (Eq.symm hf) rfl rfl
-- R_tapeStep: room (1, 21), Option (pR)
def fR_tapeStep (S : pR) : Option (pR) :=
  (p_rd 16 S.1.2.2.1 (fR_ruleOf S.1.2.2.2.2.1 S.1.2.2.2.2.2.1)).bind fun q1 =>
  if q1 = (1 : Int32) then (
    (p_rd 16 S.1.2.1 (fR_ruleOf S.1.2.2.2.2.1 S.1.2.2.2.2.2.1)).bind fun q14 =>
    (p_rd 16 S.1.2.2.2.1 (fR_ruleOf S.1.2.2.2.2.1 S.1.2.2.2.2.2.1)).bind fun q22 =>
    some ((S.1.1, S.1.2.1, S.1.2.2.1, S.1.2.2.2.1, q22, (S.1.2.2.2.2.2.2.2 - S.1.2.2.2.2.2.2.2 / (2 : Int32) * (2 : Int32)), (((2 : Int32) * S.1.2.2.2.2.2.2.1) + q14), (S.1.2.2.2.2.2.2.2 / (2 : Int32))), S.2.1, S.2.2.1, S.2.2.2)
  ) else (
    (p_rd 16 S.1.2.1 (fR_ruleOf S.1.2.2.2.2.1 S.1.2.2.2.2.2.1)).bind fun q4 =>
    (p_rd 16 S.1.2.2.2.1 (fR_ruleOf S.1.2.2.2.2.1 S.1.2.2.2.2.2.1)).bind fun q12 =>
    some ((S.1.1, S.1.2.1, S.1.2.2.1, S.1.2.2.2.1, q12, (S.1.2.2.2.2.2.2.1 - S.1.2.2.2.2.2.2.1 / (2 : Int32) * (2 : Int32)), (S.1.2.2.2.2.2.2.1 / (2 : Int32)), (((2 : Int32) * S.1.2.2.2.2.2.2.2) + q4)), S.2.1, S.2.2.1, S.2.2.2)
  )
set_option maxRecDepth 100000 in
set_option maxHeartbeats 4000000 in
theorem mR_tapeStep {V : ee_V} (a : Nat → Nat) (S : pR) (R : pR) (hf : fR_tapeStep S = some R) : wk_V (ee V) yR_tapeStep ts_R_tapeStep ⟨1, 0, 0, 21⟩ [.ref (a 0)] (cR V a S) (fun u : pR => R = u) (fun u : pR => cR V a u) := by
  refine wk_of (ee_ok V) (by decide +kernel) rfl (Nat.le_of_ble_eq_true rfl) ?_
  intro x X Z
  unfold fR_tapeStep at hf
  refine wk_lq (lv' := [(0, .ref (a 0))]) rfl ?_
  refine wk_aload_n X 0 dR_tapeStep_0 rfl rfl ?_
  refine wk_get X uw_R 0 rfl rfl 4 (Nat.le_of_ble_eq_true rfl) (tl tw_541) rfl rfl dR_tapeStep_1 ?_
  refine wk_aload_n X 0 dR_tapeStep_4 rfl rfl ?_
  refine wk_get X uw_R 0 rfl rfl 5 (Nat.le_of_ble_eq_true rfl) (tl tw_542) rfl rfl dR_tapeStep_5 ?_
  refine wk_goI [] (wk_rS X (mR_ruleOf (V := V) S.1.2.2.2.2.1 S.1.2.2.2.2.2.1 (fR_ruleOf S.1.2.2.2.2.1 S.1.2.2.2.2.2.1) rfl) rfl (gd (tw_655)) [] rfl rfl (tl tw_653) (tl tw_654) (tl tw_7) 2 pd_R_ruleOf rfl ⟨rfl, rfl⟩ ⟨Nat.le_of_ble_eq_true rfl, Nat.le_of_ble_eq_true rfl⟩ rfl (Nat.le_of_ble_eq_true rfl) dR_tapeStep_8) rfl ?_
  rintro r ⟨⟩ rfl
  refine wk_ws (ws' := cR V a S) rfl ?_
  refine wk_istore_n X dR_tapeStep_11 rfl (Nat.le_of_ble_eq_true rfl) (lv' := [(1, .int (fR_ruleOf S.1.2.2.2.2.1 S.1.2.2.2.2.2.1)), (0, .ref (a 0))]) rfl ?_
  refine wk_iconst X dR_tapeStep_12 (v := (2 : Int32)) (by decide) ?_
  refine wk_aload_n X 1 dR_tapeStep_13 rfl rfl ?_
  refine wk_get X uw_R 0 rfl rfl 2 (Nat.le_of_ble_eq_true rfl) (tl tw_539) rfl rfl dR_tapeStep_14 ?_
  refine wk_iload_n X 0 dR_tapeStep_17 rfl rfl ?_
  obtain ⟨q1, h2, hf⟩ := p_ob hf
  obtain ⟨h2i, h2e⟩ := p_rd_some h2
  refine wk_iald X 3 0 rfl rfl h2i h2e dR_tapeStep_18 ?_
  refine wk_iconst X dR_tapeStep_19 (v := (1 : Int32)) (by decide) ?_
  refine wk_icmp_ne X dR_tapeStep_20 (tgt := 30) rfl (fun h3 => ?_) (fun h3 => ?_)
  · replace hf := p_ie h3 hf
    refine wk_aload_n X 1 dR_tapeStep_30 rfl rfl ?_
    refine wk_get X uw_R 0 rfl rfl 7 (Nat.le_of_ble_eq_true rfl) (tl tw_544) rfl rfl dR_tapeStep_31 ?_
    refine wk_imul X dR_tapeStep_34 ?_
    refine wk_aload_n X 1 dR_tapeStep_35 rfl rfl ?_
    refine wk_get X uw_R 0 rfl rfl 1 (Nat.le_of_ble_eq_true rfl) (tl tw_538) rfl rfl dR_tapeStep_36 ?_
    refine wk_iload_n X 0 dR_tapeStep_39 rfl rfl ?_
    obtain ⟨q4, h5, hf⟩ := p_ob hf
    obtain ⟨h5i, h5e⟩ := p_rd_some h5
    refine wk_iald X 2 0 rfl rfl h5i h5e dR_tapeStep_40 ?_
    refine wk_iadd X dR_tapeStep_41 ?_
    refine wk_istore_n X dR_tapeStep_42 rfl (Nat.le_of_ble_eq_true rfl) (lv' := [(2, .int (((2 : Int32) * S.1.2.2.2.2.2.2.2) + q4)), (1, .int (fR_ruleOf S.1.2.2.2.2.1 S.1.2.2.2.2.2.1)), (0, .ref (a 0))]) rfl ?_
    refine wk_aload_n X 2 dR_tapeStep_43 rfl rfl ?_
    refine wk_get X uw_R 0 rfl rfl 2 (Nat.le_of_ble_eq_true rfl) (tl tw_539) rfl rfl dR_tapeStep_44 ?_
    refine wk_iload_n X 1 dR_tapeStep_47 rfl rfl ?_
    refine wk_iald X 3 0 rfl rfl h2i h2e dR_tapeStep_48 ?_
    refine wk_iconst X dR_tapeStep_49 (v := (1 : Int32)) (by decide) ?_
    refine wk_icmp_ne X dR_tapeStep_50 (tgt := 60) rfl (fun _ => ?_) (fun h => absurd h h3)
    refine wk_aload_n X 2 dR_tapeStep_60 rfl rfl ?_
    refine wk_get X uw_R 0 rfl rfl 6 (Nat.le_of_ble_eq_true rfl) (tl tw_543) rfl rfl dR_tapeStep_61 ?_
    refine wk_istore_n X dR_tapeStep_64 rfl (Nat.le_of_ble_eq_true rfl) (lv' := [(3, .int S.1.2.2.2.2.2.2.1), (2, .int (((2 : Int32) * S.1.2.2.2.2.2.2.2) + q4)), (1, .int (fR_ruleOf S.1.2.2.2.2.1 S.1.2.2.2.2.2.1)), (0, .ref (a 0))]) rfl ?_
    refine wk_aload_n X 3 dR_tapeStep_65 rfl rfl ?_
    refine wk_iload_n X 0 dR_tapeStep_66 rfl rfl ?_
    refine wk_iconst X dR_tapeStep_67 (v := (2 : Int32)) (by decide) ?_
    refine wk_irem X dR_tapeStep_68 (by decide) ?_
    refine wk_put X uw_R 0 rfl rfl 5 (Nat.le_of_ble_eq_true rfl) ft_R ft_R_ok fn_R (tl tw_542) rfl rfl rfl rfl (Nat.le_of_ble_eq_true rfl) dR_tapeStep_69 (ws' := cR V a ((S.1.1, S.1.2.1, S.1.2.2.1, S.1.2.2.2.1, S.1.2.2.2.2.1, (S.1.2.2.2.2.2.2.1 - S.1.2.2.2.2.2.2.1 / (2 : Int32) * (2 : Int32)), S.1.2.2.2.2.2.2.1, S.1.2.2.2.2.2.2.2), S.2.1, S.2.2.1, S.2.2.2)) rfl ?_
    refine wk_aload_n X 3 dR_tapeStep_72 rfl rfl ?_
    refine wk_aload_n X 3 dR_tapeStep_73 rfl rfl ?_
    refine wk_get X uw_R 0 rfl rfl 2 (Nat.le_of_ble_eq_true rfl) (tl tw_539) rfl rfl dR_tapeStep_74 ?_
    refine wk_iload_n X 2 dR_tapeStep_77 rfl rfl ?_
    refine wk_iald X 3 0 rfl rfl h2i h2e dR_tapeStep_78 ?_
    refine wk_iconst X dR_tapeStep_79 (v := (1 : Int32)) (by decide) ?_
    refine wk_icmp_ne X dR_tapeStep_80 (tgt := 87) rfl (fun _ => ?_) (fun h => absurd h h3)
    refine wk_iload_n X 0 dR_tapeStep_87 rfl rfl ?_
    refine wk_iconst X dR_tapeStep_88 (v := (2 : Int32)) (by decide) ?_
    refine wk_idiv X dR_tapeStep_89 (by decide) ?_
    refine wk_put X uw_R 0 rfl rfl 6 (Nat.le_of_ble_eq_true rfl) ft_R ft_R_ok fn_R (tl tw_543) rfl rfl rfl rfl (Nat.le_of_ble_eq_true rfl) dR_tapeStep_90 (ws' := cR V a ((S.1.1, S.1.2.1, S.1.2.2.1, S.1.2.2.2.1, S.1.2.2.2.2.1, (S.1.2.2.2.2.2.2.1 - S.1.2.2.2.2.2.2.1 / (2 : Int32) * (2 : Int32)), (S.1.2.2.2.2.2.2.1 / (2 : Int32)), S.1.2.2.2.2.2.2.2), S.2.1, S.2.2.1, S.2.2.2)) rfl ?_
    refine wk_aload_n X 3 dR_tapeStep_93 rfl rfl ?_
    refine wk_aload_n X 3 dR_tapeStep_94 rfl rfl ?_
    refine wk_get X uw_R 0 rfl rfl 2 (Nat.le_of_ble_eq_true rfl) (tl tw_539) rfl rfl dR_tapeStep_95 ?_
    refine wk_iload_n X 2 dR_tapeStep_98 rfl rfl ?_
    refine wk_iald X 3 0 rfl rfl h2i h2e dR_tapeStep_99 ?_
    refine wk_iconst X dR_tapeStep_100 (v := (1 : Int32)) (by decide) ?_
    refine wk_icmp_ne X dR_tapeStep_101 (tgt := 110) rfl (fun _ => ?_) (fun h => absurd h h3)
    refine wk_iload_n X 1 dR_tapeStep_110 rfl rfl ?_
    refine wk_put X uw_R 0 rfl rfl 7 (Nat.le_of_ble_eq_true rfl) ft_R ft_R_ok fn_R (tl tw_544) rfl rfl rfl rfl (Nat.le_of_ble_eq_true rfl) dR_tapeStep_111 (ws' := cR V a ((S.1.1, S.1.2.1, S.1.2.2.1, S.1.2.2.2.1, S.1.2.2.2.2.1, (S.1.2.2.2.2.2.2.1 - S.1.2.2.2.2.2.2.1 / (2 : Int32) * (2 : Int32)), (S.1.2.2.2.2.2.2.1 / (2 : Int32)), (((2 : Int32) * S.1.2.2.2.2.2.2.2) + q4)), S.2.1, S.2.2.1, S.2.2.2)) rfl ?_
    refine wk_aload_n X 3 dR_tapeStep_114 rfl rfl ?_
    refine wk_aload_n X 3 dR_tapeStep_115 rfl rfl ?_
    refine wk_get X uw_R 0 rfl rfl 3 (Nat.le_of_ble_eq_true rfl) (tl tw_540) rfl rfl dR_tapeStep_116 ?_
    refine wk_iload_n X 2 dR_tapeStep_119 rfl rfl ?_
    obtain ⟨q12, h13, hf⟩ := p_ob hf
    obtain ⟨h13i, h13e⟩ := p_rd_some h13
    refine wk_iald X 4 0 rfl rfl h13i h13e dR_tapeStep_120 ?_
    refine wk_put X uw_R 0 rfl rfl 4 (Nat.le_of_ble_eq_true rfl) ft_R ft_R_ok fn_R (tl tw_541) rfl rfl rfl rfl (Nat.le_of_ble_eq_true rfl) dR_tapeStep_121 (ws' := cR V a ((S.1.1, S.1.2.1, S.1.2.2.1, S.1.2.2.2.1, q12, (S.1.2.2.2.2.2.2.1 - S.1.2.2.2.2.2.2.1 / (2 : Int32) * (2 : Int32)), (S.1.2.2.2.2.2.2.1 / (2 : Int32)), (((2 : Int32) * S.1.2.2.2.2.2.2.2) + q4)), S.2.1, S.2.2.1, S.2.2.2)) rfl ?_
    have hf := Option.some.inj hf
    exact wk_vret X Z dR_tapeStep_124 (((S.1.1, S.1.2.1, S.1.2.2.1, S.1.2.2.2.1, q12, (S.1.2.2.2.2.2.2.1 - S.1.2.2.2.2.2.2.1 / (2 : Int32) * (2 : Int32)), (S.1.2.2.2.2.2.2.1 / (2 : Int32)), (((2 : Int32) * S.1.2.2.2.2.2.2.2) + q4)), S.2.1, S.2.2.1, S.2.2.2)) (Eq.symm hf) rfl rfl
  · replace hf := p_it h3 hf
    refine wk_aload_n X 1 dR_tapeStep_23 rfl rfl ?_
    refine wk_get X uw_R 0 rfl rfl 6 (Nat.le_of_ble_eq_true rfl) (tl tw_543) rfl rfl dR_tapeStep_24 ?_
    refine wk_goto X dR_tapeStep_27 (tgt := 34) rfl ?_
    refine wk_imul X dR_tapeStep_34 ?_
    refine wk_aload_n X 1 dR_tapeStep_35 rfl rfl ?_
    refine wk_get X uw_R 0 rfl rfl 1 (Nat.le_of_ble_eq_true rfl) (tl tw_538) rfl rfl dR_tapeStep_36 ?_
    refine wk_iload_n X 0 dR_tapeStep_39 rfl rfl ?_
    obtain ⟨q14, h15, hf⟩ := p_ob hf
    obtain ⟨h15i, h15e⟩ := p_rd_some h15
    refine wk_iald X 2 0 rfl rfl h15i h15e dR_tapeStep_40 ?_
    refine wk_iadd X dR_tapeStep_41 ?_
    refine wk_istore_n X dR_tapeStep_42 rfl (Nat.le_of_ble_eq_true rfl) (lv' := [(2, .int (((2 : Int32) * S.1.2.2.2.2.2.2.1) + q14)), (1, .int (fR_ruleOf S.1.2.2.2.2.1 S.1.2.2.2.2.2.1)), (0, .ref (a 0))]) rfl ?_
    refine wk_aload_n X 2 dR_tapeStep_43 rfl rfl ?_
    refine wk_get X uw_R 0 rfl rfl 2 (Nat.le_of_ble_eq_true rfl) (tl tw_539) rfl rfl dR_tapeStep_44 ?_
    refine wk_iload_n X 1 dR_tapeStep_47 rfl rfl ?_
    refine wk_iald X 3 0 rfl rfl h2i h2e dR_tapeStep_48 ?_
    refine wk_iconst X dR_tapeStep_49 (v := (1 : Int32)) (by decide) ?_
    refine wk_icmp_ne X dR_tapeStep_50 (tgt := 60) rfl (fun h => absurd h3 h) (fun _ => ?_)
    refine wk_aload_n X 2 dR_tapeStep_53 rfl rfl ?_
    refine wk_get X uw_R 0 rfl rfl 7 (Nat.le_of_ble_eq_true rfl) (tl tw_544) rfl rfl dR_tapeStep_54 ?_
    refine wk_goto X dR_tapeStep_57 (tgt := 64) rfl ?_
    refine wk_istore_n X dR_tapeStep_64 rfl (Nat.le_of_ble_eq_true rfl) (lv' := [(3, .int S.1.2.2.2.2.2.2.2), (2, .int (((2 : Int32) * S.1.2.2.2.2.2.2.1) + q14)), (1, .int (fR_ruleOf S.1.2.2.2.2.1 S.1.2.2.2.2.2.1)), (0, .ref (a 0))]) rfl ?_
    refine wk_aload_n X 3 dR_tapeStep_65 rfl rfl ?_
    refine wk_iload_n X 0 dR_tapeStep_66 rfl rfl ?_
    refine wk_iconst X dR_tapeStep_67 (v := (2 : Int32)) (by decide) ?_
    refine wk_irem X dR_tapeStep_68 (by decide) ?_
    refine wk_put X uw_R 0 rfl rfl 5 (Nat.le_of_ble_eq_true rfl) ft_R ft_R_ok fn_R (tl tw_542) rfl rfl rfl rfl (Nat.le_of_ble_eq_true rfl) dR_tapeStep_69 (ws' := cR V a ((S.1.1, S.1.2.1, S.1.2.2.1, S.1.2.2.2.1, S.1.2.2.2.2.1, (S.1.2.2.2.2.2.2.2 - S.1.2.2.2.2.2.2.2 / (2 : Int32) * (2 : Int32)), S.1.2.2.2.2.2.2.1, S.1.2.2.2.2.2.2.2), S.2.1, S.2.2.1, S.2.2.2)) rfl ?_
    refine wk_aload_n X 3 dR_tapeStep_72 rfl rfl ?_
    refine wk_aload_n X 3 dR_tapeStep_73 rfl rfl ?_
    refine wk_get X uw_R 0 rfl rfl 2 (Nat.le_of_ble_eq_true rfl) (tl tw_539) rfl rfl dR_tapeStep_74 ?_
    refine wk_iload_n X 2 dR_tapeStep_77 rfl rfl ?_
    refine wk_iald X 3 0 rfl rfl h2i h2e dR_tapeStep_78 ?_
    refine wk_iconst X dR_tapeStep_79 (v := (1 : Int32)) (by decide) ?_
    refine wk_icmp_ne X dR_tapeStep_80 (tgt := 87) rfl (fun h => absurd h3 h) (fun _ => ?_)
    refine wk_iload_n X 1 dR_tapeStep_83 rfl rfl ?_
    refine wk_goto X dR_tapeStep_84 (tgt := 90) rfl ?_
    refine wk_put X uw_R 0 rfl rfl 6 (Nat.le_of_ble_eq_true rfl) ft_R ft_R_ok fn_R (tl tw_543) rfl rfl rfl rfl (Nat.le_of_ble_eq_true rfl) dR_tapeStep_90 (ws' := cR V a ((S.1.1, S.1.2.1, S.1.2.2.1, S.1.2.2.2.1, S.1.2.2.2.2.1, (S.1.2.2.2.2.2.2.2 - S.1.2.2.2.2.2.2.2 / (2 : Int32) * (2 : Int32)), (((2 : Int32) * S.1.2.2.2.2.2.2.1) + q14), S.1.2.2.2.2.2.2.2), S.2.1, S.2.2.1, S.2.2.2)) rfl ?_
    refine wk_aload_n X 3 dR_tapeStep_93 rfl rfl ?_
    refine wk_aload_n X 3 dR_tapeStep_94 rfl rfl ?_
    refine wk_get X uw_R 0 rfl rfl 2 (Nat.le_of_ble_eq_true rfl) (tl tw_539) rfl rfl dR_tapeStep_95 ?_
    refine wk_iload_n X 2 dR_tapeStep_98 rfl rfl ?_
    refine wk_iald X 3 0 rfl rfl h2i h2e dR_tapeStep_99 ?_
    refine wk_iconst X dR_tapeStep_100 (v := (1 : Int32)) (by decide) ?_
    refine wk_icmp_ne X dR_tapeStep_101 (tgt := 110) rfl (fun h => absurd h3 h) (fun _ => ?_)
    refine wk_iload_n X 0 dR_tapeStep_104 rfl rfl ?_
    refine wk_iconst X dR_tapeStep_105 (v := (2 : Int32)) (by decide) ?_
    refine wk_idiv X dR_tapeStep_106 (by decide) ?_
    refine wk_goto X dR_tapeStep_107 (tgt := 111) rfl ?_
    refine wk_put X uw_R 0 rfl rfl 7 (Nat.le_of_ble_eq_true rfl) ft_R ft_R_ok fn_R (tl tw_544) rfl rfl rfl rfl (Nat.le_of_ble_eq_true rfl) dR_tapeStep_111 (ws' := cR V a ((S.1.1, S.1.2.1, S.1.2.2.1, S.1.2.2.2.1, S.1.2.2.2.2.1, (S.1.2.2.2.2.2.2.2 - S.1.2.2.2.2.2.2.2 / (2 : Int32) * (2 : Int32)), (((2 : Int32) * S.1.2.2.2.2.2.2.1) + q14), (S.1.2.2.2.2.2.2.2 / (2 : Int32))), S.2.1, S.2.2.1, S.2.2.2)) rfl ?_
    refine wk_aload_n X 3 dR_tapeStep_114 rfl rfl ?_
    refine wk_aload_n X 3 dR_tapeStep_115 rfl rfl ?_
    refine wk_get X uw_R 0 rfl rfl 3 (Nat.le_of_ble_eq_true rfl) (tl tw_540) rfl rfl dR_tapeStep_116 ?_
    refine wk_iload_n X 2 dR_tapeStep_119 rfl rfl ?_
    obtain ⟨q22, h23, hf⟩ := p_ob hf
    obtain ⟨h23i, h23e⟩ := p_rd_some h23
    refine wk_iald X 4 0 rfl rfl h23i h23e dR_tapeStep_120 ?_
    refine wk_put X uw_R 0 rfl rfl 4 (Nat.le_of_ble_eq_true rfl) ft_R ft_R_ok fn_R (tl tw_541) rfl rfl rfl rfl (Nat.le_of_ble_eq_true rfl) dR_tapeStep_121 (ws' := cR V a ((S.1.1, S.1.2.1, S.1.2.2.1, S.1.2.2.2.1, q22, (S.1.2.2.2.2.2.2.2 - S.1.2.2.2.2.2.2.2 / (2 : Int32) * (2 : Int32)), (((2 : Int32) * S.1.2.2.2.2.2.2.1) + q14), (S.1.2.2.2.2.2.2.2 / (2 : Int32))), S.2.1, S.2.2.1, S.2.2.2)) rfl ?_
    have hf := Option.some.inj hf
    exact wk_vret X Z dR_tapeStep_124 (((S.1.1, S.1.2.1, S.1.2.2.1, S.1.2.2.2.1, q22, (S.1.2.2.2.2.2.2.2 - S.1.2.2.2.2.2.2.2 / (2 : Int32) * (2 : Int32)), (((2 : Int32) * S.1.2.2.2.2.2.2.1) + q14), (S.1.2.2.2.2.2.2.2 / (2 : Int32))), S.2.1, S.2.2.1, S.2.2.2)) (Eq.symm hf) rfl rfl
-- R_stepTape: room (2, 44), Option (Int32 × pR)
def fR_stepTape_L2 : Nat → pR → Int32 → Int32 → Option (Int32 × pR)
  | 0, _, _, _ => none
  | n + 1, S, v1, v2 =>
    if (fR_steps v1) ≤ v2 then (
      some (v2, S)
    ) else (
      (fR_tapeCan S).bind fun q2 =>
      if q2 = (1 : Int32) then (
        (fR_tapeStep S).bind fun q5 =>
        fR_stepTape_L2 n q5 v1 (v2 + (1 : Int32))
      ) else (
        some (v2, S)
      )
    )
def fR_stepTape (S : pR) (v1 : Int32) : Option (Int32 × pR) :=
  fR_stepTape_L2 100000 S v1 (0 : Int32)
set_option maxRecDepth 100000 in
set_option maxHeartbeats 4000000 in
theorem wR_stepTape_L2 {V : ee_V} (a : Nat → Nat) (S0 : pR) {x : wk_C} (X : wk_K (ee V) x cR_stepTape 3 "TagWorkshopModel" ts_R_stepTape ⟨2, 0, 0, 44⟩) (R : Int32 × pR) (Z : wk_N x (some .int) (va_Qi (fun (r : Int32) (u : pR) => R.1 = r ∧ R.2 = u) (wk_B (ee V) (cR V a S0) (fun u : pR => cR V a u)) (wk_in (cR V a S0))) (cR V a S0)) : ∀ (n : Nat) (S : pR) (v1 : Int32) (v2 : Int32), fR_stepTape_L2 n S v1 v2 = some R → wk_G (ee V) x 3 (cR V a S) 2 [(0, .ref (a 0)), (1, .int v1), (2, .int v2)] [] := by
  intro n
  induction n with
  | zero => intro S v1 v2 hf; exact absurd hf (by rw [fR_stepTape_L2]; exact fun h => by cases h)
  | succ n ih =>
    intro S v1 v2 hf
    rw [fR_stepTape_L2] at hf
    refine wk_iload_n X 2 dR_stepTape_2 rfl rfl ?_
    refine wk_iload_n X 1 dR_stepTape_3 rfl rfl ?_
    refine wk_goI [] (wk_rS X (mR_steps (V := V) v1 (fR_steps v1) rfl) rfl (gd (tw_648)) [] rfl rfl (tl tw_646) (tl tw_647) (tl tw_7) 1 pd_R_steps rfl ⟨rfl, rfl⟩ ⟨Nat.le_of_ble_eq_true rfl, Nat.le_of_ble_eq_true rfl⟩ rfl (Nat.le_of_ble_eq_true rfl) dR_stepTape_4) rfl ?_
    rintro r ⟨⟩ rfl
    refine wk_ws (ws' := cR V a S) rfl ?_
    refine wk_icmp_ge X dR_stepTape_7 (tgt := 28) rfl (fun h1 => ?_) (fun h1 => ?_)
    · replace hf := p_it h1 hf
      refine wk_iload_n X 2 dR_stepTape_28 rfl rfl ?_
      have hf := Option.some.inj hf
      exact wk_iret X Z rfl dR_stepTape_29 (S) ⟨Eq.symm (congrArg Prod.fst hf), Eq.symm (congrArg Prod.snd hf)⟩ rfl rfl
    · replace hf := p_ie h1 hf
      refine wk_aload_n X 0 dR_stepTape_10 rfl rfl ?_
      obtain ⟨q2, h3, hf⟩ := p_ob hf
      refine wk_goI [0, 1, 2, 3, 4, 5, 6, 7, 8, 9, 10, 11, 12] (wk_rV X (mR_tapeCan (V := V) a S q2 h3) rfl (gd (tw_652)) [0, 1, 2, 3, 4, 5, 6, 7, 8, 9, 10, 11, 12] rfl rfl 0 rfl rfl (tl tw_649) (tl tw_651) (tl tv_4) (tl tw_7) 0 pd_R_tapeCan rfl ⟨rfl, rfl⟩ ⟨Nat.le_of_ble_eq_true rfl, Nat.le_of_ble_eq_true rfl⟩ rfl (Nat.le_of_ble_eq_true rfl) dR_stepTape_11) rfl ?_
      rintro r ⟨⟩ rfl
      refine wk_ws (ws' := cR V a S) rfl ?_
      refine wk_iconst X dR_stepTape_14 (v := (1 : Int32)) (by decide) ?_
      refine wk_icmp_ne X dR_stepTape_15 (tgt := 28) rfl (fun h4 => ?_) (fun h4 => ?_)
      · replace hf := p_ie h4 hf
        refine wk_iload_n X 2 dR_stepTape_28 rfl rfl ?_
        have hf := Option.some.inj hf
        exact wk_iret X Z rfl dR_stepTape_29 (S) ⟨Eq.symm (congrArg Prod.fst hf), Eq.symm (congrArg Prod.snd hf)⟩ rfl rfl
      · replace hf := p_it h4 hf
        refine wk_aload_n X 0 dR_stepTape_18 rfl rfl ?_
        obtain ⟨q5, h6, hf⟩ := p_ob hf
        refine wk_goV [0, 1, 2, 3, 4, 5, 6, 7, 8, 9, 10, 11, 12] (wk_rV X (mR_tapeStep (V := V) a S q5 h6) rfl (gd (tw_663)) [0, 1, 2, 3, 4, 5, 6, 7, 8, 9, 10, 11, 12] rfl rfl 0 rfl rfl (tl tw_660) (tl tw_662) (tl tv_6) (tl tw_7) 0 pd_R_tapeStep rfl ⟨rfl, rfl⟩ ⟨Nat.le_of_ble_eq_true rfl, Nat.le_of_ble_eq_true rfl⟩ rfl (Nat.le_of_ble_eq_true rfl) dR_stepTape_19) rfl ?_
        rintro u rfl
        refine wk_ws (ws' := cR V a q5) rfl ?_
        refine wk_iinc X 2 dR_stepTape_22 (v := (v2 + (1 : Int32))) rfl rfl (Nat.le_of_ble_eq_true rfl) (lv' := [(2, .int (v2 + (1 : Int32))), (0, .ref (a 0)), (1, .int v1)]) rfl ?_
        refine wk_goto X dR_stepTape_25 (tgt := 2) rfl ?_
        refine wk_lv [1, 2, 0] (lv' := [(0, .ref (a 0)), (1, .int v1), (2, .int (v2 + (1 : Int32)))]) rfl ?_
        exact ih q5 v1 (v2 + (1 : Int32)) hf
set_option maxRecDepth 100000 in
set_option maxHeartbeats 4000000 in
theorem mR_stepTape {V : ee_V} (a : Nat → Nat) (S : pR) (v1 : Int32) (R : Int32 × pR) (hf : fR_stepTape S v1 = some R) : wk_I (ee V) yR_stepTape ts_R_stepTape ⟨2, 0, 0, 44⟩ [.ref (a 0), .int v1] (cR V a S) (fun (r : Int32) (u : pR) => R.1 = r ∧ R.2 = u) (fun u : pR => cR V a u) := by
  refine wk_of (ee_ok V) (by decide +kernel) rfl (Nat.le_of_ble_eq_true rfl) ?_
  intro x X Z
  unfold fR_stepTape at hf
  refine wk_lq (lv' := [(0, .ref (a 0)), (1, .int v1)]) rfl ?_
  refine wk_iconst X dR_stepTape_0 (v := (0 : Int32)) (by decide) ?_
  refine wk_istore_n X dR_stepTape_1 rfl (Nat.le_of_ble_eq_true rfl) (lv' := [(2, .int (0 : Int32)), (0, .ref (a 0)), (1, .int v1)]) rfl ?_
  refine wk_lv [1, 2, 0] (lv' := [(0, .ref (a 0)), (1, .int v1), (2, .int (0 : Int32))]) rfl ?_
  exact wR_stepTape_L2 a S X R Z 100000 S v1 (0 : Int32) hf
-- R_tapeNow: room (2, 42), Option (Int32)
def fR_tapeNow (S : pR) (v1 : Int32) : Option (Int32) :=
  if v1 = 0 then (
    some S.1.2.2.2.2.1
  ) else (
    if v1 = (1 : Int32) then (
      some S.1.2.2.2.2.2.1
    ) else (
      if v1 = (2 : Int32) then (
        some S.1.2.2.2.2.2.2.1
      ) else (
        if v1 = (3 : Int32) then (
          some S.1.2.2.2.2.2.2.2
        ) else (
          if v1 = (4 : Int32) then (
            (fR_tapeCan S).bind fun q6 =>
            some q6
          ) else (
            some (-1 : Int32)
          )
        )
      )
    )
  )
set_option maxRecDepth 100000 in
set_option maxHeartbeats 4000000 in
theorem mR_tapeNow {V : ee_V} (a : Nat → Nat) (S : pR) (v1 : Int32) (R : Int32) (hf : fR_tapeNow S v1 = some R) : wk_I (ee V) yR_tapeNow ts_R_tapeNow ⟨2, 0, 0, 42⟩ [.ref (a 0), .int v1] (cR V a S) (fun (r : Int32) (_ : Unit) => R = r) (fun _ : Unit => cR V a S) := by
  refine wk_of (ee_ok V) (by decide +kernel) rfl (Nat.le_of_ble_eq_true rfl) ?_
  intro x X Z
  unfold fR_tapeNow at hf
  refine wk_lq (lv' := [(0, .ref (a 0)), (1, .int v1)]) rfl ?_
  refine wk_iload_n X 1 dR_tapeNow_0 rfl rfl ?_
  refine wk_if_ne X dR_tapeNow_1 (tgt := 11) rfl (fun h1 => ?_) (fun h1 => ?_)
  · replace hf := p_ie h1 hf
    refine wk_iload_n X 1 dR_tapeNow_11 rfl rfl ?_
    refine wk_iconst X dR_tapeNow_12 (v := (1 : Int32)) (by decide) ?_
    refine wk_icmp_ne X dR_tapeNow_13 (tgt := 23) rfl (fun h2 => ?_) (fun h2 => ?_)
    · replace hf := p_ie h2 hf
      refine wk_iload_n X 1 dR_tapeNow_23 rfl rfl ?_
      refine wk_iconst X dR_tapeNow_24 (v := (2 : Int32)) (by decide) ?_
      refine wk_icmp_ne X dR_tapeNow_25 (tgt := 35) rfl (fun h3 => ?_) (fun h3 => ?_)
      · replace hf := p_ie h3 hf
        refine wk_iload_n X 1 dR_tapeNow_35 rfl rfl ?_
        refine wk_iconst X dR_tapeNow_36 (v := (3 : Int32)) (by decide) ?_
        refine wk_icmp_ne X dR_tapeNow_37 (tgt := 47) rfl (fun h4 => ?_) (fun h4 => ?_)
        · replace hf := p_ie h4 hf
          refine wk_iload_n X 1 dR_tapeNow_47 rfl rfl ?_
          refine wk_iconst X dR_tapeNow_48 (v := (4 : Int32)) (by decide) ?_
          refine wk_icmp_ne X dR_tapeNow_49 (tgt := 59) rfl (fun h5 => ?_) (fun h5 => ?_)
          · replace hf := p_ie h5 hf
            refine wk_iconst X dR_tapeNow_59 (v := (-1 : Int32)) (by decide) ?_
            have hf := Option.some.inj hf
            exact wk_iret X Z rfl dR_tapeNow_60 () (Eq.symm hf) rfl rfl
          · replace hf := p_it h5 hf
            refine wk_aload_n X 0 dR_tapeNow_52 rfl rfl ?_
            obtain ⟨q6, h7, hf⟩ := p_ob hf
            refine wk_goI [0, 1, 2, 3, 4, 5, 6, 7, 8, 9, 10, 11, 12] (wk_rV X (mR_tapeCan (V := V) a S q6 h7) rfl (gd (tw_652)) [0, 1, 2, 3, 4, 5, 6, 7, 8, 9, 10, 11, 12] rfl rfl 0 rfl rfl (tl tw_649) (tl tw_651) (tl tv_4) (tl tw_7) 0 pd_R_tapeCan rfl ⟨rfl, rfl⟩ ⟨Nat.le_of_ble_eq_true rfl, Nat.le_of_ble_eq_true rfl⟩ rfl (Nat.le_of_ble_eq_true rfl) dR_tapeNow_53) rfl ?_
            rintro r ⟨⟩ rfl
            refine wk_ws (ws' := cR V a S) rfl ?_
            refine wk_goto X dR_tapeNow_56 (tgt := 60) rfl ?_
            have hf := Option.some.inj hf
            exact wk_iret X Z rfl dR_tapeNow_60 () (Eq.symm hf) rfl rfl
        · replace hf := p_it h4 hf
          refine wk_aload_n X 0 dR_tapeNow_40 rfl rfl ?_
          refine wk_get X uw_R 0 rfl rfl 7 (Nat.le_of_ble_eq_true rfl) (tl tw_544) rfl rfl dR_tapeNow_41 ?_
          refine wk_goto X dR_tapeNow_44 (tgt := 60) rfl ?_
          have hf := Option.some.inj hf
          exact wk_iret X Z rfl dR_tapeNow_60 () (Eq.symm hf) rfl rfl
      · replace hf := p_it h3 hf
        refine wk_aload_n X 0 dR_tapeNow_28 rfl rfl ?_
        refine wk_get X uw_R 0 rfl rfl 6 (Nat.le_of_ble_eq_true rfl) (tl tw_543) rfl rfl dR_tapeNow_29 ?_
        refine wk_goto X dR_tapeNow_32 (tgt := 60) rfl ?_
        have hf := Option.some.inj hf
        exact wk_iret X Z rfl dR_tapeNow_60 () (Eq.symm hf) rfl rfl
    · replace hf := p_it h2 hf
      refine wk_aload_n X 0 dR_tapeNow_16 rfl rfl ?_
      refine wk_get X uw_R 0 rfl rfl 5 (Nat.le_of_ble_eq_true rfl) (tl tw_542) rfl rfl dR_tapeNow_17 ?_
      refine wk_goto X dR_tapeNow_20 (tgt := 60) rfl ?_
      have hf := Option.some.inj hf
      exact wk_iret X Z rfl dR_tapeNow_60 () (Eq.symm hf) rfl rfl
  · replace hf := p_it h1 hf
    refine wk_aload_n X 0 dR_tapeNow_4 rfl rfl ?_
    refine wk_get X uw_R 0 rfl rfl 4 (Nat.le_of_ble_eq_true rfl) (tl tw_541) rfl rfl dR_tapeNow_5 ?_
    refine wk_goto X dR_tapeNow_8 (tgt := 60) rfl ?_
    have hf := Option.some.inj hf
    exact wk_iret X Z rfl dR_tapeNow_60 () (Eq.symm hf) rfl rfl

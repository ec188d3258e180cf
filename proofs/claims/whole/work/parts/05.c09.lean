-- C_read: room (3, 67), Option (Bool × pC)
def fC_read (S : pC) (S2 : pT) : Option (Bool × pC) :=
  (fT_wordLetter S2 (0 : Int32)).bind fun q1 =>
  if (fG_isBase q1 S2.2.2.2.2.2.2.2) = true then (
    if (S2.2.2.2.2.2.1 - S2.2.2.2.2.2.1 / (2 : Int32) * (2 : Int32)) = 0 then (
      (fC_isPair S2 (0 : Int32) (q1 + (0 : Int32))).bind fun q5 =>
      if q5 = true then (
        (fC_pairsEnd S2 (1 : Int32) (q1 + (1 : Int32))).bind fun q8 =>
        (fC_isPair S2 q8 (q1 + (2 : Int32))).bind fun q10 =>
        if q10 = true then (
          (fC_pairsEnd S2 (q8 + (1 : Int32)) (q1 + (3 : Int32))).bind fun q13 =>
          if ((2 : Int32) * q13) = S2.2.2.2.2.2.1 then (
            some (true, ((fG_stateOf q1), (fG_symbolOf q1), (q8 - (1 : Int32)), ((q13 - q8) - (1 : Int32))))
          ) else (
            some (false, S)
          )
        ) else (
          some (false, S)
        )
      ) else (
        some (false, S)
      )
    ) else (
      some (false, S)
    )
  ) else (
    some (false, S)
  )
set_option maxRecDepth 100000 in
set_option maxHeartbeats 4000000 in
theorem mC_read {V : ee_V} (a b : Nat → Nat) (S : pC) (S2 : pT) (R : Bool × pC) (hf : fC_read S S2 = some R) : wk_I (ee V) yC_read ts_C_read ⟨3, 0, 0, 67⟩ [.ref (a 0), .ref (b 0)] (cC V a S ++ cT V b S2) (fun (r : Int32) (u : pC) => p_b (R.1) = r ∧ R.2 = u) (fun u : pC => cC V a u ++ cT V b S2) := by
  refine wk_of (ee_ok V) (by decide +kernel) rfl (Nat.le_of_ble_eq_true rfl) ?_
  intro x X Z
  unfold fC_read at hf
  refine wk_lq (lv' := [(0, .ref (a 0)), (1, .ref (b 0))]) rfl ?_
  refine wk_aload_n X 1 dC_read_0 rfl rfl ?_
  refine wk_iconst X dC_read_1 (v := (0 : Int32)) (by decide) ?_
  obtain ⟨q1, h2, hf⟩ := p_ob hf
  refine wk_goI [1, 2, 3, 4, 5] (wk_rV X (mT_wordLetter (V := V) b S2 (0 : Int32) q1 h2) rfl (gd (tw_404)) [1, 2, 3, 4, 5] rfl rfl 1 rfl rfl (tl tw_478) (tl tw_402) (tl tw_403) (tl tw_4) 1 pd_T_wordLetter rfl ⟨rfl, rfl⟩ ⟨Nat.le_of_ble_eq_true rfl, Nat.le_of_ble_eq_true rfl⟩ rfl (Nat.le_of_ble_eq_true rfl) dC_read_2) rfl ?_
  rintro r ⟨⟩ rfl
  refine wk_ws (ws' := cC V a S ++ cT V b S2) rfl ?_
  refine wk_istore_n X dC_read_5 rfl (Nat.le_of_ble_eq_true rfl) (lv' := [(2, .int q1), (0, .ref (a 0)), (1, .ref (b 0))]) rfl ?_
  refine wk_iload_n X 0 dC_read_6 rfl rfl ?_
  refine wk_aload_n X 2 dC_read_7 rfl rfl ?_
  refine wk_get X uw_T 1 rfl rfl 7 (Nat.le_of_ble_eq_true rfl) (tl tw_78) rfl rfl dC_read_8 ?_
  refine wk_goI [] (wk_rS X (mG_isBase (V := V) q1 S2.2.2.2.2.2.2.2 (fG_isBase q1 S2.2.2.2.2.2.2.2) rfl) rfl (gd (tw_481)) [] rfl rfl (tl tw_479) (tl tw_480) (tl tw_8) 2 pd_G_isBase rfl ⟨rfl, rfl⟩ ⟨Nat.le_of_ble_eq_true rfl, Nat.le_of_ble_eq_true rfl⟩ rfl (Nat.le_of_ble_eq_true rfl) dC_read_11) rfl ?_
  rintro r ⟨⟩ rfl
  refine wk_ws (ws' := cC V a S ++ cT V b S2) rfl ?_
  refine wk_bz_eq X dC_read_14 (tgt := 26) rfl (fun h3 => ?_) (fun h3 => ?_)
  · replace hf := p_ie h3 hf
    refine wk_iconst X dC_read_26 (v := (0 : Int32)) (by decide) ?_
    have hf := Option.some.inj hf
    exact wk_iret X Z rfl dC_read_27 (S) ⟨Eq.symm (congrArg p_b (congrArg Prod.fst hf)), Eq.symm (congrArg Prod.snd hf)⟩ rfl rfl
  · replace hf := p_it h3 hf
    refine wk_aload_n X 2 dC_read_17 rfl rfl ?_
    refine wk_get X uw_T 1 rfl rfl 5 (Nat.le_of_ble_eq_true rfl) (tl tw_71) rfl rfl dC_read_18 ?_
    refine wk_iconst X dC_read_21 (v := (2 : Int32)) (by decide) ?_
    refine wk_irem X dC_read_22 (by decide) ?_
    refine wk_if_eq X dC_read_23 (tgt := 28) rfl (fun h4 => ?_) (fun h4 => ?_)
    · replace hf := p_it h4 hf
      refine wk_aload_n X 2 dC_read_28 rfl rfl ?_
      refine wk_iconst X dC_read_29 (v := (0 : Int32)) (by decide) ?_
      refine wk_iload_n X 0 dC_read_30 rfl rfl ?_
      refine wk_iconst X dC_read_31 (v := (0 : Int32)) (by decide) ?_
      refine wk_iadd X dC_read_32 ?_
      obtain ⟨q5, h6, hf⟩ := p_ob hf
      refine wk_goI [1, 2, 3, 4, 5] (wk_rS X (mC_isPair (V := V) b S2 (0 : Int32) (q1 + (0 : Int32)) q5 h6) rfl (gd (tw_484)) [1, 2, 3, 4, 5] rfl rfl (tl tw_482) (tl tw_483) (tl tw_6) 3 pd_C_isPair rfl ⟨rfl, rfl⟩ ⟨Nat.le_of_ble_eq_true rfl, Nat.le_of_ble_eq_true rfl⟩ rfl (Nat.le_of_ble_eq_true rfl) dC_read_33) rfl ?_
      rintro r ⟨⟩ rfl
      refine wk_ws (ws' := cC V a S ++ cT V b S2) rfl ?_
      refine wk_bz_ne X dC_read_36 (tgt := 41) rfl (fun h7 => ?_) (fun h7 => ?_)
      · replace hf := p_it h7 hf
        refine wk_aload_n X 2 dC_read_41 rfl rfl ?_
        refine wk_iconst X dC_read_42 (v := (1 : Int32)) (by decide) ?_
        refine wk_iload_n X 0 dC_read_43 rfl rfl ?_
        refine wk_iconst X dC_read_44 (v := (1 : Int32)) (by decide) ?_
        refine wk_iadd X dC_read_45 ?_
        obtain ⟨q8, h9, hf⟩ := p_ob hf
        refine wk_goI [1, 2, 3, 4, 5] (wk_rS X (mC_pairsEnd (V := V) b S2 (1 : Int32) (q1 + (1 : Int32)) q8 h9) rfl (gd (tw_487)) [1, 2, 3, 4, 5] rfl rfl (tl tw_485) (tl tw_486) (tl tw_6) 3 pd_C_pairsEnd rfl ⟨rfl, rfl⟩ ⟨Nat.le_of_ble_eq_true rfl, Nat.le_of_ble_eq_true rfl⟩ rfl (Nat.le_of_ble_eq_true rfl) dC_read_46) rfl ?_
        rintro r ⟨⟩ rfl
        refine wk_ws (ws' := cC V a S ++ cT V b S2) rfl ?_
        refine wk_istore_n X dC_read_49 rfl (Nat.le_of_ble_eq_true rfl) (lv' := [(3, .int q8), (2, .int q1), (0, .ref (a 0)), (1, .ref (b 0))]) rfl ?_
        refine wk_aload_n X 3 dC_read_50 rfl rfl ?_
        refine wk_iload_n X 0 dC_read_51 rfl rfl ?_
        refine wk_iload_n X 1 dC_read_52 rfl rfl ?_
        refine wk_iconst X dC_read_53 (v := (2 : Int32)) (by decide) ?_
        refine wk_iadd X dC_read_54 ?_
        obtain ⟨q10, h11, hf⟩ := p_ob hf
        refine wk_goI [1, 2, 3, 4, 5] (wk_rS X (mC_isPair (V := V) b S2 q8 (q1 + (2 : Int32)) q10 h11) rfl (gd (tw_484)) [1, 2, 3, 4, 5] rfl rfl (tl tw_482) (tl tw_483) (tl tw_6) 3 pd_C_isPair rfl ⟨rfl, rfl⟩ ⟨Nat.le_of_ble_eq_true rfl, Nat.le_of_ble_eq_true rfl⟩ rfl (Nat.le_of_ble_eq_true rfl) dC_read_55) rfl ?_
        rintro r ⟨⟩ rfl
        refine wk_ws (ws' := cC V a S ++ cT V b S2) rfl ?_
        refine wk_bz_ne X dC_read_58 (tgt := 63) rfl (fun h12 => ?_) (fun h12 => ?_)
        · replace hf := p_it h12 hf
          refine wk_aload_n X 3 dC_read_63 rfl rfl ?_
          refine wk_iload_n X 0 dC_read_64 rfl rfl ?_
          refine wk_iconst X dC_read_65 (v := (1 : Int32)) (by decide) ?_
          refine wk_iadd X dC_read_66 ?_
          refine wk_iload_n X 1 dC_read_67 rfl rfl ?_
          refine wk_iconst X dC_read_68 (v := (3 : Int32)) (by decide) ?_
          refine wk_iadd X dC_read_69 ?_
          obtain ⟨q13, h14, hf⟩ := p_ob hf
          refine wk_goI [1, 2, 3, 4, 5] (wk_rS X (mC_pairsEnd (V := V) b S2 (q8 + (1 : Int32)) (q1 + (3 : Int32)) q13 h14) rfl (gd (tw_487)) [1, 2, 3, 4, 5] rfl rfl (tl tw_485) (tl tw_486) (tl tw_6) 3 pd_C_pairsEnd rfl ⟨rfl, rfl⟩ ⟨Nat.le_of_ble_eq_true rfl, Nat.le_of_ble_eq_true rfl⟩ rfl (Nat.le_of_ble_eq_true rfl) dC_read_70) rfl ?_
          rintro r ⟨⟩ rfl
          refine wk_ws (ws' := cC V a S ++ cT V b S2) rfl ?_
          refine wk_istore X dC_read_73 (Nat.le_of_ble_eq_true rfl) (lv' := [(4, .int q13), (3, .int q8), (2, .int q1), (0, .ref (a 0)), (1, .ref (b 0))]) rfl ?_
          refine wk_iconst X dC_read_75 (v := (2 : Int32)) (by decide) ?_
          refine wk_iload X 0 dC_read_76 rfl ?_
          refine wk_imul X dC_read_78 ?_
          refine wk_aload_n X 4 dC_read_79 rfl rfl ?_
          refine wk_get X uw_T 1 rfl rfl 5 (Nat.le_of_ble_eq_true rfl) (tl tw_71) rfl rfl dC_read_80 ?_
          refine wk_icmp_eq X dC_read_83 (tgt := 88) rfl (fun h15 => ?_) (fun h15 => ?_)
          · replace hf := p_it h15 hf
            refine wk_aload_n X 3 dC_read_88 rfl rfl ?_
            refine wk_iload_n X 2 dC_read_89 rfl rfl ?_
            refine wk_goI [] (wk_rS X (mG_stateOf (V := V) q1 (fG_stateOf q1) rfl) rfl (gd (tw_490)) [] rfl rfl (tl tw_488) (tl tw_489) (tl tw_8) 1 pd_G_stateOf rfl ⟨rfl, rfl⟩ ⟨Nat.le_of_ble_eq_true rfl, Nat.le_of_ble_eq_true rfl⟩ rfl (Nat.le_of_ble_eq_true rfl) dC_read_90) rfl ?_
            rintro r ⟨⟩ rfl
            refine wk_ws (ws' := cC V a S ++ cT V b S2) rfl ?_
            refine wk_put X uw_C 0 rfl rfl 0 (Nat.le_of_ble_eq_true rfl) ft_C ft_C_ok fn_C (tl tw_121) rfl rfl rfl rfl (Nat.le_of_ble_eq_true rfl) dC_read_93 (ws' := cC V a ((fG_stateOf q1), S.2.1, S.2.2.1, S.2.2.2) ++ cT V b S2) rfl ?_
            refine wk_aload_n X 3 dC_read_96 rfl rfl ?_
            refine wk_iload_n X 2 dC_read_97 rfl rfl ?_
            refine wk_goI [] (wk_rS X (mG_symbolOf (V := V) q1 (fG_symbolOf q1) rfl) rfl (gd (tw_493)) [] rfl rfl (tl tw_491) (tl tw_492) (tl tw_8) 1 pd_G_symbolOf rfl ⟨rfl, rfl⟩ ⟨Nat.le_of_ble_eq_true rfl, Nat.le_of_ble_eq_true rfl⟩ rfl (Nat.le_of_ble_eq_true rfl) dC_read_98) rfl ?_
            rintro r ⟨⟩ rfl
            refine wk_ws (ws' := cC V a ((fG_stateOf q1), S.2.1, S.2.2.1, S.2.2.2) ++ cT V b S2) rfl ?_
            refine wk_put X uw_C 0 rfl rfl 1 (Nat.le_of_ble_eq_true rfl) ft_C ft_C_ok fn_C (tl tw_123) rfl rfl rfl rfl (Nat.le_of_ble_eq_true rfl) dC_read_101 (ws' := cC V a ((fG_stateOf q1), (fG_symbolOf q1), S.2.2.1, S.2.2.2) ++ cT V b S2) rfl ?_
            refine wk_aload_n X 3 dC_read_104 rfl rfl ?_
            refine wk_iload_n X 1 dC_read_105 rfl rfl ?_
            refine wk_iconst X dC_read_106 (v := (1 : Int32)) (by decide) ?_
            refine wk_isub X dC_read_107 ?_
            refine wk_put X uw_C 0 rfl rfl 2 (Nat.le_of_ble_eq_true rfl) ft_C ft_C_ok fn_C (tl tw_125) rfl rfl rfl rfl (Nat.le_of_ble_eq_true rfl) dC_read_108 (ws' := cC V a ((fG_stateOf q1), (fG_symbolOf q1), (q8 - (1 : Int32)), S.2.2.2) ++ cT V b S2) rfl ?_
            refine wk_aload_n X 3 dC_read_111 rfl rfl ?_
            refine wk_iload X 0 dC_read_112 rfl ?_
            refine wk_iload_n X 1 dC_read_114 rfl rfl ?_
            refine wk_isub X dC_read_115 ?_
            refine wk_iconst X dC_read_116 (v := (1 : Int32)) (by decide) ?_
            refine wk_isub X dC_read_117 ?_
            refine wk_put X uw_C 0 rfl rfl 3 (Nat.le_of_ble_eq_true rfl) ft_C ft_C_ok fn_C (tl tw_127) rfl rfl rfl rfl (Nat.le_of_ble_eq_true rfl) dC_read_118 (ws' := cC V a ((fG_stateOf q1), (fG_symbolOf q1), (q8 - (1 : Int32)), ((q13 - q8) - (1 : Int32))) ++ cT V b S2) rfl ?_
            refine wk_iconst X dC_read_121 (v := (1 : Int32)) (by decide) ?_
            have hf := Option.some.inj hf
            exact wk_iret X Z rfl dC_read_122 (((fG_stateOf q1), (fG_symbolOf q1), (q8 - (1 : Int32)), ((q13 - q8) - (1 : Int32)))) ⟨Eq.symm (congrArg p_b (congrArg Prod.fst hf)), Eq.symm (congrArg Prod.snd hf)⟩ rfl rfl
          · replace hf := p_ie h15 hf
            refine wk_iconst X dC_read_86 (v := (0 : Int32)) (by decide) ?_
            have hf := Option.some.inj hf
            exact wk_iret X Z rfl dC_read_87 (S) ⟨Eq.symm (congrArg p_b (congrArg Prod.fst hf)), Eq.symm (congrArg Prod.snd hf)⟩ rfl rfl
        · replace hf := p_ie h12 hf
          refine wk_iconst X dC_read_61 (v := (0 : Int32)) (by decide) ?_
          have hf := Option.some.inj hf
          exact wk_iret X Z rfl dC_read_62 (S) ⟨Eq.symm (congrArg p_b (congrArg Prod.fst hf)), Eq.symm (congrArg Prod.snd hf)⟩ rfl rfl
      · replace hf := p_ie h7 hf
        refine wk_iconst X dC_read_39 (v := (0 : Int32)) (by decide) ?_
        have hf := Option.some.inj hf
        exact wk_iret X Z rfl dC_read_40 (S) ⟨Eq.symm (congrArg p_b (congrArg Prod.fst hf)), Eq.symm (congrArg Prod.snd hf)⟩ rfl rfl
    · replace hf := p_ie h4 hf
      refine wk_iconst X dC_read_26 (v := (0 : Int32)) (by decide) ?_
      have hf := Option.some.inj hf
      exact wk_iret X Z rfl dC_read_27 (S) ⟨Eq.symm (congrArg p_b (congrArg Prod.fst hf)), Eq.symm (congrArg Prod.snd hf)⟩ rfl rfl
-- X_decodeTag: room (4, 91), Option (Int32 × pX)
def fX_decodeTag (S : pX) (v1 : Int32) : Option (Int32 × pX) :=
  (fC_read S.2.2.2 S.2.1).bind fun q1 =>
  if q1.1 = true then (
    if v1 = (0 : Int32) then (
      some (q1.2.1, (S.1, S.2.1, S.2.2.1, q1.2))
    ) else (
    if v1 = (1 : Int32) then (
      some (q1.2.2.1, (S.1, S.2.1, S.2.2.1, q1.2))
    ) else (
    if v1 = (2 : Int32) then (
      some (q1.2.2.2.1, (S.1, S.2.1, S.2.2.1, q1.2))
    ) else (
    if v1 = (3 : Int32) then (
      some (q1.2.2.2.2, (S.1, S.2.1, S.2.2.1, q1.2))
    ) else (
      some ((-1 : Int32), (S.1, S.2.1, S.2.2.1, q1.2))
    ))))
  ) else (
    some ((-1 : Int32), (S.1, S.2.1, S.2.2.1, q1.2))
  )
set_option maxRecDepth 100000 in
set_option maxHeartbeats 4000000 in
theorem mX_decodeTag {V : ee_V} (a : Nat → Nat) (S : pX) (v1 : Int32) (R : Int32 × pX) (hf : fX_decodeTag S v1 = some R) : wk_I (ee V) yX_decodeTag ts_X_decodeTag ⟨4, 0, 0, 91⟩ [.ref (a 0), .int v1] (cX V a S) (fun (r : Int32) (u : pX) => R.1 = r ∧ R.2 = u) (fun u : pX => cX V a u) := by
  refine wk_of (ee_ok V) (by decide +kernel) rfl (Nat.le_of_ble_eq_true rfl) ?_
  intro x X Z
  unfold fX_decodeTag at hf
  refine wk_lq (lv' := [(0, .ref (a 0)), (1, .int v1)]) rfl ?_
  refine wk_aload_n X 0 dX_decodeTag_0 rfl rfl ?_
  refine wk_get X uw_X 0 rfl rfl 3 (Nat.le_of_ble_eq_true rfl) (tl tw_141) rfl rfl dX_decodeTag_1 ?_
  refine wk_aload_n X 0 dX_decodeTag_4 rfl rfl ?_
  refine wk_get X uw_X 0 rfl rfl 1 (Nat.le_of_ble_eq_true rfl) (tl tw_139) rfl rfl dX_decodeTag_5 ?_
  obtain ⟨q1, h2, hf⟩ := p_ob hf
  refine wk_goI [16, 5, 6, 7, 8, 9] (wk_rV X (mC_read (V := V) (fun i => a (i + 16)) (fun i => a (i + 5)) S.2.2.2 S.2.1 q1 h2) rfl (gd (tw_477)) [16, 5, 6, 7, 8, 9] rfl rfl 16 rfl rfl (tl tw_474) (tl tw_475) (tl tw_476) (tl tw_6) 1 pd_C_read rfl ⟨rfl, rfl⟩ ⟨Nat.le_of_ble_eq_true rfl, Nat.le_of_ble_eq_true rfl⟩ rfl (Nat.le_of_ble_eq_true rfl) dX_decodeTag_8) rfl ?_
  rintro r u ⟨rfl, rfl⟩
  refine wk_ws (ws' := cX V a (S.1, S.2.1, S.2.2.1, q1.2)) rfl ?_
  refine wk_bz_ne X dX_decodeTag_11 (tgt := 16) rfl (fun h3 => ?_) (fun h3 => ?_)
  · replace hf := p_it h3 hf
    refine wk_iload_n X 1 dX_decodeTag_16 rfl rfl ?_
    by_cases h4 : v1 = (0 : Int32)
    · replace hf := p_it h4 hf
      refine wk_swIn X dX_decodeTag_17 (off := 31) (tgt := 48) (by rw [h4]; decide) (by rw [h4]; decide) (by rw [h4]; rfl) rfl ?_
      refine wk_aload_n X 0 dX_decodeTag_48 rfl rfl ?_
      refine wk_get X uw_X 0 rfl rfl 3 (Nat.le_of_ble_eq_true rfl) (tl tw_141) rfl rfl dX_decodeTag_49 ?_
      refine wk_get X uw_C 16 rfl rfl 0 (Nat.le_of_ble_eq_true rfl) (tl tw_122) rfl rfl dX_decodeTag_52 ?_
      have hf := Option.some.inj hf
      exact wk_iret X Z rfl dX_decodeTag_55 ((S.1, S.2.1, S.2.2.1, q1.2)) ⟨Eq.symm (congrArg Prod.fst hf), Eq.symm (congrArg Prod.snd hf)⟩ rfl rfl
    · replace hf := p_ie h4 hf
      by_cases h5 : v1 = (1 : Int32)
      · replace hf := p_it h5 hf
        refine wk_swIn X dX_decodeTag_17 (off := 39) (tgt := 56) (by rw [h5]; decide) (by rw [h5]; decide) (by rw [h5]; rfl) rfl ?_
        refine wk_aload_n X 0 dX_decodeTag_56 rfl rfl ?_
        refine wk_get X uw_X 0 rfl rfl 3 (Nat.le_of_ble_eq_true rfl) (tl tw_141) rfl rfl dX_decodeTag_57 ?_
        refine wk_get X uw_C 16 rfl rfl 1 (Nat.le_of_ble_eq_true rfl) (tl tw_124) rfl rfl dX_decodeTag_60 ?_
        have hf := Option.some.inj hf
        exact wk_iret X Z rfl dX_decodeTag_63 ((S.1, S.2.1, S.2.2.1, q1.2)) ⟨Eq.symm (congrArg Prod.fst hf), Eq.symm (congrArg Prod.snd hf)⟩ rfl rfl
      · replace hf := p_ie h5 hf
        by_cases h6 : v1 = (2 : Int32)
        · replace hf := p_it h6 hf
          refine wk_swIn X dX_decodeTag_17 (off := 47) (tgt := 64) (by rw [h6]; decide) (by rw [h6]; decide) (by rw [h6]; rfl) rfl ?_
          refine wk_aload_n X 0 dX_decodeTag_64 rfl rfl ?_
          refine wk_get X uw_X 0 rfl rfl 3 (Nat.le_of_ble_eq_true rfl) (tl tw_141) rfl rfl dX_decodeTag_65 ?_
          refine wk_get X uw_C 16 rfl rfl 2 (Nat.le_of_ble_eq_true rfl) (tl tw_126) rfl rfl dX_decodeTag_68 ?_
          have hf := Option.some.inj hf
          exact wk_iret X Z rfl dX_decodeTag_71 ((S.1, S.2.1, S.2.2.1, q1.2)) ⟨Eq.symm (congrArg Prod.fst hf), Eq.symm (congrArg Prod.snd hf)⟩ rfl rfl
        · replace hf := p_ie h6 hf
          by_cases h7 : v1 = (3 : Int32)
          · replace hf := p_it h7 hf
            refine wk_swIn X dX_decodeTag_17 (off := 55) (tgt := 72) (by rw [h7]; decide) (by rw [h7]; decide) (by rw [h7]; rfl) rfl ?_
            refine wk_aload_n X 0 dX_decodeTag_72 rfl rfl ?_
            refine wk_get X uw_X 0 rfl rfl 3 (Nat.le_of_ble_eq_true rfl) (tl tw_141) rfl rfl dX_decodeTag_73 ?_
            refine wk_get X uw_C 16 rfl rfl 3 (Nat.le_of_ble_eq_true rfl) (tl tw_128) rfl rfl dX_decodeTag_76 ?_
            have hf := Option.some.inj hf
            exact wk_iret X Z rfl dX_decodeTag_79 ((S.1, S.2.1, S.2.2.1, q1.2)) ⟨Eq.symm (congrArg Prod.fst hf), Eq.symm (congrArg Prod.snd hf)⟩ rfl rfl
          · replace hf := p_ie h7 hf
            have h4n : ¬ (v1).toInt = 0 := p_sw (0 : Int32) h4
            have h5n : ¬ (v1).toInt = 1 := p_sw (1 : Int32) h5
            have h6n : ¬ (v1).toInt = 2 := p_sw (2 : Int32) h6
            have h7n : ¬ (v1).toInt = 3 := p_sw (3 : Int32) h7
            refine wk_swOut X dX_decodeTag_17 (tgt := 80) (by omega) rfl ?_
            refine wk_iconst X dX_decodeTag_80 (v := (-1 : Int32)) (by decide) ?_
            have hf := Option.some.inj hf
            exact wk_iret X Z rfl dX_decodeTag_81 ((S.1, S.2.1, S.2.2.1, q1.2)) ⟨Eq.symm (congrArg Prod.fst hf), Eq.symm (congrArg Prod.snd hf)⟩ rfl rfl
  · replace hf := p_ie h3 hf
    refine wk_iconst X dX_decodeTag_14 (v := (-1 : Int32)) (by decide) ?_
    have hf := Option.some.inj hf
    exact wk_iret X Z rfl dX_decodeTag_15 ((S.1, S.2.1, S.2.2.1, q1.2)) ⟨Eq.symm (congrArg Prod.fst hf), Eq.symm (congrArg Prod.snd hf)⟩ rfl rfl
-- Y_borderLetter: room (1, 21), Option (Int32)
def fY_borderLetter (S : pY) (v1 : Int32) : Option (Int32) :=
  if S.2 = 0 then (
    (fT_wordLetter S.1 v1).bind fun q2 =>
    some q2
  ) else (
    some (-1 : Int32)
  )
set_option maxRecDepth 100000 in
set_option maxHeartbeats 4000000 in
theorem mY_borderLetter {V : ee_V} (a : Nat → Nat) (S : pY) (v1 : Int32) (R : Int32) (hf : fY_borderLetter S v1 = some R) : wk_I (ee V) yY_borderLetter ts_Y_borderLetter ⟨1, 0, 0, 21⟩ [.ref (a 0), .int v1] (cY V a S) (fun (r : Int32) (_ : Unit) => R = r) (fun _ : Unit => cY V a S) := by
  refine wk_of (ee_ok V) (by decide +kernel) rfl (Nat.le_of_ble_eq_true rfl) ?_
  intro x X Z
  unfold fY_borderLetter at hf
  refine wk_lq (lv' := [(0, .ref (a 0)), (1, .int v1)]) rfl ?_
  refine wk_aload_n X 0 dY_borderLetter_0 rfl rfl ?_
  refine wk_get X uw_Y 0 rfl rfl 1 (Nat.le_of_ble_eq_true rfl) (tl tw_108) rfl rfl dY_borderLetter_1 ?_
  refine wk_if_ne X dY_borderLetter_4 (tgt := 18) rfl (fun h1 => ?_) (fun h1 => ?_)
  · replace hf := p_ie h1 hf
    refine wk_iconst X dY_borderLetter_18 (v := (-1 : Int32)) (by decide) ?_
    have hf := Option.some.inj hf
    exact wk_iret X Z rfl dY_borderLetter_19 () (Eq.symm hf) rfl rfl
  · replace hf := p_it h1 hf
    refine wk_aload_n X 0 dY_borderLetter_7 rfl rfl ?_
    refine wk_get X uw_Y 0 rfl rfl 0 (Nat.le_of_ble_eq_true rfl) (tl tw_107) rfl rfl dY_borderLetter_8 ?_
    refine wk_iload_n X 1 dY_borderLetter_11 rfl rfl ?_
    obtain ⟨q2, h3, hf⟩ := p_ob hf
    refine wk_goI [1, 2, 3, 4, 5] (wk_rV X (mT_wordLetter (V := V) (fun i => a (i + 1)) S.1 v1 q2 h3) rfl (gd (tw_404)) [1, 2, 3, 4, 5] rfl rfl 1 rfl rfl (tl tw_401) (tl tw_402) (tl tw_403) (tl tw_4) 1 pd_T_wordLetter rfl ⟨rfl, rfl⟩ ⟨Nat.le_of_ble_eq_true rfl, Nat.le_of_ble_eq_true rfl⟩ rfl (Nat.le_of_ble_eq_true rfl) dY_borderLetter_12) rfl ?_
    rintro r ⟨⟩ rfl
    refine wk_ws (ws' := cY V a S) rfl ?_
    refine wk_goto X dY_borderLetter_15 (tgt := 19) rfl ?_
    have hf := Option.some.inj hf
    exact wk_iret X Z rfl dY_borderLetter_19 () (Eq.symm hf) rfl rfl
-- X_decodeCyclic: room (2, 42), Option (Int32)
def fX_decodeCyclic (S : pX) (v1 : Int32) : Option (Int32) :=
  (fY_borderLetter S.2.2.1 v1).bind fun q1 =>
  some q1
set_option maxRecDepth 100000 in
set_option maxHeartbeats 4000000 in
theorem mX_decodeCyclic {V : ee_V} (a : Nat → Nat) (S : pX) (v1 : Int32) (R : Int32) (hf : fX_decodeCyclic S v1 = some R) : wk_I (ee V) yX_decodeCyclic ts_X_decodeCyclic ⟨2, 0, 0, 42⟩ [.ref (a 0), .int v1] (cX V a S) (fun (r : Int32) (_ : Unit) => R = r) (fun _ : Unit => cX V a S) := by
  refine wk_of (ee_ok V) (by decide +kernel) rfl (Nat.le_of_ble_eq_true rfl) ?_
  intro x X Z
  unfold fX_decodeCyclic at hf
  refine wk_lq (lv' := [(0, .ref (a 0)), (1, .int v1)]) rfl ?_
  refine wk_aload_n X 0 dX_decodeCyclic_0 rfl rfl ?_
  refine wk_get X uw_X 0 rfl rfl 2 (Nat.le_of_ble_eq_true rfl) (tl tw_140) rfl rfl dX_decodeCyclic_1 ?_
  refine wk_iload_n X 1 dX_decodeCyclic_4 rfl rfl ?_
  obtain ⟨q1, h2, hf⟩ := p_ob hf
  refine wk_goI [10, 11, 12, 13, 14, 15] (wk_rV X (mY_borderLetter (V := V) (fun i => a (i + 10)) S.2.2.1 v1 q1 h2) rfl (gd (tw_501)) [10, 11, 12, 13, 14, 15] rfl rfl 10 rfl rfl (tl tw_498) (tl tw_499) (tl tw_500) (tl tw_5) 1 pd_Y_borderLetter rfl ⟨rfl, rfl⟩ ⟨Nat.le_of_ble_eq_true rfl, Nat.le_of_ble_eq_true rfl⟩ rfl (Nat.le_of_ble_eq_true rfl) dX_decodeCyclic_5) rfl ?_
  rintro r ⟨⟩ rfl
  refine wk_ws (ws' := cX V a S) rfl ?_
  have hf := Option.some.inj hf
  exact wk_iret X Z rfl dX_decodeCyclic_8 () (Eq.symm hf) rfl rfl
-- X_nextBorder: room (4, 91), Option (Int32 × pX)
def fX_nextBorder_L2 : Nat → pX → Int32 → Option (Int32 × pX)
  | 0, _, _ => none
  | n + 1, S, v1 =>
    if (20000 : Int32) < v1 then (
      some ((0 : Int32), S)
    ) else (
      (fT_canGoOn S.2.1).bind fun q2 =>
      if q2 = (1 : Int32) then (
        (fT_step S.2.1).bind fun q5 =>
        (fC_read S.2.2.2 q5).bind fun q7 =>
        if q7.1 = true then (
          some (v1, (S.1, q5, S.2.2.1, q7.2))
        ) else (
          fX_nextBorder_L2 n (S.1, q5, S.2.2.1, q7.2) (v1 + (1 : Int32))
        )
      ) else (
        some ((0 : Int32), S)
      )
    )
def fX_nextBorder (S : pX) : Option (Int32 × pX) :=
  fX_nextBorder_L2 100000 S (1 : Int32)
set_option maxRecDepth 100000 in
set_option maxHeartbeats 4000000 in
theorem wX_nextBorder_L2 {V : ee_V} (a : Nat → Nat) (S0 : pX) {x : wk_C} (X : wk_K (ee V) x cX_nextBorder 2 "TagWorkshop" ts_X_nextBorder ⟨4, 0, 0, 91⟩) (R : Int32 × pX) (Z : wk_N x (some .int) (va_Qi (fun (r : Int32) (u : pX) => R.1 = r ∧ R.2 = u) (wk_B (ee V) (cX V a S0) (fun u : pX => cX V a u)) (wk_in (cX V a S0))) (cX V a S0)) : ∀ (n : Nat) (S : pX) (v1 : Int32), fX_nextBorder_L2 n S v1 = some R → wk_G (ee V) x 2 (cX V a S) 2 [(0, .ref (a 0)), (1, .int v1)] [] := by
  intro n
  induction n with
  | zero => intro S v1 hf; exact absurd hf (by rw [fX_nextBorder_L2]; exact fun h => by cases h)
  | succ n ih =>
    intro S v1 hf
    rw [fX_nextBorder_L2] at hf
    refine wk_iload_n X 1 dX_nextBorder_2 rfl rfl ?_
    refine wk_sipush X dX_nextBorder_3 (v := (20000 : Int32)) (by decide) ?_
    refine wk_icmp_gt X dX_nextBorder_6 (tgt := 51) rfl (fun h1 => ?_) (fun h1 => ?_)
    · replace hf := p_it h1 hf
      refine wk_iconst X dX_nextBorder_51 (v := (0 : Int32)) (by decide) ?_
      have hf := Option.some.inj hf
      exact wk_iret X Z rfl dX_nextBorder_52 (S) ⟨Eq.symm (congrArg Prod.fst hf), Eq.symm (congrArg Prod.snd hf)⟩ rfl rfl
    · replace hf := p_ie h1 hf
      refine wk_aload_n X 0 dX_nextBorder_9 rfl rfl ?_
      refine wk_get X uw_X 0 rfl rfl 1 (Nat.le_of_ble_eq_true rfl) (tl tw_139) rfl rfl dX_nextBorder_10 ?_
      obtain ⟨q2, h3, hf⟩ := p_ob hf
      refine wk_goI [5, 6, 7, 8, 9] (wk_rV X (mT_canGoOn (V := V) (fun i => a (i + 5)) S.2.1 q2 h3) rfl (gd (tw_387)) [5, 6, 7, 8, 9] rfl rfl 5 rfl rfl (tl tw_446) (tl tw_385) (tl tw_386) (tl tw_4) 0 pd_T_canGoOn rfl ⟨rfl, rfl⟩ ⟨Nat.le_of_ble_eq_true rfl, Nat.le_of_ble_eq_true rfl⟩ rfl (Nat.le_of_ble_eq_true rfl) dX_nextBorder_13) rfl ?_
      rintro r ⟨⟩ rfl
      refine wk_ws (ws' := cX V a S) rfl ?_
      refine wk_iconst X dX_nextBorder_16 (v := (1 : Int32)) (by decide) ?_
      refine wk_icmp_eq X dX_nextBorder_17 (tgt := 22) rfl (fun h4 => ?_) (fun h4 => ?_)
      · replace hf := p_it h4 hf
        refine wk_aload_n X 0 dX_nextBorder_22 rfl rfl ?_
        refine wk_get X uw_X 0 rfl rfl 1 (Nat.le_of_ble_eq_true rfl) (tl tw_139) rfl rfl dX_nextBorder_23 ?_
        obtain ⟨q5, h6, hf⟩ := p_ob hf
        refine wk_goV [5, 6, 7, 8, 9] (wk_rV X (mT_step (V := V) (fun i => a (i + 5)) S.2.1 q5 h6) rfl (gd (tw_417)) [5, 6, 7, 8, 9] rfl rfl 5 rfl rfl (tl tw_506) (tl tw_416) (tl tw_831) (tl tw_4) 0 pd_T_step rfl ⟨rfl, rfl⟩ ⟨Nat.le_of_ble_eq_true rfl, Nat.le_of_ble_eq_true rfl⟩ rfl (Nat.le_of_ble_eq_true rfl) dX_nextBorder_26) rfl ?_
        rintro u rfl
        refine wk_ws (ws' := cX V a (S.1, q5, S.2.2.1, S.2.2.2)) rfl ?_
        refine wk_aload_n X 0 dX_nextBorder_29 rfl rfl ?_
        refine wk_get X uw_X 0 rfl rfl 3 (Nat.le_of_ble_eq_true rfl) (tl tw_141) rfl rfl dX_nextBorder_30 ?_
        refine wk_aload_n X 0 dX_nextBorder_33 rfl rfl ?_
        refine wk_get X uw_X 0 rfl rfl 1 (Nat.le_of_ble_eq_true rfl) (tl tw_139) rfl rfl dX_nextBorder_34 ?_
        obtain ⟨q7, h8, hf⟩ := p_ob hf
        refine wk_goI [16, 5, 6, 7, 8, 9] (wk_rV X (mC_read (V := V) (fun i => a (i + 16)) (fun i => a (i + 5)) S.2.2.2 q5 q7 h8) rfl (gd (tw_477)) [16, 5, 6, 7, 8, 9] rfl rfl 16 rfl rfl (tl tw_474) (tl tw_475) (tl tw_476) (tl tw_6) 1 pd_C_read rfl ⟨rfl, rfl⟩ ⟨Nat.le_of_ble_eq_true rfl, Nat.le_of_ble_eq_true rfl⟩ rfl (Nat.le_of_ble_eq_true rfl) dX_nextBorder_37) rfl ?_
        rintro r u ⟨rfl, rfl⟩
        refine wk_ws (ws' := cX V a (S.1, q5, S.2.2.1, q7.2)) rfl ?_
        refine wk_bz_eq X dX_nextBorder_40 (tgt := 45) rfl (fun h9 => ?_) (fun h9 => ?_)
        · replace hf := p_ie h9 hf
          refine wk_iinc X 1 dX_nextBorder_45 (v := (v1 + (1 : Int32))) rfl rfl (Nat.le_of_ble_eq_true rfl) (lv' := [(1, .int (v1 + (1 : Int32))), (0, .ref (a 0))]) rfl ?_
          refine wk_goto X dX_nextBorder_48 (tgt := 2) rfl ?_
          refine wk_lv [1, 0] (lv' := [(0, .ref (a 0)), (1, .int (v1 + (1 : Int32)))]) rfl ?_
          exact ih (S.1, q5, S.2.2.1, q7.2) (v1 + (1 : Int32)) hf
        · replace hf := p_it h9 hf
          refine wk_iload_n X 1 dX_nextBorder_43 rfl rfl ?_
          have hf := Option.some.inj hf
          exact wk_iret X Z rfl dX_nextBorder_44 ((S.1, q5, S.2.2.1, q7.2)) ⟨Eq.symm (congrArg Prod.fst hf), Eq.symm (congrArg Prod.snd hf)⟩ rfl rfl
      · replace hf := p_ie h4 hf
        refine wk_iconst X dX_nextBorder_20 (v := (0 : Int32)) (by decide) ?_
        have hf := Option.some.inj hf
        exact wk_iret X Z rfl dX_nextBorder_21 (S) ⟨Eq.symm (congrArg Prod.fst hf), Eq.symm (congrArg Prod.snd hf)⟩ rfl rfl
set_option maxRecDepth 100000 in
set_option maxHeartbeats 4000000 in
theorem mX_nextBorder {V : ee_V} (a : Nat → Nat) (S : pX) (R : Int32 × pX) (hf : fX_nextBorder S = some R) : wk_I (ee V) yX_nextBorder ts_X_nextBorder ⟨4, 0, 0, 91⟩ [.ref (a 0)] (cX V a S) (fun (r : Int32) (u : pX) => R.1 = r ∧ R.2 = u) (fun u : pX => cX V a u) := by
  refine wk_of (ee_ok V) (by decide +kernel) rfl (Nat.le_of_ble_eq_true rfl) ?_
  intro x X Z
  unfold fX_nextBorder at hf
  refine wk_lq (lv' := [(0, .ref (a 0))]) rfl ?_
  refine wk_iconst X dX_nextBorder_0 (v := (1 : Int32)) (by decide) ?_
  refine wk_istore_n X dX_nextBorder_1 rfl (Nat.le_of_ble_eq_true rfl) (lv' := [(1, .int (1 : Int32)), (0, .ref (a 0))]) rfl ?_
  refine wk_lv [1, 0] (lv' := [(0, .ref (a 0)), (1, .int (1 : Int32))]) rfl ?_
  exact wX_nextBorder_L2 a S X R Z 100000 S (1 : Int32) hf

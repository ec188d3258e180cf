-- R_isCode: room (1, 23), Option (Bool × pR)
def fR_isCode (S : pR) : Option (Bool × pR) :=
  if S.2.1.2.1 = true then (
    if S.2.1.2.2.2.2.2.2.2 = S.2.1.2.2.2.2.2.2.1 then (
      some (false, S)
    ) else (
      (p_rd 12000 S.2.1.2.2.2.2.2.1 S.2.1.2.2.2.2.2.2.1).bind fun q3 =>
      if q3 = 0 then (
        some (false, S)
      ) else (
        if ((q3 - (1 : Int32)) - (q3 - (1 : Int32)) / (18 : Int32) * (18 : Int32)) = 0 then (
          (fR_pairs S S.2.1.2.2.2.2.2.2.1 q3).bind fun q11 =>
          if q11 = (1 : Int32) then (
            (fR_pairs S (S.2.1.2.2.2.2.2.2.1 + (2 : Int32)) (q3 + (1 : Int32))).bind fun q14 =>
            (fR_pairs (S.1, S.2.1, S.2.2.1, (S.2.2.2.1, S.2.2.2.2.1, q14, S.2.2.2.2.2.2)) ((S.2.1.2.2.2.2.2.2.1 + (2 : Int32)) + ((2 : Int32) * q14)) (q3 + (2 : Int32))).bind fun q16 =>
            if q16 = (1 : Int32) then (
              (fR_pairs (S.1, S.2.1, S.2.2.1, (S.2.2.2.1, S.2.2.2.2.1, q14, S.2.2.2.2.2.2)) (((S.2.1.2.2.2.2.2.2.1 + (2 : Int32)) + ((2 : Int32) * q14)) + (2 : Int32)) (q3 + (3 : Int32))).bind fun q19 =>
              if ((((S.2.1.2.2.2.2.2.2.1 + (2 : Int32)) + ((2 : Int32) * q14)) + (2 : Int32)) + ((2 : Int32) * q19)) = S.2.1.2.2.2.2.2.2.2 then (
                some (true, (S.1, S.2.1, S.2.2.1, ((((q3 - (1 : Int32)) / (36 : Int32)) + (1 : Int32)), (((q3 - (1 : Int32)) / (18 : Int32)) - ((q3 - (1 : Int32)) / (18 : Int32)) / (2 : Int32) * (2 : Int32)), q14, q19)))
              ) else (
                some (false, (S.1, S.2.1, S.2.2.1, ((((q3 - (1 : Int32)) / (36 : Int32)) + (1 : Int32)), (((q3 - (1 : Int32)) / (18 : Int32)) - ((q3 - (1 : Int32)) / (18 : Int32)) / (2 : Int32) * (2 : Int32)), q14, q19)))
              )
            ) else (
              some (false, (S.1, S.2.1, S.2.2.1, (S.2.2.2.1, S.2.2.2.2.1, q14, S.2.2.2.2.2.2)))
            )
          ) else (
            some (false, S)
          )
        ) else (
          some (false, S)
        )
      )
    )
  ) else (
    some (false, S)
  )
set_option maxRecDepth 100000 in
set_option maxHeartbeats 4000000 in
theorem mR_isCode {V : ee_V} (a : Nat → Nat) (S : pR) (R : Bool × pR) (hf : fR_isCode S = some R) : wk_I (ee V) yR_isCode ts_R_isCode ⟨1, 0, 0, 23⟩ [.ref (a 0)] (cR V a S) (fun (r : Int32) (u : pR) => p_b (R.1) = r ∧ R.2 = u) (fun u : pR => cR V a u) := by
  refine wk_of (ee_ok V) (by decide +kernel) rfl (Nat.le_of_ble_eq_true rfl) ?_
  intro x X Z
  unfold fR_isCode at hf
  refine wk_lq (lv' := [(0, .ref (a 0))]) rfl ?_
  refine wk_aload_n X 0 dR_isCode_0 rfl rfl ?_
  refine wk_get X uw_R 0 rfl rfl 9 (Nat.le_of_ble_eq_true rfl) (tl tw_546) rfl rfl dR_isCode_1 ?_
  refine wk_bz_eq X dR_isCode_4 (tgt := 47) rfl (fun h1 => ?_) (fun h1 => ?_)
  · replace hf := p_ie h1 hf
    refine wk_iconst X dR_isCode_47 (v := (0 : Int32)) (by decide) ?_
    have hf := Option.some.inj hf
    exact wk_iret X Z rfl dR_isCode_48 (S) ⟨Eq.symm (congrArg p_b (congrArg Prod.fst hf)), Eq.symm (congrArg Prod.snd hf)⟩ rfl rfl
  · replace hf := p_it h1 hf
    refine wk_aload_n X 0 dR_isCode_7 rfl rfl ?_
    refine wk_get X uw_R 0 rfl rfl 15 (Nat.le_of_ble_eq_true rfl) (tl tw_552) rfl rfl dR_isCode_8 ?_
    refine wk_aload_n X 0 dR_isCode_11 rfl rfl ?_
    refine wk_get X uw_R 0 rfl rfl 14 (Nat.le_of_ble_eq_true rfl) (tl tw_551) rfl rfl dR_isCode_12 ?_
    refine wk_icmp_eq X dR_isCode_15 (tgt := 47) rfl (fun h2 => ?_) (fun h2 => ?_)
    · replace hf := p_it h2 hf
      refine wk_iconst X dR_isCode_47 (v := (0 : Int32)) (by decide) ?_
      have hf := Option.some.inj hf
      exact wk_iret X Z rfl dR_isCode_48 (S) ⟨Eq.symm (congrArg p_b (congrArg Prod.fst hf)), Eq.symm (congrArg Prod.snd hf)⟩ rfl rfl
    · replace hf := p_ie h2 hf
      refine wk_aload_n X 0 dR_isCode_18 rfl rfl ?_
      refine wk_get X uw_R 0 rfl rfl 13 (Nat.le_of_ble_eq_true rfl) (tl tw_550) rfl rfl dR_isCode_19 ?_
      refine wk_aload_n X 0 dR_isCode_22 rfl rfl ?_
      refine wk_get X uw_R 0 rfl rfl 14 (Nat.le_of_ble_eq_true rfl) (tl tw_551) rfl rfl dR_isCode_23 ?_
      obtain ⟨q3, h4, hf⟩ := p_ob hf
      obtain ⟨h4i, h4e⟩ := p_rd_some h4
      refine wk_iald X 8 0 rfl rfl h4i h4e dR_isCode_26 ?_
      refine wk_if_eq X dR_isCode_27 (tgt := 47) rfl (fun h5 => ?_) (fun h5 => ?_)
      · replace hf := p_it h5 hf
        refine wk_iconst X dR_isCode_47 (v := (0 : Int32)) (by decide) ?_
        have hf := Option.some.inj hf
        exact wk_iret X Z rfl dR_isCode_48 (S) ⟨Eq.symm (congrArg p_b (congrArg Prod.fst hf)), Eq.symm (congrArg Prod.snd hf)⟩ rfl rfl
      · replace hf := p_ie h5 hf
        refine wk_aload_n X 0 dR_isCode_30 rfl rfl ?_
        refine wk_get X uw_R 0 rfl rfl 13 (Nat.le_of_ble_eq_true rfl) (tl tw_550) rfl rfl dR_isCode_31 ?_
        refine wk_aload_n X 0 dR_isCode_34 rfl rfl ?_
        refine wk_get X uw_R 0 rfl rfl 14 (Nat.le_of_ble_eq_true rfl) (tl tw_551) rfl rfl dR_isCode_35 ?_
        refine wk_iald X 8 0 rfl rfl h4i h4e dR_isCode_38 ?_
        refine wk_iconst X dR_isCode_39 (v := (1 : Int32)) (by decide) ?_
        refine wk_isub X dR_isCode_40 ?_
        refine wk_bipush X dR_isCode_41 (v := (18 : Int32)) (by decide) ?_
        refine wk_irem X dR_isCode_43 (by decide) ?_
        refine wk_if_eq X dR_isCode_44 (tgt := 49) rfl (fun h8 => ?_) (fun h8 => ?_)
        · replace hf := p_it h8 hf
          refine wk_aload_n X 0 dR_isCode_49 rfl rfl ?_
          refine wk_get X uw_R 0 rfl rfl 13 (Nat.le_of_ble_eq_true rfl) (tl tw_550) rfl rfl dR_isCode_50 ?_
          refine wk_aload_n X 0 dR_isCode_53 rfl rfl ?_
          refine wk_get X uw_R 0 rfl rfl 14 (Nat.le_of_ble_eq_true rfl) (tl tw_551) rfl rfl dR_isCode_54 ?_
          refine wk_iald X 8 0 rfl rfl h4i h4e dR_isCode_57 ?_
          refine wk_istore_n X dR_isCode_58 rfl (Nat.le_of_ble_eq_true rfl) (lv' := [(1, .int q3), (0, .ref (a 0))]) rfl ?_
          refine wk_aload_n X 1 dR_isCode_59 rfl rfl ?_
          refine wk_aload_n X 1 dR_isCode_60 rfl rfl ?_
          refine wk_get X uw_R 0 rfl rfl 14 (Nat.le_of_ble_eq_true rfl) (tl tw_551) rfl rfl dR_isCode_61 ?_
          refine wk_iload_n X 0 dR_isCode_64 rfl rfl ?_
          obtain ⟨q11, h12, hf⟩ := p_ob hf
          refine wk_goI [0, 1, 2, 3, 4, 5, 6, 7, 8, 9, 10, 11, 12] (wk_rV X (mR_pairs (V := V) a S S.2.1.2.2.2.2.2.2.1 q3 q11 h12) rfl (gd (tw_811)) [0, 1, 2, 3, 4, 5, 6, 7, 8, 9, 10, 11, 12] rfl rfl 0 rfl rfl (tl tw_808) (tl tw_810) (tl tv_24) (tl tw_7) 2 pd_R_pairs rfl ⟨rfl, rfl⟩ ⟨Nat.le_of_ble_eq_true rfl, Nat.le_of_ble_eq_true rfl⟩ rfl (Nat.le_of_ble_eq_true rfl) dR_isCode_65) rfl ?_
          rintro r ⟨⟩ rfl
          refine wk_ws (ws' := cR V a S) rfl ?_
          refine wk_iconst X dR_isCode_68 (v := (1 : Int32)) (by decide) ?_
          refine wk_icmp_eq X dR_isCode_69 (tgt := 74) rfl (fun h13 => ?_) (fun h13 => ?_)
          · replace hf := p_it h13 hf
            refine wk_aload_n X 1 dR_isCode_74 rfl rfl ?_
            refine wk_aload_n X 1 dR_isCode_75 rfl rfl ?_
            refine wk_aload_n X 1 dR_isCode_76 rfl rfl ?_
            refine wk_get X uw_R 0 rfl rfl 14 (Nat.le_of_ble_eq_true rfl) (tl tw_551) rfl rfl dR_isCode_77 ?_
            refine wk_iconst X dR_isCode_80 (v := (2 : Int32)) (by decide) ?_
            refine wk_iadd X dR_isCode_81 ?_
            refine wk_iload_n X 0 dR_isCode_82 rfl rfl ?_
            refine wk_iconst X dR_isCode_83 (v := (1 : Int32)) (by decide) ?_
            refine wk_iadd X dR_isCode_84 ?_
            obtain ⟨q14, h15, hf⟩ := p_ob hf
            refine wk_goI [0, 1, 2, 3, 4, 5, 6, 7, 8, 9, 10, 11, 12] (wk_rV X (mR_pairs (V := V) a S (S.2.1.2.2.2.2.2.2.1 + (2 : Int32)) (q3 + (1 : Int32)) q14 h15) rfl (gd (tw_811)) [0, 1, 2, 3, 4, 5, 6, 7, 8, 9, 10, 11, 12] rfl rfl 0 rfl rfl (tl tw_808) (tl tw_810) (tl tv_24) (tl tw_7) 2 pd_R_pairs rfl ⟨rfl, rfl⟩ ⟨Nat.le_of_ble_eq_true rfl, Nat.le_of_ble_eq_true rfl⟩ rfl (Nat.le_of_ble_eq_true rfl) dR_isCode_85) rfl ?_
            rintro r ⟨⟩ rfl
            refine wk_ws (ws' := cR V a S) rfl ?_
            refine wk_put X uw_R 0 rfl rfl 27 (Nat.le_of_ble_eq_true rfl) ft_R ft_R_ok fn_R (tl tw_564) rfl rfl rfl rfl (Nat.le_of_ble_eq_true rfl) dR_isCode_88 (ws' := cR V a (S.1, S.2.1, S.2.2.1, (S.2.2.2.1, S.2.2.2.2.1, q14, S.2.2.2.2.2.2))) rfl ?_
            refine wk_aload_n X 1 dR_isCode_91 rfl rfl ?_
            refine wk_get X uw_R 0 rfl rfl 14 (Nat.le_of_ble_eq_true rfl) (tl tw_551) rfl rfl dR_isCode_92 ?_
            refine wk_iconst X dR_isCode_95 (v := (2 : Int32)) (by decide) ?_
            refine wk_iadd X dR_isCode_96 ?_
            refine wk_iconst X dR_isCode_97 (v := (2 : Int32)) (by decide) ?_
            refine wk_aload_n X 1 dR_isCode_98 rfl rfl ?_
            refine wk_get X uw_R 0 rfl rfl 27 (Nat.le_of_ble_eq_true rfl) (tl tw_564) rfl rfl dR_isCode_99 ?_
            refine wk_imul X dR_isCode_102 ?_
            refine wk_iadd X dR_isCode_103 ?_
            refine wk_istore_n X dR_isCode_104 rfl (Nat.le_of_ble_eq_true rfl) (lv' := [(2, .int ((S.2.1.2.2.2.2.2.2.1 + (2 : Int32)) + ((2 : Int32) * q14))), (1, .int q3), (0, .ref (a 0))]) rfl ?_
            refine wk_aload_n X 2 dR_isCode_105 rfl rfl ?_
            refine wk_iload_n X 0 dR_isCode_106 rfl rfl ?_
            refine wk_iload_n X 1 dR_isCode_107 rfl rfl ?_
            refine wk_iconst X dR_isCode_108 (v := (2 : Int32)) (by decide) ?_
            refine wk_iadd X dR_isCode_109 ?_
            obtain ⟨q16, h17, hf⟩ := p_ob hf
            refine wk_goI [0, 1, 2, 3, 4, 5, 6, 7, 8, 9, 10, 11, 12] (wk_rV X (mR_pairs (V := V) a (S.1, S.2.1, S.2.2.1, (S.2.2.2.1, S.2.2.2.2.1, q14, S.2.2.2.2.2.2)) ((S.2.1.2.2.2.2.2.2.1 + (2 : Int32)) + ((2 : Int32) * q14)) (q3 + (2 : Int32)) q16 h17) rfl (gd (tw_811)) [0, 1, 2, 3, 4, 5, 6, 7, 8, 9, 10, 11, 12] rfl rfl 0 rfl rfl (tl tw_808) (tl tw_810) (tl tv_24) (tl tw_7) 2 pd_R_pairs rfl ⟨rfl, rfl⟩ ⟨Nat.le_of_ble_eq_true rfl, Nat.le_of_ble_eq_true rfl⟩ rfl (Nat.le_of_ble_eq_true rfl) dR_isCode_110) rfl ?_
            rintro r ⟨⟩ rfl
            refine wk_ws (ws' := cR V a (S.1, S.2.1, S.2.2.1, (S.2.2.2.1, S.2.2.2.2.1, q14, S.2.2.2.2.2.2))) rfl ?_
            refine wk_iconst X dR_isCode_113 (v := (1 : Int32)) (by decide) ?_
            refine wk_icmp_eq X dR_isCode_114 (tgt := 119) rfl (fun h18 => ?_) (fun h18 => ?_)
            · replace hf := p_it h18 hf
              refine wk_aload_n X 2 dR_isCode_119 rfl rfl ?_
              refine wk_aload_n X 2 dR_isCode_120 rfl rfl ?_
              refine wk_iload_n X 0 dR_isCode_121 rfl rfl ?_
              refine wk_iconst X dR_isCode_122 (v := (2 : Int32)) (by decide) ?_
              refine wk_iadd X dR_isCode_123 ?_
              refine wk_iload_n X 1 dR_isCode_124 rfl rfl ?_
              refine wk_iconst X dR_isCode_125 (v := (3 : Int32)) (by decide) ?_
              refine wk_iadd X dR_isCode_126 ?_
              obtain ⟨q19, h20, hf⟩ := p_ob hf
              refine wk_goI [0, 1, 2, 3, 4, 5, 6, 7, 8, 9, 10, 11, 12] (wk_rV X (mR_pairs (V := V) a (S.1, S.2.1, S.2.2.1, (S.2.2.2.1, S.2.2.2.2.1, q14, S.2.2.2.2.2.2)) (((S.2.1.2.2.2.2.2.2.1 + (2 : Int32)) + ((2 : Int32) * q14)) + (2 : Int32)) (q3 + (3 : Int32)) q19 h20) rfl (gd (tw_811)) [0, 1, 2, 3, 4, 5, 6, 7, 8, 9, 10, 11, 12] rfl rfl 0 rfl rfl (tl tw_808) (tl tw_810) (tl tv_24) (tl tw_7) 2 pd_R_pairs rfl ⟨rfl, rfl⟩ ⟨Nat.le_of_ble_eq_true rfl, Nat.le_of_ble_eq_true rfl⟩ rfl (Nat.le_of_ble_eq_true rfl) dR_isCode_127) rfl ?_
              rintro r ⟨⟩ rfl
              refine wk_ws (ws' := cR V a (S.1, S.2.1, S.2.2.1, (S.2.2.2.1, S.2.2.2.2.1, q14, S.2.2.2.2.2.2))) rfl ?_
              refine wk_put X uw_R 0 rfl rfl 28 (Nat.le_of_ble_eq_true rfl) ft_R ft_R_ok fn_R (tl tw_565) rfl rfl rfl rfl (Nat.le_of_ble_eq_true rfl) dR_isCode_130 (ws' := cR V a (S.1, S.2.1, S.2.2.1, (S.2.2.2.1, S.2.2.2.2.1, q14, q19))) rfl ?_
              refine wk_aload_n X 2 dR_isCode_133 rfl rfl ?_
              refine wk_iload_n X 1 dR_isCode_134 rfl rfl ?_
              refine wk_iconst X dR_isCode_135 (v := (1 : Int32)) (by decide) ?_
              refine wk_isub X dR_isCode_136 ?_
              refine wk_bipush X dR_isCode_137 (v := (36 : Int32)) (by decide) ?_
              refine wk_idiv X dR_isCode_139 (by decide) ?_
              refine wk_iconst X dR_isCode_140 (v := (1 : Int32)) (by decide) ?_
              refine wk_iadd X dR_isCode_141 ?_
              refine wk_put X uw_R 0 rfl rfl 25 (Nat.le_of_ble_eq_true rfl) ft_R ft_R_ok fn_R (tl tw_562) rfl rfl rfl rfl (Nat.le_of_ble_eq_true rfl) dR_isCode_142 (ws' := cR V a (S.1, S.2.1, S.2.2.1, ((((q3 - (1 : Int32)) / (36 : Int32)) + (1 : Int32)), S.2.2.2.2.1, q14, q19))) rfl ?_
              refine wk_aload_n X 2 dR_isCode_145 rfl rfl ?_
              refine wk_iload_n X 1 dR_isCode_146 rfl rfl ?_
              refine wk_iconst X dR_isCode_147 (v := (1 : Int32)) (by decide) ?_
              refine wk_isub X dR_isCode_148 ?_
              refine wk_bipush X dR_isCode_149 (v := (18 : Int32)) (by decide) ?_
              refine wk_idiv X dR_isCode_151 (by decide) ?_
              refine wk_iconst X dR_isCode_152 (v := (2 : Int32)) (by decide) ?_
              refine wk_irem X dR_isCode_153 (by decide) ?_
              refine wk_put X uw_R 0 rfl rfl 26 (Nat.le_of_ble_eq_true rfl) ft_R ft_R_ok fn_R (tl tw_563) rfl rfl rfl rfl (Nat.le_of_ble_eq_true rfl) dR_isCode_154 (ws' := cR V a (S.1, S.2.1, S.2.2.1, ((((q3 - (1 : Int32)) / (36 : Int32)) + (1 : Int32)), (((q3 - (1 : Int32)) / (18 : Int32)) - ((q3 - (1 : Int32)) / (18 : Int32)) / (2 : Int32) * (2 : Int32)), q14, q19))) rfl ?_
              refine wk_iload_n X 0 dR_isCode_157 rfl rfl ?_
              refine wk_iconst X dR_isCode_158 (v := (2 : Int32)) (by decide) ?_
              refine wk_iadd X dR_isCode_159 ?_
              refine wk_iconst X dR_isCode_160 (v := (2 : Int32)) (by decide) ?_
              refine wk_aload_n X 2 dR_isCode_161 rfl rfl ?_
              refine wk_get X uw_R 0 rfl rfl 28 (Nat.le_of_ble_eq_true rfl) (tl tw_565) rfl rfl dR_isCode_162 ?_
              refine wk_imul X dR_isCode_165 ?_
              refine wk_iadd X dR_isCode_166 ?_
              refine wk_aload_n X 2 dR_isCode_167 rfl rfl ?_
              refine wk_get X uw_R 0 rfl rfl 15 (Nat.le_of_ble_eq_true rfl) (tl tw_552) rfl rfl dR_isCode_168 ?_
              refine wk_icmp_ne X dR_isCode_171 (tgt := 178) rfl (fun h21 => ?_) (fun h21 => ?_)
              · replace hf := p_ie h21 hf
                refine wk_iconst X dR_isCode_178 (v := (0 : Int32)) (by decide) ?_
                have hf := Option.some.inj hf
                exact wk_iret X Z rfl dR_isCode_179 ((S.1, S.2.1, S.2.2.1, ((((q3 - (1 : Int32)) / (36 : Int32)) + (1 : Int32)), (((q3 - (1 : Int32)) / (18 : Int32)) - ((q3 - (1 : Int32)) / (18 : Int32)) / (2 : Int32) * (2 : Int32)), q14, q19))) ⟨Eq.symm (congrArg p_b (congrArg Prod.fst hf)), Eq.symm (congrArg Prod.snd hf)⟩ rfl rfl
              · replace hf := p_it h21 hf
                refine wk_iconst X dR_isCode_174 (v := (1 : Int32)) (by decide) ?_
                refine wk_goto X dR_isCode_175 (tgt := 179) rfl ?_
                have hf := Option.some.inj hf
                exact wk_iret X Z rfl dR_isCode_179 ((S.1, S.2.1, S.2.2.1, ((((q3 - (1 : Int32)) / (36 : Int32)) + (1 : Int32)), (((q3 - (1 : Int32)) / (18 : Int32)) - ((q3 - (1 : Int32)) / (18 : Int32)) / (2 : Int32) * (2 : Int32)), q14, q19))) ⟨Eq.symm (congrArg p_b (congrArg Prod.fst hf)), Eq.symm (congrArg Prod.snd hf)⟩ rfl rfl
            · replace hf := p_ie h18 hf
              refine wk_iconst X dR_isCode_117 (v := (0 : Int32)) (by decide) ?_
              have hf := Option.some.inj hf
              exact wk_iret X Z rfl dR_isCode_118 ((S.1, S.2.1, S.2.2.1, (S.2.2.2.1, S.2.2.2.2.1, q14, S.2.2.2.2.2.2))) ⟨Eq.symm (congrArg p_b (congrArg Prod.fst hf)), Eq.symm (congrArg Prod.snd hf)⟩ rfl rfl
          · replace hf := p_ie h13 hf
            refine wk_iconst X dR_isCode_72 (v := (0 : Int32)) (by decide) ?_
            have hf := Option.some.inj hf
            exact wk_iret X Z rfl dR_isCode_73 (S) ⟨Eq.symm (congrArg p_b (congrArg Prod.fst hf)), Eq.symm (congrArg Prod.snd hf)⟩ rfl rfl
        · replace hf := p_ie h8 hf
          refine wk_iconst X dR_isCode_47 (v := (0 : Int32)) (by decide) ?_
          have hf := Option.some.inj hf
          exact wk_iret X Z rfl dR_isCode_48 (S) ⟨Eq.symm (congrArg p_b (congrArg Prod.fst hf)), Eq.symm (congrArg Prod.snd hf)⟩ rfl rfl
-- R_decodeTag: room (2, 45), Option (Int32 × pR)
def fR_decodeTag (S : pR) (v1 : Int32) : Option (Int32 × pR) :=
  (fR_isCode S).bind fun q1 =>
  if q1.1 = true then (
    if v1 = 0 then (
      some (q1.2.2.2.2.1, q1.2)
    ) else (
      if v1 = (1 : Int32) then (
        some (q1.2.2.2.2.2.1, q1.2)
      ) else (
        if v1 = (2 : Int32) then (
          some (q1.2.2.2.2.2.2.1, q1.2)
        ) else (
          if v1 = (3 : Int32) then (
            some (q1.2.2.2.2.2.2.2, q1.2)
          ) else (
            some ((-1 : Int32), q1.2)
          )
        )
      )
    )
  ) else (
    some ((-1 : Int32), q1.2)
  )
set_option maxRecDepth 100000 in
set_option maxHeartbeats 4000000 in
theorem mR_decodeTag {V : ee_V} (a : Nat → Nat) (S : pR) (v1 : Int32) (R : Int32 × pR) (hf : fR_decodeTag S v1 = some R) : wk_I (ee V) yR_decodeTag ts_R_decodeTag ⟨2, 0, 0, 45⟩ [.ref (a 0), .int v1] (cR V a S) (fun (r : Int32) (u : pR) => R.1 = r ∧ R.2 = u) (fun u : pR => cR V a u) := by
  refine wk_of (ee_ok V) (by decide +kernel) rfl (Nat.le_of_ble_eq_true rfl) ?_
  intro x X Z
  unfold fR_decodeTag at hf
  refine wk_lq (lv' := [(0, .ref (a 0)), (1, .int v1)]) rfl ?_
  refine wk_aload_n X 0 dR_decodeTag_0 rfl rfl ?_
  obtain ⟨q1, h2, hf⟩ := p_ob hf
  refine wk_goI [0, 1, 2, 3, 4, 5, 6, 7, 8, 9, 10, 11, 12] (wk_rV X (mR_isCode (V := V) a S q1 h2) rfl (gd (tw_807)) [0, 1, 2, 3, 4, 5, 6, 7, 8, 9, 10, 11, 12] rfl rfl 0 rfl rfl (tl tw_804) (tl tw_806) (tl tv_23) (tl tw_7) 0 pd_R_isCode rfl ⟨rfl, rfl⟩ ⟨Nat.le_of_ble_eq_true rfl, Nat.le_of_ble_eq_true rfl⟩ rfl (Nat.le_of_ble_eq_true rfl) dR_decodeTag_1) rfl ?_
  rintro r u ⟨rfl, rfl⟩
  refine wk_ws (ws' := cR V a q1.2) rfl ?_
  refine wk_bz_ne X dR_decodeTag_4 (tgt := 9) rfl (fun h3 => ?_) (fun h3 => ?_)
  · replace hf := p_it h3 hf
    refine wk_iload_n X 1 dR_decodeTag_9 rfl rfl ?_
    refine wk_if_ne X dR_decodeTag_10 (tgt := 20) rfl (fun h4 => ?_) (fun h4 => ?_)
    · replace hf := p_ie h4 hf
      refine wk_iload_n X 1 dR_decodeTag_20 rfl rfl ?_
      refine wk_iconst X dR_decodeTag_21 (v := (1 : Int32)) (by decide) ?_
      refine wk_icmp_ne X dR_decodeTag_22 (tgt := 32) rfl (fun h5 => ?_) (fun h5 => ?_)
      · replace hf := p_ie h5 hf
        refine wk_iload_n X 1 dR_decodeTag_32 rfl rfl ?_
        refine wk_iconst X dR_decodeTag_33 (v := (2 : Int32)) (by decide) ?_
        refine wk_icmp_ne X dR_decodeTag_34 (tgt := 44) rfl (fun h6 => ?_) (fun h6 => ?_)
        · replace hf := p_ie h6 hf
          refine wk_iload_n X 1 dR_decodeTag_44 rfl rfl ?_
          refine wk_iconst X dR_decodeTag_45 (v := (3 : Int32)) (by decide) ?_
          refine wk_icmp_ne X dR_decodeTag_46 (tgt := 56) rfl (fun h7 => ?_) (fun h7 => ?_)
          · replace hf := p_ie h7 hf
            refine wk_iconst X dR_decodeTag_56 (v := (-1 : Int32)) (by decide) ?_
            have hf := Option.some.inj hf
            exact wk_iret X Z rfl dR_decodeTag_57 (q1.2) ⟨Eq.symm (congrArg Prod.fst hf), Eq.symm (congrArg Prod.snd hf)⟩ rfl rfl
          · replace hf := p_it h7 hf
            refine wk_aload_n X 0 dR_decodeTag_49 rfl rfl ?_
            refine wk_get X uw_R 0 rfl rfl 28 (Nat.le_of_ble_eq_true rfl) (tl tw_565) rfl rfl dR_decodeTag_50 ?_
            refine wk_goto X dR_decodeTag_53 (tgt := 57) rfl ?_
            have hf := Option.some.inj hf
            exact wk_iret X Z rfl dR_decodeTag_57 (q1.2) ⟨Eq.symm (congrArg Prod.fst hf), Eq.symm (congrArg Prod.snd hf)⟩ rfl rfl
        · replace hf := p_it h6 hf
          refine wk_aload_n X 0 dR_decodeTag_37 rfl rfl ?_
          refine wk_get X uw_R 0 rfl rfl 27 (Nat.le_of_ble_eq_true rfl) (tl tw_564) rfl rfl dR_decodeTag_38 ?_
          refine wk_goto X dR_decodeTag_41 (tgt := 57) rfl ?_
          have hf := Option.some.inj hf
          exact wk_iret X Z rfl dR_decodeTag_57 (q1.2) ⟨Eq.symm (congrArg Prod.fst hf), Eq.symm (congrArg Prod.snd hf)⟩ rfl rfl
      · replace hf := p_it h5 hf
        refine wk_aload_n X 0 dR_decodeTag_25 rfl rfl ?_
        refine wk_get X uw_R 0 rfl rfl 26 (Nat.le_of_ble_eq_true rfl) (tl tw_563) rfl rfl dR_decodeTag_26 ?_
        refine wk_goto X dR_decodeTag_29 (tgt := 57) rfl ?_
        have hf := Option.some.inj hf
        exact wk_iret X Z rfl dR_decodeTag_57 (q1.2) ⟨Eq.symm (congrArg Prod.fst hf), Eq.symm (congrArg Prod.snd hf)⟩ rfl rfl
    · replace hf := p_it h4 hf
      refine wk_aload_n X 0 dR_decodeTag_13 rfl rfl ?_
      refine wk_get X uw_R 0 rfl rfl 25 (Nat.le_of_ble_eq_true rfl) (tl tw_562) rfl rfl dR_decodeTag_14 ?_
      refine wk_goto X dR_decodeTag_17 (tgt := 57) rfl ?_
      have hf := Option.some.inj hf
      exact wk_iret X Z rfl dR_decodeTag_57 (q1.2) ⟨Eq.symm (congrArg Prod.fst hf), Eq.symm (congrArg Prod.snd hf)⟩ rfl rfl
  · replace hf := p_ie h3 hf
    refine wk_iconst X dR_decodeTag_7 (v := (-1 : Int32)) (by decide) ?_
    have hf := Option.some.inj hf
    exact wk_iret X Z rfl dR_decodeTag_8 (q1.2) ⟨Eq.symm (congrArg Prod.fst hf), Eq.symm (congrArg Prod.snd hf)⟩ rfl rfl
-- R_nextBorder: room (2, 45), Option (Int32 × pR)
def fR_nextBorder_L2 : Nat → pR → Int32 → Option (Int32 × pR)
  | 0, _, _ => none
  | n + 1, S, v1 =>
    if (20000 : Int32) < v1 then (
      some ((0 : Int32), S)
    ) else (
      (fR_tagCan S).bind fun q2 =>
      if q2 = (1 : Int32) then (
        (fR_tagStep S).bind fun q5 =>
        (fR_isCode q5).bind fun q7 =>
        if q7.1 = true then (
          some (v1, q7.2)
        ) else (
          fR_nextBorder_L2 n q7.2 (v1 + (1 : Int32))
        )
      ) else (
        some ((0 : Int32), S)
      )
    )
def fR_nextBorder (S : pR) : Option (Int32 × pR) :=
  fR_nextBorder_L2 100000 S (1 : Int32)
set_option maxRecDepth 100000 in
set_option maxHeartbeats 4000000 in
theorem wR_nextBorder_L2 {V : ee_V} (a : Nat → Nat) (S0 : pR) {x : wk_C} (X : wk_K (ee V) x cR_nextBorder 2 "TagWorkshopModel" ts_R_nextBorder ⟨2, 0, 0, 45⟩) (R : Int32 × pR) (Z : wk_N x (some .int) (va_Qi (fun (r : Int32) (u : pR) => R.1 = r ∧ R.2 = u) (wk_B (ee V) (cR V a S0) (fun u : pR => cR V a u)) (wk_in (cR V a S0))) (cR V a S0)) : ∀ (n : Nat) (S : pR) (v1 : Int32), fR_nextBorder_L2 n S v1 = some R → wk_G (ee V) x 2 (cR V a S) 2 [(0, .ref (a 0)), (1, .int v1)] [] := by
  intro n
  induction n with
  | zero => intro S v1 hf; exact absurd hf (by rw [fR_nextBorder_L2]; exact fun h => by cases h)
  | succ n ih =>
    intro S v1 hf
    rw [fR_nextBorder_L2] at hf
    refine wk_iload_n X 1 dR_nextBorder_2 rfl rfl ?_
    refine wk_sipush X dR_nextBorder_3 (v := (20000 : Int32)) (by decide) ?_
    refine wk_icmp_gt X dR_nextBorder_6 (tgt := 36) rfl (fun h1 => ?_) (fun h1 => ?_)
    · replace hf := p_it h1 hf
      refine wk_iconst X dR_nextBorder_36 (v := (0 : Int32)) (by decide) ?_
      have hf := Option.some.inj hf
      exact wk_iret X Z rfl dR_nextBorder_37 (S) ⟨Eq.symm (congrArg Prod.fst hf), Eq.symm (congrArg Prod.snd hf)⟩ rfl rfl
    · replace hf := p_ie h1 hf
      refine wk_aload_n X 0 dR_nextBorder_9 rfl rfl ?_
      obtain ⟨q2, h3, hf⟩ := p_ob hf
      refine wk_goI [0, 1, 2, 3, 4, 5, 6, 7, 8, 9, 10, 11, 12] (wk_rV X (mR_tagCan (V := V) a S q2 h3) rfl (gd (tw_747)) [0, 1, 2, 3, 4, 5, 6, 7, 8, 9, 10, 11, 12] rfl rfl 0 rfl rfl (tl tw_744) (tl tw_746) (tl tv_17) (tl tw_7) 0 pd_R_tagCan rfl ⟨rfl, rfl⟩ ⟨Nat.le_of_ble_eq_true rfl, Nat.le_of_ble_eq_true rfl⟩ rfl (Nat.le_of_ble_eq_true rfl) dR_nextBorder_10) rfl ?_
      rintro r ⟨⟩ rfl
      refine wk_ws (ws' := cR V a S) rfl ?_
      refine wk_iconst X dR_nextBorder_13 (v := (1 : Int32)) (by decide) ?_
      refine wk_icmp_ne X dR_nextBorder_14 (tgt := 36) rfl (fun h4 => ?_) (fun h4 => ?_)
      · replace hf := p_ie h4 hf
        refine wk_iconst X dR_nextBorder_36 (v := (0 : Int32)) (by decide) ?_
        have hf := Option.some.inj hf
        exact wk_iret X Z rfl dR_nextBorder_37 (S) ⟨Eq.symm (congrArg Prod.fst hf), Eq.symm (congrArg Prod.snd hf)⟩ rfl rfl
      · replace hf := p_it h4 hf
        refine wk_aload_n X 0 dR_nextBorder_17 rfl rfl ?_
        obtain ⟨q5, h6, hf⟩ := p_ob hf
        refine wk_goV [0, 1, 2, 3, 4, 5, 6, 7, 8, 9, 10, 11, 12] (wk_rV X (mR_tagStep (V := V) a S q5 h6) rfl (gd (tw_751)) [0, 1, 2, 3, 4, 5, 6, 7, 8, 9, 10, 11, 12] rfl rfl 0 rfl rfl (tl tw_748) (tl tw_750) (tl tv_18) (tl tw_7) 0 pd_R_tagStep rfl ⟨rfl, rfl⟩ ⟨Nat.le_of_ble_eq_true rfl, Nat.le_of_ble_eq_true rfl⟩ rfl (Nat.le_of_ble_eq_true rfl) dR_nextBorder_18) rfl ?_
        rintro u rfl
        refine wk_ws (ws' := cR V a q5) rfl ?_
        refine wk_aload_n X 0 dR_nextBorder_21 rfl rfl ?_
        obtain ⟨q7, h8, hf⟩ := p_ob hf
        refine wk_goI [0, 1, 2, 3, 4, 5, 6, 7, 8, 9, 10, 11, 12] (wk_rV X (mR_isCode (V := V) a q5 q7 h8) rfl (gd (tw_807)) [0, 1, 2, 3, 4, 5, 6, 7, 8, 9, 10, 11, 12] rfl rfl 0 rfl rfl (tl tw_804) (tl tw_806) (tl tv_23) (tl tw_7) 0 pd_R_isCode rfl ⟨rfl, rfl⟩ ⟨Nat.le_of_ble_eq_true rfl, Nat.le_of_ble_eq_true rfl⟩ rfl (Nat.le_of_ble_eq_true rfl) dR_nextBorder_22) rfl ?_
        rintro r u ⟨rfl, rfl⟩
        refine wk_ws (ws' := cR V a q7.2) rfl ?_
        refine wk_bz_eq X dR_nextBorder_25 (tgt := 30) rfl (fun h9 => ?_) (fun h9 => ?_)
        · replace hf := p_ie h9 hf
          refine wk_iinc X 1 dR_nextBorder_30 (v := (v1 + (1 : Int32))) rfl rfl (Nat.le_of_ble_eq_true rfl) (lv' := [(1, .int (v1 + (1 : Int32))), (0, .ref (a 0))]) rfl ?_
          refine wk_goto X dR_nextBorder_33 (tgt := 2) rfl ?_
          refine wk_lv [1, 0] (lv' := [(0, .ref (a 0)), (1, .int (v1 + (1 : Int32)))]) rfl ?_
          exact ih q7.2 (v1 + (1 : Int32)) hf
        · replace hf := p_it h9 hf
          refine wk_iload_n X 1 dR_nextBorder_28 rfl rfl ?_
          have hf := Option.some.inj hf
          exact wk_iret X Z rfl dR_nextBorder_29 (q7.2) ⟨Eq.symm (congrArg Prod.fst hf), Eq.symm (congrArg Prod.snd hf)⟩ rfl rfl
set_option maxRecDepth 100000 in
set_option maxHeartbeats 4000000 in
theorem mR_nextBorder {V : ee_V} (a : Nat → Nat) (S : pR) (R : Int32 × pR) (hf : fR_nextBorder S = some R) : wk_I (ee V) yR_nextBorder ts_R_nextBorder ⟨2, 0, 0, 45⟩ [.ref (a 0)] (cR V a S) (fun (r : Int32) (u : pR) => R.1 = r ∧ R.2 = u) (fun u : pR => cR V a u) := by
  refine wk_of (ee_ok V) (by decide +kernel) rfl (Nat.le_of_ble_eq_true rfl) ?_
  intro x X Z
  unfold fR_nextBorder at hf
  refine wk_lq (lv' := [(0, .ref (a 0))]) rfl ?_
  refine wk_iconst X dR_nextBorder_0 (v := (1 : Int32)) (by decide) ?_
  refine wk_istore_n X dR_nextBorder_1 rfl (Nat.le_of_ble_eq_true rfl) (lv' := [(1, .int (1 : Int32)), (0, .ref (a 0))]) rfl ?_
  refine wk_lv [1, 0] (lv' := [(0, .ref (a 0)), (1, .int (1 : Int32))]) rfl ?_
  exact wR_nextBorder_L2 a S X R Z 100000 S (1 : Int32) hf

-- G_makeFor: room (3, 71), Option (pT)
def fG_makeFor (S : pT) (S2 : pM) (v2 : Int32) (v3 : Int32) : Option (pT) :=
  (fM_hasStep S2 v2 v3).bind fun q1 =>
  if q1 = true then (
    (fM_nextOf S2 v2 v3).bind fun q4 =>
    (fM_moveOf S2 v2 v3).bind fun q6 =>
    if q6 = (1 : Int32) then (
      (fG_addAll S 0 (fG_base v2 v3) (fG_base q4 (0 : Int32))).bind fun q16 =>
      (fM_writeOf S2 v2 v3).bind fun q18 =>
      if q18 = (1 : Int32) then (
        (fG_addAll q16 1 (fG_base v2 v3) (fG_base q4 (0 : Int32))).bind fun q21 =>
        some q21
      ) else (
        some q16
      )
    ) else (
      (fG_addAll S 2 (fG_base v2 v3) (fG_base q4 (0 : Int32))).bind fun q9 =>
      (fM_writeOf S2 v2 v3).bind fun q11 =>
      if q11 = (1 : Int32) then (
        (fG_addAll q9 3 (fG_base v2 v3) (fG_base q4 (0 : Int32))).bind fun q14 =>
        some q14
      ) else (
        some q9
      )
    )
  ) else (
    (fT_setHalting S ((fG_base v2 v3) + (0 : Int32)) true).bind fun q23 =>
    some q23.2
  )
set_option maxRecDepth 100000 in
set_option maxHeartbeats 4000000 in
theorem mG_makeFor {V : ee_V} (a b : Nat → Nat) (S : pT) (S2 : pM) (v2 : Int32) (v3 : Int32) (R : pT) (hf : fG_makeFor S S2 v2 v3 = some R) : wk_V (ee V) yG_makeFor ts_G_makeFor ⟨3, 0, 0, 71⟩ [.ref (a 0), .ref (b 0), .int v2, .int v3] (cT V a S ++ cM V b S2) (fun u : pT => R = u) (fun u : pT => cT V a u ++ cM V b S2) := by
  refine wk_of (ee_ok V) (by decide +kernel) rfl (Nat.le_of_ble_eq_true rfl) ?_
  intro x X Z
  unfold fG_makeFor at hf
  refine wk_lq (lv' := [(0, .ref (a 0)), (1, .ref (b 0)), (2, .int v2), (3, .int v3)]) rfl ?_
  refine wk_iload_n X 2 dG_makeFor_0 rfl rfl ?_
  refine wk_iload_n X 3 dG_makeFor_1 rfl rfl ?_
  refine wk_goI [] (wk_rS X (mG_base (V := V) v2 v3 (fG_base v2 v3) rfl) rfl (gd (tw_206)) [] rfl rfl (tl tw_204) (tl tw_205) (tl tw_8) 2 pd_G_base rfl ⟨rfl, rfl⟩ ⟨Nat.le_of_ble_eq_true rfl, Nat.le_of_ble_eq_true rfl⟩ rfl (Nat.le_of_ble_eq_true rfl) dG_makeFor_2) rfl ?_
  rintro r ⟨⟩ rfl
  refine wk_ws (ws' := cT V a S ++ cM V b S2) rfl ?_
  refine wk_istore X dG_makeFor_5 (Nat.le_of_ble_eq_true rfl) (lv' := [(4, .int (fG_base v2 v3)), (0, .ref (a 0)), (1, .ref (b 0)), (2, .int v2), (3, .int v3)]) rfl ?_
  refine wk_aload_n X 2 dG_makeFor_7 rfl rfl ?_
  refine wk_iload_n X 3 dG_makeFor_8 rfl rfl ?_
  refine wk_iload_n X 4 dG_makeFor_9 rfl rfl ?_
  obtain ⟨q1, h2, hf⟩ := p_ob hf
  refine wk_goI [5, 6, 7, 8] (wk_rV X (mM_hasStep (V := V) b S2 v2 v3 q1 h2) rfl (gd (tw_221)) [5, 6, 7, 8] rfl rfl 5 rfl rfl (tl tw_218) (tl tw_219) (tl tw_220) (tl tw_3) 2 pd_M_hasStep rfl ⟨rfl, rfl⟩ ⟨Nat.le_of_ble_eq_true rfl, Nat.le_of_ble_eq_true rfl⟩ rfl (Nat.le_of_ble_eq_true rfl) dG_makeFor_10) rfl ?_
  rintro r ⟨⟩ rfl
  refine wk_ws (ws' := cT V a S ++ cM V b S2) rfl ?_
  refine wk_bz_ne X dG_makeFor_13 (tgt := 27) rfl (fun h3 => ?_) (fun h3 => ?_)
  · replace hf := p_it h3 hf
    refine wk_aload_n X 2 dG_makeFor_27 rfl rfl ?_
    refine wk_iload_n X 3 dG_makeFor_28 rfl rfl ?_
    refine wk_iload_n X 4 dG_makeFor_29 rfl rfl ?_
    obtain ⟨q4, h5, hf⟩ := p_ob hf
    refine wk_goI [5, 6, 7, 8] (wk_rV X (mM_nextOf (V := V) b S2 v2 v3 q4 h5) rfl (gd (tw_233)) [5, 6, 7, 8] rfl rfl 5 rfl rfl (tl tw_230) (tl tw_231) (tl tw_232) (tl tw_3) 2 pd_M_nextOf rfl ⟨rfl, rfl⟩ ⟨Nat.le_of_ble_eq_true rfl, Nat.le_of_ble_eq_true rfl⟩ rfl (Nat.le_of_ble_eq_true rfl) dG_makeFor_30) rfl ?_
    rintro r ⟨⟩ rfl
    refine wk_ws (ws' := cT V a S ++ cM V b S2) rfl ?_
    refine wk_iconst X dG_makeFor_33 (v := (0 : Int32)) (by decide) ?_
    refine wk_goI [] (wk_rS X (mG_base (V := V) q4 (0 : Int32) (fG_base q4 (0 : Int32)) rfl) rfl (gd (tw_206)) [] rfl rfl (tl tw_204) (tl tw_205) (tl tw_8) 2 pd_G_base rfl ⟨rfl, rfl⟩ ⟨Nat.le_of_ble_eq_true rfl, Nat.le_of_ble_eq_true rfl⟩ rfl (Nat.le_of_ble_eq_true rfl) dG_makeFor_34) rfl ?_
    rintro r ⟨⟩ rfl
    refine wk_ws (ws' := cT V a S ++ cM V b S2) rfl ?_
    refine wk_istore X dG_makeFor_37 (Nat.le_of_ble_eq_true rfl) (lv' := [(5, .int (fG_base q4 (0 : Int32))), (4, .int (fG_base v2 v3)), (0, .ref (a 0)), (1, .ref (b 0)), (2, .int v2), (3, .int v3)]) rfl ?_
    refine wk_aload_n X 3 dG_makeFor_39 rfl rfl ?_
    refine wk_iload_n X 4 dG_makeFor_40 rfl rfl ?_
    refine wk_iload_n X 5 dG_makeFor_41 rfl rfl ?_
    obtain ⟨q6, h7, hf⟩ := p_ob hf
    refine wk_goI [5, 6, 7, 8] (wk_rV X (mM_moveOf (V := V) b S2 v2 v3 q6 h7) rfl (gd (tw_237)) [5, 6, 7, 8] rfl rfl 5 rfl rfl (tl tw_234) (tl tw_235) (tl tw_236) (tl tw_3) 2 pd_M_moveOf rfl ⟨rfl, rfl⟩ ⟨Nat.le_of_ble_eq_true rfl, Nat.le_of_ble_eq_true rfl⟩ rfl (Nat.le_of_ble_eq_true rfl) dG_makeFor_42) rfl ?_
    rintro r ⟨⟩ rfl
    refine wk_ws (ws' := cT V a S ++ cM V b S2) rfl ?_
    refine wk_iconst X dG_makeFor_45 (v := (1 : Int32)) (by decide) ?_
    refine wk_icmp_ne X dG_makeFor_46 (tgt := 53) rfl (fun h8 => ?_) (fun h8 => ?_)
    · replace hf := p_ie h8 hf
      refine wk_iconst X dG_makeFor_53 (v := (0 : Int32)) (by decide) ?_
      refine wk_istore X dG_makeFor_54 (Nat.le_of_ble_eq_true rfl) (lv' := [(6, .int (0 : Int32)), (5, .int (fG_base q4 (0 : Int32))), (4, .int (fG_base v2 v3)), (0, .ref (a 0)), (1, .ref (b 0)), (2, .int v2), (3, .int v3)]) rfl ?_
      refine wk_aload_n X 3 dG_makeFor_56 rfl rfl ?_
      refine wk_iload X 0 dG_makeFor_57 rfl ?_
      refine wk_if_eq X dG_makeFor_59 (tgt := 68) rfl (fun _ => ?_) (fun h => absurd (by decide) h)
      refine wk_gets X (am_z X.am 2 (by decide)) (tl tw_240) rfl dG_makeFor_68 ?_
      refine wk_iload X 2 dG_makeFor_71 rfl ?_
      refine wk_iload X 1 dG_makeFor_73 rfl ?_
      obtain ⟨q9, h10, hf⟩ := p_ob hf
      refine wk_goV [0, 1, 2, 3, 4] (wk_rS X (mG_addAll (V := V) a S 2 (fG_base v2 v3) (fG_base q4 (0 : Int32)) (by decide) q9 h10) rfl (gd (tw_244)) [0, 1, 2, 3, 4] rfl rfl (tl tw_242) (tl tw_243) (tl tw_8) 4 pd_G_addAll rfl ⟨rfl, rfl⟩ ⟨Nat.le_of_ble_eq_true rfl, Nat.le_of_ble_eq_true rfl⟩ rfl (Nat.le_of_ble_eq_true rfl) dG_makeFor_75) rfl ?_
      rintro u rfl
      refine wk_ws (ws' := cT V a q9 ++ cM V b S2) rfl ?_
      refine wk_aload_n X 4 dG_makeFor_78 rfl rfl ?_
      refine wk_iload_n X 5 dG_makeFor_79 rfl rfl ?_
      refine wk_iload_n X 6 dG_makeFor_80 rfl rfl ?_
      obtain ⟨q11, h12, hf⟩ := p_ob hf
      refine wk_goI [5, 6, 7, 8] (wk_rV X (mM_writeOf (V := V) b S2 v2 v3 q11 h12) rfl (gd (tw_261)) [5, 6, 7, 8] rfl rfl 5 rfl rfl (tl tw_258) (tl tw_259) (tl tw_260) (tl tw_3) 2 pd_M_writeOf rfl ⟨rfl, rfl⟩ ⟨Nat.le_of_ble_eq_true rfl, Nat.le_of_ble_eq_true rfl⟩ rfl (Nat.le_of_ble_eq_true rfl) dG_makeFor_81) rfl ?_
      rintro r ⟨⟩ rfl
      refine wk_ws (ws' := cT V a q9 ++ cM V b S2) rfl ?_
      refine wk_iconst X dG_makeFor_84 (v := (1 : Int32)) (by decide) ?_
      refine wk_icmp_ne X dG_makeFor_85 (tgt := 110) rfl (fun h13 => ?_) (fun h13 => ?_)
      · replace hf := p_ie h13 hf
        have hf := Option.some.inj hf
        exact wk_vret X Z dG_makeFor_110 (q9) (Eq.symm hf) rfl rfl
      · replace hf := p_it h13 hf
        refine wk_aload_n X 3 dG_makeFor_88 rfl rfl ?_
        refine wk_iload X 0 dG_makeFor_89 rfl ?_
        refine wk_if_eq X dG_makeFor_91 (tgt := 100) rfl (fun _ => ?_) (fun h => absurd (by decide) h)
        refine wk_gets X (am_z X.am 3 (by decide)) (tl tw_264) rfl dG_makeFor_100 ?_
        refine wk_iload X 2 dG_makeFor_103 rfl ?_
        refine wk_iload X 1 dG_makeFor_105 rfl ?_
        obtain ⟨q14, h15, hf⟩ := p_ob hf
        refine wk_goV [0, 1, 2, 3, 4] (wk_rS X (mG_addAll (V := V) a q9 3 (fG_base v2 v3) (fG_base q4 (0 : Int32)) (by decide) q14 h15) rfl (gd (tw_244)) [0, 1, 2, 3, 4] rfl rfl (tl tw_242) (tl tw_243) (tl tw_8) 4 pd_G_addAll rfl ⟨rfl, rfl⟩ ⟨Nat.le_of_ble_eq_true rfl, Nat.le_of_ble_eq_true rfl⟩ rfl (Nat.le_of_ble_eq_true rfl) dG_makeFor_107) rfl ?_
        rintro u rfl
        refine wk_ws (ws' := cT V a q14 ++ cM V b S2) rfl ?_
        have hf := Option.some.inj hf
        exact wk_vret X Z dG_makeFor_110 (q14) (Eq.symm hf) rfl rfl
    · replace hf := p_it h8 hf
      refine wk_iconst X dG_makeFor_49 (v := (1 : Int32)) (by decide) ?_
      refine wk_goto X dG_makeFor_50 (tgt := 54) rfl ?_
      refine wk_istore X dG_makeFor_54 (Nat.le_of_ble_eq_true rfl) (lv' := [(6, .int (1 : Int32)), (5, .int (fG_base q4 (0 : Int32))), (4, .int (fG_base v2 v3)), (0, .ref (a 0)), (1, .ref (b 0)), (2, .int v2), (3, .int v3)]) rfl ?_
      refine wk_aload_n X 3 dG_makeFor_56 rfl rfl ?_
      refine wk_iload X 0 dG_makeFor_57 rfl ?_
      refine wk_if_eq X dG_makeFor_59 (tgt := 68) rfl (fun h => absurd h (by decide)) (fun _ => ?_)
      refine wk_gets X (am_z X.am 0 (by decide)) (tl tw_238) rfl dG_makeFor_62 ?_
      refine wk_goto X dG_makeFor_65 (tgt := 71) rfl ?_
      refine wk_iload X 2 dG_makeFor_71 rfl ?_
      refine wk_iload X 1 dG_makeFor_73 rfl ?_
      obtain ⟨q16, h17, hf⟩ := p_ob hf
      refine wk_goV [0, 1, 2, 3, 4] (wk_rS X (mG_addAll (V := V) a S 0 (fG_base v2 v3) (fG_base q4 (0 : Int32)) (by decide) q16 h17) rfl (gd (tw_244)) [0, 1, 2, 3, 4] rfl rfl (tl tw_242) (tl tw_243) (tl tw_8) 4 pd_G_addAll rfl ⟨rfl, rfl⟩ ⟨Nat.le_of_ble_eq_true rfl, Nat.le_of_ble_eq_true rfl⟩ rfl (Nat.le_of_ble_eq_true rfl) dG_makeFor_75) rfl ?_
      rintro u rfl
      refine wk_ws (ws' := cT V a q16 ++ cM V b S2) rfl ?_
      refine wk_aload_n X 4 dG_makeFor_78 rfl rfl ?_
      refine wk_iload_n X 5 dG_makeFor_79 rfl rfl ?_
      refine wk_iload_n X 6 dG_makeFor_80 rfl rfl ?_
      obtain ⟨q18, h19, hf⟩ := p_ob hf
      refine wk_goI [5, 6, 7, 8] (wk_rV X (mM_writeOf (V := V) b S2 v2 v3 q18 h19) rfl (gd (tw_261)) [5, 6, 7, 8] rfl rfl 5 rfl rfl (tl tw_258) (tl tw_259) (tl tw_260) (tl tw_3) 2 pd_M_writeOf rfl ⟨rfl, rfl⟩ ⟨Nat.le_of_ble_eq_true rfl, Nat.le_of_ble_eq_true rfl⟩ rfl (Nat.le_of_ble_eq_true rfl) dG_makeFor_81) rfl ?_
      rintro r ⟨⟩ rfl
      refine wk_ws (ws' := cT V a q16 ++ cM V b S2) rfl ?_
      refine wk_iconst X dG_makeFor_84 (v := (1 : Int32)) (by decide) ?_
      refine wk_icmp_ne X dG_makeFor_85 (tgt := 110) rfl (fun h20 => ?_) (fun h20 => ?_)
      · replace hf := p_ie h20 hf
        have hf := Option.some.inj hf
        exact wk_vret X Z dG_makeFor_110 (q16) (Eq.symm hf) rfl rfl
      · replace hf := p_it h20 hf
        refine wk_aload_n X 3 dG_makeFor_88 rfl rfl ?_
        refine wk_iload X 0 dG_makeFor_89 rfl ?_
        refine wk_if_eq X dG_makeFor_91 (tgt := 100) rfl (fun h => absurd h (by decide)) (fun _ => ?_)
        refine wk_gets X (am_z X.am 1 (by decide)) (tl tw_262) rfl dG_makeFor_94 ?_
        refine wk_goto X dG_makeFor_97 (tgt := 103) rfl ?_
        refine wk_iload X 2 dG_makeFor_103 rfl ?_
        refine wk_iload X 1 dG_makeFor_105 rfl ?_
        obtain ⟨q21, h22, hf⟩ := p_ob hf
        refine wk_goV [0, 1, 2, 3, 4] (wk_rS X (mG_addAll (V := V) a q16 1 (fG_base v2 v3) (fG_base q4 (0 : Int32)) (by decide) q21 h22) rfl (gd (tw_244)) [0, 1, 2, 3, 4] rfl rfl (tl tw_242) (tl tw_243) (tl tw_8) 4 pd_G_addAll rfl ⟨rfl, rfl⟩ ⟨Nat.le_of_ble_eq_true rfl, Nat.le_of_ble_eq_true rfl⟩ rfl (Nat.le_of_ble_eq_true rfl) dG_makeFor_107) rfl ?_
        rintro u rfl
        refine wk_ws (ws' := cT V a q21 ++ cM V b S2) rfl ?_
        have hf := Option.some.inj hf
        exact wk_vret X Z dG_makeFor_110 (q21) (Eq.symm hf) rfl rfl
  · replace hf := p_ie h3 hf
    refine wk_aload_n X 1 dG_makeFor_16 rfl rfl ?_
    refine wk_iload X 0 dG_makeFor_17 rfl ?_
    refine wk_iconst X dG_makeFor_19 (v := (0 : Int32)) (by decide) ?_
    refine wk_iadd X dG_makeFor_20 ?_
    refine wk_iconst X dG_makeFor_21 (v := (1 : Int32)) (by decide) ?_
    obtain ⟨q23, h24, hf⟩ := p_ob hf
    refine wk_goI [0, 1, 2, 3, 4] (wk_rV X (mT_setHalting (V := V) a S ((fG_base v2 v3) + (0 : Int32)) true q23 h24) rfl (gd (tw_225)) [0, 1, 2, 3, 4] rfl rfl 0 rfl rfl (tl tw_222) (tl tw_223) (tl tw_224) (tl tw_4) 2 pd_T_setHalting rfl ⟨rfl, rfl⟩ ⟨Nat.le_of_ble_eq_true rfl, Nat.le_of_ble_eq_true rfl⟩ rfl (Nat.le_of_ble_eq_true rfl) dG_makeFor_22) rfl ?_
    rintro r u ⟨rfl, rfl⟩
    refine wk_ws (ws' := cT V a q23.2 ++ cM V b S2) rfl ?_
    refine wk_pop X dG_makeFor_25 rfl ?_
    have hf := Option.some.inj hf
    exact wk_vret X Z dG_makeFor_26 (q23.2) (Eq.symm hf) rfl rfl
-- G_make: room (4, 97), Option (pT)
def fG_make_L19 (S2 : pM) : Nat → pT → Int32 → Int32 → Option (pT)
  | 0, _, _, _ => none
  | n + 1, S, v2, v3 =>
    if v2 < v3 then (
      some S
    ) else (
      (fG_makeFor S S2 v3 (0 : Int32)).bind fun q6 =>
      (fG_makeFor q6 S2 v3 (1 : Int32)).bind fun q8 =>
      fG_make_L19 S2 n q8 v2 (v3 + (1 : Int32))
    )
def fG_make (S : pT) (S2 : pM) : Option (pT) :=
  (fM_greatestState S2).bind fun q1 =>
  (fT_begin S (fG_base (q1 + (1 : Int32)) (0 : Int32)) q1).bind fun q3 =>
  fG_make_L19 S2 100000 q3 q1 (1 : Int32)
set_option maxRecDepth 100000 in
set_option maxHeartbeats 4000000 in
theorem wG_make_L19 {V : ee_V} (a b : Nat → Nat) (S2 : pM) (S0 : pT) {x : wk_C} (X : wk_K (ee V) x cG_make 4 "TagWorkshop$TagMaker" ts_G_make ⟨4, 0, 0, 97⟩) (R : pT) (Z : wk_N x none (va_Qv (fun u : pT => R = u) (wk_B (ee V) (cT V a S0 ++ cM V b S2) (fun u : pT => cT V a u ++ cM V b S2)) (wk_in (cT V a S0 ++ cM V b S2))) (cT V a S0 ++ cM V b S2)) : ∀ (n : Nat) (S : pT) (v2 : Int32) (v3 : Int32), fG_make_L19 S2 n S v2 v3 = some R → wk_G (ee V) x 4 (cT V a S ++ cM V b S2) 19 [(0, .ref (a 0)), (1, .ref (b 0)), (2, .int v2), (3, .int v3)] [] := by
  intro n
  induction n with
  | zero => intro S v2 v3 hf; exact absurd hf (by rw [fG_make_L19]; exact fun h => by cases h)
  | succ n ih =>
    intro S v2 v3 hf
    rw [fG_make_L19] at hf
    refine wk_iload_n X 3 dG_make_19 rfl rfl ?_
    refine wk_iload_n X 2 dG_make_20 rfl rfl ?_
    refine wk_icmp_gt X dG_make_21 (tgt := 44) rfl (fun h5 => ?_) (fun h5 => ?_)
    · replace hf := p_it h5 hf
      have hf := Option.some.inj hf
      exact wk_vret X Z dG_make_44 (S) (Eq.symm hf) rfl rfl
    · replace hf := p_ie h5 hf
      refine wk_aload_n X 0 dG_make_24 rfl rfl ?_
      refine wk_aload_n X 1 dG_make_25 rfl rfl ?_
      refine wk_iload_n X 3 dG_make_26 rfl rfl ?_
      refine wk_iconst X dG_make_27 (v := (0 : Int32)) (by decide) ?_
      obtain ⟨q6, h7, hf⟩ := p_ob hf
      refine wk_goV [0, 1, 2, 3, 4, 5, 6, 7, 8] (wk_rS X (mG_makeFor (V := V) a b S S2 v3 (0 : Int32) q6 h7) rfl (gd (tw_217)) [0, 1, 2, 3, 4, 5, 6, 7, 8] rfl rfl (tl tw_215) (tl tw_216) (tl tw_8) 4 pd_G_makeFor rfl ⟨rfl, rfl⟩ ⟨Nat.le_of_ble_eq_true rfl, Nat.le_of_ble_eq_true rfl⟩ rfl (Nat.le_of_ble_eq_true rfl) dG_make_28) rfl ?_
      rintro u rfl
      refine wk_ws (ws' := cT V a q6 ++ cM V b S2) rfl ?_
      refine wk_aload_n X 0 dG_make_31 rfl rfl ?_
      refine wk_aload_n X 1 dG_make_32 rfl rfl ?_
      refine wk_iload_n X 3 dG_make_33 rfl rfl ?_
      refine wk_iconst X dG_make_34 (v := (1 : Int32)) (by decide) ?_
      obtain ⟨q8, h9, hf⟩ := p_ob hf
      refine wk_goV [0, 1, 2, 3, 4, 5, 6, 7, 8] (wk_rS X (mG_makeFor (V := V) a b q6 S2 v3 (1 : Int32) q8 h9) rfl (gd (tw_217)) [0, 1, 2, 3, 4, 5, 6, 7, 8] rfl rfl (tl tw_215) (tl tw_216) (tl tw_8) 4 pd_G_makeFor rfl ⟨rfl, rfl⟩ ⟨Nat.le_of_ble_eq_true rfl, Nat.le_of_ble_eq_true rfl⟩ rfl (Nat.le_of_ble_eq_true rfl) dG_make_35) rfl ?_
      rintro u rfl
      refine wk_ws (ws' := cT V a q8 ++ cM V b S2) rfl ?_
      refine wk_iinc X 3 dG_make_38 (v := (v3 + (1 : Int32))) rfl rfl (Nat.le_of_ble_eq_true rfl) (lv' := [(3, .int (v3 + (1 : Int32))), (0, .ref (a 0)), (1, .ref (b 0)), (2, .int v2)]) rfl ?_
      refine wk_goto X dG_make_41 (tgt := 19) rfl ?_
      refine wk_lv [1, 2, 3, 0] (lv' := [(0, .ref (a 0)), (1, .ref (b 0)), (2, .int v2), (3, .int (v3 + (1 : Int32)))]) rfl ?_
      exact ih q8 v2 (v3 + (1 : Int32)) hf
set_option maxRecDepth 100000 in
set_option maxHeartbeats 4000000 in
theorem mG_make {V : ee_V} (a b : Nat → Nat) (S : pT) (S2 : pM) (R : pT) (hf : fG_make S S2 = some R) : wk_V (ee V) yG_make ts_G_make ⟨4, 0, 0, 97⟩ [.ref (a 0), .ref (b 0)] (cT V a S ++ cM V b S2) (fun u : pT => R = u) (fun u : pT => cT V a u ++ cM V b S2) := by
  refine wk_of (ee_ok V) (by decide +kernel) rfl (Nat.le_of_ble_eq_true rfl) ?_
  intro x X Z
  unfold fG_make at hf
  refine wk_lq (lv' := [(0, .ref (a 0)), (1, .ref (b 0))]) rfl ?_
  refine wk_aload_n X 1 dG_make_0 rfl rfl ?_
  obtain ⟨q1, h2, hf⟩ := p_ob hf
  refine wk_goI [5, 6, 7, 8] (wk_rV X (mM_greatestState (V := V) b S2 q1 h2) rfl (gd (tw_200)) [5, 6, 7, 8] rfl rfl 5 rfl rfl (tl tw_197) (tl tw_198) (tl tw_199) (tl tw_3) 0 pd_M_greatestState rfl ⟨rfl, rfl⟩ ⟨Nat.le_of_ble_eq_true rfl, Nat.le_of_ble_eq_true rfl⟩ rfl (Nat.le_of_ble_eq_true rfl) dG_make_1) rfl ?_
  rintro r ⟨⟩ rfl
  refine wk_ws (ws' := cT V a S ++ cM V b S2) rfl ?_
  refine wk_istore_n X dG_make_4 rfl (Nat.le_of_ble_eq_true rfl) (lv' := [(2, .int q1), (0, .ref (a 0)), (1, .ref (b 0))]) rfl ?_
  refine wk_aload_n X 1 dG_make_5 rfl rfl ?_
  refine wk_iload_n X 0 dG_make_6 rfl rfl ?_
  refine wk_iconst X dG_make_7 (v := (1 : Int32)) (by decide) ?_
  refine wk_iadd X dG_make_8 ?_
  refine wk_iconst X dG_make_9 (v := (0 : Int32)) (by decide) ?_
  refine wk_goI [] (wk_rS X (mG_base (V := V) (q1 + (1 : Int32)) (0 : Int32) (fG_base (q1 + (1 : Int32)) (0 : Int32)) rfl) rfl (gd (tw_206)) [] rfl rfl (tl tw_204) (tl tw_205) (tl tw_8) 2 pd_G_base rfl ⟨rfl, rfl⟩ ⟨Nat.le_of_ble_eq_true rfl, Nat.le_of_ble_eq_true rfl⟩ rfl (Nat.le_of_ble_eq_true rfl) dG_make_10) rfl ?_
  rintro r ⟨⟩ rfl
  refine wk_ws (ws' := cT V a S ++ cM V b S2) rfl ?_
  refine wk_iload_n X 0 dG_make_13 rfl rfl ?_
  obtain ⟨q3, h4, hf⟩ := p_ob hf
  refine wk_goV [0, 1, 2, 3, 4] (wk_rV X (mT_begin (V := V) a S (fG_base (q1 + (1 : Int32)) (0 : Int32)) q1 q3 h4) rfl (gd (tw_210)) [0, 1, 2, 3, 4] rfl rfl 0 rfl rfl (tl tw_207) (tl tw_208) (tl tw_209) (tl tw_4) 2 pd_T_begin rfl ⟨rfl, rfl⟩ ⟨Nat.le_of_ble_eq_true rfl, Nat.le_of_ble_eq_true rfl⟩ rfl (Nat.le_of_ble_eq_true rfl) dG_make_14) rfl ?_
  rintro u rfl
  refine wk_ws (ws' := cT V a q3 ++ cM V b S2) rfl ?_
  refine wk_iconst X dG_make_17 (v := (1 : Int32)) (by decide) ?_
  refine wk_istore_n X dG_make_18 rfl (Nat.le_of_ble_eq_true rfl) (lv' := [(3, .int (1 : Int32)), (2, .int q1), (0, .ref (a 0)), (1, .ref (b 0))]) rfl ?_
  refine wk_lv [2, 3, 1, 0] (lv' := [(0, .ref (a 0)), (1, .ref (b 0)), (2, .int q1), (3, .int (1 : Int32))]) rfl ?_
  exact wG_make_L19 a b S2 S X R Z 100000 q3 q1 (1 : Int32) hf
-- T_append: room (0, 0), Option (pT)
def fT_append (S : pT) (v1 : Int32) : Option (pT) :=
  (p_wr 4096 S.2.2.2.1 ((S.2.2.2.2.1 + S.2.2.2.2.2.1) &&& (4095 : Int32)) v1).bind fun q1 =>
  some (S.1, S.2.1, S.2.2.1, q1, S.2.2.2.2.1, (S.2.2.2.2.2.1 + (1 : Int32)), S.2.2.2.2.2.2.1, S.2.2.2.2.2.2.2)
set_option maxRecDepth 100000 in
set_option maxHeartbeats 4000000 in
theorem mT_append {V : ee_V} (a : Nat → Nat) (S : pT) (v1 : Int32) (R : pT) (hf : fT_append S v1 = some R) : wk_V (ee V) yT_append ts_T_append ⟨0, 0, 0, 0⟩ [.ref (a 0), .int v1] (cT V a S) (fun u : pT => R = u) (fun u : pT => cT V a u) := by
  refine wk_of (ee_ok V) (by decide +kernel) rfl (Nat.le_of_ble_eq_true rfl) ?_
  intro x X Z
  unfold fT_append at hf
  refine wk_lq (lv' := [(0, .ref (a 0)), (1, .int v1)]) rfl ?_
  refine wk_aload_n X 0 dT_append_0 rfl rfl ?_
  refine wk_get X uw_T 0 rfl rfl 3 (Nat.le_of_ble_eq_true rfl) (tl tw_68) rfl rfl dT_append_1 ?_
  refine wk_aload_n X 0 dT_append_4 rfl rfl ?_
  refine wk_get X uw_T 0 rfl rfl 4 (Nat.le_of_ble_eq_true rfl) (tl tw_69) rfl rfl dT_append_5 ?_
  refine wk_aload_n X 0 dT_append_8 rfl rfl ?_
  refine wk_get X uw_T 0 rfl rfl 5 (Nat.le_of_ble_eq_true rfl) (tl tw_70) rfl rfl dT_append_9 ?_
  refine wk_iadd X dT_append_12 ?_
  refine wk_sipush X dT_append_13 (v := (4095 : Int32)) (by decide) ?_
  refine wk_iand X dT_append_16 ?_
  refine wk_iload_n X 1 dT_append_17 rfl rfl ?_
  obtain ⟨q1, h2, hf⟩ := p_ob hf
  obtain ⟨h2i, h2e⟩ := p_wr_some h2
  refine wk_iast X 4 0 rfl rfl h2i h2e dT_append_18 (ws' := cT V a (S.1, S.2.1, S.2.2.1, q1, S.2.2.2.2.1, S.2.2.2.2.2.1, S.2.2.2.2.2.2.1, S.2.2.2.2.2.2.2)) rfl ?_
  refine wk_aload_n X 0 dT_append_19 rfl rfl ?_
  refine wk_dup X dT_append_20 rfl ?_
  refine wk_get X uw_T 0 rfl rfl 5 (Nat.le_of_ble_eq_true rfl) (tl tw_70) rfl rfl dT_append_21 ?_
  refine wk_iconst X dT_append_24 (v := (1 : Int32)) (by decide) ?_
  refine wk_iadd X dT_append_25 ?_
  refine wk_put X uw_T 0 rfl rfl 5 (Nat.le_of_ble_eq_true rfl) ft_T ft_T_ok fn_T (tl tw_70) rfl rfl rfl rfl (Nat.le_of_ble_eq_true rfl) dT_append_26 (ws' := cT V a (S.1, S.2.1, S.2.2.1, q1, S.2.2.2.2.1, (S.2.2.2.2.2.1 + (1 : Int32)), S.2.2.2.2.2.2.1, S.2.2.2.2.2.2.2)) rfl ?_
  have hf := Option.some.inj hf
  exact wk_vret X Z dT_append_29 ((S.1, S.2.1, S.2.2.1, q1, S.2.2.2.2.1, (S.2.2.2.2.2.1 + (1 : Int32)), S.2.2.2.2.2.2.1, S.2.2.2.2.2.2.2)) (Eq.symm hf) rfl rfl
-- C_writePairs: room (1, 21), Option (pT)
def fC_writePairs_L2 : Nat → pT → Int32 → Int32 → Int32 → Option (pT)
  | 0, _, _, _, _ => none
  | n + 1, S, v1, v2, v3 =>
    if v2 ≤ v3 then (
      some S
    ) else (
      (fT_append S v1).bind fun q2 =>
      (fT_append q2 (0 : Int32)).bind fun q4 =>
      fC_writePairs_L2 n q4 v1 v2 (v3 + (1 : Int32))
    )
def fC_writePairs (S : pT) (v1 : Int32) (v2 : Int32) : Option (pT) :=
  fC_writePairs_L2 100000 S v1 v2 (0 : Int32)
set_option maxRecDepth 100000 in
set_option maxHeartbeats 4000000 in
theorem wC_writePairs_L2 {V : ee_V} (a : Nat → Nat) (S0 : pT) {x : wk_C} (X : wk_K (ee V) x cC_writePairs 4 "TagWorkshop$Code" ts_C_writePairs ⟨1, 0, 0, 21⟩) (R : pT) (Z : wk_N x none (va_Qv (fun u : pT => R = u) (wk_B (ee V) (cT V a S0) (fun u : pT => cT V a u)) (wk_in (cT V a S0))) (cT V a S0)) : ∀ (n : Nat) (S : pT) (v1 : Int32) (v2 : Int32) (v3 : Int32), fC_writePairs_L2 n S v1 v2 v3 = some R → wk_G (ee V) x 4 (cT V a S) 2 [(0, .ref (a 0)), (1, .int v1), (2, .int v2), (3, .int v3)] [] := by
  intro n
  induction n with
  | zero => intro S v1 v2 v3 hf; exact absurd hf (by rw [fC_writePairs_L2]; exact fun h => by cases h)
  | succ n ih =>
    intro S v1 v2 v3 hf
    rw [fC_writePairs_L2] at hf
    refine wk_iload_n X 3 dC_writePairs_2 rfl rfl ?_
    refine wk_iload_n X 2 dC_writePairs_3 rfl rfl ?_
    refine wk_icmp_ge X dC_writePairs_4 (tgt := 23) rfl (fun h1 => ?_) (fun h1 => ?_)
    · replace hf := p_it h1 hf
      have hf := Option.some.inj hf
      exact wk_vret X Z dC_writePairs_23 (S) (Eq.symm hf) rfl rfl
    · replace hf := p_ie h1 hf
      refine wk_aload_n X 0 dC_writePairs_7 rfl rfl ?_
      refine wk_iload_n X 1 dC_writePairs_8 rfl rfl ?_
      obtain ⟨q2, h3, hf⟩ := p_ob hf
      refine wk_goV [0, 1, 2, 3, 4] (wk_rV X (mT_append (V := V) a S v1 q2 h3) rfl (gd (tw_277)) [0, 1, 2, 3, 4] rfl rfl 0 rfl rfl (tl tw_274) (tl tw_275) (tl tw_276) (tl tw_4) 1 pd_T_append rfl ⟨rfl, rfl⟩ ⟨Nat.le_of_ble_eq_true rfl, Nat.le_of_ble_eq_true rfl⟩ rfl (Nat.le_of_ble_eq_true rfl) dC_writePairs_9) rfl ?_
      rintro u rfl
      refine wk_ws (ws' := cT V a q2) rfl ?_
      refine wk_aload_n X 0 dC_writePairs_12 rfl rfl ?_
      refine wk_iconst X dC_writePairs_13 (v := (0 : Int32)) (by decide) ?_
      obtain ⟨q4, h5, hf⟩ := p_ob hf
      refine wk_goV [0, 1, 2, 3, 4] (wk_rV X (mT_append (V := V) a q2 (0 : Int32) q4 h5) rfl (gd (tw_277)) [0, 1, 2, 3, 4] rfl rfl 0 rfl rfl (tl tw_274) (tl tw_275) (tl tw_276) (tl tw_4) 1 pd_T_append rfl ⟨rfl, rfl⟩ ⟨Nat.le_of_ble_eq_true rfl, Nat.le_of_ble_eq_true rfl⟩ rfl (Nat.le_of_ble_eq_true rfl) dC_writePairs_14) rfl ?_
      rintro u rfl
      refine wk_ws (ws' := cT V a q4) rfl ?_
      refine wk_iinc X 3 dC_writePairs_17 (v := (v3 + (1 : Int32))) rfl rfl (Nat.le_of_ble_eq_true rfl) (lv' := [(3, .int (v3 + (1 : Int32))), (0, .ref (a 0)), (1, .int v1), (2, .int v2)]) rfl ?_
      refine wk_goto X dC_writePairs_20 (tgt := 2) rfl ?_
      refine wk_lv [1, 2, 3, 0] (lv' := [(0, .ref (a 0)), (1, .int v1), (2, .int v2), (3, .int (v3 + (1 : Int32)))]) rfl ?_
      exact ih q4 v1 v2 (v3 + (1 : Int32)) hf
set_option maxRecDepth 100000 in
set_option maxHeartbeats 4000000 in
theorem mC_writePairs {V : ee_V} (a : Nat → Nat) (S : pT) (v1 : Int32) (v2 : Int32) (R : pT) (hf : fC_writePairs S v1 v2 = some R) : wk_V (ee V) yC_writePairs ts_C_writePairs ⟨1, 0, 0, 21⟩ [.ref (a 0), .int v1, .int v2] (cT V a S) (fun u : pT => R = u) (fun u : pT => cT V a u) := by
  refine wk_of (ee_ok V) (by decide +kernel) rfl (Nat.le_of_ble_eq_true rfl) ?_
  intro x X Z
  unfold fC_writePairs at hf
  refine wk_lq (lv' := [(0, .ref (a 0)), (1, .int v1), (2, .int v2)]) rfl ?_
  refine wk_iconst X dC_writePairs_0 (v := (0 : Int32)) (by decide) ?_
  refine wk_istore_n X dC_writePairs_1 rfl (Nat.le_of_ble_eq_true rfl) (lv' := [(3, .int (0 : Int32)), (0, .ref (a 0)), (1, .int v1), (2, .int v2)]) rfl ?_
  refine wk_lv [1, 2, 3, 0] (lv' := [(0, .ref (a 0)), (1, .int v1), (2, .int v2), (3, .int (0 : Int32))]) rfl ?_
  exact wC_writePairs_L2 a S X R Z 100000 S v1 v2 (0 : Int32) hf
-- C_write: room (2, 44), Option (pT)
def fC_write (S : pT) (S2 : pM) : Option (pT) :=
  (fC_writePairs (fT_clearWord S) ((fG_base S2.2.2.2.1 S2.2.2.2.2.1) + (0 : Int32)) (1 : Int32)).bind fun q1 =>
  (fC_writePairs q1 ((fG_base S2.2.2.2.1 S2.2.2.2.2.1) + (1 : Int32)) S2.2.2.2.2.2.1).bind fun q3 =>
  (fC_writePairs q3 ((fG_base S2.2.2.2.1 S2.2.2.2.2.1) + (2 : Int32)) (1 : Int32)).bind fun q5 =>
  (fC_writePairs q5 ((fG_base S2.2.2.2.1 S2.2.2.2.2.1) + (3 : Int32)) S2.2.2.2.2.2.2).bind fun q7 =>
  some q7
set_option maxRecDepth 100000 in
set_option maxHeartbeats 4000000 in
theorem mC_write {V : ee_V} (a b : Nat → Nat) (S : pT) (S2 : pM) (R : pT) (hf : fC_write S S2 = some R) : wk_V (ee V) yC_write ts_C_write ⟨2, 0, 0, 44⟩ [.ref (a 0), .ref (b 0)] (cT V a S ++ cM V b S2) (fun u : pT => R = u) (fun u : pT => cT V a u ++ cM V b S2) := by
  refine wk_of (ee_ok V) (by decide +kernel) rfl (Nat.le_of_ble_eq_true rfl) ?_
  intro x X Z
  unfold fC_write at hf
  refine wk_lq (lv' := [(0, .ref (a 0)), (1, .ref (b 0))]) rfl ?_
  refine wk_aload_n X 1 dC_write_0 rfl rfl ?_
  refine wk_get X uw_M 5 rfl rfl 3 (Nat.le_of_ble_eq_true rfl) (tl tw_32) rfl rfl dC_write_1 ?_
  refine wk_aload_n X 1 dC_write_4 rfl rfl ?_
  refine wk_get X uw_M 5 rfl rfl 4 (Nat.le_of_ble_eq_true rfl) (tl tw_35) rfl rfl dC_write_5 ?_
  refine wk_goI [] (wk_rS X (mG_base (V := V) S2.2.2.2.1 S2.2.2.2.2.1 (fG_base S2.2.2.2.1 S2.2.2.2.2.1) rfl) rfl (gd (tw_206)) [] rfl rfl (tl tw_269) (tl tw_205) (tl tw_8) 2 pd_G_base rfl ⟨rfl, rfl⟩ ⟨Nat.le_of_ble_eq_true rfl, Nat.le_of_ble_eq_true rfl⟩ rfl (Nat.le_of_ble_eq_true rfl) dC_write_8) rfl ?_
  rintro r ⟨⟩ rfl
  refine wk_ws (ws' := cT V a S ++ cM V b S2) rfl ?_
  refine wk_istore_n X dC_write_11 rfl (Nat.le_of_ble_eq_true rfl) (lv' := [(2, .int (fG_base S2.2.2.2.1 S2.2.2.2.2.1)), (0, .ref (a 0)), (1, .ref (b 0))]) rfl ?_
  refine wk_aload_n X 1 dC_write_12 rfl rfl ?_
  refine wk_goV [0, 1, 2, 3, 4] (wk_rV X (mT_clearWord (V := V) a S (fT_clearWord S) rfl) rfl (gd (tw_214)) [0, 1, 2, 3, 4] rfl rfl 0 rfl rfl (tl tw_270) (tl tw_212) (tl tw_213) (tl tw_4) 0 pd_T_clearWord rfl ⟨rfl, rfl⟩ ⟨Nat.le_of_ble_eq_true rfl, Nat.le_of_ble_eq_true rfl⟩ rfl (Nat.le_of_ble_eq_true rfl) dC_write_13) rfl ?_
  rintro u rfl
  refine wk_ws (ws' := cT V a (fT_clearWord S) ++ cM V b S2) rfl ?_
  refine wk_aload_n X 1 dC_write_16 rfl rfl ?_
  refine wk_iload_n X 0 dC_write_17 rfl rfl ?_
  refine wk_iconst X dC_write_18 (v := (0 : Int32)) (by decide) ?_
  refine wk_iadd X dC_write_19 ?_
  refine wk_iconst X dC_write_20 (v := (1 : Int32)) (by decide) ?_
  obtain ⟨q1, h2, hf⟩ := p_ob hf
  refine wk_goV [0, 1, 2, 3, 4] (wk_rS X (mC_writePairs (V := V) a (fT_clearWord S) ((fG_base S2.2.2.2.1 S2.2.2.2.2.1) + (0 : Int32)) (1 : Int32) q1 h2) rfl (gd (tw_273)) [0, 1, 2, 3, 4] rfl rfl (tl tw_271) (tl tw_272) (tl tw_6) 3 pd_C_writePairs rfl ⟨rfl, rfl⟩ ⟨Nat.le_of_ble_eq_true rfl, Nat.le_of_ble_eq_true rfl⟩ rfl (Nat.le_of_ble_eq_true rfl) dC_write_21) rfl ?_
  rintro u rfl
  refine wk_ws (ws' := cT V a q1 ++ cM V b S2) rfl ?_
  refine wk_aload_n X 1 dC_write_24 rfl rfl ?_
  refine wk_iload_n X 0 dC_write_25 rfl rfl ?_
  refine wk_iconst X dC_write_26 (v := (1 : Int32)) (by decide) ?_
  refine wk_iadd X dC_write_27 ?_
  refine wk_aload_n X 2 dC_write_28 rfl rfl ?_
  refine wk_get X uw_M 5 rfl rfl 5 (Nat.le_of_ble_eq_true rfl) (tl tw_38) rfl rfl dC_write_29 ?_
  obtain ⟨q3, h4, hf⟩ := p_ob hf
  refine wk_goV [0, 1, 2, 3, 4] (wk_rS X (mC_writePairs (V := V) a q1 ((fG_base S2.2.2.2.1 S2.2.2.2.2.1) + (1 : Int32)) S2.2.2.2.2.2.1 q3 h4) rfl (gd (tw_273)) [0, 1, 2, 3, 4] rfl rfl (tl tw_271) (tl tw_272) (tl tw_6) 3 pd_C_writePairs rfl ⟨rfl, rfl⟩ ⟨Nat.le_of_ble_eq_true rfl, Nat.le_of_ble_eq_true rfl⟩ rfl (Nat.le_of_ble_eq_true rfl) dC_write_32) rfl ?_
  rintro u rfl
  refine wk_ws (ws' := cT V a q3 ++ cM V b S2) rfl ?_
  refine wk_aload_n X 1 dC_write_35 rfl rfl ?_
  refine wk_iload_n X 0 dC_write_36 rfl rfl ?_
  refine wk_iconst X dC_write_37 (v := (2 : Int32)) (by decide) ?_
  refine wk_iadd X dC_write_38 ?_
  refine wk_iconst X dC_write_39 (v := (1 : Int32)) (by decide) ?_
  obtain ⟨q5, h6, hf⟩ := p_ob hf
  refine wk_goV [0, 1, 2, 3, 4] (wk_rS X (mC_writePairs (V := V) a q3 ((fG_base S2.2.2.2.1 S2.2.2.2.2.1) + (2 : Int32)) (1 : Int32) q5 h6) rfl (gd (tw_273)) [0, 1, 2, 3, 4] rfl rfl (tl tw_271) (tl tw_272) (tl tw_6) 3 pd_C_writePairs rfl ⟨rfl, rfl⟩ ⟨Nat.le_of_ble_eq_true rfl, Nat.le_of_ble_eq_true rfl⟩ rfl (Nat.le_of_ble_eq_true rfl) dC_write_40) rfl ?_
  rintro u rfl
  refine wk_ws (ws' := cT V a q5 ++ cM V b S2) rfl ?_
  refine wk_aload_n X 1 dC_write_43 rfl rfl ?_
  refine wk_iload_n X 0 dC_write_44 rfl rfl ?_
  refine wk_iconst X dC_write_45 (v := (3 : Int32)) (by decide) ?_
  refine wk_iadd X dC_write_46 ?_
  refine wk_aload_n X 2 dC_write_47 rfl rfl ?_
  refine wk_get X uw_M 5 rfl rfl 6 (Nat.le_of_ble_eq_true rfl) (tl tw_41) rfl rfl dC_write_48 ?_
  obtain ⟨q7, h8, hf⟩ := p_ob hf
  refine wk_goV [0, 1, 2, 3, 4] (wk_rS X (mC_writePairs (V := V) a q5 ((fG_base S2.2.2.2.1 S2.2.2.2.2.1) + (3 : Int32)) S2.2.2.2.2.2.2 q7 h8) rfl (gd (tw_273)) [0, 1, 2, 3, 4] rfl rfl (tl tw_271) (tl tw_272) (tl tw_6) 3 pd_C_writePairs rfl ⟨rfl, rfl⟩ ⟨Nat.le_of_ble_eq_true rfl, Nat.le_of_ble_eq_true rfl⟩ rfl (Nat.le_of_ble_eq_true rfl) dC_write_51) rfl ?_
  rintro u rfl
  refine wk_ws (ws' := cT V a q7 ++ cM V b S2) rfl ?_
  have hf := Option.some.inj hf
  exact wk_vret X Z dC_write_54 (q7) (Eq.symm hf) rfl rfl
-- Y_remove: room (2, 43), Option (pY)
def fY_remove (S : pY) : Option (pY) :=
  (fT_begin S.1 (0 : Int32) (0 : Int32)).bind fun q1 =>
  some (q1, (0 : Int32))
set_option maxRecDepth 100000 in
set_option maxHeartbeats 4000000 in
theorem mY_remove {V : ee_V} (a : Nat → Nat) (S : pY) (R : pY) (hf : fY_remove S = some R) : wk_V (ee V) yY_remove ts_Y_remove ⟨2, 0, 0, 43⟩ [.ref (a 0)] (cY V a S) (fun u : pY => R = u) (fun u : pY => cY V a u) := by
  refine wk_of (ee_ok V) (by decide +kernel) rfl (Nat.le_of_ble_eq_true rfl) ?_
  intro x X Z
  unfold fY_remove at hf
  refine wk_lq (lv' := [(0, .ref (a 0))]) rfl ?_
  refine wk_aload_n X 0 dY_remove_0 rfl rfl ?_
  refine wk_get X uw_Y 0 rfl rfl 0 (Nat.le_of_ble_eq_true rfl) (tl tw_107) rfl rfl dY_remove_1 ?_
  refine wk_iconst X dY_remove_4 (v := (0 : Int32)) (by decide) ?_
  refine wk_iconst X dY_remove_5 (v := (0 : Int32)) (by decide) ?_
  obtain ⟨q1, h2, hf⟩ := p_ob hf
  refine wk_goV [1, 2, 3, 4, 5] (wk_rV X (mT_begin (V := V) (fun i => a (i + 1)) S.1 (0 : Int32) (0 : Int32) q1 h2) rfl (gd (tw_210)) [1, 2, 3, 4, 5] rfl rfl 1 rfl rfl (tl tw_282) (tl tw_208) (tl tw_209) (tl tw_4) 2 pd_T_begin rfl ⟨rfl, rfl⟩ ⟨Nat.le_of_ble_eq_true rfl, Nat.le_of_ble_eq_true rfl⟩ rfl (Nat.le_of_ble_eq_true rfl) dY_remove_6) rfl ?_
  rintro u rfl
  refine wk_ws (ws' := cY V a (q1, S.2)) rfl ?_
  refine wk_aload_n X 0 dY_remove_9 rfl rfl ?_
  refine wk_iconst X dY_remove_10 (v := (0 : Int32)) (by decide) ?_
  refine wk_put X uw_Y 0 rfl rfl 1 (Nat.le_of_ble_eq_true rfl) ft_Y ft_Y_ok fn_Y (tl tw_108) rfl rfl rfl rfl (Nat.le_of_ble_eq_true rfl) dY_remove_11 (ws' := cY V a (q1, (0 : Int32))) rfl ?_
  have hf := Option.some.inj hf
  exact wk_vret X Z dY_remove_14 ((q1, (0 : Int32))) (Eq.symm hf) rfl rfl

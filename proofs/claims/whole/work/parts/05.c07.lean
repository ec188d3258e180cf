-- T_makeSteps: room (4, 86), Option (Int32 × pT)
def fT_makeSteps_L10 : Nat → pT → Int32 → Int32 → Int32 → Option (Int32 × pT)
  | 0, _, _, _, _ => none
  | n + 1, S, v1, v2, v3 =>
    if v2 ≤ v3 then (
      some (v2, S)
    ) else (
      (fT_canGoOn S).bind fun q2 =>
      if q2 = (1 : Int32) then (
        (fT_step S).bind fun q5 =>
        fT_makeSteps_L10 n q5 v1 v2 (v3 + (1 : Int32))
      ) else (
        some (v3, S)
      )
    )
def fT_makeSteps (S : pT) (v1 : Int32) : Option (Int32 × pT) :=
  fT_makeSteps_L10 100000 S v1 (fX_within v1 (20000 : Int32)) (0 : Int32)
set_option maxRecDepth 100000 in
set_option maxHeartbeats 4000000 in
theorem wT_makeSteps_L10 {V : ee_V} (a : Nat → Nat) (S0 : pT) {x : wk_C} (X : wk_K (ee V) x cK_makeSteps 4 "TagWorkshop$Machine" ts_K_makeSteps ⟨4, 0, 0, 86⟩) (R : Int32 × pT) (Z : wk_N x (some .int) (va_Qi (fun (r : Int32) (u : pT) => R.1 = r ∧ R.2 = u) (wk_B (ee V) (cT V a S0) (fun u : pT => cT V a u)) (wk_in (cT V a S0))) (cT V a S0)) : ∀ (n : Nat) (S : pT) (v1 : Int32) (v2 : Int32) (v3 : Int32), fT_makeSteps_L10 n S v1 v2 v3 = some R → wk_G (ee V) x 4 (cT V a S) 10 [(0, .ref (a 0)), (1, .int v1), (2, .int v2), (3, .int v3)] [] := by
  intro n
  induction n with
  | zero => intro S v1 v2 v3 hf; exact absurd hf (by rw [fT_makeSteps_L10]; exact fun h => by cases h)
  | succ n ih =>
    intro S v1 v2 v3 hf
    rw [fT_makeSteps_L10] at hf
    refine wk_iload_n X 3 dK_makeSteps_10 rfl rfl ?_
    refine wk_iload_n X 2 dK_makeSteps_11 rfl rfl ?_
    refine wk_icmp_ge X dK_makeSteps_12 (tgt := 35) rfl (fun h1 => ?_) (fun h1 => ?_)
    · replace hf := p_it h1 hf
      refine wk_iload_n X 2 dK_makeSteps_35 rfl rfl ?_
      have hf := Option.some.inj hf
      exact wk_iret X Z rfl dK_makeSteps_36 (S) ⟨Eq.symm (congrArg Prod.fst hf), Eq.symm (congrArg Prod.snd hf)⟩ rfl rfl
    · replace hf := p_ie h1 hf
      refine wk_aload_n X 0 dK_makeSteps_15 rfl rfl ?_
      obtain ⟨q2, h3, hf⟩ := p_ob hf
      refine wk_goI [0, 1, 2, 3, 4] (wk_rD X (xm := yK_canGoOn) (owner := "TagWorkshop$Machine") (mT_canGoOn (V := V) a S q2 h3) rfl (gd (tw_387)) [0, 1, 2, 3, 4] rfl rfl 0 rfl rfl (tl tw_378) (tl tw_380) (am_d_canGoOn X.am) (tl tw_385) (tl tw_388) (tl tw_4) 0 pe_K_canGoOn rfl ⟨rfl, rfl⟩ ⟨Nat.le_of_ble_eq_true rfl, Nat.le_of_ble_eq_true rfl⟩ rfl (Nat.le_of_ble_eq_true rfl) dK_makeSteps_16) rfl ?_
      rintro r ⟨⟩ rfl
      refine wk_ws (ws' := cT V a S) rfl ?_
      refine wk_iconst X dK_makeSteps_19 (v := (1 : Int32)) (by decide) ?_
      refine wk_icmp_eq X dK_makeSteps_20 (tgt := 25) rfl (fun h4 => ?_) (fun h4 => ?_)
      · replace hf := p_it h4 hf
        refine wk_aload_n X 0 dK_makeSteps_25 rfl rfl ?_
        obtain ⟨q5, h6, hf⟩ := p_ob hf
        refine wk_goV [0, 1, 2, 3, 4] (wk_rD X (xm := yK_step) (owner := "TagWorkshop$Machine") (mT_step (V := V) a S q5 h6) rfl (gd (tw_417)) [0, 1, 2, 3, 4] rfl rfl 0 rfl rfl (tl tw_395) (tl tw_397) (am_d_step X.am) (tl tw_416) (tl tw_415) (tl tw_4) 0 pe_K_step rfl ⟨rfl, rfl⟩ ⟨Nat.le_of_ble_eq_true rfl, Nat.le_of_ble_eq_true rfl⟩ rfl (Nat.le_of_ble_eq_true rfl) dK_makeSteps_26) rfl ?_
        rintro u rfl
        refine wk_ws (ws' := cT V a q5) rfl ?_
        refine wk_iinc X 3 dK_makeSteps_29 (v := (v3 + (1 : Int32))) rfl rfl (Nat.le_of_ble_eq_true rfl) (lv' := [(3, .int (v3 + (1 : Int32))), (0, .ref (a 0)), (1, .int v1), (2, .int v2)]) rfl ?_
        refine wk_goto X dK_makeSteps_32 (tgt := 10) rfl ?_
        refine wk_lv [1, 2, 3, 0] (lv' := [(0, .ref (a 0)), (1, .int v1), (2, .int v2), (3, .int (v3 + (1 : Int32)))]) rfl ?_
        exact ih q5 v1 v2 (v3 + (1 : Int32)) hf
      · replace hf := p_ie h4 hf
        refine wk_iload_n X 3 dK_makeSteps_23 rfl rfl ?_
        have hf := Option.some.inj hf
        exact wk_iret X Z rfl dK_makeSteps_24 (S) ⟨Eq.symm (congrArg Prod.fst hf), Eq.symm (congrArg Prod.snd hf)⟩ rfl rfl
set_option maxRecDepth 100000 in
set_option maxHeartbeats 4000000 in
theorem mT_makeSteps {V : ee_V} (a : Nat → Nat) (S : pT) (v1 : Int32) (R : Int32 × pT) (hf : fT_makeSteps S v1 = some R) : wk_I (ee V) yK_makeSteps ts_K_makeSteps ⟨4, 0, 0, 86⟩ [.ref (a 0), .int v1] (cT V a S) (fun (r : Int32) (u : pT) => R.1 = r ∧ R.2 = u) (fun u : pT => cT V a u) := by
  refine wk_of (ee_ok V) (by decide +kernel) rfl (Nat.le_of_ble_eq_true rfl) ?_
  intro x X Z
  unfold fT_makeSteps at hf
  refine wk_lq (lv' := [(0, .ref (a 0)), (1, .int v1)]) rfl ?_
  refine wk_iload_n X 1 dK_makeSteps_0 rfl rfl ?_
  refine wk_sipush X dK_makeSteps_1 (v := (20000 : Int32)) (by decide) ?_
  refine wk_goI [] (wk_rSN X (mX_within (V := V) v1 (20000 : Int32) (fX_within v1 (20000 : Int32)) rfl) rfl (gd (tw_373)) [] rfl rfl (am_nK_9 X.am) (tl tw_372) (tl tw_1) 2 pd_X_within rfl ⟨rfl, rfl⟩ ⟨Nat.le_of_ble_eq_true rfl, Nat.le_of_ble_eq_true rfl⟩ rfl (Nat.le_of_ble_eq_true rfl) dK_makeSteps_4) rfl ?_
  rintro r ⟨⟩ rfl
  refine wk_ws (ws' := cT V a S) rfl ?_
  refine wk_istore_n X dK_makeSteps_7 rfl (Nat.le_of_ble_eq_true rfl) (lv' := [(2, .int (fX_within v1 (20000 : Int32))), (0, .ref (a 0)), (1, .int v1)]) rfl ?_
  refine wk_iconst X dK_makeSteps_8 (v := (0 : Int32)) (by decide) ?_
  refine wk_istore_n X dK_makeSteps_9 rfl (Nat.le_of_ble_eq_true rfl) (lv' := [(3, .int (0 : Int32)), (2, .int (fX_within v1 (20000 : Int32))), (0, .ref (a 0)), (1, .int v1)]) rfl ?_
  refine wk_lv [2, 3, 1, 0] (lv' := [(0, .ref (a 0)), (1, .int v1), (2, .int (fX_within v1 (20000 : Int32))), (3, .int (0 : Int32))]) rfl ?_
  exact wT_makeSteps_L10 a S X R Z 100000 S v1 (fX_within v1 (20000 : Int32)) (0 : Int32) hf
-- M_step: room (1, 21), Option (pM)
def fM_step (S : pM) : Option (pM) :=
  (p_rd 16 S.2.1 (fM_place S.2.2.2.1 S.2.2.2.2.1)).bind fun q1 =>
  if q1 = (1 : Int32) then (
    (p_rd 16 S.1 (fM_place S.2.2.2.1 S.2.2.2.2.1)).bind fun q8 =>
    (p_rd 16 S.2.2.1 (fM_place S.2.2.2.1 S.2.2.2.2.1)).bind fun q10 =>
    some (S.1, S.2.1, S.2.2.1, q10, (S.2.2.2.2.2.2 - S.2.2.2.2.2.2 / (2 : Int32) * (2 : Int32)), (((2 : Int32) * S.2.2.2.2.2.1) + q8), (S.2.2.2.2.2.2 / (2 : Int32)))
  ) else (
    (p_rd 16 S.1 (fM_place S.2.2.2.1 S.2.2.2.2.1)).bind fun q4 =>
    (p_rd 16 S.2.2.1 (fM_place S.2.2.2.1 S.2.2.2.2.1)).bind fun q6 =>
    some (S.1, S.2.1, S.2.2.1, q6, (S.2.2.2.2.2.1 - S.2.2.2.2.2.1 / (2 : Int32) * (2 : Int32)), (S.2.2.2.2.2.1 / (2 : Int32)), (((2 : Int32) * S.2.2.2.2.2.2) + q4))
  )
set_option maxRecDepth 100000 in
set_option maxHeartbeats 4000000 in
theorem mM_step {V : ee_V} (a : Nat → Nat) (S : pM) (R : pM) (hf : fM_step S = some R) : wk_V (ee V) yM_step ts_M_step ⟨1, 0, 0, 21⟩ [.ref (a 0)] (cM V a S) (fun u : pM => R = u) (fun u : pM => cM V a u) := by
  refine wk_of (ee_ok V) (by decide +kernel) rfl (Nat.le_of_ble_eq_true rfl) ?_
  intro x X Z
  unfold fM_step at hf
  refine wk_lq (lv' := [(0, .ref (a 0))]) rfl ?_
  refine wk_aload_n X 0 dM_step_0 rfl rfl ?_
  refine wk_get X uw_M 0 rfl rfl 3 (Nat.le_of_ble_eq_true rfl) (tl tw_31) rfl rfl dM_step_1 ?_
  refine wk_aload_n X 0 dM_step_4 rfl rfl ?_
  refine wk_get X uw_M 0 rfl rfl 4 (Nat.le_of_ble_eq_true rfl) (tl tw_34) rfl rfl dM_step_5 ?_
  refine wk_goI [] (wk_rS X (mM_place (V := V) S.2.2.2.1 S.2.2.2.2.1 (fM_place S.2.2.2.1 S.2.2.2.2.1) rfl) rfl (gd (tw_167)) [] rfl rfl (tl tw_165) (tl tw_166) (tl tw_3) 2 pd_M_place rfl ⟨rfl, rfl⟩ ⟨Nat.le_of_ble_eq_true rfl, Nat.le_of_ble_eq_true rfl⟩ rfl (Nat.le_of_ble_eq_true rfl) dM_step_8) rfl ?_
  rintro r ⟨⟩ rfl
  refine wk_ws (ws' := cM V a S) rfl ?_
  refine wk_istore_n X dM_step_11 rfl (Nat.le_of_ble_eq_true rfl) (lv' := [(1, .int (fM_place S.2.2.2.1 S.2.2.2.2.1)), (0, .ref (a 0))]) rfl ?_
  refine wk_aload_n X 1 dM_step_12 rfl rfl ?_
  refine wk_get X uw_M 0 rfl rfl 1 (Nat.le_of_ble_eq_true rfl) (tl tw_29) rfl rfl dM_step_13 ?_
  refine wk_iload_n X 0 dM_step_16 rfl rfl ?_
  obtain ⟨q1, h2, hf⟩ := p_ob hf
  obtain ⟨h2i, h2e⟩ := p_rd_some h2
  refine wk_iald X 2 0 rfl rfl h2i h2e dM_step_17 ?_
  refine wk_iconst X dM_step_18 (v := (1 : Int32)) (by decide) ?_
  refine wk_icmp_ne X dM_step_19 (tgt := 62) rfl (fun h3 => ?_) (fun h3 => ?_)
  · replace hf := p_ie h3 hf
    refine wk_aload_n X 1 dM_step_62 rfl rfl ?_
    refine wk_iconst X dM_step_63 (v := (2 : Int32)) (by decide) ?_
    refine wk_aload_n X 1 dM_step_64 rfl rfl ?_
    refine wk_get X uw_M 0 rfl rfl 6 (Nat.le_of_ble_eq_true rfl) (tl tw_40) rfl rfl dM_step_65 ?_
    refine wk_imul X dM_step_68 ?_
    refine wk_aload_n X 1 dM_step_69 rfl rfl ?_
    refine wk_get X uw_M 0 rfl rfl 0 (Nat.le_of_ble_eq_true rfl) (tl tw_28) rfl rfl dM_step_70 ?_
    refine wk_iload_n X 0 dM_step_73 rfl rfl ?_
    obtain ⟨q4, h5, hf⟩ := p_ob hf
    obtain ⟨h5i, h5e⟩ := p_rd_some h5
    refine wk_iald X 1 0 rfl rfl h5i h5e dM_step_74 ?_
    refine wk_iadd X dM_step_75 ?_
    refine wk_put X uw_M 0 rfl rfl 6 (Nat.le_of_ble_eq_true rfl) ft_M ft_M_ok fn_M (tl tw_40) rfl rfl rfl rfl (Nat.le_of_ble_eq_true rfl) dM_step_76 (ws' := cM V a (S.1, S.2.1, S.2.2.1, S.2.2.2.1, S.2.2.2.2.1, S.2.2.2.2.2.1, (((2 : Int32) * S.2.2.2.2.2.2) + q4))) rfl ?_
    refine wk_aload_n X 1 dM_step_79 rfl rfl ?_
    refine wk_aload_n X 1 dM_step_80 rfl rfl ?_
    refine wk_get X uw_M 0 rfl rfl 5 (Nat.le_of_ble_eq_true rfl) (tl tw_37) rfl rfl dM_step_81 ?_
    refine wk_iconst X dM_step_84 (v := (2 : Int32)) (by decide) ?_
    refine wk_irem X dM_step_85 (by decide) ?_
    refine wk_put X uw_M 0 rfl rfl 4 (Nat.le_of_ble_eq_true rfl) ft_M ft_M_ok fn_M (tl tw_34) rfl rfl rfl rfl (Nat.le_of_ble_eq_true rfl) dM_step_86 (ws' := cM V a (S.1, S.2.1, S.2.2.1, S.2.2.2.1, (S.2.2.2.2.2.1 - S.2.2.2.2.2.1 / (2 : Int32) * (2 : Int32)), S.2.2.2.2.2.1, (((2 : Int32) * S.2.2.2.2.2.2) + q4))) rfl ?_
    refine wk_aload_n X 1 dM_step_89 rfl rfl ?_
    refine wk_aload_n X 1 dM_step_90 rfl rfl ?_
    refine wk_get X uw_M 0 rfl rfl 5 (Nat.le_of_ble_eq_true rfl) (tl tw_37) rfl rfl dM_step_91 ?_
    refine wk_iconst X dM_step_94 (v := (2 : Int32)) (by decide) ?_
    refine wk_idiv X dM_step_95 (by decide) ?_
    refine wk_put X uw_M 0 rfl rfl 5 (Nat.le_of_ble_eq_true rfl) ft_M ft_M_ok fn_M (tl tw_37) rfl rfl rfl rfl (Nat.le_of_ble_eq_true rfl) dM_step_96 (ws' := cM V a (S.1, S.2.1, S.2.2.1, S.2.2.2.1, (S.2.2.2.2.2.1 - S.2.2.2.2.2.1 / (2 : Int32) * (2 : Int32)), (S.2.2.2.2.2.1 / (2 : Int32)), (((2 : Int32) * S.2.2.2.2.2.2) + q4))) rfl ?_
    refine wk_aload_n X 1 dM_step_99 rfl rfl ?_
    refine wk_aload_n X 1 dM_step_100 rfl rfl ?_
    refine wk_get X uw_M 0 rfl rfl 2 (Nat.le_of_ble_eq_true rfl) (tl tw_30) rfl rfl dM_step_101 ?_
    refine wk_iload_n X 0 dM_step_104 rfl rfl ?_
    obtain ⟨q6, h7, hf⟩ := p_ob hf
    obtain ⟨h7i, h7e⟩ := p_rd_some h7
    refine wk_iald X 3 0 rfl rfl h7i h7e dM_step_105 ?_
    refine wk_put X uw_M 0 rfl rfl 3 (Nat.le_of_ble_eq_true rfl) ft_M ft_M_ok fn_M (tl tw_31) rfl rfl rfl rfl (Nat.le_of_ble_eq_true rfl) dM_step_106 (ws' := cM V a (S.1, S.2.1, S.2.2.1, q6, (S.2.2.2.2.2.1 - S.2.2.2.2.2.1 / (2 : Int32) * (2 : Int32)), (S.2.2.2.2.2.1 / (2 : Int32)), (((2 : Int32) * S.2.2.2.2.2.2) + q4))) rfl ?_
    have hf := Option.some.inj hf
    exact wk_vret X Z dM_step_109 ((S.1, S.2.1, S.2.2.1, q6, (S.2.2.2.2.2.1 - S.2.2.2.2.2.1 / (2 : Int32) * (2 : Int32)), (S.2.2.2.2.2.1 / (2 : Int32)), (((2 : Int32) * S.2.2.2.2.2.2) + q4))) (Eq.symm hf) rfl rfl
  · replace hf := p_it h3 hf
    refine wk_aload_n X 1 dM_step_22 rfl rfl ?_
    refine wk_iconst X dM_step_23 (v := (2 : Int32)) (by decide) ?_
    refine wk_aload_n X 1 dM_step_24 rfl rfl ?_
    refine wk_get X uw_M 0 rfl rfl 5 (Nat.le_of_ble_eq_true rfl) (tl tw_37) rfl rfl dM_step_25 ?_
    refine wk_imul X dM_step_28 ?_
    refine wk_aload_n X 1 dM_step_29 rfl rfl ?_
    refine wk_get X uw_M 0 rfl rfl 0 (Nat.le_of_ble_eq_true rfl) (tl tw_28) rfl rfl dM_step_30 ?_
    refine wk_iload_n X 0 dM_step_33 rfl rfl ?_
    obtain ⟨q8, h9, hf⟩ := p_ob hf
    obtain ⟨h9i, h9e⟩ := p_rd_some h9
    refine wk_iald X 1 0 rfl rfl h9i h9e dM_step_34 ?_
    refine wk_iadd X dM_step_35 ?_
    refine wk_put X uw_M 0 rfl rfl 5 (Nat.le_of_ble_eq_true rfl) ft_M ft_M_ok fn_M (tl tw_37) rfl rfl rfl rfl (Nat.le_of_ble_eq_true rfl) dM_step_36 (ws' := cM V a (S.1, S.2.1, S.2.2.1, S.2.2.2.1, S.2.2.2.2.1, (((2 : Int32) * S.2.2.2.2.2.1) + q8), S.2.2.2.2.2.2)) rfl ?_
    refine wk_aload_n X 1 dM_step_39 rfl rfl ?_
    refine wk_aload_n X 1 dM_step_40 rfl rfl ?_
    refine wk_get X uw_M 0 rfl rfl 6 (Nat.le_of_ble_eq_true rfl) (tl tw_40) rfl rfl dM_step_41 ?_
    refine wk_iconst X dM_step_44 (v := (2 : Int32)) (by decide) ?_
    refine wk_irem X dM_step_45 (by decide) ?_
    refine wk_put X uw_M 0 rfl rfl 4 (Nat.le_of_ble_eq_true rfl) ft_M ft_M_ok fn_M (tl tw_34) rfl rfl rfl rfl (Nat.le_of_ble_eq_true rfl) dM_step_46 (ws' := cM V a (S.1, S.2.1, S.2.2.1, S.2.2.2.1, (S.2.2.2.2.2.2 - S.2.2.2.2.2.2 / (2 : Int32) * (2 : Int32)), (((2 : Int32) * S.2.2.2.2.2.1) + q8), S.2.2.2.2.2.2)) rfl ?_
    refine wk_aload_n X 1 dM_step_49 rfl rfl ?_
    refine wk_aload_n X 1 dM_step_50 rfl rfl ?_
    refine wk_get X uw_M 0 rfl rfl 6 (Nat.le_of_ble_eq_true rfl) (tl tw_40) rfl rfl dM_step_51 ?_
    refine wk_iconst X dM_step_54 (v := (2 : Int32)) (by decide) ?_
    refine wk_idiv X dM_step_55 (by decide) ?_
    refine wk_put X uw_M 0 rfl rfl 6 (Nat.le_of_ble_eq_true rfl) ft_M ft_M_ok fn_M (tl tw_40) rfl rfl rfl rfl (Nat.le_of_ble_eq_true rfl) dM_step_56 (ws' := cM V a (S.1, S.2.1, S.2.2.1, S.2.2.2.1, (S.2.2.2.2.2.2 - S.2.2.2.2.2.2 / (2 : Int32) * (2 : Int32)), (((2 : Int32) * S.2.2.2.2.2.1) + q8), (S.2.2.2.2.2.2 / (2 : Int32)))) rfl ?_
    refine wk_goto X dM_step_59 (tgt := 99) rfl ?_
    refine wk_aload_n X 1 dM_step_99 rfl rfl ?_
    refine wk_aload_n X 1 dM_step_100 rfl rfl ?_
    refine wk_get X uw_M 0 rfl rfl 2 (Nat.le_of_ble_eq_true rfl) (tl tw_30) rfl rfl dM_step_101 ?_
    refine wk_iload_n X 0 dM_step_104 rfl rfl ?_
    obtain ⟨q10, h11, hf⟩ := p_ob hf
    obtain ⟨h11i, h11e⟩ := p_rd_some h11
    refine wk_iald X 3 0 rfl rfl h11i h11e dM_step_105 ?_
    refine wk_put X uw_M 0 rfl rfl 3 (Nat.le_of_ble_eq_true rfl) ft_M ft_M_ok fn_M (tl tw_31) rfl rfl rfl rfl (Nat.le_of_ble_eq_true rfl) dM_step_106 (ws' := cM V a (S.1, S.2.1, S.2.2.1, q10, (S.2.2.2.2.2.2 - S.2.2.2.2.2.2 / (2 : Int32) * (2 : Int32)), (((2 : Int32) * S.2.2.2.2.2.1) + q8), (S.2.2.2.2.2.2 / (2 : Int32)))) rfl ?_
    have hf := Option.some.inj hf
    exact wk_vret X Z dM_step_109 ((S.1, S.2.1, S.2.2.1, q10, (S.2.2.2.2.2.2 - S.2.2.2.2.2.2 / (2 : Int32) * (2 : Int32)), (((2 : Int32) * S.2.2.2.2.2.1) + q8), (S.2.2.2.2.2.2 / (2 : Int32)))) (Eq.symm hf) rfl rfl
-- M_makeSteps: room (3, 64), Option (Int32 × pM)
def fM_makeSteps_L10 : Nat → pM → Int32 → Int32 → Int32 → Option (Int32 × pM)
  | 0, _, _, _, _ => none
  | n + 1, S, v1, v2, v3 =>
    if v2 ≤ v3 then (
      some (v2, S)
    ) else (
      (fM_canGoOn S).bind fun q2 =>
      if q2 = (1 : Int32) then (
        (fM_step S).bind fun q5 =>
        fM_makeSteps_L10 n q5 v1 v2 (v3 + (1 : Int32))
      ) else (
        some (v3, S)
      )
    )
def fM_makeSteps (S : pM) (v1 : Int32) : Option (Int32 × pM) :=
  fM_makeSteps_L10 100000 S v1 (fX_within v1 (20000 : Int32)) (0 : Int32)
set_option maxRecDepth 100000 in
set_option maxHeartbeats 4000000 in
theorem wM_makeSteps_L10 {V : ee_V} (a : Nat → Nat) (S0 : pM) {x : wk_C} (X : wk_K (ee V) x cK_makeSteps 4 "TagWorkshop$Machine" ts_K_makeSteps ⟨3, 0, 0, 64⟩) (R : Int32 × pM) (Z : wk_N x (some .int) (va_Qi (fun (r : Int32) (u : pM) => R.1 = r ∧ R.2 = u) (wk_B (ee V) (cM V a S0) (fun u : pM => cM V a u)) (wk_in (cM V a S0))) (cM V a S0)) : ∀ (n : Nat) (S : pM) (v1 : Int32) (v2 : Int32) (v3 : Int32), fM_makeSteps_L10 n S v1 v2 v3 = some R → wk_G (ee V) x 4 (cM V a S) 10 [(0, .ref (a 0)), (1, .int v1), (2, .int v2), (3, .int v3)] [] := by
  intro n
  induction n with
  | zero => intro S v1 v2 v3 hf; exact absurd hf (by rw [fM_makeSteps_L10]; exact fun h => by cases h)
  | succ n ih =>
    intro S v1 v2 v3 hf
    rw [fM_makeSteps_L10] at hf
    refine wk_iload_n X 3 dK_makeSteps_10 rfl rfl ?_
    refine wk_iload_n X 2 dK_makeSteps_11 rfl rfl ?_
    refine wk_icmp_ge X dK_makeSteps_12 (tgt := 35) rfl (fun h1 => ?_) (fun h1 => ?_)
    · replace hf := p_it h1 hf
      refine wk_iload_n X 2 dK_makeSteps_35 rfl rfl ?_
      have hf := Option.some.inj hf
      exact wk_iret X Z rfl dK_makeSteps_36 (S) ⟨Eq.symm (congrArg Prod.fst hf), Eq.symm (congrArg Prod.snd hf)⟩ rfl rfl
    · replace hf := p_ie h1 hf
      refine wk_aload_n X 0 dK_makeSteps_15 rfl rfl ?_
      obtain ⟨q2, h3, hf⟩ := p_ob hf
      refine wk_goI [0, 1, 2, 3] (wk_rD X (xm := yK_canGoOn) (owner := "TagWorkshop$Machine") (mM_canGoOn (V := V) a S q2 h3) rfl (gd (tw_391)) [0, 1, 2, 3] rfl rfl 0 rfl rfl (tl tw_378) (tl tw_380) (am_d_canGoOn X.am) (tl tw_390) (tl tw_389) (tl tw_3) 0 pe_K_canGoOn rfl ⟨rfl, rfl⟩ ⟨Nat.le_of_ble_eq_true rfl, Nat.le_of_ble_eq_true rfl⟩ rfl (Nat.le_of_ble_eq_true rfl) dK_makeSteps_16) rfl ?_
      rintro r ⟨⟩ rfl
      refine wk_ws (ws' := cM V a S) rfl ?_
      refine wk_iconst X dK_makeSteps_19 (v := (1 : Int32)) (by decide) ?_
      refine wk_icmp_eq X dK_makeSteps_20 (tgt := 25) rfl (fun h4 => ?_) (fun h4 => ?_)
      · replace hf := p_it h4 hf
        refine wk_aload_n X 0 dK_makeSteps_25 rfl rfl ?_
        obtain ⟨q5, h6, hf⟩ := p_ob hf
        refine wk_goV [0, 1, 2, 3] (wk_rD X (xm := yK_step) (owner := "TagWorkshop$Machine") (mM_step (V := V) a S q5 h6) rfl (gd (tw_422)) [0, 1, 2, 3] rfl rfl 0 rfl rfl (tl tw_395) (tl tw_397) (am_d_step X.am) (tl tw_421) (tl tw_420) (tl tw_3) 0 pe_K_step rfl ⟨rfl, rfl⟩ ⟨Nat.le_of_ble_eq_true rfl, Nat.le_of_ble_eq_true rfl⟩ rfl (Nat.le_of_ble_eq_true rfl) dK_makeSteps_26) rfl ?_
        rintro u rfl
        refine wk_ws (ws' := cM V a q5) rfl ?_
        refine wk_iinc X 3 dK_makeSteps_29 (v := (v3 + (1 : Int32))) rfl rfl (Nat.le_of_ble_eq_true rfl) (lv' := [(3, .int (v3 + (1 : Int32))), (0, .ref (a 0)), (1, .int v1), (2, .int v2)]) rfl ?_
        refine wk_goto X dK_makeSteps_32 (tgt := 10) rfl ?_
        refine wk_lv [1, 2, 3, 0] (lv' := [(0, .ref (a 0)), (1, .int v1), (2, .int v2), (3, .int (v3 + (1 : Int32)))]) rfl ?_
        exact ih q5 v1 v2 (v3 + (1 : Int32)) hf
      · replace hf := p_ie h4 hf
        refine wk_iload_n X 3 dK_makeSteps_23 rfl rfl ?_
        have hf := Option.some.inj hf
        exact wk_iret X Z rfl dK_makeSteps_24 (S) ⟨Eq.symm (congrArg Prod.fst hf), Eq.symm (congrArg Prod.snd hf)⟩ rfl rfl
set_option maxRecDepth 100000 in
set_option maxHeartbeats 4000000 in
theorem mM_makeSteps {V : ee_V} (a : Nat → Nat) (S : pM) (v1 : Int32) (R : Int32 × pM) (hf : fM_makeSteps S v1 = some R) : wk_I (ee V) yK_makeSteps ts_K_makeSteps ⟨3, 0, 0, 64⟩ [.ref (a 0), .int v1] (cM V a S) (fun (r : Int32) (u : pM) => R.1 = r ∧ R.2 = u) (fun u : pM => cM V a u) := by
  refine wk_of (ee_ok V) (by decide +kernel) rfl (Nat.le_of_ble_eq_true rfl) ?_
  intro x X Z
  unfold fM_makeSteps at hf
  refine wk_lq (lv' := [(0, .ref (a 0)), (1, .int v1)]) rfl ?_
  refine wk_iload_n X 1 dK_makeSteps_0 rfl rfl ?_
  refine wk_sipush X dK_makeSteps_1 (v := (20000 : Int32)) (by decide) ?_
  refine wk_goI [] (wk_rSN X (mX_within (V := V) v1 (20000 : Int32) (fX_within v1 (20000 : Int32)) rfl) rfl (gd (tw_373)) [] rfl rfl (am_nK_9 X.am) (tl tw_372) (tl tw_1) 2 pd_X_within rfl ⟨rfl, rfl⟩ ⟨Nat.le_of_ble_eq_true rfl, Nat.le_of_ble_eq_true rfl⟩ rfl (Nat.le_of_ble_eq_true rfl) dK_makeSteps_4) rfl ?_
  rintro r ⟨⟩ rfl
  refine wk_ws (ws' := cM V a S) rfl ?_
  refine wk_istore_n X dK_makeSteps_7 rfl (Nat.le_of_ble_eq_true rfl) (lv' := [(2, .int (fX_within v1 (20000 : Int32))), (0, .ref (a 0)), (1, .int v1)]) rfl ?_
  refine wk_iconst X dK_makeSteps_8 (v := (0 : Int32)) (by decide) ?_
  refine wk_istore_n X dK_makeSteps_9 rfl (Nat.le_of_ble_eq_true rfl) (lv' := [(3, .int (0 : Int32)), (2, .int (fX_within v1 (20000 : Int32))), (0, .ref (a 0)), (1, .int v1)]) rfl ?_
  refine wk_lv [2, 3, 1, 0] (lv' := [(0, .ref (a 0)), (1, .int v1), (2, .int (fX_within v1 (20000 : Int32))), (3, .int (0 : Int32))]) rfl ?_
  exact wM_makeSteps_L10 a S X R Z 100000 S v1 (fX_within v1 (20000 : Int32)) (0 : Int32) hf
-- X_stepTape: room (4, 87), Option (Int32 × pX)
def fX_stepTape (S : pX) (v1 : Int32) : Option (Int32 × pX) :=
  (fM_makeSteps S.1 v1).bind fun q1 =>
  some (q1.1, (q1.2, S.2.1, S.2.2.1, S.2.2.2))
set_option maxRecDepth 100000 in
set_option maxHeartbeats 4000000 in
theorem mX_stepTape {V : ee_V} (a : Nat → Nat) (S : pX) (v1 : Int32) (R : Int32 × pX) (hf : fX_stepTape S v1 = some R) : wk_I (ee V) yX_stepTape ts_X_stepTape ⟨4, 0, 0, 87⟩ [.ref (a 0), .int v1] (cX V a S) (fun (r : Int32) (u : pX) => R.1 = r ∧ R.2 = u) (fun u : pX => cX V a u) := by
  refine wk_of (ee_ok V) (by decide +kernel) rfl (Nat.le_of_ble_eq_true rfl) ?_
  intro x X Z
  unfold fX_stepTape at hf
  refine wk_lq (lv' := [(0, .ref (a 0)), (1, .int v1)]) rfl ?_
  refine wk_aload_n X 0 dX_stepTape_0 rfl rfl ?_
  refine wk_get X uw_X 0 rfl rfl 0 (Nat.le_of_ble_eq_true rfl) (tl tw_138) rfl rfl dX_stepTape_1 ?_
  refine wk_iload_n X 1 dX_stepTape_4 rfl rfl ?_
  obtain ⟨q1, h2, hf⟩ := p_ob hf
  refine wk_goI [1, 2, 3, 4] (wk_rD X (xm := yM_makeSteps) (owner := "TagWorkshop$Machine") (mM_makeSteps (V := V) (fun i => a (i + 1)) S.1 v1 q1 h2) rfl (gd (tw_370)) [1, 2, 3, 4] rfl rfl 1 rfl rfl (tl tw_365) (tl tw_366) (am_d_makeSteps X.am) (tl tw_369) (tl tw_368) (tl tw_2) 1 pe_M_makeSteps rfl ⟨rfl, rfl⟩ ⟨Nat.le_of_ble_eq_true rfl, Nat.le_of_ble_eq_true rfl⟩ rfl (Nat.le_of_ble_eq_true rfl) dX_stepTape_5) rfl ?_
  rintro r u ⟨rfl, rfl⟩
  refine wk_ws (ws' := cX V a (q1.2, S.2.1, S.2.2.1, S.2.2.2)) rfl ?_
  have hf := Option.some.inj hf
  exact wk_iret X Z rfl dX_stepTape_8 ((q1.2, S.2.1, S.2.2.1, S.2.2.2)) ⟨Eq.symm (congrArg Prod.fst hf), Eq.symm (congrArg Prod.snd hf)⟩ rfl rfl
-- X_stepTag: room (5, 109), Option (Int32 × pX)
def fX_stepTag (S : pX) (v1 : Int32) : Option (Int32 × pX) :=
  (fT_makeSteps S.2.1 v1).bind fun q1 =>
  some (q1.1, (S.1, q1.2, S.2.2.1, S.2.2.2))
set_option maxRecDepth 100000 in
set_option maxHeartbeats 4000000 in
theorem mX_stepTag {V : ee_V} (a : Nat → Nat) (S : pX) (v1 : Int32) (R : Int32 × pX) (hf : fX_stepTag S v1 = some R) : wk_I (ee V) yX_stepTag ts_X_stepTag ⟨5, 0, 0, 109⟩ [.ref (a 0), .int v1] (cX V a S) (fun (r : Int32) (u : pX) => R.1 = r ∧ R.2 = u) (fun u : pX => cX V a u) := by
  refine wk_of (ee_ok V) (by decide +kernel) rfl (Nat.le_of_ble_eq_true rfl) ?_
  intro x X Z
  unfold fX_stepTag at hf
  refine wk_lq (lv' := [(0, .ref (a 0)), (1, .int v1)]) rfl ?_
  refine wk_aload_n X 0 dX_stepTag_0 rfl rfl ?_
  refine wk_get X uw_X 0 rfl rfl 1 (Nat.le_of_ble_eq_true rfl) (tl tw_139) rfl rfl dX_stepTag_1 ?_
  refine wk_iload_n X 1 dX_stepTag_4 rfl rfl ?_
  obtain ⟨q1, h2, hf⟩ := p_ob hf
  refine wk_goI [5, 6, 7, 8, 9] (wk_rD X (xm := yT_makeSteps) (owner := "TagWorkshop$Machine") (mT_makeSteps (V := V) (fun i => a (i + 5)) S.2.1 v1 q1 h2) rfl (gd (tw_370)) [5, 6, 7, 8, 9] rfl rfl 5 rfl rfl (tl tw_427) (tl tw_428) (am_d_makeSteps X.am) (tl tw_369) (tl tw_429) (tl tw_2) 1 pe_T_makeSteps rfl ⟨rfl, rfl⟩ ⟨Nat.le_of_ble_eq_true rfl, Nat.le_of_ble_eq_true rfl⟩ rfl (Nat.le_of_ble_eq_true rfl) dX_stepTag_5) rfl ?_
  rintro r u ⟨rfl, rfl⟩
  refine wk_ws (ws' := cX V a (S.1, q1.2, S.2.2.1, S.2.2.2)) rfl ?_
  have hf := Option.some.inj hf
  exact wk_iret X Z rfl dX_stepTag_8 ((S.1, q1.2, S.2.2.1, S.2.2.2)) ⟨Eq.symm (congrArg Prod.fst hf), Eq.symm (congrArg Prod.snd hf)⟩ rfl rfl
-- X_stepCyclic: room (5, 109), Option (Int32 × pX)
def fX_stepCyclic (S : pX) (v1 : Int32) : Option (Int32 × pX) :=
  (fY_makeSteps S.2.2.1 v1).bind fun q1 =>
  some (q1.1, (S.1, S.2.1, q1.2, S.2.2.2))
set_option maxRecDepth 100000 in
set_option maxHeartbeats 4000000 in
theorem mX_stepCyclic {V : ee_V} (a : Nat → Nat) (S : pX) (v1 : Int32) (R : Int32 × pX) (hf : fX_stepCyclic S v1 = some R) : wk_I (ee V) yX_stepCyclic ts_X_stepCyclic ⟨5, 0, 0, 109⟩ [.ref (a 0), .int v1] (cX V a S) (fun (r : Int32) (u : pX) => R.1 = r ∧ R.2 = u) (fun u : pX => cX V a u) := by
  refine wk_of (ee_ok V) (by decide +kernel) rfl (Nat.le_of_ble_eq_true rfl) ?_
  intro x X Z
  unfold fX_stepCyclic at hf
  refine wk_lq (lv' := [(0, .ref (a 0)), (1, .int v1)]) rfl ?_
  refine wk_aload_n X 0 dX_stepCyclic_0 rfl rfl ?_
  refine wk_get X uw_X 0 rfl rfl 2 (Nat.le_of_ble_eq_true rfl) (tl tw_140) rfl rfl dX_stepCyclic_1 ?_
  refine wk_iload_n X 1 dX_stepCyclic_4 rfl rfl ?_
  obtain ⟨q1, h2, hf⟩ := p_ob hf
  refine wk_goI [10, 11, 12, 13, 14, 15] (wk_rD X (xm := yY_makeSteps) (owner := "TagWorkshop$Machine") (mY_makeSteps (V := V) (fun i => a (i + 10)) S.2.2.1 v1 q1 h2) rfl (gd (tw_370)) [10, 11, 12, 13, 14, 15] rfl rfl 10 rfl rfl (tl tw_434) (tl tw_435) (am_d_makeSteps X.am) (tl tw_369) (tl tw_436) (tl tw_2) 1 pe_Y_makeSteps rfl ⟨rfl, rfl⟩ ⟨Nat.le_of_ble_eq_true rfl, Nat.le_of_ble_eq_true rfl⟩ rfl (Nat.le_of_ble_eq_true rfl) dX_stepCyclic_5) rfl ?_
  rintro r u ⟨rfl, rfl⟩
  refine wk_ws (ws' := cX V a (S.1, S.2.1, q1.2, S.2.2.2)) rfl ?_
  have hf := Option.some.inj hf
  exact wk_iret X Z rfl dX_stepCyclic_8 ((S.1, S.2.1, q1.2, S.2.2.2)) ⟨Eq.symm (congrArg Prod.fst hf), Eq.symm (congrArg Prod.snd hf)⟩ rfl rfl
-- X_tapeNow: room (3, 64), Option (Int32)
def fX_tapeNow (S : pX) (v1 : Int32) : Option (Int32) :=
  if v1 = (0 : Int32) then (
    some S.1.2.2.2.1
  ) else (
  if v1 = (1 : Int32) then (
    some S.1.2.2.2.2.1
  ) else (
  if v1 = (2 : Int32) then (
    some S.1.2.2.2.2.2.1
  ) else (
  if v1 = (3 : Int32) then (
    some S.1.2.2.2.2.2.2
  ) else (
  if v1 = (4 : Int32) then (
    (fM_canGoOn S.1).bind fun q6 =>
    some q6
  ) else (
    some (-1 : Int32)
  )))))
set_option maxRecDepth 100000 in
set_option maxHeartbeats 4000000 in
theorem mX_tapeNow {V : ee_V} (a : Nat → Nat) (S : pX) (v1 : Int32) (R : Int32) (hf : fX_tapeNow S v1 = some R) : wk_I (ee V) yX_tapeNow ts_X_tapeNow ⟨3, 0, 0, 64⟩ [.ref (a 0), .int v1] (cX V a S) (fun (r : Int32) (_ : Unit) => R = r) (fun _ : Unit => cX V a S) := by
  refine wk_of (ee_ok V) (by decide +kernel) rfl (Nat.le_of_ble_eq_true rfl) ?_
  intro x X Z
  unfold fX_tapeNow at hf
  refine wk_lq (lv' := [(0, .ref (a 0)), (1, .int v1)]) rfl ?_
  refine wk_iload_n X 1 dX_tapeNow_0 rfl rfl ?_
  by_cases h1 : v1 = (0 : Int32)
  · replace hf := p_it h1 hf
    refine wk_swIn X dX_tapeNow_1 (off := 35) (tgt := 36) (by rw [h1]; decide) (by rw [h1]; decide) (by rw [h1]; rfl) rfl ?_
    refine wk_aload_n X 0 dX_tapeNow_36 rfl rfl ?_
    refine wk_get X uw_X 0 rfl rfl 0 (Nat.le_of_ble_eq_true rfl) (tl tw_138) rfl rfl dX_tapeNow_37 ?_
    refine wk_get X uw_M 1 rfl rfl 3 (Nat.le_of_ble_eq_true rfl) (tl tw_33) rfl rfl dX_tapeNow_40 ?_
    have hf := Option.some.inj hf
    exact wk_iret X Z rfl dX_tapeNow_43 () (Eq.symm hf) rfl rfl
  · replace hf := p_ie h1 hf
    by_cases h2 : v1 = (1 : Int32)
    · replace hf := p_it h2 hf
      refine wk_swIn X dX_tapeNow_1 (off := 43) (tgt := 44) (by rw [h2]; decide) (by rw [h2]; decide) (by rw [h2]; rfl) rfl ?_
      refine wk_aload_n X 0 dX_tapeNow_44 rfl rfl ?_
      refine wk_get X uw_X 0 rfl rfl 0 (Nat.le_of_ble_eq_true rfl) (tl tw_138) rfl rfl dX_tapeNow_45 ?_
      refine wk_get X uw_M 1 rfl rfl 4 (Nat.le_of_ble_eq_true rfl) (tl tw_36) rfl rfl dX_tapeNow_48 ?_
      have hf := Option.some.inj hf
      exact wk_iret X Z rfl dX_tapeNow_51 () (Eq.symm hf) rfl rfl
    · replace hf := p_ie h2 hf
      by_cases h3 : v1 = (2 : Int32)
      · replace hf := p_it h3 hf
        refine wk_swIn X dX_tapeNow_1 (off := 51) (tgt := 52) (by rw [h3]; decide) (by rw [h3]; decide) (by rw [h3]; rfl) rfl ?_
        refine wk_aload_n X 0 dX_tapeNow_52 rfl rfl ?_
        refine wk_get X uw_X 0 rfl rfl 0 (Nat.le_of_ble_eq_true rfl) (tl tw_138) rfl rfl dX_tapeNow_53 ?_
        refine wk_get X uw_M 1 rfl rfl 5 (Nat.le_of_ble_eq_true rfl) (tl tw_39) rfl rfl dX_tapeNow_56 ?_
        have hf := Option.some.inj hf
        exact wk_iret X Z rfl dX_tapeNow_59 () (Eq.symm hf) rfl rfl
      · replace hf := p_ie h3 hf
        by_cases h4 : v1 = (3 : Int32)
        · replace hf := p_it h4 hf
          refine wk_swIn X dX_tapeNow_1 (off := 59) (tgt := 60) (by rw [h4]; decide) (by rw [h4]; decide) (by rw [h4]; rfl) rfl ?_
          refine wk_aload_n X 0 dX_tapeNow_60 rfl rfl ?_
          refine wk_get X uw_X 0 rfl rfl 0 (Nat.le_of_ble_eq_true rfl) (tl tw_138) rfl rfl dX_tapeNow_61 ?_
          refine wk_get X uw_M 1 rfl rfl 6 (Nat.le_of_ble_eq_true rfl) (tl tw_42) rfl rfl dX_tapeNow_64 ?_
          have hf := Option.some.inj hf
          exact wk_iret X Z rfl dX_tapeNow_67 () (Eq.symm hf) rfl rfl
        · replace hf := p_ie h4 hf
          by_cases h5 : v1 = (4 : Int32)
          · replace hf := p_it h5 hf
            refine wk_swIn X dX_tapeNow_1 (off := 67) (tgt := 68) (by rw [h5]; decide) (by rw [h5]; decide) (by rw [h5]; rfl) rfl ?_
            refine wk_aload_n X 0 dX_tapeNow_68 rfl rfl ?_
            refine wk_get X uw_X 0 rfl rfl 0 (Nat.le_of_ble_eq_true rfl) (tl tw_138) rfl rfl dX_tapeNow_69 ?_
            obtain ⟨q6, h7, hf⟩ := p_ob hf
            refine wk_goI [1, 2, 3, 4] (wk_rV X (mM_canGoOn (V := V) (fun i => a (i + 1)) S.1 q6 h7) rfl (gd (tw_391)) [1, 2, 3, 4] rfl rfl 1 rfl rfl (tl tw_441) (tl tw_390) (tl tw_829) (tl tw_3) 0 pd_M_canGoOn rfl ⟨rfl, rfl⟩ ⟨Nat.le_of_ble_eq_true rfl, Nat.le_of_ble_eq_true rfl⟩ rfl (Nat.le_of_ble_eq_true rfl) dX_tapeNow_72) rfl ?_
            rintro r ⟨⟩ rfl
            refine wk_ws (ws' := cX V a S) rfl ?_
            have hf := Option.some.inj hf
            exact wk_iret X Z rfl dX_tapeNow_75 () (Eq.symm hf) rfl rfl
          · replace hf := p_ie h5 hf
            have h1n : ¬ (v1).toInt = 0 := p_sw (0 : Int32) h1
            have h2n : ¬ (v1).toInt = 1 := p_sw (1 : Int32) h2
            have h3n : ¬ (v1).toInt = 2 := p_sw (2 : Int32) h3
            have h4n : ¬ (v1).toInt = 3 := p_sw (3 : Int32) h4
            have h5n : ¬ (v1).toInt = 4 := p_sw (4 : Int32) h5
            refine wk_swOut X dX_tapeNow_1 (tgt := 76) (by omega) rfl ?_
            refine wk_iconst X dX_tapeNow_76 (v := (-1 : Int32)) (by decide) ?_
            have hf := Option.some.inj hf
            exact wk_iret X Z rfl dX_tapeNow_77 () (Eq.symm hf) rfl rfl
-- X_tagNow: room (1, 20), Option (Int32)
def fX_tagNow (S : pX) (v1 : Int32) : Option (Int32) :=
  if v1 = (0 : Int32) then (
    some S.2.1.2.2.2.2.2.2.1
  ) else (
  if v1 = (1 : Int32) then (
    some S.2.1.2.2.2.2.2.1
  ) else (
  if v1 = (2 : Int32) then (
    (fT_canGoOn S.2.1).bind fun q4 =>
    some q4
  ) else (
    some (-1 : Int32)
  )))
set_option maxRecDepth 100000 in
set_option maxHeartbeats 4000000 in
theorem mX_tagNow {V : ee_V} (a : Nat → Nat) (S : pX) (v1 : Int32) (R : Int32) (hf : fX_tagNow S v1 = some R) : wk_I (ee V) yX_tagNow ts_X_tagNow ⟨1, 0, 0, 20⟩ [.ref (a 0), .int v1] (cX V a S) (fun (r : Int32) (_ : Unit) => R = r) (fun _ : Unit => cX V a S) := by
  refine wk_of (ee_ok V) (by decide +kernel) rfl (Nat.le_of_ble_eq_true rfl) ?_
  intro x X Z
  unfold fX_tagNow at hf
  refine wk_lq (lv' := [(0, .ref (a 0)), (1, .int v1)]) rfl ?_
  refine wk_iload_n X 1 dX_tagNow_0 rfl rfl ?_
  by_cases h1 : v1 = (0 : Int32)
  · replace hf := p_it h1 hf
    refine wk_swIn X dX_tagNow_1 (off := 27) (tgt := 28) (by rw [h1]; decide) (by rw [h1]; decide) (by rw [h1]; rfl) rfl ?_
    refine wk_aload_n X 0 dX_tagNow_28 rfl rfl ?_
    refine wk_get X uw_X 0 rfl rfl 1 (Nat.le_of_ble_eq_true rfl) (tl tw_139) rfl rfl dX_tagNow_29 ?_
    refine wk_get X uw_T 5 rfl rfl 6 (Nat.le_of_ble_eq_true rfl) (tl tw_76) rfl rfl dX_tagNow_32 ?_
    have hf := Option.some.inj hf
    exact wk_iret X Z rfl dX_tagNow_35 () (Eq.symm hf) rfl rfl
  · replace hf := p_ie h1 hf
    by_cases h2 : v1 = (1 : Int32)
    · replace hf := p_it h2 hf
      refine wk_swIn X dX_tagNow_1 (off := 35) (tgt := 36) (by rw [h2]; decide) (by rw [h2]; decide) (by rw [h2]; rfl) rfl ?_
      refine wk_aload_n X 0 dX_tagNow_36 rfl rfl ?_
      refine wk_get X uw_X 0 rfl rfl 1 (Nat.le_of_ble_eq_true rfl) (tl tw_139) rfl rfl dX_tagNow_37 ?_
      refine wk_get X uw_T 5 rfl rfl 5 (Nat.le_of_ble_eq_true rfl) (tl tw_73) rfl rfl dX_tagNow_40 ?_
      have hf := Option.some.inj hf
      exact wk_iret X Z rfl dX_tagNow_43 () (Eq.symm hf) rfl rfl
    · replace hf := p_ie h2 hf
      by_cases h3 : v1 = (2 : Int32)
      · replace hf := p_it h3 hf
        refine wk_swIn X dX_tagNow_1 (off := 43) (tgt := 44) (by rw [h3]; decide) (by rw [h3]; decide) (by rw [h3]; rfl) rfl ?_
        refine wk_aload_n X 0 dX_tagNow_44 rfl rfl ?_
        refine wk_get X uw_X 0 rfl rfl 1 (Nat.le_of_ble_eq_true rfl) (tl tw_139) rfl rfl dX_tagNow_45 ?_
        obtain ⟨q4, h5, hf⟩ := p_ob hf
        refine wk_goI [5, 6, 7, 8, 9] (wk_rV X (mT_canGoOn (V := V) (fun i => a (i + 5)) S.2.1 q4 h5) rfl (gd (tw_387)) [5, 6, 7, 8, 9] rfl rfl 5 rfl rfl (tl tw_446) (tl tw_385) (tl tw_386) (tl tw_4) 0 pd_T_canGoOn rfl ⟨rfl, rfl⟩ ⟨Nat.le_of_ble_eq_true rfl, Nat.le_of_ble_eq_true rfl⟩ rfl (Nat.le_of_ble_eq_true rfl) dX_tagNow_48) rfl ?_
        rintro r ⟨⟩ rfl
        refine wk_ws (ws' := cX V a S) rfl ?_
        have hf := Option.some.inj hf
        exact wk_iret X Z rfl dX_tagNow_51 () (Eq.symm hf) rfl rfl
      · replace hf := p_ie h3 hf
        have h1n : ¬ (v1).toInt = 0 := p_sw (0 : Int32) h1
        have h2n : ¬ (v1).toInt = 1 := p_sw (1 : Int32) h2
        have h3n : ¬ (v1).toInt = 2 := p_sw (2 : Int32) h3
        refine wk_swOut X dX_tagNow_1 (tgt := 52) (by omega) rfl ?_
        refine wk_iconst X dX_tagNow_52 (v := (-1 : Int32)) (by decide) ?_
        have hf := Option.some.inj hf
        exact wk_iret X Z rfl dX_tagNow_53 () (Eq.symm hf) rfl rfl

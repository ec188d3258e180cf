-- R_cyclicStep: room (1, 22), Option (pR)
def fR_cyclicStep_L75 : Nat → pR → Int32 → Int32 → Option (pR)
  | 0, _, _, _ => none
  | n + 1, S, v1, v2 =>
    (p_rd 300 S.2.2.1.2.2.1 S.2.2.1.2.2.2.2.2.2.2.2).bind fun q13 =>
    if q13 ≤ v2 then (
      (p_rm (S.2.2.1.2.2.2.2.2.2.2.2 + (1 : Int32)) ((2 : Int32) * S.2.2.1.1)).bind fun q16 =>
      some (S.1, S.2.1, (S.2.2.1.1, S.2.2.1.2.1, S.2.2.1.2.2.1, S.2.2.1.2.2.2.1, S.2.2.1.2.2.2.2.1, S.2.2.1.2.2.2.2.2.1, S.2.2.1.2.2.2.2.2.2.1, S.2.2.1.2.2.2.2.2.2.2.1, q16), S.2.2.2)
    ) else (
      (p_rd 3600 S.2.2.1.2.1 (((12 : Int32) * S.2.2.1.2.2.2.2.2.2.2.2) + v2)).bind fun q18 =>
      (fR_pushBlock S q18).bind fun q20 =>
      fR_cyclicStep_L75 n q20 v1 (v2 + (1 : Int32))
    )
def fR_cyclicStep (S : pR) : Option (pR) :=
  (p_rd 12000 S.2.2.1.2.2.2.2.1 S.2.2.1.2.2.2.2.2.1).bind fun q1 =>
  if q1 = S.2.2.1.2.2.2.2.2.2.2.1 then (
    if (S.2.2.1.2.2.2.2.2.2.2.1 + (1 : Int32)) = S.2.2.1.1 then (
      if S.2.2.1.1 ≤ S.2.2.1.2.2.2.2.2.2.2.2 then (
        (p_rm (S.2.2.1.2.2.2.2.2.2.2.2 + (1 : Int32)) ((2 : Int32) * S.2.2.1.1)).bind fun q23 =>
        some (S.1, S.2.1, (S.2.2.1.1, S.2.2.1.2.1, S.2.2.1.2.2.1, S.2.2.1.2.2.2.1, S.2.2.1.2.2.2.2.1, (S.2.2.1.2.2.2.2.2.1 + (1 : Int32)), S.2.2.1.2.2.2.2.2.2.1, (0 : Int32), q23), S.2.2.2)
      ) else (
        fR_cyclicStep_L75 100000 (S.1, S.2.1, (S.2.2.1.1, S.2.2.1.2.1, S.2.2.1.2.2.1, S.2.2.1.2.2.2.1, S.2.2.1.2.2.2.2.1, (S.2.2.1.2.2.2.2.2.1 + (1 : Int32)), S.2.2.1.2.2.2.2.2.2.1, (0 : Int32), S.2.2.1.2.2.2.2.2.2.2.2), S.2.2.2) (1 : Int32) (0 : Int32)
      )
    ) else (
      if S.2.2.1.1 ≤ S.2.2.1.2.2.2.2.2.2.2.2 then (
        (p_rm (S.2.2.1.2.2.2.2.2.2.2.2 + (1 : Int32)) ((2 : Int32) * S.2.2.1.1)).bind fun q11 =>
        some (S.1, S.2.1, (S.2.2.1.1, S.2.2.1.2.1, S.2.2.1.2.2.1, S.2.2.1.2.2.2.1, S.2.2.1.2.2.2.2.1, S.2.2.1.2.2.2.2.2.1, S.2.2.1.2.2.2.2.2.2.1, (S.2.2.1.2.2.2.2.2.2.2.1 + (1 : Int32)), q11), S.2.2.2)
      ) else (
        fR_cyclicStep_L75 100000 (S.1, S.2.1, (S.2.2.1.1, S.2.2.1.2.1, S.2.2.1.2.2.1, S.2.2.1.2.2.2.1, S.2.2.1.2.2.2.2.1, S.2.2.1.2.2.2.2.2.1, S.2.2.1.2.2.2.2.2.2.1, (S.2.2.1.2.2.2.2.2.2.2.1 + (1 : Int32)), S.2.2.1.2.2.2.2.2.2.2.2), S.2.2.2) (1 : Int32) (0 : Int32)
      )
    )
  ) else (
    if (S.2.2.1.2.2.2.2.2.2.2.1 + (1 : Int32)) = S.2.2.1.1 then (
      (p_rm (S.2.2.1.2.2.2.2.2.2.2.2 + (1 : Int32)) ((2 : Int32) * S.2.2.1.1)).bind fun q7 =>
      some (S.1, S.2.1, (S.2.2.1.1, S.2.2.1.2.1, S.2.2.1.2.2.1, S.2.2.1.2.2.2.1, S.2.2.1.2.2.2.2.1, (S.2.2.1.2.2.2.2.2.1 + (1 : Int32)), S.2.2.1.2.2.2.2.2.2.1, (0 : Int32), q7), S.2.2.2)
    ) else (
      (p_rm (S.2.2.1.2.2.2.2.2.2.2.2 + (1 : Int32)) ((2 : Int32) * S.2.2.1.1)).bind fun q5 =>
      some (S.1, S.2.1, (S.2.2.1.1, S.2.2.1.2.1, S.2.2.1.2.2.1, S.2.2.1.2.2.2.1, S.2.2.1.2.2.2.2.1, S.2.2.1.2.2.2.2.2.1, S.2.2.1.2.2.2.2.2.2.1, (S.2.2.1.2.2.2.2.2.2.2.1 + (1 : Int32)), q5), S.2.2.2)
    )
  )
set_option maxRecDepth 100000 in
set_option maxHeartbeats 4000000 in
theorem wR_cyclicStep_L75 {V : ee_V} (a : Nat → Nat) (S0 : pR) {x : wk_C} (X : wk_K (ee V) x cR_cyclicStep 3 "TagWorkshopModel" ts_R_cyclicStep ⟨1, 0, 0, 22⟩) (R : pR) (Z : wk_N x none (va_Qv (fun u : pR => R = u) (wk_B (ee V) (cR V a S0) (fun u : pR => cR V a u)) (wk_in (cR V a S0))) (cR V a S0)) : ∀ (n : Nat) (S : pR) (v1 : Int32) (v2 : Int32), fR_cyclicStep_L75 n S v1 v2 = some R → wk_G (ee V) x 3 (cR V a S) 75 [(0, .ref (a 0)), (1, .int v1), (2, .int v2)] [] := by
  intro n
  induction n with
  | zero => intro S v1 v2 hf; exact absurd hf (by rw [fR_cyclicStep_L75]; exact fun h => by cases h)
  | succ n ih =>
    intro S v1 v2 hf
    rw [fR_cyclicStep_L75] at hf
    refine wk_iload_n X 2 dR_cyclicStep_75 rfl rfl ?_
    refine wk_aload_n X 0 dR_cyclicStep_76 rfl rfl ?_
    refine wk_get X uw_R 0 rfl rfl 18 (Nat.le_of_ble_eq_true rfl) (tl tw_555) rfl rfl dR_cyclicStep_77 ?_
    refine wk_aload_n X 0 dR_cyclicStep_80 rfl rfl ?_
    refine wk_get X uw_R 0 rfl rfl 24 (Nat.le_of_ble_eq_true rfl) (tl tw_561) rfl rfl dR_cyclicStep_81 ?_
    obtain ⟨q13, h14, hf⟩ := p_ob hf
    obtain ⟨h14i, h14e⟩ := p_rd_some h14
    refine wk_iald X 10 0 rfl rfl h14i h14e dR_cyclicStep_84 ?_
    refine wk_icmp_ge X dR_cyclicStep_85 (tgt := 112) rfl (fun h15 => ?_) (fun h15 => ?_)
    · replace hf := p_it h15 hf
      refine wk_aload_n X 0 dR_cyclicStep_112 rfl rfl ?_
      refine wk_aload_n X 0 dR_cyclicStep_113 rfl rfl ?_
      refine wk_get X uw_R 0 rfl rfl 24 (Nat.le_of_ble_eq_true rfl) (tl tw_561) rfl rfl dR_cyclicStep_114 ?_
      refine wk_iconst X dR_cyclicStep_117 (v := (1 : Int32)) (by decide) ?_
      refine wk_iadd X dR_cyclicStep_118 ?_
      refine wk_iconst X dR_cyclicStep_119 (v := (2 : Int32)) (by decide) ?_
      refine wk_aload_n X 0 dR_cyclicStep_120 rfl rfl ?_
      refine wk_get X uw_R 0 rfl rfl 16 (Nat.le_of_ble_eq_true rfl) (tl tw_553) rfl rfl dR_cyclicStep_121 ?_
      refine wk_imul X dR_cyclicStep_124 ?_
      obtain ⟨q16, h17, hf⟩ := p_ob hf
      obtain ⟨h17z, h17e⟩ := p_rm_some h17
      refine wk_irem X dR_cyclicStep_125 h17z ?_
      refine wk_top h17e ?_
      refine wk_put X uw_R 0 rfl rfl 24 (Nat.le_of_ble_eq_true rfl) ft_R ft_R_ok fn_R (tl tw_561) rfl rfl rfl rfl (Nat.le_of_ble_eq_true rfl) dR_cyclicStep_126 (ws' := cR V a (S.1, S.2.1, (S.2.2.1.1, S.2.2.1.2.1, S.2.2.1.2.2.1, S.2.2.1.2.2.2.1, S.2.2.1.2.2.2.2.1, S.2.2.1.2.2.2.2.2.1, S.2.2.1.2.2.2.2.2.2.1, S.2.2.1.2.2.2.2.2.2.2.1, q16), S.2.2.2)) rfl ?_
      have hf := Option.some.inj hf
      exact wk_vret X Z dR_cyclicStep_129 ((S.1, S.2.1, (S.2.2.1.1, S.2.2.1.2.1, S.2.2.1.2.2.1, S.2.2.1.2.2.2.1, S.2.2.1.2.2.2.2.1, S.2.2.1.2.2.2.2.2.1, S.2.2.1.2.2.2.2.2.2.1, S.2.2.1.2.2.2.2.2.2.2.1, q16), S.2.2.2)) (Eq.symm hf) rfl rfl
    · replace hf := p_ie h15 hf
      refine wk_aload_n X 0 dR_cyclicStep_88 rfl rfl ?_
      refine wk_aload_n X 0 dR_cyclicStep_89 rfl rfl ?_
      refine wk_get X uw_R 0 rfl rfl 17 (Nat.le_of_ble_eq_true rfl) (tl tw_554) rfl rfl dR_cyclicStep_90 ?_
      refine wk_bipush X dR_cyclicStep_93 (v := (12 : Int32)) (by decide) ?_
      refine wk_aload_n X 0 dR_cyclicStep_95 rfl rfl ?_
      refine wk_get X uw_R 0 rfl rfl 24 (Nat.le_of_ble_eq_true rfl) (tl tw_561) rfl rfl dR_cyclicStep_96 ?_
      refine wk_imul X dR_cyclicStep_99 ?_
      refine wk_iload_n X 2 dR_cyclicStep_100 rfl rfl ?_
      refine wk_iadd X dR_cyclicStep_101 ?_
      obtain ⟨q18, h19, hf⟩ := p_ob hf
      obtain ⟨h19i, h19e⟩ := p_rd_some h19
      refine wk_iald X 9 0 rfl rfl h19i h19e dR_cyclicStep_102 ?_
      obtain ⟨q20, h21, hf⟩ := p_ob hf
      refine wk_goV [0, 1, 2, 3, 4, 5, 6, 7, 8, 9, 10, 11, 12] (wk_rV X (mR_pushBlock (V := V) a S q18 q20 h21) rfl (gd (tw_767)) [0, 1, 2, 3, 4, 5, 6, 7, 8, 9, 10, 11, 12] rfl rfl 0 rfl rfl (tl tw_764) (tl tw_766) (tl tv_19) (tl tw_7) 1 pd_R_pushBlock rfl ⟨rfl, rfl⟩ ⟨Nat.le_of_ble_eq_true rfl, Nat.le_of_ble_eq_true rfl⟩ rfl (Nat.le_of_ble_eq_true rfl) dR_cyclicStep_103) rfl ?_
      rintro u rfl
      refine wk_ws (ws' := cR V a q20) rfl ?_
      refine wk_iinc X 2 dR_cyclicStep_106 (v := (v2 + (1 : Int32))) rfl rfl (Nat.le_of_ble_eq_true rfl) (lv' := [(2, .int (v2 + (1 : Int32))), (0, .ref (a 0)), (1, .int v1)]) rfl ?_
      refine wk_goto X dR_cyclicStep_109 (tgt := 75) rfl ?_
      refine wk_lv [1, 2, 0] (lv' := [(0, .ref (a 0)), (1, .int v1), (2, .int (v2 + (1 : Int32)))]) rfl ?_
      exact ih q20 v1 (v2 + (1 : Int32)) hf
set_option maxRecDepth 100000 in
set_option maxHeartbeats 4000000 in
theorem mR_cyclicStep {V : ee_V} (a : Nat → Nat) (S : pR) (R : pR) (hf : fR_cyclicStep S = some R) : wk_V (ee V) yR_cyclicStep ts_R_cyclicStep ⟨1, 0, 0, 22⟩ [.ref (a 0)] (cR V a S) (fun u : pR => R = u) (fun u : pR => cR V a u) := by
  refine wk_of (ee_ok V) (by decide +kernel) rfl (Nat.le_of_ble_eq_true rfl) ?_
  intro x X Z
  unfold fR_cyclicStep at hf
  refine wk_lq (lv' := [(0, .ref (a 0))]) rfl ?_
  refine wk_aload_n X 0 dR_cyclicStep_0 rfl rfl ?_
  refine wk_get X uw_R 0 rfl rfl 20 (Nat.le_of_ble_eq_true rfl) (tl tw_557) rfl rfl dR_cyclicStep_1 ?_
  refine wk_aload_n X 0 dR_cyclicStep_4 rfl rfl ?_
  refine wk_get X uw_R 0 rfl rfl 21 (Nat.le_of_ble_eq_true rfl) (tl tw_558) rfl rfl dR_cyclicStep_5 ?_
  obtain ⟨q1, h2, hf⟩ := p_ob hf
  obtain ⟨h2i, h2e⟩ := p_rd_some h2
  refine wk_iald X 12 0 rfl rfl h2i h2e dR_cyclicStep_8 ?_
  refine wk_aload_n X 0 dR_cyclicStep_9 rfl rfl ?_
  refine wk_get X uw_R 0 rfl rfl 23 (Nat.le_of_ble_eq_true rfl) (tl tw_560) rfl rfl dR_cyclicStep_10 ?_
  refine wk_icmp_ne X dR_cyclicStep_13 (tgt := 20) rfl (fun h3 => ?_) (fun h3 => ?_)
  · replace hf := p_ie h3 hf
    refine wk_iconst X dR_cyclicStep_20 (v := (0 : Int32)) (by decide) ?_
    refine wk_istore_n X dR_cyclicStep_21 rfl (Nat.le_of_ble_eq_true rfl) (lv' := [(1, .int (0 : Int32)), (0, .ref (a 0))]) rfl ?_
    refine wk_aload_n X 1 dR_cyclicStep_22 rfl rfl ?_
    refine wk_dup X dR_cyclicStep_23 rfl ?_
    refine wk_get X uw_R 0 rfl rfl 23 (Nat.le_of_ble_eq_true rfl) (tl tw_560) rfl rfl dR_cyclicStep_24 ?_
    refine wk_iconst X dR_cyclicStep_27 (v := (1 : Int32)) (by decide) ?_
    refine wk_iadd X dR_cyclicStep_28 ?_
    refine wk_put X uw_R 0 rfl rfl 23 (Nat.le_of_ble_eq_true rfl) ft_R ft_R_ok fn_R (tl tw_560) rfl rfl rfl rfl (Nat.le_of_ble_eq_true rfl) dR_cyclicStep_29 (ws' := cR V a (S.1, S.2.1, (S.2.2.1.1, S.2.2.1.2.1, S.2.2.1.2.2.1, S.2.2.1.2.2.2.1, S.2.2.1.2.2.2.2.1, S.2.2.1.2.2.2.2.2.1, S.2.2.1.2.2.2.2.2.2.1, (S.2.2.1.2.2.2.2.2.2.2.1 + (1 : Int32)), S.2.2.1.2.2.2.2.2.2.2.2), S.2.2.2)) rfl ?_
    refine wk_aload_n X 1 dR_cyclicStep_32 rfl rfl ?_
    refine wk_get X uw_R 0 rfl rfl 23 (Nat.le_of_ble_eq_true rfl) (tl tw_560) rfl rfl dR_cyclicStep_33 ?_
    refine wk_aload_n X 1 dR_cyclicStep_36 rfl rfl ?_
    refine wk_get X uw_R 0 rfl rfl 16 (Nat.le_of_ble_eq_true rfl) (tl tw_553) rfl rfl dR_cyclicStep_37 ?_
    refine wk_icmp_ne X dR_cyclicStep_40 (tgt := 58) rfl (fun h4 => ?_) (fun h4 => ?_)
    · replace hf := p_ie h4 hf
      refine wk_iload_n X 0 dR_cyclicStep_58 rfl rfl ?_
      refine wk_if_eq X dR_cyclicStep_59 (tgt := 112) rfl (fun _ => ?_) (fun h => absurd (by decide) h)
      refine wk_aload_n X 1 dR_cyclicStep_112 rfl rfl ?_
      refine wk_aload_n X 1 dR_cyclicStep_113 rfl rfl ?_
      refine wk_get X uw_R 0 rfl rfl 24 (Nat.le_of_ble_eq_true rfl) (tl tw_561) rfl rfl dR_cyclicStep_114 ?_
      refine wk_iconst X dR_cyclicStep_117 (v := (1 : Int32)) (by decide) ?_
      refine wk_iadd X dR_cyclicStep_118 ?_
      refine wk_iconst X dR_cyclicStep_119 (v := (2 : Int32)) (by decide) ?_
      refine wk_aload_n X 1 dR_cyclicStep_120 rfl rfl ?_
      refine wk_get X uw_R 0 rfl rfl 16 (Nat.le_of_ble_eq_true rfl) (tl tw_553) rfl rfl dR_cyclicStep_121 ?_
      refine wk_imul X dR_cyclicStep_124 ?_
      obtain ⟨q5, h6, hf⟩ := p_ob hf
      obtain ⟨h6z, h6e⟩ := p_rm_some h6
      refine wk_irem X dR_cyclicStep_125 h6z ?_
      refine wk_top h6e ?_
      refine wk_put X uw_R 0 rfl rfl 24 (Nat.le_of_ble_eq_true rfl) ft_R ft_R_ok fn_R (tl tw_561) rfl rfl rfl rfl (Nat.le_of_ble_eq_true rfl) dR_cyclicStep_126 (ws' := cR V a (S.1, S.2.1, (S.2.2.1.1, S.2.2.1.2.1, S.2.2.1.2.2.1, S.2.2.1.2.2.2.1, S.2.2.1.2.2.2.2.1, S.2.2.1.2.2.2.2.2.1, S.2.2.1.2.2.2.2.2.2.1, (S.2.2.1.2.2.2.2.2.2.2.1 + (1 : Int32)), q5), S.2.2.2)) rfl ?_
      have hf := Option.some.inj hf
      exact wk_vret X Z dR_cyclicStep_129 ((S.1, S.2.1, (S.2.2.1.1, S.2.2.1.2.1, S.2.2.1.2.2.1, S.2.2.1.2.2.2.1, S.2.2.1.2.2.2.2.1, S.2.2.1.2.2.2.2.2.1, S.2.2.1.2.2.2.2.2.2.1, (S.2.2.1.2.2.2.2.2.2.2.1 + (1 : Int32)), q5), S.2.2.2)) (Eq.symm hf) rfl rfl
    · replace hf := p_it h4 hf
      refine wk_aload_n X 1 dR_cyclicStep_43 rfl rfl ?_
      refine wk_dup X dR_cyclicStep_44 rfl ?_
      refine wk_get X uw_R 0 rfl rfl 21 (Nat.le_of_ble_eq_true rfl) (tl tw_558) rfl rfl dR_cyclicStep_45 ?_
      refine wk_iconst X dR_cyclicStep_48 (v := (1 : Int32)) (by decide) ?_
      refine wk_iadd X dR_cyclicStep_49 ?_
      refine wk_put X uw_R 0 rfl rfl 21 (Nat.le_of_ble_eq_true rfl) ft_R ft_R_ok fn_R (tl tw_558) rfl rfl rfl rfl (Nat.le_of_ble_eq_true rfl) dR_cyclicStep_50 (ws' := cR V a (S.1, S.2.1, (S.2.2.1.1, S.2.2.1.2.1, S.2.2.1.2.2.1, S.2.2.1.2.2.2.1, S.2.2.1.2.2.2.2.1, (S.2.2.1.2.2.2.2.2.1 + (1 : Int32)), S.2.2.1.2.2.2.2.2.2.1, (S.2.2.1.2.2.2.2.2.2.2.1 + (1 : Int32)), S.2.2.1.2.2.2.2.2.2.2.2), S.2.2.2)) rfl ?_
      refine wk_aload_n X 1 dR_cyclicStep_53 rfl rfl ?_
      refine wk_iconst X dR_cyclicStep_54 (v := (0 : Int32)) (by decide) ?_
      refine wk_put X uw_R 0 rfl rfl 23 (Nat.le_of_ble_eq_true rfl) ft_R ft_R_ok fn_R (tl tw_560) rfl rfl rfl rfl (Nat.le_of_ble_eq_true rfl) dR_cyclicStep_55 (ws' := cR V a (S.1, S.2.1, (S.2.2.1.1, S.2.2.1.2.1, S.2.2.1.2.2.1, S.2.2.1.2.2.2.1, S.2.2.1.2.2.2.2.1, (S.2.2.1.2.2.2.2.2.1 + (1 : Int32)), S.2.2.1.2.2.2.2.2.2.1, (0 : Int32), S.2.2.1.2.2.2.2.2.2.2.2), S.2.2.2)) rfl ?_
      refine wk_iload_n X 0 dR_cyclicStep_58 rfl rfl ?_
      refine wk_if_eq X dR_cyclicStep_59 (tgt := 112) rfl (fun _ => ?_) (fun h => absurd (by decide) h)
      refine wk_aload_n X 1 dR_cyclicStep_112 rfl rfl ?_
      refine wk_aload_n X 1 dR_cyclicStep_113 rfl rfl ?_
      refine wk_get X uw_R 0 rfl rfl 24 (Nat.le_of_ble_eq_true rfl) (tl tw_561) rfl rfl dR_cyclicStep_114 ?_
      refine wk_iconst X dR_cyclicStep_117 (v := (1 : Int32)) (by decide) ?_
      refine wk_iadd X dR_cyclicStep_118 ?_
      refine wk_iconst X dR_cyclicStep_119 (v := (2 : Int32)) (by decide) ?_
      refine wk_aload_n X 1 dR_cyclicStep_120 rfl rfl ?_
      refine wk_get X uw_R 0 rfl rfl 16 (Nat.le_of_ble_eq_true rfl) (tl tw_553) rfl rfl dR_cyclicStep_121 ?_
      refine wk_imul X dR_cyclicStep_124 ?_
      obtain ⟨q7, h8, hf⟩ := p_ob hf
      obtain ⟨h8z, h8e⟩ := p_rm_some h8
      refine wk_irem X dR_cyclicStep_125 h8z ?_
      refine wk_top h8e ?_
      refine wk_put X uw_R 0 rfl rfl 24 (Nat.le_of_ble_eq_true rfl) ft_R ft_R_ok fn_R (tl tw_561) rfl rfl rfl rfl (Nat.le_of_ble_eq_true rfl) dR_cyclicStep_126 (ws' := cR V a (S.1, S.2.1, (S.2.2.1.1, S.2.2.1.2.1, S.2.2.1.2.2.1, S.2.2.1.2.2.2.1, S.2.2.1.2.2.2.2.1, (S.2.2.1.2.2.2.2.2.1 + (1 : Int32)), S.2.2.1.2.2.2.2.2.2.1, (0 : Int32), q7), S.2.2.2)) rfl ?_
      have hf := Option.some.inj hf
      exact wk_vret X Z dR_cyclicStep_129 ((S.1, S.2.1, (S.2.2.1.1, S.2.2.1.2.1, S.2.2.1.2.2.1, S.2.2.1.2.2.2.1, S.2.2.1.2.2.2.2.1, (S.2.2.1.2.2.2.2.2.1 + (1 : Int32)), S.2.2.1.2.2.2.2.2.2.1, (0 : Int32), q7), S.2.2.2)) (Eq.symm hf) rfl rfl
  · replace hf := p_it h3 hf
    refine wk_iconst X dR_cyclicStep_16 (v := (1 : Int32)) (by decide) ?_
    refine wk_goto X dR_cyclicStep_17 (tgt := 21) rfl ?_
    refine wk_istore_n X dR_cyclicStep_21 rfl (Nat.le_of_ble_eq_true rfl) (lv' := [(1, .int (1 : Int32)), (0, .ref (a 0))]) rfl ?_
    refine wk_aload_n X 1 dR_cyclicStep_22 rfl rfl ?_
    refine wk_dup X dR_cyclicStep_23 rfl ?_
    refine wk_get X uw_R 0 rfl rfl 23 (Nat.le_of_ble_eq_true rfl) (tl tw_560) rfl rfl dR_cyclicStep_24 ?_
    refine wk_iconst X dR_cyclicStep_27 (v := (1 : Int32)) (by decide) ?_
    refine wk_iadd X dR_cyclicStep_28 ?_
    refine wk_put X uw_R 0 rfl rfl 23 (Nat.le_of_ble_eq_true rfl) ft_R ft_R_ok fn_R (tl tw_560) rfl rfl rfl rfl (Nat.le_of_ble_eq_true rfl) dR_cyclicStep_29 (ws' := cR V a (S.1, S.2.1, (S.2.2.1.1, S.2.2.1.2.1, S.2.2.1.2.2.1, S.2.2.1.2.2.2.1, S.2.2.1.2.2.2.2.1, S.2.2.1.2.2.2.2.2.1, S.2.2.1.2.2.2.2.2.2.1, (S.2.2.1.2.2.2.2.2.2.2.1 + (1 : Int32)), S.2.2.1.2.2.2.2.2.2.2.2), S.2.2.2)) rfl ?_
    refine wk_aload_n X 1 dR_cyclicStep_32 rfl rfl ?_
    refine wk_get X uw_R 0 rfl rfl 23 (Nat.le_of_ble_eq_true rfl) (tl tw_560) rfl rfl dR_cyclicStep_33 ?_
    refine wk_aload_n X 1 dR_cyclicStep_36 rfl rfl ?_
    refine wk_get X uw_R 0 rfl rfl 16 (Nat.le_of_ble_eq_true rfl) (tl tw_553) rfl rfl dR_cyclicStep_37 ?_
    refine wk_icmp_ne X dR_cyclicStep_40 (tgt := 58) rfl (fun h9 => ?_) (fun h9 => ?_)
    · replace hf := p_ie h9 hf
      refine wk_iload_n X 0 dR_cyclicStep_58 rfl rfl ?_
      refine wk_if_eq X dR_cyclicStep_59 (tgt := 112) rfl (fun h => absurd h (by decide)) (fun _ => ?_)
      refine wk_aload_n X 1 dR_cyclicStep_62 rfl rfl ?_
      refine wk_get X uw_R 0 rfl rfl 24 (Nat.le_of_ble_eq_true rfl) (tl tw_561) rfl rfl dR_cyclicStep_63 ?_
      refine wk_aload_n X 1 dR_cyclicStep_66 rfl rfl ?_
      refine wk_get X uw_R 0 rfl rfl 16 (Nat.le_of_ble_eq_true rfl) (tl tw_553) rfl rfl dR_cyclicStep_67 ?_
      refine wk_icmp_ge X dR_cyclicStep_70 (tgt := 112) rfl (fun h10 => ?_) (fun h10 => ?_)
      · replace hf := p_it h10 hf
        refine wk_aload_n X 1 dR_cyclicStep_112 rfl rfl ?_
        refine wk_aload_n X 1 dR_cyclicStep_113 rfl rfl ?_
        refine wk_get X uw_R 0 rfl rfl 24 (Nat.le_of_ble_eq_true rfl) (tl tw_561) rfl rfl dR_cyclicStep_114 ?_
        refine wk_iconst X dR_cyclicStep_117 (v := (1 : Int32)) (by decide) ?_
        refine wk_iadd X dR_cyclicStep_118 ?_
        refine wk_iconst X dR_cyclicStep_119 (v := (2 : Int32)) (by decide) ?_
        refine wk_aload_n X 1 dR_cyclicStep_120 rfl rfl ?_
        refine wk_get X uw_R 0 rfl rfl 16 (Nat.le_of_ble_eq_true rfl) (tl tw_553) rfl rfl dR_cyclicStep_121 ?_
        refine wk_imul X dR_cyclicStep_124 ?_
        obtain ⟨q11, h12, hf⟩ := p_ob hf
        obtain ⟨h12z, h12e⟩ := p_rm_some h12
        refine wk_irem X dR_cyclicStep_125 h12z ?_
        refine wk_top h12e ?_
        refine wk_put X uw_R 0 rfl rfl 24 (Nat.le_of_ble_eq_true rfl) ft_R ft_R_ok fn_R (tl tw_561) rfl rfl rfl rfl (Nat.le_of_ble_eq_true rfl) dR_cyclicStep_126 (ws' := cR V a (S.1, S.2.1, (S.2.2.1.1, S.2.2.1.2.1, S.2.2.1.2.2.1, S.2.2.1.2.2.2.1, S.2.2.1.2.2.2.2.1, S.2.2.1.2.2.2.2.2.1, S.2.2.1.2.2.2.2.2.2.1, (S.2.2.1.2.2.2.2.2.2.2.1 + (1 : Int32)), q11), S.2.2.2)) rfl ?_
        have hf := Option.some.inj hf
        exact wk_vret X Z dR_cyclicStep_129 ((S.1, S.2.1, (S.2.2.1.1, S.2.2.1.2.1, S.2.2.1.2.2.1, S.2.2.1.2.2.2.1, S.2.2.1.2.2.2.2.1, S.2.2.1.2.2.2.2.2.1, S.2.2.1.2.2.2.2.2.2.1, (S.2.2.1.2.2.2.2.2.2.2.1 + (1 : Int32)), q11), S.2.2.2)) (Eq.symm hf) rfl rfl
      · replace hf := p_ie h10 hf
        refine wk_iconst X dR_cyclicStep_73 (v := (0 : Int32)) (by decide) ?_
        refine wk_istore_n X dR_cyclicStep_74 rfl (Nat.le_of_ble_eq_true rfl) (lv' := [(2, .int (0 : Int32)), (1, .int (1 : Int32)), (0, .ref (a 0))]) rfl ?_
        refine wk_lv [2, 1, 0] (lv' := [(0, .ref (a 0)), (1, .int (1 : Int32)), (2, .int (0 : Int32))]) rfl ?_
        exact wR_cyclicStep_L75 a S X R Z 100000 (S.1, S.2.1, (S.2.2.1.1, S.2.2.1.2.1, S.2.2.1.2.2.1, S.2.2.1.2.2.2.1, S.2.2.1.2.2.2.2.1, S.2.2.1.2.2.2.2.2.1, S.2.2.1.2.2.2.2.2.2.1, (S.2.2.1.2.2.2.2.2.2.2.1 + (1 : Int32)), S.2.2.1.2.2.2.2.2.2.2.2), S.2.2.2) (1 : Int32) (0 : Int32) hf
    · replace hf := p_it h9 hf
      refine wk_aload_n X 1 dR_cyclicStep_43 rfl rfl ?_
      refine wk_dup X dR_cyclicStep_44 rfl ?_
      refine wk_get X uw_R 0 rfl rfl 21 (Nat.le_of_ble_eq_true rfl) (tl tw_558) rfl rfl dR_cyclicStep_45 ?_
      refine wk_iconst X dR_cyclicStep_48 (v := (1 : Int32)) (by decide) ?_
      refine wk_iadd X dR_cyclicStep_49 ?_
      refine wk_put X uw_R 0 rfl rfl 21 (Nat.le_of_ble_eq_true rfl) ft_R ft_R_ok fn_R (tl tw_558) rfl rfl rfl rfl (Nat.le_of_ble_eq_true rfl) dR_cyclicStep_50 (ws' := cR V a (S.1, S.2.1, (S.2.2.1.1, S.2.2.1.2.1, S.2.2.1.2.2.1, S.2.2.1.2.2.2.1, S.2.2.1.2.2.2.2.1, (S.2.2.1.2.2.2.2.2.1 + (1 : Int32)), S.2.2.1.2.2.2.2.2.2.1, (S.2.2.1.2.2.2.2.2.2.2.1 + (1 : Int32)), S.2.2.1.2.2.2.2.2.2.2.2), S.2.2.2)) rfl ?_
      refine wk_aload_n X 1 dR_cyclicStep_53 rfl rfl ?_
      refine wk_iconst X dR_cyclicStep_54 (v := (0 : Int32)) (by decide) ?_
      refine wk_put X uw_R 0 rfl rfl 23 (Nat.le_of_ble_eq_true rfl) ft_R ft_R_ok fn_R (tl tw_560) rfl rfl rfl rfl (Nat.le_of_ble_eq_true rfl) dR_cyclicStep_55 (ws' := cR V a (S.1, S.2.1, (S.2.2.1.1, S.2.2.1.2.1, S.2.2.1.2.2.1, S.2.2.1.2.2.2.1, S.2.2.1.2.2.2.2.1, (S.2.2.1.2.2.2.2.2.1 + (1 : Int32)), S.2.2.1.2.2.2.2.2.2.1, (0 : Int32), S.2.2.1.2.2.2.2.2.2.2.2), S.2.2.2)) rfl ?_
      refine wk_iload_n X 0 dR_cyclicStep_58 rfl rfl ?_
      refine wk_if_eq X dR_cyclicStep_59 (tgt := 112) rfl (fun h => absurd h (by decide)) (fun _ => ?_)
      refine wk_aload_n X 1 dR_cyclicStep_62 rfl rfl ?_
      refine wk_get X uw_R 0 rfl rfl 24 (Nat.le_of_ble_eq_true rfl) (tl tw_561) rfl rfl dR_cyclicStep_63 ?_
      refine wk_aload_n X 1 dR_cyclicStep_66 rfl rfl ?_
      refine wk_get X uw_R 0 rfl rfl 16 (Nat.le_of_ble_eq_true rfl) (tl tw_553) rfl rfl dR_cyclicStep_67 ?_
      refine wk_icmp_ge X dR_cyclicStep_70 (tgt := 112) rfl (fun h22 => ?_) (fun h22 => ?_)
      · replace hf := p_it h22 hf
        refine wk_aload_n X 1 dR_cyclicStep_112 rfl rfl ?_
        refine wk_aload_n X 1 dR_cyclicStep_113 rfl rfl ?_
        refine wk_get X uw_R 0 rfl rfl 24 (Nat.le_of_ble_eq_true rfl) (tl tw_561) rfl rfl dR_cyclicStep_114 ?_
        refine wk_iconst X dR_cyclicStep_117 (v := (1 : Int32)) (by decide) ?_
        refine wk_iadd X dR_cyclicStep_118 ?_
        refine wk_iconst X dR_cyclicStep_119 (v := (2 : Int32)) (by decide) ?_
        refine wk_aload_n X 1 dR_cyclicStep_120 rfl rfl ?_
        refine wk_get X uw_R 0 rfl rfl 16 (Nat.le_of_ble_eq_true rfl) (tl tw_553) rfl rfl dR_cyclicStep_121 ?_
        refine wk_imul X dR_cyclicStep_124 ?_
        obtain ⟨q23, h24, hf⟩ := p_ob hf
        obtain ⟨h24z, h24e⟩ := p_rm_some h24
        refine wk_irem X dR_cyclicStep_125 h24z ?_
        refine wk_top h24e ?_
        refine wk_put X uw_R 0 rfl rfl 24 (Nat.le_of_ble_eq_true rfl) ft_R ft_R_ok fn_R (tl tw_561) rfl rfl rfl rfl (Nat.le_of_ble_eq_true rfl) dR_cyclicStep_126 (ws' := cR V a (S.1, S.2.1, (S.2.2.1.1, S.2.2.1.2.1, S.2.2.1.2.2.1, S.2.2.1.2.2.2.1, S.2.2.1.2.2.2.2.1, (S.2.2.1.2.2.2.2.2.1 + (1 : Int32)), S.2.2.1.2.2.2.2.2.2.1, (0 : Int32), q23), S.2.2.2)) rfl ?_
        have hf := Option.some.inj hf
        exact wk_vret X Z dR_cyclicStep_129 ((S.1, S.2.1, (S.2.2.1.1, S.2.2.1.2.1, S.2.2.1.2.2.1, S.2.2.1.2.2.2.1, S.2.2.1.2.2.2.2.1, (S.2.2.1.2.2.2.2.2.1 + (1 : Int32)), S.2.2.1.2.2.2.2.2.2.1, (0 : Int32), q23), S.2.2.2)) (Eq.symm hf) rfl rfl
      · replace hf := p_ie h22 hf
        refine wk_iconst X dR_cyclicStep_73 (v := (0 : Int32)) (by decide) ?_
        refine wk_istore_n X dR_cyclicStep_74 rfl (Nat.le_of_ble_eq_true rfl) (lv' := [(2, .int (0 : Int32)), (1, .int (1 : Int32)), (0, .ref (a 0))]) rfl ?_
        refine wk_lv [2, 1, 0] (lv' := [(0, .ref (a 0)), (1, .int (1 : Int32)), (2, .int (0 : Int32))]) rfl ?_
        exact wR_cyclicStep_L75 a S X R Z 100000 (S.1, S.2.1, (S.2.2.1.1, S.2.2.1.2.1, S.2.2.1.2.2.1, S.2.2.1.2.2.2.1, S.2.2.1.2.2.2.2.1, (S.2.2.1.2.2.2.2.2.1 + (1 : Int32)), S.2.2.1.2.2.2.2.2.2.1, (0 : Int32), S.2.2.1.2.2.2.2.2.2.2.2), S.2.2.2) (1 : Int32) (0 : Int32) hf
-- R_stepCyclic: room (2, 44), Option (Int32 × pR)
def fR_stepCyclic_L2 : Nat → pR → Int32 → Int32 → Option (Int32 × pR)
  | 0, _, _, _ => none
  | n + 1, S, v1, v2 =>
    if (fR_steps v1) ≤ v2 then (
      some (v2, S)
    ) else (
      (fR_cyclicCan S).bind fun q2 =>
      if q2 = (1 : Int32) then (
        (fR_cyclicStep S).bind fun q5 =>
        fR_stepCyclic_L2 n q5 v1 (v2 + (1 : Int32))
      ) else (
        some (v2, S)
      )
    )
def fR_stepCyclic (S : pR) (v1 : Int32) : Option (Int32 × pR) :=
  fR_stepCyclic_L2 100000 S v1 (0 : Int32)
set_option maxRecDepth 100000 in
set_option maxHeartbeats 4000000 in
theorem wR_stepCyclic_L2 {V : ee_V} (a : Nat → Nat) (S0 : pR) {x : wk_C} (X : wk_K (ee V) x cR_stepCyclic 3 "TagWorkshopModel" ts_R_stepCyclic ⟨2, 0, 0, 44⟩) (R : Int32 × pR) (Z : wk_N x (some .int) (va_Qi (fun (r : Int32) (u : pR) => R.1 = r ∧ R.2 = u) (wk_B (ee V) (cR V a S0) (fun u : pR => cR V a u)) (wk_in (cR V a S0))) (cR V a S0)) : ∀ (n : Nat) (S : pR) (v1 : Int32) (v2 : Int32), fR_stepCyclic_L2 n S v1 v2 = some R → wk_G (ee V) x 3 (cR V a S) 2 [(0, .ref (a 0)), (1, .int v1), (2, .int v2)] [] := by
  intro n
  induction n with
  | zero => intro S v1 v2 hf; exact absurd hf (by rw [fR_stepCyclic_L2]; exact fun h => by cases h)
  | succ n ih =>
    intro S v1 v2 hf
    rw [fR_stepCyclic_L2] at hf
    refine wk_iload_n X 2 dR_stepCyclic_2 rfl rfl ?_
    refine wk_iload_n X 1 dR_stepCyclic_3 rfl rfl ?_
    refine wk_goI [] (wk_rS X (mR_steps (V := V) v1 (fR_steps v1) rfl) rfl (gd (tw_648)) [] rfl rfl (tl tw_646) (tl tw_647) (tl tw_7) 1 pd_R_steps rfl ⟨rfl, rfl⟩ ⟨Nat.le_of_ble_eq_true rfl, Nat.le_of_ble_eq_true rfl⟩ rfl (Nat.le_of_ble_eq_true rfl) dR_stepCyclic_4) rfl ?_
    rintro r ⟨⟩ rfl
    refine wk_ws (ws' := cR V a S) rfl ?_
    refine wk_icmp_ge X dR_stepCyclic_7 (tgt := 28) rfl (fun h1 => ?_) (fun h1 => ?_)
    · replace hf := p_it h1 hf
      refine wk_iload_n X 2 dR_stepCyclic_28 rfl rfl ?_
      have hf := Option.some.inj hf
      exact wk_iret X Z rfl dR_stepCyclic_29 (S) ⟨Eq.symm (congrArg Prod.fst hf), Eq.symm (congrArg Prod.snd hf)⟩ rfl rfl
    · replace hf := p_ie h1 hf
      refine wk_aload_n X 0 dR_stepCyclic_10 rfl rfl ?_
      obtain ⟨q2, h3, hf⟩ := p_ob hf
      refine wk_goI [0, 1, 2, 3, 4, 5, 6, 7, 8, 9, 10, 11, 12] (wk_rV X (mR_cyclicCan (V := V) a S q2 h3) rfl (gd (tw_775)) [0, 1, 2, 3, 4, 5, 6, 7, 8, 9, 10, 11, 12] rfl rfl 0 rfl rfl (tl tw_772) (tl tw_774) (tl tv_20) (tl tw_7) 0 pd_R_cyclicCan rfl ⟨rfl, rfl⟩ ⟨Nat.le_of_ble_eq_true rfl, Nat.le_of_ble_eq_true rfl⟩ rfl (Nat.le_of_ble_eq_true rfl) dR_stepCyclic_11) rfl ?_
      rintro r ⟨⟩ rfl
      refine wk_ws (ws' := cR V a S) rfl ?_
      refine wk_iconst X dR_stepCyclic_14 (v := (1 : Int32)) (by decide) ?_
      refine wk_icmp_ne X dR_stepCyclic_15 (tgt := 28) rfl (fun h4 => ?_) (fun h4 => ?_)
      · replace hf := p_ie h4 hf
        refine wk_iload_n X 2 dR_stepCyclic_28 rfl rfl ?_
        have hf := Option.some.inj hf
        exact wk_iret X Z rfl dR_stepCyclic_29 (S) ⟨Eq.symm (congrArg Prod.fst hf), Eq.symm (congrArg Prod.snd hf)⟩ rfl rfl
      · replace hf := p_it h4 hf
        refine wk_aload_n X 0 dR_stepCyclic_18 rfl rfl ?_
        obtain ⟨q5, h6, hf⟩ := p_ob hf
        refine wk_goV [0, 1, 2, 3, 4, 5, 6, 7, 8, 9, 10, 11, 12] (wk_rV X (mR_cyclicStep (V := V) a S q5 h6) rfl (gd (tw_783)) [0, 1, 2, 3, 4, 5, 6, 7, 8, 9, 10, 11, 12] rfl rfl 0 rfl rfl (tl tw_780) (tl tw_782) (tl tv_22) (tl tw_7) 0 pd_R_cyclicStep rfl ⟨rfl, rfl⟩ ⟨Nat.le_of_ble_eq_true rfl, Nat.le_of_ble_eq_true rfl⟩ rfl (Nat.le_of_ble_eq_true rfl) dR_stepCyclic_19) rfl ?_
        rintro u rfl
        refine wk_ws (ws' := cR V a q5) rfl ?_
        refine wk_iinc X 2 dR_stepCyclic_22 (v := (v2 + (1 : Int32))) rfl rfl (Nat.le_of_ble_eq_true rfl) (lv' := [(2, .int (v2 + (1 : Int32))), (0, .ref (a 0)), (1, .int v1)]) rfl ?_
        refine wk_goto X dR_stepCyclic_25 (tgt := 2) rfl ?_
        refine wk_lv [1, 2, 0] (lv' := [(0, .ref (a 0)), (1, .int v1), (2, .int (v2 + (1 : Int32)))]) rfl ?_
        exact ih q5 v1 (v2 + (1 : Int32)) hf
set_option maxRecDepth 100000 in
set_option maxHeartbeats 4000000 in
theorem mR_stepCyclic {V : ee_V} (a : Nat → Nat) (S : pR) (v1 : Int32) (R : Int32 × pR) (hf : fR_stepCyclic S v1 = some R) : wk_I (ee V) yR_stepCyclic ts_R_stepCyclic ⟨2, 0, 0, 44⟩ [.ref (a 0), .int v1] (cR V a S) (fun (r : Int32) (u : pR) => R.1 = r ∧ R.2 = u) (fun u : pR => cR V a u) := by
  refine wk_of (ee_ok V) (by decide +kernel) rfl (Nat.le_of_ble_eq_true rfl) ?_
  intro x X Z
  unfold fR_stepCyclic at hf
  refine wk_lq (lv' := [(0, .ref (a 0)), (1, .int v1)]) rfl ?_
  refine wk_iconst X dR_stepCyclic_0 (v := (0 : Int32)) (by decide) ?_
  refine wk_istore_n X dR_stepCyclic_1 rfl (Nat.le_of_ble_eq_true rfl) (lv' := [(2, .int (0 : Int32)), (0, .ref (a 0)), (1, .int v1)]) rfl ?_
  refine wk_lv [1, 2, 0] (lv' := [(0, .ref (a 0)), (1, .int v1), (2, .int (0 : Int32))]) rfl ?_
  exact wR_stepCyclic_L2 a S X R Z 100000 S v1 (0 : Int32) hf
-- R_appendant: room (0, 0), Option (Int32)
def fR_appendant (S : pR) (v1 : Int32) (v2 : Int32) : Option (Int32) :=
  if v1 < 0 then (
    some (-1 : Int32)
  ) else (
    if S.2.2.1.1 ≤ v1 then (
      some (-1 : Int32)
    ) else (
      if v2 < 0 then (
        some (-1 : Int32)
      ) else (
        (p_rd 300 S.2.2.1.2.2.1 v1).bind fun q4 =>
        if v2 < (q4 * S.2.2.1.1) then (
          (p_dv v2 S.2.2.1.1).bind fun q7 =>
          (p_rd 3600 S.2.2.1.2.1 (((12 : Int32) * v1) + q7)).bind fun q9 =>
          (p_rm v2 S.2.2.1.1).bind fun q11 =>
          if q9 = q11 then (
            some (1 : Int32)
          ) else (
            some (0 : Int32)
          )
        ) else (
          some (-1 : Int32)
        )
      )
    )
  )
set_option maxRecDepth 100000 in
set_option maxHeartbeats 4000000 in
theorem mR_appendant {V : ee_V} (a : Nat → Nat) (S : pR) (v1 : Int32) (v2 : Int32) (R : Int32) (hf : fR_appendant S v1 v2 = some R) : wk_I (ee V) yR_appendant ts_R_appendant ⟨0, 0, 0, 0⟩ [.ref (a 0), .int v1, .int v2] (cR V a S) (fun (r : Int32) (_ : Unit) => R = r) (fun _ : Unit => cR V a S) := by
  refine wk_of (ee_ok V) (by decide +kernel) rfl (Nat.le_of_ble_eq_true rfl) ?_
  intro x X Z
  unfold fR_appendant at hf
  refine wk_lq (lv' := [(0, .ref (a 0)), (1, .int v1), (2, .int v2)]) rfl ?_
  refine wk_iload_n X 1 dR_appendant_0 rfl rfl ?_
  refine wk_if_lt X dR_appendant_1 (tgt := 31) rfl (fun h1 => ?_) (fun h1 => ?_)
  · replace hf := p_it h1 hf
    refine wk_iconst X dR_appendant_31 (v := (-1 : Int32)) (by decide) ?_
    have hf := Option.some.inj hf
    exact wk_iret X Z rfl dR_appendant_32 () (Eq.symm hf) rfl rfl
  · replace hf := p_ie h1 hf
    refine wk_iload_n X 1 dR_appendant_4 rfl rfl ?_
    refine wk_aload_n X 0 dR_appendant_5 rfl rfl ?_
    refine wk_get X uw_R 0 rfl rfl 16 (Nat.le_of_ble_eq_true rfl) (tl tw_553) rfl rfl dR_appendant_6 ?_
    refine wk_icmp_ge X dR_appendant_9 (tgt := 31) rfl (fun h2 => ?_) (fun h2 => ?_)
    · replace hf := p_it h2 hf
      refine wk_iconst X dR_appendant_31 (v := (-1 : Int32)) (by decide) ?_
      have hf := Option.some.inj hf
      exact wk_iret X Z rfl dR_appendant_32 () (Eq.symm hf) rfl rfl
    · replace hf := p_ie h2 hf
      refine wk_iload_n X 2 dR_appendant_12 rfl rfl ?_
      refine wk_if_lt X dR_appendant_13 (tgt := 31) rfl (fun h3 => ?_) (fun h3 => ?_)
      · replace hf := p_it h3 hf
        refine wk_iconst X dR_appendant_31 (v := (-1 : Int32)) (by decide) ?_
        have hf := Option.some.inj hf
        exact wk_iret X Z rfl dR_appendant_32 () (Eq.symm hf) rfl rfl
      · replace hf := p_ie h3 hf
        refine wk_iload_n X 2 dR_appendant_16 rfl rfl ?_
        refine wk_aload_n X 0 dR_appendant_17 rfl rfl ?_
        refine wk_get X uw_R 0 rfl rfl 18 (Nat.le_of_ble_eq_true rfl) (tl tw_555) rfl rfl dR_appendant_18 ?_
        refine wk_iload_n X 1 dR_appendant_21 rfl rfl ?_
        obtain ⟨q4, h5, hf⟩ := p_ob hf
        obtain ⟨h5i, h5e⟩ := p_rd_some h5
        refine wk_iald X 10 0 rfl rfl h5i h5e dR_appendant_22 ?_
        refine wk_aload_n X 0 dR_appendant_23 rfl rfl ?_
        refine wk_get X uw_R 0 rfl rfl 16 (Nat.le_of_ble_eq_true rfl) (tl tw_553) rfl rfl dR_appendant_24 ?_
        refine wk_imul X dR_appendant_27 ?_
        refine wk_icmp_lt X dR_appendant_28 (tgt := 33) rfl (fun h6 => ?_) (fun h6 => ?_)
        · replace hf := p_it h6 hf
          refine wk_aload_n X 0 dR_appendant_33 rfl rfl ?_
          refine wk_get X uw_R 0 rfl rfl 17 (Nat.le_of_ble_eq_true rfl) (tl tw_554) rfl rfl dR_appendant_34 ?_
          refine wk_bipush X dR_appendant_37 (v := (12 : Int32)) (by decide) ?_
          refine wk_iload_n X 1 dR_appendant_39 rfl rfl ?_
          refine wk_imul X dR_appendant_40 ?_
          refine wk_iload_n X 2 dR_appendant_41 rfl rfl ?_
          refine wk_aload_n X 0 dR_appendant_42 rfl rfl ?_
          refine wk_get X uw_R 0 rfl rfl 16 (Nat.le_of_ble_eq_true rfl) (tl tw_553) rfl rfl dR_appendant_43 ?_
          obtain ⟨q7, h8, hf⟩ := p_ob hf
          obtain ⟨h8z, h8e⟩ := p_dv_some h8
          refine wk_idiv X dR_appendant_46 h8z ?_
          refine wk_top h8e ?_
          refine wk_iadd X dR_appendant_47 ?_
          obtain ⟨q9, h10, hf⟩ := p_ob hf
          obtain ⟨h10i, h10e⟩ := p_rd_some h10
          refine wk_iald X 9 0 rfl rfl h10i h10e dR_appendant_48 ?_
          refine wk_iload_n X 2 dR_appendant_49 rfl rfl ?_
          refine wk_aload_n X 0 dR_appendant_50 rfl rfl ?_
          refine wk_get X uw_R 0 rfl rfl 16 (Nat.le_of_ble_eq_true rfl) (tl tw_553) rfl rfl dR_appendant_51 ?_
          obtain ⟨q11, h12, hf⟩ := p_ob hf
          obtain ⟨h12z, h12e⟩ := p_rm_some h12
          refine wk_irem X dR_appendant_54 h12z ?_
          refine wk_top h12e ?_
          refine wk_icmp_ne X dR_appendant_55 (tgt := 62) rfl (fun h13 => ?_) (fun h13 => ?_)
          · replace hf := p_ie h13 hf
            refine wk_iconst X dR_appendant_62 (v := (0 : Int32)) (by decide) ?_
            have hf := Option.some.inj hf
            exact wk_iret X Z rfl dR_appendant_63 () (Eq.symm hf) rfl rfl
          · replace hf := p_it h13 hf
            refine wk_iconst X dR_appendant_58 (v := (1 : Int32)) (by decide) ?_
            refine wk_goto X dR_appendant_59 (tgt := 63) rfl ?_
            have hf := Option.some.inj hf
            exact wk_iret X Z rfl dR_appendant_63 () (Eq.symm hf) rfl rfl
        · replace hf := p_ie h6 hf
          refine wk_iconst X dR_appendant_31 (v := (-1 : Int32)) (by decide) ?_
          have hf := Option.some.inj hf
          exact wk_iret X Z rfl dR_appendant_32 () (Eq.symm hf) rfl rfl

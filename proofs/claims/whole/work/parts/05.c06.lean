-- M_canGoOn: room (2, 43), Option (Int32)
def fM_canGoOn (S : pM) : Option (Int32) :=
  (fM_hasStep S S.2.2.2.1 S.2.2.2.2.1).bind fun q1 =>
  if q1 = true then (
    (fM_moveOf S S.2.2.2.1 S.2.2.2.2.1).bind fun q4 =>
    if q4 = (1 : Int32) then (
      (fM_writeOf S S.2.2.2.1 S.2.2.2.2.1).bind fun q10 =>
      if (((2 : Int32) * S.2.2.2.2.2.1) + q10) ≤ (255 : Int32) then (
        some (1 : Int32)
      ) else (
        some (-2 : Int32)
      )
    ) else (
      (fM_writeOf S S.2.2.2.1 S.2.2.2.2.1).bind fun q7 =>
      if (((2 : Int32) * S.2.2.2.2.2.2) + q7) ≤ (255 : Int32) then (
        some (1 : Int32)
      ) else (
        some (-2 : Int32)
      )
    )
  ) else (
    some (0 : Int32)
  )
set_option maxRecDepth 100000 in
set_option maxHeartbeats 4000000 in
theorem mM_canGoOn {V : ee_V} (a : Nat → Nat) (S : pM) (R : Int32) (hf : fM_canGoOn S = some R) : wk_I (ee V) yM_canGoOn ts_M_canGoOn ⟨2, 0, 0, 43⟩ [.ref (a 0)] (cM V a S) (fun (r : Int32) (_ : Unit) => R = r) (fun _ : Unit => cM V a S) := by
  refine wk_of (ee_ok V) (by decide +kernel) rfl (Nat.le_of_ble_eq_true rfl) ?_
  intro x X Z
  unfold fM_canGoOn at hf
  refine wk_lq (lv' := [(0, .ref (a 0))]) rfl ?_
  refine wk_aload_n X 0 dM_canGoOn_0 rfl rfl ?_
  refine wk_aload_n X 0 dM_canGoOn_1 rfl rfl ?_
  refine wk_get X uw_M 0 rfl rfl 3 (Nat.le_of_ble_eq_true rfl) (tl tw_31) rfl rfl dM_canGoOn_2 ?_
  refine wk_aload_n X 0 dM_canGoOn_5 rfl rfl ?_
  refine wk_get X uw_M 0 rfl rfl 4 (Nat.le_of_ble_eq_true rfl) (tl tw_34) rfl rfl dM_canGoOn_6 ?_
  obtain ⟨q1, h2, hf⟩ := p_ob hf
  refine wk_goI [0, 1, 2, 3] (wk_rV X (mM_hasStep (V := V) a S S.2.2.2.1 S.2.2.2.2.1 q1 h2) rfl (gd (tw_221)) [0, 1, 2, 3] rfl rfl 0 rfl rfl (tl tw_392) (tl tw_219) (tl tw_220) (tl tw_3) 2 pd_M_hasStep rfl ⟨rfl, rfl⟩ ⟨Nat.le_of_ble_eq_true rfl, Nat.le_of_ble_eq_true rfl⟩ rfl (Nat.le_of_ble_eq_true rfl) dM_canGoOn_9) rfl ?_
  rintro r ⟨⟩ rfl
  refine wk_ws (ws' := cM V a S) rfl ?_
  refine wk_bz_ne X dM_canGoOn_12 (tgt := 17) rfl (fun h3 => ?_) (fun h3 => ?_)
  · replace hf := p_it h3 hf
    refine wk_aload_n X 0 dM_canGoOn_17 rfl rfl ?_
    refine wk_aload_n X 0 dM_canGoOn_18 rfl rfl ?_
    refine wk_get X uw_M 0 rfl rfl 3 (Nat.le_of_ble_eq_true rfl) (tl tw_31) rfl rfl dM_canGoOn_19 ?_
    refine wk_aload_n X 0 dM_canGoOn_22 rfl rfl ?_
    refine wk_get X uw_M 0 rfl rfl 4 (Nat.le_of_ble_eq_true rfl) (tl tw_34) rfl rfl dM_canGoOn_23 ?_
    obtain ⟨q4, h5, hf⟩ := p_ob hf
    refine wk_goI [0, 1, 2, 3] (wk_rV X (mM_moveOf (V := V) a S S.2.2.2.1 S.2.2.2.2.1 q4 h5) rfl (gd (tw_237)) [0, 1, 2, 3] rfl rfl 0 rfl rfl (tl tw_393) (tl tw_235) (tl tw_236) (tl tw_3) 2 pd_M_moveOf rfl ⟨rfl, rfl⟩ ⟨Nat.le_of_ble_eq_true rfl, Nat.le_of_ble_eq_true rfl⟩ rfl (Nat.le_of_ble_eq_true rfl) dM_canGoOn_26) rfl ?_
    rintro r ⟨⟩ rfl
    refine wk_ws (ws' := cM V a S) rfl ?_
    refine wk_iconst X dM_canGoOn_29 (v := (1 : Int32)) (by decide) ?_
    refine wk_icmp_ne X dM_canGoOn_30 (tgt := 40) rfl (fun h6 => ?_) (fun h6 => ?_)
    · replace hf := p_ie h6 hf
      refine wk_aload_n X 0 dM_canGoOn_40 rfl rfl ?_
      refine wk_get X uw_M 0 rfl rfl 6 (Nat.le_of_ble_eq_true rfl) (tl tw_40) rfl rfl dM_canGoOn_41 ?_
      refine wk_istore_n X dM_canGoOn_44 rfl (Nat.le_of_ble_eq_true rfl) (lv' := [(1, .int S.2.2.2.2.2.2), (0, .ref (a 0))]) rfl ?_
      refine wk_iconst X dM_canGoOn_45 (v := (2 : Int32)) (by decide) ?_
      refine wk_iload_n X 0 dM_canGoOn_46 rfl rfl ?_
      refine wk_imul X dM_canGoOn_47 ?_
      refine wk_aload_n X 1 dM_canGoOn_48 rfl rfl ?_
      refine wk_aload_n X 1 dM_canGoOn_49 rfl rfl ?_
      refine wk_get X uw_M 0 rfl rfl 3 (Nat.le_of_ble_eq_true rfl) (tl tw_31) rfl rfl dM_canGoOn_50 ?_
      refine wk_aload_n X 1 dM_canGoOn_53 rfl rfl ?_
      refine wk_get X uw_M 0 rfl rfl 4 (Nat.le_of_ble_eq_true rfl) (tl tw_34) rfl rfl dM_canGoOn_54 ?_
      obtain ⟨q7, h8, hf⟩ := p_ob hf
      refine wk_goI [0, 1, 2, 3] (wk_rV X (mM_writeOf (V := V) a S S.2.2.2.1 S.2.2.2.2.1 q7 h8) rfl (gd (tw_261)) [0, 1, 2, 3] rfl rfl 0 rfl rfl (tl tw_394) (tl tw_259) (tl tw_260) (tl tw_3) 2 pd_M_writeOf rfl ⟨rfl, rfl⟩ ⟨Nat.le_of_ble_eq_true rfl, Nat.le_of_ble_eq_true rfl⟩ rfl (Nat.le_of_ble_eq_true rfl) dM_canGoOn_57) rfl ?_
      rintro r ⟨⟩ rfl
      refine wk_ws (ws' := cM V a S) rfl ?_
      refine wk_iadd X dM_canGoOn_60 ?_
      refine wk_sipush X dM_canGoOn_61 (v := (255 : Int32)) (by decide) ?_
      refine wk_icmp_le X dM_canGoOn_64 (tgt := 72) rfl (fun h9 => ?_) (fun h9 => ?_)
      · replace hf := p_it h9 hf
        refine wk_iconst X dM_canGoOn_72 (v := (1 : Int32)) (by decide) ?_
        have hf := Option.some.inj hf
        exact wk_iret X Z rfl dM_canGoOn_73 () (Eq.symm hf) rfl rfl
      · replace hf := p_ie h9 hf
        refine wk_bipush X dM_canGoOn_67 (v := (-2 : Int32)) (by decide) ?_
        refine wk_goto X dM_canGoOn_69 (tgt := 73) rfl ?_
        have hf := Option.some.inj hf
        exact wk_iret X Z rfl dM_canGoOn_73 () (Eq.symm hf) rfl rfl
    · replace hf := p_it h6 hf
      refine wk_aload_n X 0 dM_canGoOn_33 rfl rfl ?_
      refine wk_get X uw_M 0 rfl rfl 5 (Nat.le_of_ble_eq_true rfl) (tl tw_37) rfl rfl dM_canGoOn_34 ?_
      refine wk_goto X dM_canGoOn_37 (tgt := 44) rfl ?_
      refine wk_istore_n X dM_canGoOn_44 rfl (Nat.le_of_ble_eq_true rfl) (lv' := [(1, .int S.2.2.2.2.2.1), (0, .ref (a 0))]) rfl ?_
      refine wk_iconst X dM_canGoOn_45 (v := (2 : Int32)) (by decide) ?_
      refine wk_iload_n X 0 dM_canGoOn_46 rfl rfl ?_
      refine wk_imul X dM_canGoOn_47 ?_
      refine wk_aload_n X 1 dM_canGoOn_48 rfl rfl ?_
      refine wk_aload_n X 1 dM_canGoOn_49 rfl rfl ?_
      refine wk_get X uw_M 0 rfl rfl 3 (Nat.le_of_ble_eq_true rfl) (tl tw_31) rfl rfl dM_canGoOn_50 ?_
      refine wk_aload_n X 1 dM_canGoOn_53 rfl rfl ?_
      refine wk_get X uw_M 0 rfl rfl 4 (Nat.le_of_ble_eq_true rfl) (tl tw_34) rfl rfl dM_canGoOn_54 ?_
      obtain ⟨q10, h11, hf⟩ := p_ob hf
      refine wk_goI [0, 1, 2, 3] (wk_rV X (mM_writeOf (V := V) a S S.2.2.2.1 S.2.2.2.2.1 q10 h11) rfl (gd (tw_261)) [0, 1, 2, 3] rfl rfl 0 rfl rfl (tl tw_394) (tl tw_259) (tl tw_260) (tl tw_3) 2 pd_M_writeOf rfl ⟨rfl, rfl⟩ ⟨Nat.le_of_ble_eq_true rfl, Nat.le_of_ble_eq_true rfl⟩ rfl (Nat.le_of_ble_eq_true rfl) dM_canGoOn_57) rfl ?_
      rintro r ⟨⟩ rfl
      refine wk_ws (ws' := cM V a S) rfl ?_
      refine wk_iadd X dM_canGoOn_60 ?_
      refine wk_sipush X dM_canGoOn_61 (v := (255 : Int32)) (by decide) ?_
      refine wk_icmp_le X dM_canGoOn_64 (tgt := 72) rfl (fun h12 => ?_) (fun h12 => ?_)
      · replace hf := p_it h12 hf
        refine wk_iconst X dM_canGoOn_72 (v := (1 : Int32)) (by decide) ?_
        have hf := Option.some.inj hf
        exact wk_iret X Z rfl dM_canGoOn_73 () (Eq.symm hf) rfl rfl
      · replace hf := p_ie h12 hf
        refine wk_bipush X dM_canGoOn_67 (v := (-2 : Int32)) (by decide) ?_
        refine wk_goto X dM_canGoOn_69 (tgt := 73) rfl ?_
        have hf := Option.some.inj hf
        exact wk_iret X Z rfl dM_canGoOn_73 () (Eq.symm hf) rfl rfl
  · replace hf := p_ie h3 hf
    refine wk_iconst X dM_canGoOn_15 (v := (0 : Int32)) (by decide) ?_
    have hf := Option.some.inj hf
    exact wk_iret X Z rfl dM_canGoOn_16 () (Eq.symm hf) rfl rfl
-- T_wordLetter: room (0, 0), Option (Int32)
def fT_wordLetter (S : pT) (v1 : Int32) : Option (Int32) :=
  if v1 < 0 then (
    some (-1 : Int32)
  ) else (
    if S.2.2.2.2.2.1 ≤ v1 then (
      some (-1 : Int32)
    ) else (
      (p_rd 4096 S.2.2.2.1 ((S.2.2.2.2.1 + v1) &&& (4095 : Int32))).bind fun q3 =>
      some q3
    )
  )
set_option maxRecDepth 100000 in
set_option maxHeartbeats 4000000 in
theorem mT_wordLetter {V : ee_V} (a : Nat → Nat) (S : pT) (v1 : Int32) (R : Int32) (hf : fT_wordLetter S v1 = some R) : wk_I (ee V) yT_wordLetter ts_T_wordLetter ⟨0, 0, 0, 0⟩ [.ref (a 0), .int v1] (cT V a S) (fun (r : Int32) (_ : Unit) => R = r) (fun _ : Unit => cT V a S) := by
  refine wk_of (ee_ok V) (by decide +kernel) rfl (Nat.le_of_ble_eq_true rfl) ?_
  intro x X Z
  unfold fT_wordLetter at hf
  refine wk_lq (lv' := [(0, .ref (a 0)), (1, .int v1)]) rfl ?_
  refine wk_iload_n X 1 dT_wordLetter_0 rfl rfl ?_
  refine wk_if_lt X dT_wordLetter_1 (tgt := 30) rfl (fun h1 => ?_) (fun h1 => ?_)
  · replace hf := p_it h1 hf
    refine wk_iconst X dT_wordLetter_30 (v := (-1 : Int32)) (by decide) ?_
    have hf := Option.some.inj hf
    exact wk_iret X Z rfl dT_wordLetter_31 () (Eq.symm hf) rfl rfl
  · replace hf := p_ie h1 hf
    refine wk_iload_n X 1 dT_wordLetter_4 rfl rfl ?_
    refine wk_aload_n X 0 dT_wordLetter_5 rfl rfl ?_
    refine wk_get X uw_T 0 rfl rfl 5 (Nat.le_of_ble_eq_true rfl) (tl tw_70) rfl rfl dT_wordLetter_6 ?_
    refine wk_icmp_ge X dT_wordLetter_9 (tgt := 30) rfl (fun h2 => ?_) (fun h2 => ?_)
    · replace hf := p_it h2 hf
      refine wk_iconst X dT_wordLetter_30 (v := (-1 : Int32)) (by decide) ?_
      have hf := Option.some.inj hf
      exact wk_iret X Z rfl dT_wordLetter_31 () (Eq.symm hf) rfl rfl
    · replace hf := p_ie h2 hf
      refine wk_aload_n X 0 dT_wordLetter_12 rfl rfl ?_
      refine wk_get X uw_T 0 rfl rfl 3 (Nat.le_of_ble_eq_true rfl) (tl tw_68) rfl rfl dT_wordLetter_13 ?_
      refine wk_aload_n X 0 dT_wordLetter_16 rfl rfl ?_
      refine wk_get X uw_T 0 rfl rfl 4 (Nat.le_of_ble_eq_true rfl) (tl tw_69) rfl rfl dT_wordLetter_17 ?_
      refine wk_iload_n X 1 dT_wordLetter_20 rfl rfl ?_
      refine wk_iadd X dT_wordLetter_21 ?_
      refine wk_sipush X dT_wordLetter_22 (v := (4095 : Int32)) (by decide) ?_
      refine wk_iand X dT_wordLetter_25 ?_
      obtain ⟨q3, h4, hf⟩ := p_ob hf
      obtain ⟨h4i, h4e⟩ := p_rd_some h4
      refine wk_iald X 4 0 rfl rfl h4i h4e dT_wordLetter_26 ?_
      refine wk_goto X dT_wordLetter_27 (tgt := 31) rfl ?_
      have hf := Option.some.inj hf
      exact wk_iret X Z rfl dT_wordLetter_31 () (Eq.symm hf) rfl rfl
-- T_appendProduction: room (2, 42), Option (pT)
def fT_appendProduction_L8 : Nat → pT → Int32 → Int32 → Int32 → Option (pT)
  | 0, _, _, _, _ => none
  | n + 1, S, v1, v2, v3 =>
    if v2 ≤ v3 then (
      some S
    ) else (
      (fT_unpack S v1 v3).bind fun q4 =>
      (fT_append S q4).bind fun q6 =>
      fT_appendProduction_L8 n q6 v1 v2 (v3 + (1 : Int32))
    )
def fT_appendProduction (S : pT) (v1 : Int32) : Option (pT) :=
  (fT_productionSize S v1).bind fun q1 =>
  fT_appendProduction_L8 100000 S v1 q1 (0 : Int32)
set_option maxRecDepth 100000 in
set_option maxHeartbeats 4000000 in
theorem wT_appendProduction_L8 {V : ee_V} (a : Nat → Nat) (S0 : pT) {x : wk_C} (X : wk_K (ee V) x cT_appendProduction 4 "TagWorkshop$TagSystem" ts_T_appendProduction ⟨2, 0, 0, 42⟩) (R : pT) (Z : wk_N x none (va_Qv (fun u : pT => R = u) (wk_B (ee V) (cT V a S0) (fun u : pT => cT V a u)) (wk_in (cT V a S0))) (cT V a S0)) : ∀ (n : Nat) (S : pT) (v1 : Int32) (v2 : Int32) (v3 : Int32), fT_appendProduction_L8 n S v1 v2 v3 = some R → wk_G (ee V) x 4 (cT V a S) 8 [(0, .ref (a 0)), (1, .int v1), (2, .int v2), (3, .int v3)] [] := by
  intro n
  induction n with
  | zero => intro S v1 v2 v3 hf; exact absurd hf (by rw [fT_appendProduction_L8]; exact fun h => by cases h)
  | succ n ih =>
    intro S v1 v2 v3 hf
    rw [fT_appendProduction_L8] at hf
    refine wk_iload_n X 3 dT_appendProduction_8 rfl rfl ?_
    refine wk_iload_n X 2 dT_appendProduction_9 rfl rfl ?_
    refine wk_icmp_ge X dT_appendProduction_10 (tgt := 29) rfl (fun h3 => ?_) (fun h3 => ?_)
    · replace hf := p_it h3 hf
      have hf := Option.some.inj hf
      exact wk_vret X Z dT_appendProduction_29 (S) (Eq.symm hf) rfl rfl
    · replace hf := p_ie h3 hf
      refine wk_aload_n X 0 dT_appendProduction_13 rfl rfl ?_
      refine wk_aload_n X 0 dT_appendProduction_14 rfl rfl ?_
      refine wk_iload_n X 1 dT_appendProduction_15 rfl rfl ?_
      refine wk_iload_n X 3 dT_appendProduction_16 rfl rfl ?_
      obtain ⟨q4, h5, hf⟩ := p_ob hf
      refine wk_goI [0, 1, 2, 3, 4] (wk_rV X (mT_unpack (V := V) a S v1 v3 q4 h5) rfl (gd (tw_312)) [0, 1, 2, 3, 4] rfl rfl 0 rfl rfl (tl tw_309) (tl tw_311) (tl tv_2) (tl tw_4) 2 pd_T_unpack rfl ⟨rfl, rfl⟩ ⟨Nat.le_of_ble_eq_true rfl, Nat.le_of_ble_eq_true rfl⟩ rfl (Nat.le_of_ble_eq_true rfl) dT_appendProduction_17) rfl ?_
      rintro r ⟨⟩ rfl
      refine wk_ws (ws' := cT V a S) rfl ?_
      obtain ⟨q6, h7, hf⟩ := p_ob hf
      refine wk_goV [0, 1, 2, 3, 4] (wk_rV X (mT_append (V := V) a S q4 q6 h7) rfl (gd (tw_277)) [0, 1, 2, 3, 4] rfl rfl 0 rfl rfl (tl tw_409) (tl tw_275) (tl tw_276) (tl tw_4) 1 pd_T_append rfl ⟨rfl, rfl⟩ ⟨Nat.le_of_ble_eq_true rfl, Nat.le_of_ble_eq_true rfl⟩ rfl (Nat.le_of_ble_eq_true rfl) dT_appendProduction_20) rfl ?_
      rintro u rfl
      refine wk_ws (ws' := cT V a q6) rfl ?_
      refine wk_iinc X 3 dT_appendProduction_23 (v := (v3 + (1 : Int32))) rfl rfl (Nat.le_of_ble_eq_true rfl) (lv' := [(3, .int (v3 + (1 : Int32))), (0, .ref (a 0)), (1, .int v1), (2, .int v2)]) rfl ?_
      refine wk_goto X dT_appendProduction_26 (tgt := 8) rfl ?_
      refine wk_lv [1, 2, 3, 0] (lv' := [(0, .ref (a 0)), (1, .int v1), (2, .int v2), (3, .int (v3 + (1 : Int32)))]) rfl ?_
      exact ih q6 v1 v2 (v3 + (1 : Int32)) hf
set_option maxRecDepth 100000 in
set_option maxHeartbeats 4000000 in
theorem mT_appendProduction {V : ee_V} (a : Nat → Nat) (S : pT) (v1 : Int32) (R : pT) (hf : fT_appendProduction S v1 = some R) : wk_V (ee V) yT_appendProduction ts_T_appendProduction ⟨2, 0, 0, 42⟩ [.ref (a 0), .int v1] (cT V a S) (fun u : pT => R = u) (fun u : pT => cT V a u) := by
  refine wk_of (ee_ok V) (by decide +kernel) rfl (Nat.le_of_ble_eq_true rfl) ?_
  intro x X Z
  unfold fT_appendProduction at hf
  refine wk_lq (lv' := [(0, .ref (a 0)), (1, .int v1)]) rfl ?_
  refine wk_aload_n X 0 dT_appendProduction_0 rfl rfl ?_
  refine wk_iload_n X 1 dT_appendProduction_1 rfl rfl ?_
  obtain ⟨q1, h2, hf⟩ := p_ob hf
  refine wk_goI [0, 1, 2, 3, 4] (wk_rV X (mT_productionSize (V := V) a S v1 q1 h2) rfl (gd (tw_308)) [0, 1, 2, 3, 4] rfl rfl 0 rfl rfl (tl tw_305) (tl tw_306) (tl tw_307) (tl tw_4) 1 pd_T_productionSize rfl ⟨rfl, rfl⟩ ⟨Nat.le_of_ble_eq_true rfl, Nat.le_of_ble_eq_true rfl⟩ rfl (Nat.le_of_ble_eq_true rfl) dT_appendProduction_2) rfl ?_
  rintro r ⟨⟩ rfl
  refine wk_ws (ws' := cT V a S) rfl ?_
  refine wk_istore_n X dT_appendProduction_5 rfl (Nat.le_of_ble_eq_true rfl) (lv' := [(2, .int q1), (0, .ref (a 0)), (1, .int v1)]) rfl ?_
  refine wk_iconst X dT_appendProduction_6 (v := (0 : Int32)) (by decide) ?_
  refine wk_istore_n X dT_appendProduction_7 rfl (Nat.le_of_ble_eq_true rfl) (lv' := [(3, .int (0 : Int32)), (2, .int q1), (0, .ref (a 0)), (1, .int v1)]) rfl ?_
  refine wk_lv [2, 3, 1, 0] (lv' := [(0, .ref (a 0)), (1, .int v1), (2, .int q1), (3, .int (0 : Int32))]) rfl ?_
  exact wT_appendProduction_L8 a S X R Z 100000 S v1 q1 (0 : Int32) hf
-- T_takeTwo: room (0, 0), pT
def fT_takeTwo (S : pT) : pT :=
  (S.1, S.2.1, S.2.2.1, S.2.2.2.1, ((S.2.2.2.2.1 + (2 : Int32)) &&& (4095 : Int32)), (S.2.2.2.2.2.1 - (2 : Int32)), S.2.2.2.2.2.2.1, S.2.2.2.2.2.2.2)
set_option maxRecDepth 100000 in
set_option maxHeartbeats 4000000 in
theorem mT_takeTwo {V : ee_V} (a : Nat → Nat) (S : pT) (R : pT) (hf : fT_takeTwo S = R) : wk_V (ee V) yT_takeTwo ts_T_takeTwo ⟨0, 0, 0, 0⟩ [.ref (a 0)] (cT V a S) (fun u : pT => R = u) (fun u : pT => cT V a u) := by
  refine wk_of (ee_ok V) (by decide +kernel) rfl (Nat.le_of_ble_eq_true rfl) ?_
  intro x X Z
  unfold fT_takeTwo at hf
  refine wk_lq (lv' := [(0, .ref (a 0))]) rfl ?_
  refine wk_aload_n X 0 dT_takeTwo_0 rfl rfl ?_
  refine wk_aload_n X 0 dT_takeTwo_1 rfl rfl ?_
  refine wk_get X uw_T 0 rfl rfl 4 (Nat.le_of_ble_eq_true rfl) (tl tw_69) rfl rfl dT_takeTwo_2 ?_
  refine wk_iconst X dT_takeTwo_5 (v := (2 : Int32)) (by decide) ?_
  refine wk_iadd X dT_takeTwo_6 ?_
  refine wk_sipush X dT_takeTwo_7 (v := (4095 : Int32)) (by decide) ?_
  refine wk_iand X dT_takeTwo_10 ?_
  refine wk_put X uw_T 0 rfl rfl 4 (Nat.le_of_ble_eq_true rfl) ft_T ft_T_ok fn_T (tl tw_69) rfl rfl rfl rfl (Nat.le_of_ble_eq_true rfl) dT_takeTwo_11 (ws' := cT V a (S.1, S.2.1, S.2.2.1, S.2.2.2.1, ((S.2.2.2.2.1 + (2 : Int32)) &&& (4095 : Int32)), S.2.2.2.2.2.1, S.2.2.2.2.2.2.1, S.2.2.2.2.2.2.2)) rfl ?_
  refine wk_aload_n X 0 dT_takeTwo_14 rfl rfl ?_
  refine wk_dup X dT_takeTwo_15 rfl ?_
  refine wk_get X uw_T 0 rfl rfl 5 (Nat.le_of_ble_eq_true rfl) (tl tw_70) rfl rfl dT_takeTwo_16 ?_
  refine wk_iconst X dT_takeTwo_19 (v := (2 : Int32)) (by decide) ?_
  refine wk_isub X dT_takeTwo_20 ?_
  refine wk_put X uw_T 0 rfl rfl 5 (Nat.le_of_ble_eq_true rfl) ft_T ft_T_ok fn_T (tl tw_70) rfl rfl rfl rfl (Nat.le_of_ble_eq_true rfl) dT_takeTwo_21 (ws' := cT V a (S.1, S.2.1, S.2.2.1, S.2.2.2.1, ((S.2.2.2.2.1 + (2 : Int32)) &&& (4095 : Int32)), (S.2.2.2.2.2.1 - (2 : Int32)), S.2.2.2.2.2.2.1, S.2.2.2.2.2.2.2)) rfl ?_
  exact wk_vret X Z dT_takeTwo_24 ((S.1, S.2.1, S.2.2.1, S.2.2.2.1, ((S.2.2.2.2.1 + (2 : Int32)) &&& (4095 : Int32)), (S.2.2.2.2.2.1 - (2 : Int32)), S.2.2.2.2.2.2.1, S.2.2.2.2.2.2.2)) (Eq.symm hf) rfl rfl
-- Y_step: room (3, 65), Option (pY)
def fY_step (S : pY) : Option (pY) :=
  (fT_wordLetter S.1 (0 : Int32)).bind fun q1 =>
  if S.2 = q1 then (
    (fT_appendProduction S.1 q1).bind fun q5 =>
    if (S.2 + (1 : Int32)) = (fY_appendants (q5, (S.2 + (1 : Int32)))) then (
      some ((fT_takeTwo q5), (0 : Int32))
    ) else (
      some (q5, (S.2 + (1 : Int32)))
    )
  ) else (
    if (S.2 + (1 : Int32)) = (fY_appendants (S.1, (S.2 + (1 : Int32)))) then (
      some ((fT_takeTwo S.1), (0 : Int32))
    ) else (
      some (S.1, (S.2 + (1 : Int32)))
    )
  )
set_option maxRecDepth 100000 in
set_option maxHeartbeats 4000000 in
theorem mY_step {V : ee_V} (a : Nat → Nat) (S : pY) (R : pY) (hf : fY_step S = some R) : wk_V (ee V) yY_step ts_Y_step ⟨3, 0, 0, 65⟩ [.ref (a 0)] (cY V a S) (fun u : pY => R = u) (fun u : pY => cY V a u) := by
  refine wk_of (ee_ok V) (by decide +kernel) rfl (Nat.le_of_ble_eq_true rfl) ?_
  intro x X Z
  unfold fY_step at hf
  refine wk_lq (lv' := [(0, .ref (a 0))]) rfl ?_
  refine wk_aload_n X 0 dY_step_0 rfl rfl ?_
  refine wk_get X uw_Y 0 rfl rfl 0 (Nat.le_of_ble_eq_true rfl) (tl tw_107) rfl rfl dY_step_1 ?_
  refine wk_iconst X dY_step_4 (v := (0 : Int32)) (by decide) ?_
  obtain ⟨q1, h2, hf⟩ := p_ob hf
  refine wk_goI [1, 2, 3, 4, 5] (wk_rV X (mT_wordLetter (V := V) (fun i => a (i + 1)) S.1 (0 : Int32) q1 h2) rfl (gd (tw_404)) [1, 2, 3, 4, 5] rfl rfl 1 rfl rfl (tl tw_401) (tl tw_402) (tl tw_403) (tl tw_4) 1 pd_T_wordLetter rfl ⟨rfl, rfl⟩ ⟨Nat.le_of_ble_eq_true rfl, Nat.le_of_ble_eq_true rfl⟩ rfl (Nat.le_of_ble_eq_true rfl) dY_step_5) rfl ?_
  rintro r ⟨⟩ rfl
  refine wk_ws (ws' := cY V a S) rfl ?_
  refine wk_istore_n X dY_step_8 rfl (Nat.le_of_ble_eq_true rfl) (lv' := [(1, .int q1), (0, .ref (a 0))]) rfl ?_
  refine wk_aload_n X 1 dY_step_9 rfl rfl ?_
  refine wk_get X uw_Y 0 rfl rfl 1 (Nat.le_of_ble_eq_true rfl) (tl tw_108) rfl rfl dY_step_10 ?_
  refine wk_iload_n X 0 dY_step_13 rfl rfl ?_
  refine wk_icmp_ne X dY_step_14 (tgt := 25) rfl (fun h3 => ?_) (fun h3 => ?_)
  · replace hf := p_ie h3 hf
    refine wk_aload_n X 1 dY_step_25 rfl rfl ?_
    refine wk_dup X dY_step_26 rfl ?_
    refine wk_get X uw_Y 0 rfl rfl 1 (Nat.le_of_ble_eq_true rfl) (tl tw_108) rfl rfl dY_step_27 ?_
    refine wk_iconst X dY_step_30 (v := (1 : Int32)) (by decide) ?_
    refine wk_iadd X dY_step_31 ?_
    refine wk_put X uw_Y 0 rfl rfl 1 (Nat.le_of_ble_eq_true rfl) ft_Y ft_Y_ok fn_Y (tl tw_108) rfl rfl rfl rfl (Nat.le_of_ble_eq_true rfl) dY_step_32 (ws' := cY V a (S.1, (S.2 + (1 : Int32)))) rfl ?_
    refine wk_aload_n X 1 dY_step_35 rfl rfl ?_
    refine wk_get X uw_Y 0 rfl rfl 1 (Nat.le_of_ble_eq_true rfl) (tl tw_108) rfl rfl dY_step_36 ?_
    refine wk_aload_n X 1 dY_step_39 rfl rfl ?_
    refine wk_goI [0, 1, 2, 3, 4, 5] (wk_rV X (mY_appendants (V := V) a (S.1, (S.2 + (1 : Int32))) (fY_appendants (S.1, (S.2 + (1 : Int32)))) rfl) rfl (gd (tw_347)) [0, 1, 2, 3, 4, 5] rfl rfl 0 rfl rfl (tl tw_410) (tl tw_345) (tl tw_346) (tl tw_5) 0 pd_Y_appendants rfl ⟨rfl, rfl⟩ ⟨Nat.le_of_ble_eq_true rfl, Nat.le_of_ble_eq_true rfl⟩ rfl (Nat.le_of_ble_eq_true rfl) dY_step_40) rfl ?_
    rintro r ⟨⟩ rfl
    refine wk_ws (ws' := cY V a (S.1, (S.2 + (1 : Int32)))) rfl ?_
    refine wk_icmp_ne X dY_step_43 (tgt := 58) rfl (fun h4 => ?_) (fun h4 => ?_)
    · replace hf := p_ie h4 hf
      have hf := Option.some.inj hf
      exact wk_vret X Z dY_step_58 ((S.1, (S.2 + (1 : Int32)))) (Eq.symm hf) rfl rfl
    · replace hf := p_it h4 hf
      refine wk_aload_n X 1 dY_step_46 rfl rfl ?_
      refine wk_iconst X dY_step_47 (v := (0 : Int32)) (by decide) ?_
      refine wk_put X uw_Y 0 rfl rfl 1 (Nat.le_of_ble_eq_true rfl) ft_Y ft_Y_ok fn_Y (tl tw_108) rfl rfl rfl rfl (Nat.le_of_ble_eq_true rfl) dY_step_48 (ws' := cY V a (S.1, (0 : Int32))) rfl ?_
      refine wk_aload_n X 1 dY_step_51 rfl rfl ?_
      refine wk_get X uw_Y 0 rfl rfl 0 (Nat.le_of_ble_eq_true rfl) (tl tw_107) rfl rfl dY_step_52 ?_
      refine wk_goV [1, 2, 3, 4, 5] (wk_rV X (mT_takeTwo (V := V) (fun i => a (i + 1)) S.1 (fT_takeTwo S.1) rfl) rfl (gd (tw_414)) [1, 2, 3, 4, 5] rfl rfl 1 rfl rfl (tl tw_411) (tl tw_412) (tl tw_413) (tl tw_4) 0 pd_T_takeTwo rfl ⟨rfl, rfl⟩ ⟨Nat.le_of_ble_eq_true rfl, Nat.le_of_ble_eq_true rfl⟩ rfl (Nat.le_of_ble_eq_true rfl) dY_step_55) rfl ?_
      rintro u rfl
      refine wk_ws (ws' := cY V a ((fT_takeTwo S.1), (0 : Int32))) rfl ?_
      have hf := Option.some.inj hf
      exact wk_vret X Z dY_step_58 (((fT_takeTwo S.1), (0 : Int32))) (Eq.symm hf) rfl rfl
  · replace hf := p_it h3 hf
    refine wk_aload_n X 1 dY_step_17 rfl rfl ?_
    refine wk_get X uw_Y 0 rfl rfl 0 (Nat.le_of_ble_eq_true rfl) (tl tw_107) rfl rfl dY_step_18 ?_
    refine wk_iload_n X 0 dY_step_21 rfl rfl ?_
    obtain ⟨q5, h6, hf⟩ := p_ob hf
    refine wk_goV [1, 2, 3, 4, 5] (wk_rV X (mT_appendProduction (V := V) (fun i => a (i + 1)) S.1 q1 q5 h6) rfl (gd (tw_408)) [1, 2, 3, 4, 5] rfl rfl 1 rfl rfl (tl tw_405) (tl tw_406) (tl tw_407) (tl tw_4) 1 pd_T_appendProduction rfl ⟨rfl, rfl⟩ ⟨Nat.le_of_ble_eq_true rfl, Nat.le_of_ble_eq_true rfl⟩ rfl (Nat.le_of_ble_eq_true rfl) dY_step_22) rfl ?_
    rintro u rfl
    refine wk_ws (ws' := cY V a (q5, S.2)) rfl ?_
    refine wk_aload_n X 1 dY_step_25 rfl rfl ?_
    refine wk_dup X dY_step_26 rfl ?_
    refine wk_get X uw_Y 0 rfl rfl 1 (Nat.le_of_ble_eq_true rfl) (tl tw_108) rfl rfl dY_step_27 ?_
    refine wk_iconst X dY_step_30 (v := (1 : Int32)) (by decide) ?_
    refine wk_iadd X dY_step_31 ?_
    refine wk_put X uw_Y 0 rfl rfl 1 (Nat.le_of_ble_eq_true rfl) ft_Y ft_Y_ok fn_Y (tl tw_108) rfl rfl rfl rfl (Nat.le_of_ble_eq_true rfl) dY_step_32 (ws' := cY V a (q5, (S.2 + (1 : Int32)))) rfl ?_
    refine wk_aload_n X 1 dY_step_35 rfl rfl ?_
    refine wk_get X uw_Y 0 rfl rfl 1 (Nat.le_of_ble_eq_true rfl) (tl tw_108) rfl rfl dY_step_36 ?_
    refine wk_aload_n X 1 dY_step_39 rfl rfl ?_
    refine wk_goI [0, 1, 2, 3, 4, 5] (wk_rV X (mY_appendants (V := V) a (q5, (S.2 + (1 : Int32))) (fY_appendants (q5, (S.2 + (1 : Int32)))) rfl) rfl (gd (tw_347)) [0, 1, 2, 3, 4, 5] rfl rfl 0 rfl rfl (tl tw_410) (tl tw_345) (tl tw_346) (tl tw_5) 0 pd_Y_appendants rfl ⟨rfl, rfl⟩ ⟨Nat.le_of_ble_eq_true rfl, Nat.le_of_ble_eq_true rfl⟩ rfl (Nat.le_of_ble_eq_true rfl) dY_step_40) rfl ?_
    rintro r ⟨⟩ rfl
    refine wk_ws (ws' := cY V a (q5, (S.2 + (1 : Int32)))) rfl ?_
    refine wk_icmp_ne X dY_step_43 (tgt := 58) rfl (fun h7 => ?_) (fun h7 => ?_)
    · replace hf := p_ie h7 hf
      have hf := Option.some.inj hf
      exact wk_vret X Z dY_step_58 ((q5, (S.2 + (1 : Int32)))) (Eq.symm hf) rfl rfl
    · replace hf := p_it h7 hf
      refine wk_aload_n X 1 dY_step_46 rfl rfl ?_
      refine wk_iconst X dY_step_47 (v := (0 : Int32)) (by decide) ?_
      refine wk_put X uw_Y 0 rfl rfl 1 (Nat.le_of_ble_eq_true rfl) ft_Y ft_Y_ok fn_Y (tl tw_108) rfl rfl rfl rfl (Nat.le_of_ble_eq_true rfl) dY_step_48 (ws' := cY V a (q5, (0 : Int32))) rfl ?_
      refine wk_aload_n X 1 dY_step_51 rfl rfl ?_
      refine wk_get X uw_Y 0 rfl rfl 0 (Nat.le_of_ble_eq_true rfl) (tl tw_107) rfl rfl dY_step_52 ?_
      refine wk_goV [1, 2, 3, 4, 5] (wk_rV X (mT_takeTwo (V := V) (fun i => a (i + 1)) q5 (fT_takeTwo q5) rfl) rfl (gd (tw_414)) [1, 2, 3, 4, 5] rfl rfl 1 rfl rfl (tl tw_411) (tl tw_412) (tl tw_413) (tl tw_4) 0 pd_T_takeTwo rfl ⟨rfl, rfl⟩ ⟨Nat.le_of_ble_eq_true rfl, Nat.le_of_ble_eq_true rfl⟩ rfl (Nat.le_of_ble_eq_true rfl) dY_step_55) rfl ?_
      rintro u rfl
      refine wk_ws (ws' := cY V a ((fT_takeTwo q5), (0 : Int32))) rfl ?_
      have hf := Option.some.inj hf
      exact wk_vret X Z dY_step_58 (((fT_takeTwo q5), (0 : Int32))) (Eq.symm hf) rfl rfl
-- Y_makeSteps: room (4, 86), Option (Int32 × pY)
def fY_makeSteps_L10 : Nat → pY → Int32 → Int32 → Int32 → Option (Int32 × pY)
  | 0, _, _, _, _ => none
  | n + 1, S, v1, v2, v3 =>
    if v2 ≤ v3 then (
      some (v2, S)
    ) else (
      (fY_canGoOn S).bind fun q2 =>
      if q2 = (1 : Int32) then (
        (fY_step S).bind fun q5 =>
        fY_makeSteps_L10 n q5 v1 v2 (v3 + (1 : Int32))
      ) else (
        some (v3, S)
      )
    )
def fY_makeSteps (S : pY) (v1 : Int32) : Option (Int32 × pY) :=
  fY_makeSteps_L10 100000 S v1 (fX_within v1 (20000 : Int32)) (0 : Int32)
set_option maxRecDepth 100000 in
set_option maxHeartbeats 4000000 in
theorem wY_makeSteps_L10 {V : ee_V} (a : Nat → Nat) (S0 : pY) {x : wk_C} (X : wk_K (ee V) x cK_makeSteps 4 "TagWorkshop$Machine" ts_K_makeSteps ⟨4, 0, 0, 86⟩) (R : Int32 × pY) (Z : wk_N x (some .int) (va_Qi (fun (r : Int32) (u : pY) => R.1 = r ∧ R.2 = u) (wk_B (ee V) (cY V a S0) (fun u : pY => cY V a u)) (wk_in (cY V a S0))) (cY V a S0)) : ∀ (n : Nat) (S : pY) (v1 : Int32) (v2 : Int32) (v3 : Int32), fY_makeSteps_L10 n S v1 v2 v3 = some R → wk_G (ee V) x 4 (cY V a S) 10 [(0, .ref (a 0)), (1, .int v1), (2, .int v2), (3, .int v3)] [] := by
  intro n
  induction n with
  | zero => intro S v1 v2 v3 hf; exact absurd hf (by rw [fY_makeSteps_L10]; exact fun h => by cases h)
  | succ n ih =>
    intro S v1 v2 v3 hf
    rw [fY_makeSteps_L10] at hf
    refine wk_iload_n X 3 dK_makeSteps_10 rfl rfl ?_
    refine wk_iload_n X 2 dK_makeSteps_11 rfl rfl ?_
    refine wk_icmp_ge X dK_makeSteps_12 (tgt := 35) rfl (fun h1 => ?_) (fun h1 => ?_)
    · replace hf := p_it h1 hf
      refine wk_iload_n X 2 dK_makeSteps_35 rfl rfl ?_
      have hf := Option.some.inj hf
      exact wk_iret X Z rfl dK_makeSteps_36 (S) ⟨Eq.symm (congrArg Prod.fst hf), Eq.symm (congrArg Prod.snd hf)⟩ rfl rfl
    · replace hf := p_ie h1 hf
      refine wk_aload_n X 0 dK_makeSteps_15 rfl rfl ?_
      obtain ⟨q2, h3, hf⟩ := p_ob hf
      refine wk_goI [0, 1, 2, 3, 4, 5] (wk_rD X (xm := yK_canGoOn) (owner := "TagWorkshop$Machine") (mY_canGoOn (V := V) a S q2 h3) rfl (gd (tw_383)) [0, 1, 2, 3, 4, 5] rfl rfl 0 rfl rfl (tl tw_378) (tl tw_380) (am_d_canGoOn X.am) (tl tw_382) (tl tw_381) (tl tw_5) 0 pe_K_canGoOn rfl ⟨rfl, rfl⟩ ⟨Nat.le_of_ble_eq_true rfl, Nat.le_of_ble_eq_true rfl⟩ rfl (Nat.le_of_ble_eq_true rfl) dK_makeSteps_16) rfl ?_
      rintro r ⟨⟩ rfl
      refine wk_ws (ws' := cY V a S) rfl ?_
      refine wk_iconst X dK_makeSteps_19 (v := (1 : Int32)) (by decide) ?_
      refine wk_icmp_eq X dK_makeSteps_20 (tgt := 25) rfl (fun h4 => ?_) (fun h4 => ?_)
      · replace hf := p_it h4 hf
        refine wk_aload_n X 0 dK_makeSteps_25 rfl rfl ?_
        obtain ⟨q5, h6, hf⟩ := p_ob hf
        refine wk_goV [0, 1, 2, 3, 4, 5] (wk_rD X (xm := yK_step) (owner := "TagWorkshop$Machine") (mY_step (V := V) a S q5 h6) rfl (gd (tw_400)) [0, 1, 2, 3, 4, 5] rfl rfl 0 rfl rfl (tl tw_395) (tl tw_397) (am_d_step X.am) (tl tw_399) (tl tw_398) (tl tw_5) 0 pe_K_step rfl ⟨rfl, rfl⟩ ⟨Nat.le_of_ble_eq_true rfl, Nat.le_of_ble_eq_true rfl⟩ rfl (Nat.le_of_ble_eq_true rfl) dK_makeSteps_26) rfl ?_
        rintro u rfl
        refine wk_ws (ws' := cY V a q5) rfl ?_
        refine wk_iinc X 3 dK_makeSteps_29 (v := (v3 + (1 : Int32))) rfl rfl (Nat.le_of_ble_eq_true rfl) (lv' := [(3, .int (v3 + (1 : Int32))), (0, .ref (a 0)), (1, .int v1), (2, .int v2)]) rfl ?_
        refine wk_goto X dK_makeSteps_32 (tgt := 10) rfl ?_
        refine wk_lv [1, 2, 3, 0] (lv' := [(0, .ref (a 0)), (1, .int v1), (2, .int v2), (3, .int (v3 + (1 : Int32)))]) rfl ?_
        exact ih q5 v1 v2 (v3 + (1 : Int32)) hf
      · replace hf := p_ie h4 hf
        refine wk_iload_n X 3 dK_makeSteps_23 rfl rfl ?_
        have hf := Option.some.inj hf
        exact wk_iret X Z rfl dK_makeSteps_24 (S) ⟨Eq.symm (congrArg Prod.fst hf), Eq.symm (congrArg Prod.snd hf)⟩ rfl rfl
set_option maxRecDepth 100000 in
set_option maxHeartbeats 4000000 in
theorem mY_makeSteps {V : ee_V} (a : Nat → Nat) (S : pY) (v1 : Int32) (R : Int32 × pY) (hf : fY_makeSteps S v1 = some R) : wk_I (ee V) yK_makeSteps ts_K_makeSteps ⟨4, 0, 0, 86⟩ [.ref (a 0), .int v1] (cY V a S) (fun (r : Int32) (u : pY) => R.1 = r ∧ R.2 = u) (fun u : pY => cY V a u) := by
  refine wk_of (ee_ok V) (by decide +kernel) rfl (Nat.le_of_ble_eq_true rfl) ?_
  intro x X Z
  unfold fY_makeSteps at hf
  refine wk_lq (lv' := [(0, .ref (a 0)), (1, .int v1)]) rfl ?_
  refine wk_iload_n X 1 dK_makeSteps_0 rfl rfl ?_
  refine wk_sipush X dK_makeSteps_1 (v := (20000 : Int32)) (by decide) ?_
  refine wk_goI [] (wk_rSN X (mX_within (V := V) v1 (20000 : Int32) (fX_within v1 (20000 : Int32)) rfl) rfl (gd (tw_373)) [] rfl rfl (am_nK_9 X.am) (tl tw_372) (tl tw_1) 2 pd_X_within rfl ⟨rfl, rfl⟩ ⟨Nat.le_of_ble_eq_true rfl, Nat.le_of_ble_eq_true rfl⟩ rfl (Nat.le_of_ble_eq_true rfl) dK_makeSteps_4) rfl ?_
  rintro r ⟨⟩ rfl
  refine wk_ws (ws' := cY V a S) rfl ?_
  refine wk_istore_n X dK_makeSteps_7 rfl (Nat.le_of_ble_eq_true rfl) (lv' := [(2, .int (fX_within v1 (20000 : Int32))), (0, .ref (a 0)), (1, .int v1)]) rfl ?_
  refine wk_iconst X dK_makeSteps_8 (v := (0 : Int32)) (by decide) ?_
  refine wk_istore_n X dK_makeSteps_9 rfl (Nat.le_of_ble_eq_true rfl) (lv' := [(3, .int (0 : Int32)), (2, .int (fX_within v1 (20000 : Int32))), (0, .ref (a 0)), (1, .int v1)]) rfl ?_
  refine wk_lv [2, 3, 1, 0] (lv' := [(0, .ref (a 0)), (1, .int v1), (2, .int (fX_within v1 (20000 : Int32))), (3, .int (0 : Int32))]) rfl ?_
  exact wY_makeSteps_L10 a S X R Z 100000 S v1 (fX_within v1 (20000 : Int32)) (0 : Int32) hf
-- T_step: room (3, 65), Option (pT)
def fT_step (S : pT) : Option (pT) :=
  (p_rd 4096 S.2.2.2.1 S.2.2.2.2.1).bind fun q1 =>
  (fT_appendProduction (fT_takeTwo S) q1).bind fun q3 =>
  some q3
set_option maxRecDepth 100000 in
set_option maxHeartbeats 4000000 in
theorem mT_step {V : ee_V} (a : Nat → Nat) (S : pT) (R : pT) (hf : fT_step S = some R) : wk_V (ee V) yT_step ts_T_step ⟨3, 0, 0, 65⟩ [.ref (a 0)] (cT V a S) (fun u : pT => R = u) (fun u : pT => cT V a u) := by
  refine wk_of (ee_ok V) (by decide +kernel) rfl (Nat.le_of_ble_eq_true rfl) ?_
  intro x X Z
  unfold fT_step at hf
  refine wk_lq (lv' := [(0, .ref (a 0))]) rfl ?_
  refine wk_aload_n X 0 dT_step_0 rfl rfl ?_
  refine wk_get X uw_T 0 rfl rfl 3 (Nat.le_of_ble_eq_true rfl) (tl tw_68) rfl rfl dT_step_1 ?_
  refine wk_aload_n X 0 dT_step_4 rfl rfl ?_
  refine wk_get X uw_T 0 rfl rfl 4 (Nat.le_of_ble_eq_true rfl) (tl tw_69) rfl rfl dT_step_5 ?_
  obtain ⟨q1, h2, hf⟩ := p_ob hf
  obtain ⟨h2i, h2e⟩ := p_rd_some h2
  refine wk_iald X 4 0 rfl rfl h2i h2e dT_step_8 ?_
  refine wk_istore_n X dT_step_9 rfl (Nat.le_of_ble_eq_true rfl) (lv' := [(1, .int q1), (0, .ref (a 0))]) rfl ?_
  refine wk_aload_n X 1 dT_step_10 rfl rfl ?_
  refine wk_goV [0, 1, 2, 3, 4] (wk_rV X (mT_takeTwo (V := V) a S (fT_takeTwo S) rfl) rfl (gd (tw_414)) [0, 1, 2, 3, 4] rfl rfl 0 rfl rfl (tl tw_418) (tl tw_412) (tl tw_413) (tl tw_4) 0 pd_T_takeTwo rfl ⟨rfl, rfl⟩ ⟨Nat.le_of_ble_eq_true rfl, Nat.le_of_ble_eq_true rfl⟩ rfl (Nat.le_of_ble_eq_true rfl) dT_step_11) rfl ?_
  rintro u rfl
  refine wk_ws (ws' := cT V a (fT_takeTwo S)) rfl ?_
  refine wk_aload_n X 1 dT_step_14 rfl rfl ?_
  refine wk_iload_n X 0 dT_step_15 rfl rfl ?_
  obtain ⟨q3, h4, hf⟩ := p_ob hf
  refine wk_goV [0, 1, 2, 3, 4] (wk_rV X (mT_appendProduction (V := V) a (fT_takeTwo S) q1 q3 h4) rfl (gd (tw_408)) [0, 1, 2, 3, 4] rfl rfl 0 rfl rfl (tl tw_419) (tl tw_406) (tl tw_407) (tl tw_4) 1 pd_T_appendProduction rfl ⟨rfl, rfl⟩ ⟨Nat.le_of_ble_eq_true rfl, Nat.le_of_ble_eq_true rfl⟩ rfl (Nat.le_of_ble_eq_true rfl) dT_step_16) rfl ?_
  rintro u rfl
  refine wk_ws (ws' := cT V a q3) rfl ?_
  have hf := Option.some.inj hf
  exact wk_vret X Z dT_step_19 (q3) (Eq.symm hf) rfl rfl

-- M_hasBothRules: room (1, 21), Option (Bool)
def fM_hasBothRules (S : pM) (v1 : Int32) : Option (Bool) :=
  (p_rd 16 S.2.2.1 (fM_place v1 (0 : Int32))).bind fun q1 =>
  if q1 = (-1 : Int32) then (
    some false
  ) else (
    (p_rd 16 S.2.2.1 (fM_place v1 (1 : Int32))).bind fun q4 =>
    if q4 = (-1 : Int32) then (
      some false
    ) else (
      some true
    )
  )
set_option maxRecDepth 100000 in
set_option maxHeartbeats 4000000 in
theorem mM_hasBothRules {V : ee_V} (a : Nat → Nat) (S : pM) (v1 : Int32) (R : Bool) (hf : fM_hasBothRules S v1 = some R) : wk_I (ee V) yM_hasBothRules ts_M_hasBothRules ⟨1, 0, 0, 21⟩ [.ref (a 0), .int v1] (cM V a S) (fun (r : Int32) (_ : Unit) => p_b (R) = r) (fun _ : Unit => cM V a S) := by
  refine wk_of (ee_ok V) (by decide +kernel) rfl (Nat.le_of_ble_eq_true rfl) ?_
  intro x X Z
  unfold fM_hasBothRules at hf
  refine wk_lq (lv' := [(0, .ref (a 0)), (1, .int v1)]) rfl ?_
  refine wk_aload_n X 0 dM_hasBothRules_0 rfl rfl ?_
  refine wk_get X uw_M 0 rfl rfl 2 (Nat.le_of_ble_eq_true rfl) (tl tw_30) rfl rfl dM_hasBothRules_1 ?_
  refine wk_iload_n X 1 dM_hasBothRules_4 rfl rfl ?_
  refine wk_iconst X dM_hasBothRules_5 (v := (0 : Int32)) (by decide) ?_
  refine wk_goI [] (wk_rS X (mM_place (V := V) v1 (0 : Int32) (fM_place v1 (0 : Int32)) rfl) rfl (gd (tw_167)) [] rfl rfl (tl tw_165) (tl tw_166) (tl tw_3) 2 pd_M_place rfl ⟨rfl, rfl⟩ ⟨Nat.le_of_ble_eq_true rfl, Nat.le_of_ble_eq_true rfl⟩ rfl (Nat.le_of_ble_eq_true rfl) dM_hasBothRules_6) rfl ?_
  rintro r ⟨⟩ rfl
  refine wk_ws (ws' := cM V a S) rfl ?_
  obtain ⟨q1, h2, hf⟩ := p_ob hf
  obtain ⟨h2i, h2e⟩ := p_rd_some h2
  refine wk_iald X 3 0 rfl rfl h2i h2e dM_hasBothRules_9 ?_
  refine wk_iconst X dM_hasBothRules_10 (v := (-1 : Int32)) (by decide) ?_
  refine wk_icmp_eq X dM_hasBothRules_11 (tgt := 32) rfl (fun h3 => ?_) (fun h3 => ?_)
  · replace hf := p_it h3 hf
    refine wk_iconst X dM_hasBothRules_32 (v := (0 : Int32)) (by decide) ?_
    have hf := Option.some.inj hf
    exact wk_iret X Z rfl dM_hasBothRules_33 () (Eq.symm (congrArg p_b hf)) rfl rfl
  · replace hf := p_ie h3 hf
    refine wk_aload_n X 0 dM_hasBothRules_14 rfl rfl ?_
    refine wk_get X uw_M 0 rfl rfl 2 (Nat.le_of_ble_eq_true rfl) (tl tw_30) rfl rfl dM_hasBothRules_15 ?_
    refine wk_iload_n X 1 dM_hasBothRules_18 rfl rfl ?_
    refine wk_iconst X dM_hasBothRules_19 (v := (1 : Int32)) (by decide) ?_
    refine wk_goI [] (wk_rS X (mM_place (V := V) v1 (1 : Int32) (fM_place v1 (1 : Int32)) rfl) rfl (gd (tw_167)) [] rfl rfl (tl tw_165) (tl tw_166) (tl tw_3) 2 pd_M_place rfl ⟨rfl, rfl⟩ ⟨Nat.le_of_ble_eq_true rfl, Nat.le_of_ble_eq_true rfl⟩ rfl (Nat.le_of_ble_eq_true rfl) dM_hasBothRules_20) rfl ?_
    rintro r ⟨⟩ rfl
    refine wk_ws (ws' := cM V a S) rfl ?_
    obtain ⟨q4, h5, hf⟩ := p_ob hf
    obtain ⟨h5i, h5e⟩ := p_rd_some h5
    refine wk_iald X 3 0 rfl rfl h5i h5e dM_hasBothRules_23 ?_
    refine wk_iconst X dM_hasBothRules_24 (v := (-1 : Int32)) (by decide) ?_
    refine wk_icmp_eq X dM_hasBothRules_25 (tgt := 32) rfl (fun h6 => ?_) (fun h6 => ?_)
    · replace hf := p_it h6 hf
      refine wk_iconst X dM_hasBothRules_32 (v := (0 : Int32)) (by decide) ?_
      have hf := Option.some.inj hf
      exact wk_iret X Z rfl dM_hasBothRules_33 () (Eq.symm (congrArg p_b hf)) rfl rfl
    · replace hf := p_ie h6 hf
      refine wk_iconst X dM_hasBothRules_28 (v := (1 : Int32)) (by decide) ?_
      refine wk_goto X dM_hasBothRules_29 (tgt := 33) rfl ?_
      have hf := Option.some.inj hf
      exact wk_iret X Z rfl dM_hasBothRules_33 () (Eq.symm (congrArg p_b hf)) rfl rfl
-- M_hasAllRules: room (2, 42), Option (Bool)
def fM_hasAllRules_L15 (S : pM) : Nat → Int32 → Option (Bool)
  | 0, _ => none
  | n + 1, v1 =>
    if (16 : Int32) ≤ v1 then (
      some true
    ) else (
      (p_rd 16 S.2.2.1 v1).bind fun q5 =>
      if (fM_isState q5) = true then (
        (fM_hasBothRules S q5).bind fun q10 =>
        if q10 = true then (
          fM_hasAllRules_L15 S n (v1 + (1 : Int32))
        ) else (
          some false
        )
      ) else (
        fM_hasAllRules_L15 S n (v1 + (1 : Int32))
      )
    )
def fM_hasAllRules (S : pM) : Option (Bool) :=
  (fM_hasBothRules S S.2.2.2.1).bind fun q1 =>
  if q1 = true then (
    fM_hasAllRules_L15 S 100000 (0 : Int32)
  ) else (
    some false
  )
set_option maxRecDepth 100000 in
set_option maxHeartbeats 4000000 in
theorem wM_hasAllRules_L15 {V : ee_V} (a : Nat → Nat) (S : pM) {x : wk_C} (X : wk_K (ee V) x cM_hasAllRules 2 "TagWorkshop$TapeMachine" ts_M_hasAllRules ⟨2, 0, 0, 42⟩) (R : Bool) (Z : wk_N x (some .boolean) (va_Qi (fun (r : Int32) (_ : Unit) => p_b (R) = r) (wk_B (ee V) (cM V a S) (fun _ : Unit => cM V a S)) (wk_in (cM V a S))) (cM V a S)) : ∀ (n : Nat) (v1 : Int32), fM_hasAllRules_L15 S n v1 = some R → wk_G (ee V) x 2 (cM V a S) 15 [(0, .ref (a 0)), (1, .int v1)] [] := by
  intro n
  induction n with
  | zero => intro v1 hf; exact absurd hf (by rw [fM_hasAllRules_L15]; exact fun h => by cases h)
  | succ n ih =>
    intro v1 hf
    rw [fM_hasAllRules_L15] at hf
    refine wk_iload_n X 1 dM_hasAllRules_15 rfl rfl ?_
    refine wk_aload_n X 0 dM_hasAllRules_16 rfl rfl ?_
    refine wk_get X uw_M 0 rfl rfl 2 (Nat.le_of_ble_eq_true rfl) (tl tw_30) rfl rfl dM_hasAllRules_17 ?_
    refine wk_alen X 3 0 rfl rfl (v := (16 : Int32)) rfl dM_hasAllRules_20 ?_
    refine wk_icmp_ge X dM_hasAllRules_21 (tgt := 57) rfl (fun h4 => ?_) (fun h4 => ?_)
    · replace hf := p_it h4 hf
      refine wk_iconst X dM_hasAllRules_57 (v := (1 : Int32)) (by decide) ?_
      have hf := Option.some.inj hf
      exact wk_iret X Z rfl dM_hasAllRules_58 () (Eq.symm (congrArg p_b hf)) rfl rfl
    · replace hf := p_ie h4 hf
      refine wk_aload_n X 0 dM_hasAllRules_24 rfl rfl ?_
      refine wk_get X uw_M 0 rfl rfl 2 (Nat.le_of_ble_eq_true rfl) (tl tw_30) rfl rfl dM_hasAllRules_25 ?_
      refine wk_iload_n X 1 dM_hasAllRules_28 rfl rfl ?_
      obtain ⟨q5, h6, hf⟩ := p_ob hf
      obtain ⟨h6i, h6e⟩ := p_rd_some h6
      refine wk_iald X 3 0 rfl rfl h6i h6e dM_hasAllRules_29 ?_
      refine wk_goI [] (wk_rS X (mM_isState (V := V) q5 (fM_isState q5) rfl) rfl (gd (tw_161)) [] rfl rfl (tl tw_159) (tl tw_160) (tl tw_3) 1 pd_M_isState rfl ⟨rfl, rfl⟩ ⟨Nat.le_of_ble_eq_true rfl, Nat.le_of_ble_eq_true rfl⟩ rfl (Nat.le_of_ble_eq_true rfl) dM_hasAllRules_30) rfl ?_
      rintro r ⟨⟩ rfl
      refine wk_ws (ws' := cM V a S) rfl ?_
      refine wk_bz_eq X dM_hasAllRules_33 (tgt := 51) rfl (fun h7 => ?_) (fun h7 => ?_)
      · replace hf := p_ie h7 hf
        refine wk_iinc X 1 dM_hasAllRules_51 (v := (v1 + (1 : Int32))) rfl rfl (Nat.le_of_ble_eq_true rfl) (lv' := [(1, .int (v1 + (1 : Int32))), (0, .ref (a 0))]) rfl ?_
        refine wk_goto X dM_hasAllRules_54 (tgt := 15) rfl ?_
        refine wk_lv [1, 0] (lv' := [(0, .ref (a 0)), (1, .int (v1 + (1 : Int32)))]) rfl ?_
        exact ih (v1 + (1 : Int32)) hf
      · replace hf := p_it h7 hf
        refine wk_aload_n X 0 dM_hasAllRules_36 rfl rfl ?_
        refine wk_aload_n X 0 dM_hasAllRules_37 rfl rfl ?_
        refine wk_get X uw_M 0 rfl rfl 2 (Nat.le_of_ble_eq_true rfl) (tl tw_30) rfl rfl dM_hasAllRules_38 ?_
        refine wk_iload_n X 1 dM_hasAllRules_41 rfl rfl ?_
        refine wk_iald X 3 0 rfl rfl h6i h6e dM_hasAllRules_42 ?_
        obtain ⟨q10, h11, hf⟩ := p_ob hf
        refine wk_goI [0, 1, 2, 3] (wk_rV X (mM_hasBothRules (V := V) a S q5 q10 h11) rfl (gd (tw_193)) [0, 1, 2, 3] rfl rfl 0 rfl rfl (tl tw_190) (tl tw_192) (tl tv_0) (tl tw_3) 1 pd_M_hasBothRules rfl ⟨rfl, rfl⟩ ⟨Nat.le_of_ble_eq_true rfl, Nat.le_of_ble_eq_true rfl⟩ rfl (Nat.le_of_ble_eq_true rfl) dM_hasAllRules_43) rfl ?_
        rintro r ⟨⟩ rfl
        refine wk_ws (ws' := cM V a S) rfl ?_
        refine wk_bz_ne X dM_hasAllRules_46 (tgt := 51) rfl (fun h12 => ?_) (fun h12 => ?_)
        · replace hf := p_it h12 hf
          refine wk_iinc X 1 dM_hasAllRules_51 (v := (v1 + (1 : Int32))) rfl rfl (Nat.le_of_ble_eq_true rfl) (lv' := [(1, .int (v1 + (1 : Int32))), (0, .ref (a 0))]) rfl ?_
          refine wk_goto X dM_hasAllRules_54 (tgt := 15) rfl ?_
          refine wk_lv [1, 0] (lv' := [(0, .ref (a 0)), (1, .int (v1 + (1 : Int32)))]) rfl ?_
          exact ih (v1 + (1 : Int32)) hf
        · replace hf := p_ie h12 hf
          refine wk_iconst X dM_hasAllRules_49 (v := (0 : Int32)) (by decide) ?_
          have hf := Option.some.inj hf
          exact wk_iret X Z rfl dM_hasAllRules_50 () (Eq.symm (congrArg p_b hf)) rfl rfl
set_option maxRecDepth 100000 in
set_option maxHeartbeats 4000000 in
theorem mM_hasAllRules {V : ee_V} (a : Nat → Nat) (S : pM) (R : Bool) (hf : fM_hasAllRules S = some R) : wk_I (ee V) yM_hasAllRules ts_M_hasAllRules ⟨2, 0, 0, 42⟩ [.ref (a 0)] (cM V a S) (fun (r : Int32) (_ : Unit) => p_b (R) = r) (fun _ : Unit => cM V a S) := by
  refine wk_of (ee_ok V) (by decide +kernel) rfl (Nat.le_of_ble_eq_true rfl) ?_
  intro x X Z
  unfold fM_hasAllRules at hf
  refine wk_lq (lv' := [(0, .ref (a 0))]) rfl ?_
  refine wk_aload_n X 0 dM_hasAllRules_0 rfl rfl ?_
  refine wk_aload_n X 0 dM_hasAllRules_1 rfl rfl ?_
  refine wk_get X uw_M 0 rfl rfl 3 (Nat.le_of_ble_eq_true rfl) (tl tw_31) rfl rfl dM_hasAllRules_2 ?_
  obtain ⟨q1, h2, hf⟩ := p_ob hf
  refine wk_goI [0, 1, 2, 3] (wk_rV X (mM_hasBothRules (V := V) a S S.2.2.2.1 q1 h2) rfl (gd (tw_193)) [0, 1, 2, 3] rfl rfl 0 rfl rfl (tl tw_190) (tl tw_192) (tl tv_0) (tl tw_3) 1 pd_M_hasBothRules rfl ⟨rfl, rfl⟩ ⟨Nat.le_of_ble_eq_true rfl, Nat.le_of_ble_eq_true rfl⟩ rfl (Nat.le_of_ble_eq_true rfl) dM_hasAllRules_5) rfl ?_
  rintro r ⟨⟩ rfl
  refine wk_ws (ws' := cM V a S) rfl ?_
  refine wk_bz_ne X dM_hasAllRules_8 (tgt := 13) rfl (fun h3 => ?_) (fun h3 => ?_)
  · replace hf := p_it h3 hf
    refine wk_iconst X dM_hasAllRules_13 (v := (0 : Int32)) (by decide) ?_
    refine wk_istore_n X dM_hasAllRules_14 rfl (Nat.le_of_ble_eq_true rfl) (lv' := [(1, .int (0 : Int32)), (0, .ref (a 0))]) rfl ?_
    refine wk_lv [1, 0] (lv' := [(0, .ref (a 0)), (1, .int (0 : Int32))]) rfl ?_
    exact wM_hasAllRules_L15 a S X R Z 100000 (0 : Int32) hf
  · replace hf := p_ie h3 hf
    refine wk_iconst X dM_hasAllRules_11 (v := (0 : Int32)) (by decide) ?_
    have hf := Option.some.inj hf
    exact wk_iret X Z rfl dM_hasAllRules_12 () (Eq.symm (congrArg p_b hf)) rfl rfl
-- M_greatestState: room (1, 21), Option (Int32)
def fM_greatestState_L4 (S : pM) : Nat → Int32 → Int32 → Option (Int32)
  | 0, _, _ => none
  | n + 1, v1, v2 =>
    if (16 : Int32) ≤ v2 then (
      some v1
    ) else (
      (p_rd 16 S.2.2.1 v2).bind fun q2 =>
      if q2 = (-1 : Int32) then (
        fM_greatestState_L4 S n v1 (v2 + (1 : Int32))
      ) else (
        fM_greatestState_L4 S n (p_mx v1 (p_mx ((v2 / (2 : Int32)) + (1 : Int32)) q2)) (v2 + (1 : Int32))
      )
    )
def fM_greatestState (S : pM) : Option (Int32) :=
  fM_greatestState_L4 S 100000 (0 : Int32) (0 : Int32)
set_option maxRecDepth 100000 in
set_option maxHeartbeats 4000000 in
theorem wM_greatestState_L4 {V : ee_V} (a : Nat → Nat) (S : pM) {x : wk_C} (X : wk_K (ee V) x cM_greatestState 3 "TagWorkshop$TapeMachine" ts_M_greatestState ⟨1, 0, 0, 21⟩) (R : Int32) (Z : wk_N x (some .int) (va_Qi (fun (r : Int32) (_ : Unit) => R = r) (wk_B (ee V) (cM V a S) (fun _ : Unit => cM V a S)) (wk_in (cM V a S))) (cM V a S)) : ∀ (n : Nat) (v1 : Int32) (v2 : Int32), fM_greatestState_L4 S n v1 v2 = some R → wk_G (ee V) x 3 (cM V a S) 4 [(0, .ref (a 0)), (1, .int v1), (2, .int v2)] [] := by
  intro n
  induction n with
  | zero => intro v1 v2 hf; exact absurd hf (by rw [fM_greatestState_L4]; exact fun h => by cases h)
  | succ n ih =>
    intro v1 v2 hf
    rw [fM_greatestState_L4] at hf
    refine wk_iload_n X 2 dM_greatestState_4 rfl rfl ?_
    refine wk_aload_n X 0 dM_greatestState_5 rfl rfl ?_
    refine wk_get X uw_M 0 rfl rfl 2 (Nat.le_of_ble_eq_true rfl) (tl tw_30) rfl rfl dM_greatestState_6 ?_
    refine wk_alen X 3 0 rfl rfl (v := (16 : Int32)) rfl dM_greatestState_9 ?_
    refine wk_icmp_ge X dM_greatestState_10 (tgt := 48) rfl (fun h1 => ?_) (fun h1 => ?_)
    · replace hf := p_it h1 hf
      refine wk_iload_n X 1 dM_greatestState_48 rfl rfl ?_
      have hf := Option.some.inj hf
      exact wk_iret X Z rfl dM_greatestState_49 () (Eq.symm hf) rfl rfl
    · replace hf := p_ie h1 hf
      refine wk_aload_n X 0 dM_greatestState_13 rfl rfl ?_
      refine wk_get X uw_M 0 rfl rfl 2 (Nat.le_of_ble_eq_true rfl) (tl tw_30) rfl rfl dM_greatestState_14 ?_
      refine wk_iload_n X 2 dM_greatestState_17 rfl rfl ?_
      obtain ⟨q2, h3, hf⟩ := p_ob hf
      obtain ⟨h3i, h3e⟩ := p_rd_some h3
      refine wk_iald X 3 0 rfl rfl h3i h3e dM_greatestState_18 ?_
      refine wk_iconst X dM_greatestState_19 (v := (-1 : Int32)) (by decide) ?_
      refine wk_icmp_eq X dM_greatestState_20 (tgt := 42) rfl (fun h4 => ?_) (fun h4 => ?_)
      · replace hf := p_it h4 hf
        refine wk_iinc X 2 dM_greatestState_42 (v := (v2 + (1 : Int32))) rfl rfl (Nat.le_of_ble_eq_true rfl) (lv' := [(2, .int (v2 + (1 : Int32))), (0, .ref (a 0)), (1, .int v1)]) rfl ?_
        refine wk_goto X dM_greatestState_45 (tgt := 4) rfl ?_
        refine wk_lv [1, 2, 0] (lv' := [(0, .ref (a 0)), (1, .int v1), (2, .int (v2 + (1 : Int32)))]) rfl ?_
        exact ih v1 (v2 + (1 : Int32)) hf
      · replace hf := p_ie h4 hf
        refine wk_iload_n X 1 dM_greatestState_23 rfl rfl ?_
        refine wk_iload_n X 2 dM_greatestState_24 rfl rfl ?_
        refine wk_iconst X dM_greatestState_25 (v := (2 : Int32)) (by decide) ?_
        refine wk_idiv X dM_greatestState_26 (by decide) ?_
        refine wk_iconst X dM_greatestState_27 (v := (1 : Int32)) (by decide) ?_
        refine wk_iadd X dM_greatestState_28 ?_
        refine wk_aload_n X 0 dM_greatestState_29 rfl rfl ?_
        refine wk_get X uw_M 0 rfl rfl 2 (Nat.le_of_ble_eq_true rfl) (tl tw_30) rfl rfl dM_greatestState_30 ?_
        refine wk_iload_n X 2 dM_greatestState_33 rfl rfl ?_
        refine wk_iald X 3 0 rfl rfl h3i h3e dM_greatestState_34 ?_
        refine wk_max X (tl tw_201) (tl tw_202) (tl tw_9) (tl tw_203) (Nat.le_of_ble_eq_true rfl) (Nat.le_of_ble_eq_true rfl) dM_greatestState_35 ?_
        refine wk_top (b := (p_mx ((v2 / (2 : Int32)) + (1 : Int32)) q2)) rfl ?_
        refine wk_max X (tl tw_201) (tl tw_202) (tl tw_9) (tl tw_203) (Nat.le_of_ble_eq_true rfl) (Nat.le_of_ble_eq_true rfl) dM_greatestState_38 ?_
        refine wk_top (b := (p_mx v1 (p_mx ((v2 / (2 : Int32)) + (1 : Int32)) q2))) rfl ?_
        refine wk_istore_n X dM_greatestState_41 rfl (Nat.le_of_ble_eq_true rfl) (lv' := [(1, .int (p_mx v1 (p_mx ((v2 / (2 : Int32)) + (1 : Int32)) q2))), (0, .ref (a 0)), (2, .int v2)]) rfl ?_
        refine wk_iinc X 2 dM_greatestState_42 (v := (v2 + (1 : Int32))) rfl rfl (Nat.le_of_ble_eq_true rfl) (lv' := [(2, .int (v2 + (1 : Int32))), (1, .int (p_mx v1 (p_mx ((v2 / (2 : Int32)) + (1 : Int32)) q2))), (0, .ref (a 0))]) rfl ?_
        refine wk_goto X dM_greatestState_45 (tgt := 4) rfl ?_
        refine wk_lv [2, 1, 0] (lv' := [(0, .ref (a 0)), (1, .int (p_mx v1 (p_mx ((v2 / (2 : Int32)) + (1 : Int32)) q2))), (2, .int (v2 + (1 : Int32)))]) rfl ?_
        exact ih (p_mx v1 (p_mx ((v2 / (2 : Int32)) + (1 : Int32)) q2)) (v2 + (1 : Int32)) hf
set_option maxRecDepth 100000 in
set_option maxHeartbeats 4000000 in
theorem mM_greatestState {V : ee_V} (a : Nat → Nat) (S : pM) (R : Int32) (hf : fM_greatestState S = some R) : wk_I (ee V) yM_greatestState ts_M_greatestState ⟨1, 0, 0, 21⟩ [.ref (a 0)] (cM V a S) (fun (r : Int32) (_ : Unit) => R = r) (fun _ : Unit => cM V a S) := by
  refine wk_of (ee_ok V) (by decide +kernel) rfl (Nat.le_of_ble_eq_true rfl) ?_
  intro x X Z
  unfold fM_greatestState at hf
  refine wk_lq (lv' := [(0, .ref (a 0))]) rfl ?_
  refine wk_iconst X dM_greatestState_0 (v := (0 : Int32)) (by decide) ?_
  refine wk_istore_n X dM_greatestState_1 rfl (Nat.le_of_ble_eq_true rfl) (lv' := [(1, .int (0 : Int32)), (0, .ref (a 0))]) rfl ?_
  refine wk_iconst X dM_greatestState_2 (v := (0 : Int32)) (by decide) ?_
  refine wk_istore_n X dM_greatestState_3 rfl (Nat.le_of_ble_eq_true rfl) (lv' := [(2, .int (0 : Int32)), (1, .int (0 : Int32)), (0, .ref (a 0))]) rfl ?_
  refine wk_lv [2, 1, 0] (lv' := [(0, .ref (a 0)), (1, .int (0 : Int32)), (2, .int (0 : Int32))]) rfl ?_
  exact wM_greatestState_L4 a S X R Z 100000 (0 : Int32) (0 : Int32) hf
-- G_base: room (0, 0), Int32
def fG_base (v0 : Int32) (v1 : Int32) : Int32 :=
  ((1 : Int32) + ((18 : Int32) * (((2 : Int32) * (v0 - (1 : Int32))) + v1)))
set_option maxRecDepth 100000 in
set_option maxHeartbeats 4000000 in
theorem mG_base {V : ee_V} (v0 : Int32) (v1 : Int32) (R : Int32) (hf : fG_base v0 v1 = R) : wk_I (ee V) yG_base ts_G_base ⟨0, 0, 0, 0⟩ [.int v0, .int v1] (([] : va_W)) (fun (r : Int32) (_ : Unit) => R = r) (fun _ : Unit => ([] : va_W)) := by
  refine wk_of (ee_ok V) (by decide +kernel) rfl (Nat.le_of_ble_eq_true rfl) ?_
  intro x X Z
  unfold fG_base at hf
  refine wk_lq (lv' := [(0, .int v0), (1, .int v1)]) rfl ?_
  refine wk_iconst X dG_base_0 (v := (1 : Int32)) (by decide) ?_
  refine wk_bipush X dG_base_1 (v := (18 : Int32)) (by decide) ?_
  refine wk_iconst X dG_base_3 (v := (2 : Int32)) (by decide) ?_
  refine wk_iload_n X 0 dG_base_4 rfl rfl ?_
  refine wk_iconst X dG_base_5 (v := (1 : Int32)) (by decide) ?_
  refine wk_isub X dG_base_6 ?_
  refine wk_imul X dG_base_7 ?_
  refine wk_iload_n X 1 dG_base_8 rfl rfl ?_
  refine wk_iadd X dG_base_9 ?_
  refine wk_imul X dG_base_10 ?_
  refine wk_iadd X dG_base_11 ?_
  exact wk_iret X Z rfl dG_base_12 () (Eq.symm hf) rfl rfl
-- T_clearWord: room (0, 0), pT
def fT_clearWord (S : pT) : pT :=
  (S.1, S.2.1, S.2.2.1, S.2.2.2.1, (0 : Int32), (0 : Int32), S.2.2.2.2.2.2.1, S.2.2.2.2.2.2.2)
set_option maxRecDepth 100000 in
set_option maxHeartbeats 4000000 in
theorem mT_clearWord {V : ee_V} (a : Nat → Nat) (S : pT) (R : pT) (hf : fT_clearWord S = R) : wk_V (ee V) yT_clearWord ts_T_clearWord ⟨0, 0, 0, 0⟩ [.ref (a 0)] (cT V a S) (fun u : pT => R = u) (fun u : pT => cT V a u) := by
  refine wk_of (ee_ok V) (by decide +kernel) rfl (Nat.le_of_ble_eq_true rfl) ?_
  intro x X Z
  unfold fT_clearWord at hf
  refine wk_lq (lv' := [(0, .ref (a 0))]) rfl ?_
  refine wk_aload_n X 0 dT_clearWord_0 rfl rfl ?_
  refine wk_iconst X dT_clearWord_1 (v := (0 : Int32)) (by decide) ?_
  refine wk_put X uw_T 0 rfl rfl 4 (Nat.le_of_ble_eq_true rfl) ft_T ft_T_ok fn_T (tl tw_69) rfl rfl rfl rfl (Nat.le_of_ble_eq_true rfl) dT_clearWord_2 (ws' := cT V a (S.1, S.2.1, S.2.2.1, S.2.2.2.1, (0 : Int32), S.2.2.2.2.2.1, S.2.2.2.2.2.2.1, S.2.2.2.2.2.2.2)) rfl ?_
  refine wk_aload_n X 0 dT_clearWord_5 rfl rfl ?_
  refine wk_iconst X dT_clearWord_6 (v := (0 : Int32)) (by decide) ?_
  refine wk_put X uw_T 0 rfl rfl 5 (Nat.le_of_ble_eq_true rfl) ft_T ft_T_ok fn_T (tl tw_70) rfl rfl rfl rfl (Nat.le_of_ble_eq_true rfl) dT_clearWord_7 (ws' := cT V a (S.1, S.2.1, S.2.2.1, S.2.2.2.1, (0 : Int32), (0 : Int32), S.2.2.2.2.2.2.1, S.2.2.2.2.2.2.2)) rfl ?_
  exact wk_vret X Z dT_clearWord_10 ((S.1, S.2.1, S.2.2.1, S.2.2.2.1, (0 : Int32), (0 : Int32), S.2.2.2.2.2.2.1, S.2.2.2.2.2.2.2)) (Eq.symm hf) rfl rfl
-- T_begin: room (1, 20), Option (pT)
def fT_begin_L12 : Nat → pT → Int32 → Int32 → Int32 → Option (pT)
  | 0, _, _, _, _ => none
  | n + 1, S, v1, v2, v3 =>
    if S.2.2.2.2.2.2.1 ≤ v3 then (
      some (fT_clearWord S)
    ) else (
      (p_wr 300 S.2.1 v3 (0 : Int32)).bind fun q2 =>
      (p_wr 300 S.2.2.1 v3 (0 : Int32)).bind fun q4 =>
      fT_begin_L12 n (S.1, q2, q4, S.2.2.2.1, S.2.2.2.2.1, S.2.2.2.2.2.1, S.2.2.2.2.2.2.1, S.2.2.2.2.2.2.2) v1 v2 (v3 + (1 : Int32))
    )
def fT_begin (S : pT) (v1 : Int32) (v2 : Int32) : Option (pT) :=
  fT_begin_L12 100000 (S.1, S.2.1, S.2.2.1, S.2.2.2.1, S.2.2.2.2.1, S.2.2.2.2.2.1, v1, v2) v1 v2 (0 : Int32)
set_option maxRecDepth 100000 in
set_option maxHeartbeats 4000000 in
theorem wT_begin_L12 {V : ee_V} (a : Nat → Nat) (S0 : pT) {x : wk_C} (X : wk_K (ee V) x cT_begin 4 "TagWorkshop$TagSystem" ts_T_begin ⟨1, 0, 0, 20⟩) (R : pT) (Z : wk_N x none (va_Qv (fun u : pT => R = u) (wk_B (ee V) (cT V a S0) (fun u : pT => cT V a u)) (wk_in (cT V a S0))) (cT V a S0)) : ∀ (n : Nat) (S : pT) (v1 : Int32) (v2 : Int32) (v3 : Int32), fT_begin_L12 n S v1 v2 v3 = some R → wk_G (ee V) x 4 (cT V a S) 12 [(0, .ref (a 0)), (1, .int v1), (2, .int v2), (3, .int v3)] [] := by
  intro n
  induction n with
  | zero => intro S v1 v2 v3 hf; exact absurd hf (by rw [fT_begin_L12]; exact fun h => by cases h)
  | succ n ih =>
    intro S v1 v2 v3 hf
    rw [fT_begin_L12] at hf
    refine wk_iload_n X 3 dT_begin_12 rfl rfl ?_
    refine wk_aload_n X 0 dT_begin_13 rfl rfl ?_
    refine wk_get X uw_T 0 rfl rfl 6 (Nat.le_of_ble_eq_true rfl) (tl tw_74) rfl rfl dT_begin_14 ?_
    refine wk_icmp_ge X dT_begin_17 (tgt := 40) rfl (fun h1 => ?_) (fun h1 => ?_)
    · replace hf := p_it h1 hf
      refine wk_aload_n X 0 dT_begin_40 rfl rfl ?_
      refine wk_goV [0, 1, 2, 3, 4] (wk_rV X (mT_clearWord (V := V) a S (fT_clearWord S) rfl) rfl (gd (tw_214)) [0, 1, 2, 3, 4] rfl rfl 0 rfl rfl (tl tw_211) (tl tw_212) (tl tw_213) (tl tw_4) 0 pd_T_clearWord rfl ⟨rfl, rfl⟩ ⟨Nat.le_of_ble_eq_true rfl, Nat.le_of_ble_eq_true rfl⟩ rfl (Nat.le_of_ble_eq_true rfl) dT_begin_41) rfl ?_
      rintro u rfl
      refine wk_ws (ws' := cT V a (fT_clearWord S)) rfl ?_
      have hf := Option.some.inj hf
      exact wk_vret X Z dT_begin_44 ((fT_clearWord S)) (Eq.symm hf) rfl rfl
    · replace hf := p_ie h1 hf
      refine wk_aload_n X 0 dT_begin_20 rfl rfl ?_
      refine wk_get X uw_T 0 rfl rfl 1 (Nat.le_of_ble_eq_true rfl) (tl tw_66) rfl rfl dT_begin_21 ?_
      refine wk_iload_n X 3 dT_begin_24 rfl rfl ?_
      refine wk_iconst X dT_begin_25 (v := (0 : Int32)) (by decide) ?_
      obtain ⟨q2, h3, hf⟩ := p_ob hf
      obtain ⟨h3i, h3e⟩ := p_wr_some h3
      refine wk_iast X 2 0 rfl rfl h3i h3e dT_begin_26 (ws' := cT V a (S.1, q2, S.2.2.1, S.2.2.2.1, S.2.2.2.2.1, S.2.2.2.2.2.1, S.2.2.2.2.2.2.1, S.2.2.2.2.2.2.2)) rfl ?_
      refine wk_aload_n X 0 dT_begin_27 rfl rfl ?_
      refine wk_get X uw_T 0 rfl rfl 2 (Nat.le_of_ble_eq_true rfl) (tl tw_67) rfl rfl dT_begin_28 ?_
      refine wk_iload_n X 3 dT_begin_31 rfl rfl ?_
      refine wk_iconst X dT_begin_32 (v := (0 : Int32)) (by decide) ?_
      obtain ⟨q4, h5, hf⟩ := p_ob hf
      obtain ⟨h5i, h5e⟩ := p_wr_some h5
      refine wk_zast X 3 1 rfl rfl h5i (by decide) h5e dT_begin_33 (ws' := cT V a (S.1, q2, q4, S.2.2.2.1, S.2.2.2.2.1, S.2.2.2.2.2.1, S.2.2.2.2.2.2.1, S.2.2.2.2.2.2.2)) rfl ?_
      refine wk_iinc X 3 dT_begin_34 (v := (v3 + (1 : Int32))) rfl rfl (Nat.le_of_ble_eq_true rfl) (lv' := [(3, .int (v3 + (1 : Int32))), (0, .ref (a 0)), (1, .int v1), (2, .int v2)]) rfl ?_
      refine wk_goto X dT_begin_37 (tgt := 12) rfl ?_
      refine wk_lv [1, 2, 3, 0] (lv' := [(0, .ref (a 0)), (1, .int v1), (2, .int v2), (3, .int (v3 + (1 : Int32)))]) rfl ?_
      exact ih (S.1, q2, q4, S.2.2.2.1, S.2.2.2.2.1, S.2.2.2.2.2.1, S.2.2.2.2.2.2.1, S.2.2.2.2.2.2.2) v1 v2 (v3 + (1 : Int32)) hf
set_option maxRecDepth 100000 in
set_option maxHeartbeats 4000000 in
theorem mT_begin {V : ee_V} (a : Nat → Nat) (S : pT) (v1 : Int32) (v2 : Int32) (R : pT) (hf : fT_begin S v1 v2 = some R) : wk_V (ee V) yT_begin ts_T_begin ⟨1, 0, 0, 20⟩ [.ref (a 0), .int v1, .int v2] (cT V a S) (fun u : pT => R = u) (fun u : pT => cT V a u) := by
  refine wk_of (ee_ok V) (by decide +kernel) rfl (Nat.le_of_ble_eq_true rfl) ?_
  intro x X Z
  unfold fT_begin at hf
  refine wk_lq (lv' := [(0, .ref (a 0)), (1, .int v1), (2, .int v2)]) rfl ?_
  refine wk_aload_n X 0 dT_begin_0 rfl rfl ?_
  refine wk_iload_n X 1 dT_begin_1 rfl rfl ?_
  refine wk_put X uw_T 0 rfl rfl 6 (Nat.le_of_ble_eq_true rfl) ft_T ft_T_ok fn_T (tl tw_74) rfl rfl rfl rfl (Nat.le_of_ble_eq_true rfl) dT_begin_2 (ws' := cT V a (S.1, S.2.1, S.2.2.1, S.2.2.2.1, S.2.2.2.2.1, S.2.2.2.2.2.1, v1, S.2.2.2.2.2.2.2)) rfl ?_
  refine wk_aload_n X 0 dT_begin_5 rfl rfl ?_
  refine wk_iload_n X 2 dT_begin_6 rfl rfl ?_
  refine wk_put X uw_T 0 rfl rfl 7 (Nat.le_of_ble_eq_true rfl) ft_T ft_T_ok fn_T (tl tw_77) rfl rfl rfl rfl (Nat.le_of_ble_eq_true rfl) dT_begin_7 (ws' := cT V a (S.1, S.2.1, S.2.2.1, S.2.2.2.1, S.2.2.2.2.1, S.2.2.2.2.2.1, v1, v2)) rfl ?_
  refine wk_iconst X dT_begin_10 (v := (0 : Int32)) (by decide) ?_
  refine wk_istore_n X dT_begin_11 rfl (Nat.le_of_ble_eq_true rfl) (lv' := [(3, .int (0 : Int32)), (0, .ref (a 0)), (1, .int v1), (2, .int v2)]) rfl ?_
  refine wk_lv [1, 2, 3, 0] (lv' := [(0, .ref (a 0)), (1, .int v1), (2, .int v2), (3, .int (0 : Int32))]) rfl ?_
  exact wT_begin_L12 a S X R Z 100000 (S.1, S.2.1, S.2.2.1, S.2.2.2.1, S.2.2.2.2.1, S.2.2.2.2.2.1, v1, v2) v1 v2 (0 : Int32) hf
-- M_hasStep: room (1, 21), Option (Bool)
def fM_hasStep (S : pM) (v1 : Int32) (v2 : Int32) : Option (Bool) :=
  (p_rd 16 S.2.2.1 (fM_place v1 v2)).bind fun q1 =>
  some (fM_isState q1)
set_option maxRecDepth 100000 in
set_option maxHeartbeats 4000000 in
theorem mM_hasStep {V : ee_V} (a : Nat → Nat) (S : pM) (v1 : Int32) (v2 : Int32) (R : Bool) (hf : fM_hasStep S v1 v2 = some R) : wk_I (ee V) yM_hasStep ts_M_hasStep ⟨1, 0, 0, 21⟩ [.ref (a 0), .int v1, .int v2] (cM V a S) (fun (r : Int32) (_ : Unit) => p_b (R) = r) (fun _ : Unit => cM V a S) := by
  refine wk_of (ee_ok V) (by decide +kernel) rfl (Nat.le_of_ble_eq_true rfl) ?_
  intro x X Z
  unfold fM_hasStep at hf
  refine wk_lq (lv' := [(0, .ref (a 0)), (1, .int v1), (2, .int v2)]) rfl ?_
  refine wk_aload_n X 0 dM_hasStep_0 rfl rfl ?_
  refine wk_get X uw_M 0 rfl rfl 2 (Nat.le_of_ble_eq_true rfl) (tl tw_30) rfl rfl dM_hasStep_1 ?_
  refine wk_iload_n X 1 dM_hasStep_4 rfl rfl ?_
  refine wk_iload_n X 2 dM_hasStep_5 rfl rfl ?_
  refine wk_goI [] (wk_rS X (mM_place (V := V) v1 v2 (fM_place v1 v2) rfl) rfl (gd (tw_167)) [] rfl rfl (tl tw_165) (tl tw_166) (tl tw_3) 2 pd_M_place rfl ⟨rfl, rfl⟩ ⟨Nat.le_of_ble_eq_true rfl, Nat.le_of_ble_eq_true rfl⟩ rfl (Nat.le_of_ble_eq_true rfl) dM_hasStep_6) rfl ?_
  rintro r ⟨⟩ rfl
  refine wk_ws (ws' := cM V a S) rfl ?_
  obtain ⟨q1, h2, hf⟩ := p_ob hf
  obtain ⟨h2i, h2e⟩ := p_rd_some h2
  refine wk_iald X 3 0 rfl rfl h2i h2e dM_hasStep_9 ?_
  refine wk_goI [] (wk_rS X (mM_isState (V := V) q1 (fM_isState q1) rfl) rfl (gd (tw_161)) [] rfl rfl (tl tw_159) (tl tw_160) (tl tw_3) 1 pd_M_isState rfl ⟨rfl, rfl⟩ ⟨Nat.le_of_ble_eq_true rfl, Nat.le_of_ble_eq_true rfl⟩ rfl (Nat.le_of_ble_eq_true rfl) dM_hasStep_10) rfl ?_
  rintro r ⟨⟩ rfl
  refine wk_ws (ws' := cM V a S) rfl ?_
  have hf := Option.some.inj hf
  exact wk_iret X Z (p_nar _) dM_hasStep_13 () (Eq.symm (congrArg p_b hf)) rfl rfl
-- T_hasLetter: room (0, 0), Bool
def fT_hasLetter (S : pT) (v1 : Int32) : Bool :=
  if v1 < 0 then (
    false
  ) else (
    if S.2.2.2.2.2.2.1 ≤ v1 then (
      false
    ) else (
      true
    )
  )
set_option maxRecDepth 100000 in
set_option maxHeartbeats 4000000 in
theorem mT_hasLetter {V : ee_V} (a : Nat → Nat) (S : pT) (v1 : Int32) (R : Bool) (hf : fT_hasLetter S v1 = R) : wk_I (ee V) yT_hasLetter ts_T_hasLetter ⟨0, 0, 0, 0⟩ [.ref (a 0), .int v1] (cT V a S) (fun (r : Int32) (_ : Unit) => p_b (R) = r) (fun _ : Unit => cT V a S) := by
  refine wk_of (ee_ok V) (by decide +kernel) rfl (Nat.le_of_ble_eq_true rfl) ?_
  intro x X Z
  unfold fT_hasLetter at hf
  refine wk_lq (lv' := [(0, .ref (a 0)), (1, .int v1)]) rfl ?_
  refine wk_iload_n X 1 dT_hasLetter_0 rfl rfl ?_
  refine wk_if_lt X dT_hasLetter_1 (tgt := 16) rfl (fun h1 => ?_) (fun h1 => ?_)
  · replace hf := p_it h1 hf
    refine wk_iconst X dT_hasLetter_16 (v := (0 : Int32)) (by decide) ?_
    exact wk_iret X Z rfl dT_hasLetter_17 () (Eq.symm (congrArg p_b hf)) rfl rfl
  · replace hf := p_ie h1 hf
    refine wk_iload_n X 1 dT_hasLetter_4 rfl rfl ?_
    refine wk_aload_n X 0 dT_hasLetter_5 rfl rfl ?_
    refine wk_get X uw_T 0 rfl rfl 6 (Nat.le_of_ble_eq_true rfl) (tl tw_74) rfl rfl dT_hasLetter_6 ?_
    refine wk_icmp_ge X dT_hasLetter_9 (tgt := 16) rfl (fun h2 => ?_) (fun h2 => ?_)
    · replace hf := p_it h2 hf
      refine wk_iconst X dT_hasLetter_16 (v := (0 : Int32)) (by decide) ?_
      exact wk_iret X Z rfl dT_hasLetter_17 () (Eq.symm (congrArg p_b hf)) rfl rfl
    · replace hf := p_ie h2 hf
      refine wk_iconst X dT_hasLetter_12 (v := (1 : Int32)) (by decide) ?_
      refine wk_goto X dT_hasLetter_13 (tgt := 17) rfl ?_
      exact wk_iret X Z rfl dT_hasLetter_17 () (Eq.symm (congrArg p_b hf)) rfl rfl
-- T_setHalting: room (1, 21), Option (Bool × pT)
def fT_setHalting (S : pT) (v1 : Int32) (v2 : Bool) : Option (Bool × pT) :=
  if (fT_hasLetter S v1) = true then (
    (p_wr 300 S.2.2.1 v1 (p_b v2)).bind fun q2 =>
    some (true, (S.1, S.2.1, q2, S.2.2.2.1, S.2.2.2.2.1, S.2.2.2.2.2.1, S.2.2.2.2.2.2.1, S.2.2.2.2.2.2.2))
  ) else (
    some (false, S)
  )
set_option maxRecDepth 100000 in
set_option maxHeartbeats 4000000 in
theorem mT_setHalting {V : ee_V} (a : Nat → Nat) (S : pT) (v1 : Int32) (v2 : Bool) (R : Bool × pT) (hf : fT_setHalting S v1 v2 = some R) : wk_I (ee V) yT_setHalting ts_T_setHalting ⟨1, 0, 0, 21⟩ [.ref (a 0), .int v1, .int (p_b v2)] (cT V a S) (fun (r : Int32) (u : pT) => p_b (R.1) = r ∧ R.2 = u) (fun u : pT => cT V a u) := by
  refine wk_of (ee_ok V) (by decide +kernel) rfl (Nat.le_of_ble_eq_true rfl) ?_
  intro x X Z
  unfold fT_setHalting at hf
  refine wk_lq (lv' := [(0, .ref (a 0)), (1, .int v1), (2, .int (p_b v2))]) rfl ?_
  refine wk_aload_n X 0 dT_setHalting_0 rfl rfl ?_
  refine wk_iload_n X 1 dT_setHalting_1 rfl rfl ?_
  refine wk_goI [0, 1, 2, 3, 4] (wk_rV X (mT_hasLetter (V := V) a S v1 (fT_hasLetter S v1) rfl) rfl (gd (tw_229)) [0, 1, 2, 3, 4] rfl rfl 0 rfl rfl (tl tw_226) (tl tw_227) (tl tw_228) (tl tw_4) 1 pd_T_hasLetter rfl ⟨rfl, rfl⟩ ⟨Nat.le_of_ble_eq_true rfl, Nat.le_of_ble_eq_true rfl⟩ rfl (Nat.le_of_ble_eq_true rfl) dT_setHalting_2) rfl ?_
  rintro r ⟨⟩ rfl
  refine wk_ws (ws' := cT V a S) rfl ?_
  refine wk_bz_ne X dT_setHalting_5 (tgt := 10) rfl (fun h1 => ?_) (fun h1 => ?_)
  · replace hf := p_it h1 hf
    refine wk_aload_n X 0 dT_setHalting_10 rfl rfl ?_
    refine wk_get X uw_T 0 rfl rfl 2 (Nat.le_of_ble_eq_true rfl) (tl tw_67) rfl rfl dT_setHalting_11 ?_
    refine wk_iload_n X 1 dT_setHalting_14 rfl rfl ?_
    refine wk_iload_n X 2 dT_setHalting_15 rfl rfl ?_
    obtain ⟨q2, h3, hf⟩ := p_ob hf
    obtain ⟨h3i, h3e⟩ := p_wr_some h3
    refine wk_zast X 3 1 rfl rfl h3i (p_vnar _) h3e dT_setHalting_16 (ws' := cT V a (S.1, S.2.1, q2, S.2.2.2.1, S.2.2.2.2.1, S.2.2.2.2.2.1, S.2.2.2.2.2.2.1, S.2.2.2.2.2.2.2)) rfl ?_
    refine wk_iconst X dT_setHalting_17 (v := (1 : Int32)) (by decide) ?_
    have hf := Option.some.inj hf
    exact wk_iret X Z rfl dT_setHalting_18 ((S.1, S.2.1, q2, S.2.2.2.1, S.2.2.2.2.1, S.2.2.2.2.2.1, S.2.2.2.2.2.2.1, S.2.2.2.2.2.2.2)) ⟨Eq.symm (congrArg p_b (congrArg Prod.fst hf)), Eq.symm (congrArg Prod.snd hf)⟩ rfl rfl
  · replace hf := p_ie h1 hf
    refine wk_iconst X dT_setHalting_8 (v := (0 : Int32)) (by decide) ?_
    have hf := Option.some.inj hf
    exact wk_iret X Z rfl dT_setHalting_9 (S) ⟨Eq.symm (congrArg p_b (congrArg Prod.fst hf)), Eq.symm (congrArg Prod.snd hf)⟩ rfl rfl

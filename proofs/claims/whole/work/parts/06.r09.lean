-- R_stepTag: room (2, 44), Option (Int32 × pR)
def fR_stepTag_L2 : Nat → pR → Int32 → Int32 → Option (Int32 × pR)
  | 0, _, _, _ => none
  | n + 1, S, v1, v2 =>
    if (fR_steps v1) ≤ v2 then (
      some (v2, S)
    ) else (
      (fR_tagCan S).bind fun q2 =>
      if q2 = (1 : Int32) then (
        (fR_tagStep S).bind fun q5 =>
        fR_stepTag_L2 n q5 v1 (v2 + (1 : Int32))
      ) else (
        some (v2, S)
      )
    )
def fR_stepTag (S : pR) (v1 : Int32) : Option (Int32 × pR) :=
  fR_stepTag_L2 100000 S v1 (0 : Int32)
set_option maxRecDepth 100000 in
set_option maxHeartbeats 4000000 in
theorem wR_stepTag_L2 {V : ee_V} (a : Nat → Nat) (S0 : pR) {x : wk_C} (X : wk_K (ee V) x cR_stepTag 3 "TagWorkshopModel" ts_R_stepTag ⟨2, 0, 0, 44⟩) (R : Int32 × pR) (Z : wk_N x (some .int) (va_Qi (fun (r : Int32) (u : pR) => R.1 = r ∧ R.2 = u) (wk_B (ee V) (cR V a S0) (fun u : pR => cR V a u)) (wk_in (cR V a S0))) (cR V a S0)) : ∀ (n : Nat) (S : pR) (v1 : Int32) (v2 : Int32), fR_stepTag_L2 n S v1 v2 = some R → wk_G (ee V) x 3 (cR V a S) 2 [(0, .ref (a 0)), (1, .int v1), (2, .int v2)] [] := by
  intro n
  induction n with
  | zero => intro S v1 v2 hf; exact absurd hf (by rw [fR_stepTag_L2]; exact fun h => by cases h)
  | succ n ih =>
    intro S v1 v2 hf
    rw [fR_stepTag_L2] at hf
    refine wk_iload_n X 2 dR_stepTag_2 rfl rfl ?_
    refine wk_iload_n X 1 dR_stepTag_3 rfl rfl ?_
    refine wk_goI [] (wk_rS X (mR_steps (V := V) v1 (fR_steps v1) rfl) rfl (gd (tw_648)) [] rfl rfl (tl tw_646) (tl tw_647) (tl tw_7) 1 pd_R_steps rfl ⟨rfl, rfl⟩ ⟨Nat.le_of_ble_eq_true rfl, Nat.le_of_ble_eq_true rfl⟩ rfl (Nat.le_of_ble_eq_true rfl) dR_stepTag_4) rfl ?_
    rintro r ⟨⟩ rfl
    refine wk_ws (ws' := cR V a S) rfl ?_
    refine wk_icmp_ge X dR_stepTag_7 (tgt := 28) rfl (fun h1 => ?_) (fun h1 => ?_)
    · replace hf := p_it h1 hf
      refine wk_iload_n X 2 dR_stepTag_28 rfl rfl ?_
      have hf := Option.some.inj hf
      exact wk_iret X Z rfl dR_stepTag_29 (S) ⟨Eq.symm (congrArg Prod.fst hf), Eq.symm (congrArg Prod.snd hf)⟩ rfl rfl
    · replace hf := p_ie h1 hf
      refine wk_aload_n X 0 dR_stepTag_10 rfl rfl ?_
      obtain ⟨q2, h3, hf⟩ := p_ob hf
      refine wk_goI [0, 1, 2, 3, 4, 5, 6, 7, 8, 9, 10, 11, 12] (wk_rV X (mR_tagCan (V := V) a S q2 h3) rfl (gd (tw_747)) [0, 1, 2, 3, 4, 5, 6, 7, 8, 9, 10, 11, 12] rfl rfl 0 rfl rfl (tl tw_744) (tl tw_746) (tl tv_17) (tl tw_7) 0 pd_R_tagCan rfl ⟨rfl, rfl⟩ ⟨Nat.le_of_ble_eq_true rfl, Nat.le_of_ble_eq_true rfl⟩ rfl (Nat.le_of_ble_eq_true rfl) dR_stepTag_11) rfl ?_
      rintro r ⟨⟩ rfl
      refine wk_ws (ws' := cR V a S) rfl ?_
      refine wk_iconst X dR_stepTag_14 (v := (1 : Int32)) (by decide) ?_
      refine wk_icmp_ne X dR_stepTag_15 (tgt := 28) rfl (fun h4 => ?_) (fun h4 => ?_)
      · replace hf := p_ie h4 hf
        refine wk_iload_n X 2 dR_stepTag_28 rfl rfl ?_
        have hf := Option.some.inj hf
        exact wk_iret X Z rfl dR_stepTag_29 (S) ⟨Eq.symm (congrArg Prod.fst hf), Eq.symm (congrArg Prod.snd hf)⟩ rfl rfl
      · replace hf := p_it h4 hf
        refine wk_aload_n X 0 dR_stepTag_18 rfl rfl ?_
        obtain ⟨q5, h6, hf⟩ := p_ob hf
        refine wk_goV [0, 1, 2, 3, 4, 5, 6, 7, 8, 9, 10, 11, 12] (wk_rV X (mR_tagStep (V := V) a S q5 h6) rfl (gd (tw_751)) [0, 1, 2, 3, 4, 5, 6, 7, 8, 9, 10, 11, 12] rfl rfl 0 rfl rfl (tl tw_748) (tl tw_750) (tl tv_18) (tl tw_7) 0 pd_R_tagStep rfl ⟨rfl, rfl⟩ ⟨Nat.le_of_ble_eq_true rfl, Nat.le_of_ble_eq_true rfl⟩ rfl (Nat.le_of_ble_eq_true rfl) dR_stepTag_19) rfl ?_
        rintro u rfl
        refine wk_ws (ws' := cR V a q5) rfl ?_
        refine wk_iinc X 2 dR_stepTag_22 (v := (v2 + (1 : Int32))) rfl rfl (Nat.le_of_ble_eq_true rfl) (lv' := [(2, .int (v2 + (1 : Int32))), (0, .ref (a 0)), (1, .int v1)]) rfl ?_
        refine wk_goto X dR_stepTag_25 (tgt := 2) rfl ?_
        refine wk_lv [1, 2, 0] (lv' := [(0, .ref (a 0)), (1, .int v1), (2, .int (v2 + (1 : Int32)))]) rfl ?_
        exact ih q5 v1 (v2 + (1 : Int32)) hf
set_option maxRecDepth 100000 in
set_option maxHeartbeats 4000000 in
theorem mR_stepTag {V : ee_V} (a : Nat → Nat) (S : pR) (v1 : Int32) (R : Int32 × pR) (hf : fR_stepTag S v1 = some R) : wk_I (ee V) yR_stepTag ts_R_stepTag ⟨2, 0, 0, 44⟩ [.ref (a 0), .int v1] (cR V a S) (fun (r : Int32) (u : pR) => R.1 = r ∧ R.2 = u) (fun u : pR => cR V a u) := by
  refine wk_of (ee_ok V) (by decide +kernel) rfl (Nat.le_of_ble_eq_true rfl) ?_
  intro x X Z
  unfold fR_stepTag at hf
  refine wk_lq (lv' := [(0, .ref (a 0)), (1, .int v1)]) rfl ?_
  refine wk_iconst X dR_stepTag_0 (v := (0 : Int32)) (by decide) ?_
  refine wk_istore_n X dR_stepTag_1 rfl (Nat.le_of_ble_eq_true rfl) (lv' := [(2, .int (0 : Int32)), (0, .ref (a 0)), (1, .int v1)]) rfl ?_
  refine wk_lv [1, 2, 0] (lv' := [(0, .ref (a 0)), (1, .int v1), (2, .int (0 : Int32))]) rfl ?_
  exact wR_stepTag_L2 a S X R Z 100000 S v1 (0 : Int32) hf
-- R_tagNow: room (1, 21), Option (Int32)
def fR_tagNow (S : pR) (v1 : Int32) : Option (Int32) :=
  if v1 = 0 then (
    some S.2.1.1
  ) else (
    if v1 = (1 : Int32) then (
      some (S.2.1.2.2.2.2.2.2.2 - S.2.1.2.2.2.2.2.2.1)
    ) else (
      if v1 = (2 : Int32) then (
        (fR_tagCan S).bind fun q4 =>
        some q4
      ) else (
        some (-1 : Int32)
      )
    )
  )
set_option maxRecDepth 100000 in
set_option maxHeartbeats 4000000 in
theorem mR_tagNow {V : ee_V} (a : Nat → Nat) (S : pR) (v1 : Int32) (R : Int32) (hf : fR_tagNow S v1 = some R) : wk_I (ee V) yR_tagNow ts_R_tagNow ⟨1, 0, 0, 21⟩ [.ref (a 0), .int v1] (cR V a S) (fun (r : Int32) (_ : Unit) => R = r) (fun _ : Unit => cR V a S) := by
  refine wk_of (ee_ok V) (by decide +kernel) rfl (Nat.le_of_ble_eq_true rfl) ?_
  intro x X Z
  unfold fR_tagNow at hf
  refine wk_lq (lv' := [(0, .ref (a 0)), (1, .int v1)]) rfl ?_
  refine wk_iload_n X 1 dR_tagNow_0 rfl rfl ?_
  refine wk_if_ne X dR_tagNow_1 (tgt := 11) rfl (fun h1 => ?_) (fun h1 => ?_)
  · replace hf := p_ie h1 hf
    refine wk_iload_n X 1 dR_tagNow_11 rfl rfl ?_
    refine wk_iconst X dR_tagNow_12 (v := (1 : Int32)) (by decide) ?_
    refine wk_icmp_ne X dR_tagNow_13 (tgt := 28) rfl (fun h2 => ?_) (fun h2 => ?_)
    · replace hf := p_ie h2 hf
      refine wk_iload_n X 1 dR_tagNow_28 rfl rfl ?_
      refine wk_iconst X dR_tagNow_29 (v := (2 : Int32)) (by decide) ?_
      refine wk_icmp_ne X dR_tagNow_30 (tgt := 40) rfl (fun h3 => ?_) (fun h3 => ?_)
      · replace hf := p_ie h3 hf
        refine wk_iconst X dR_tagNow_40 (v := (-1 : Int32)) (by decide) ?_
        have hf := Option.some.inj hf
        exact wk_iret X Z rfl dR_tagNow_41 () (Eq.symm hf) rfl rfl
      · replace hf := p_it h3 hf
        refine wk_aload_n X 0 dR_tagNow_33 rfl rfl ?_
        obtain ⟨q4, h5, hf⟩ := p_ob hf
        refine wk_goI [0, 1, 2, 3, 4, 5, 6, 7, 8, 9, 10, 11, 12] (wk_rV X (mR_tagCan (V := V) a S q4 h5) rfl (gd (tw_747)) [0, 1, 2, 3, 4, 5, 6, 7, 8, 9, 10, 11, 12] rfl rfl 0 rfl rfl (tl tw_744) (tl tw_746) (tl tv_17) (tl tw_7) 0 pd_R_tagCan rfl ⟨rfl, rfl⟩ ⟨Nat.le_of_ble_eq_true rfl, Nat.le_of_ble_eq_true rfl⟩ rfl (Nat.le_of_ble_eq_true rfl) dR_tagNow_34) rfl ?_
        rintro r ⟨⟩ rfl
        refine wk_ws (ws' := cR V a S) rfl ?_
        refine wk_goto X dR_tagNow_37 (tgt := 41) rfl ?_
        have hf := Option.some.inj hf
        exact wk_iret X Z rfl dR_tagNow_41 () (Eq.symm hf) rfl rfl
    · replace hf := p_it h2 hf
      refine wk_aload_n X 0 dR_tagNow_16 rfl rfl ?_
      refine wk_get X uw_R 0 rfl rfl 15 (Nat.le_of_ble_eq_true rfl) (tl tw_552) rfl rfl dR_tagNow_17 ?_
      refine wk_aload_n X 0 dR_tagNow_20 rfl rfl ?_
      refine wk_get X uw_R 0 rfl rfl 14 (Nat.le_of_ble_eq_true rfl) (tl tw_551) rfl rfl dR_tagNow_21 ?_
      refine wk_isub X dR_tagNow_24 ?_
      refine wk_goto X dR_tagNow_25 (tgt := 41) rfl ?_
      have hf := Option.some.inj hf
      exact wk_iret X Z rfl dR_tagNow_41 () (Eq.symm hf) rfl rfl
  · replace hf := p_it h1 hf
    refine wk_aload_n X 0 dR_tagNow_4 rfl rfl ?_
    refine wk_get X uw_R 0 rfl rfl 8 (Nat.le_of_ble_eq_true rfl) (tl tw_545) rfl rfl dR_tagNow_5 ?_
    refine wk_goto X dR_tagNow_8 (tgt := 41) rfl ?_
    have hf := Option.some.inj hf
    exact wk_iret X Z rfl dR_tagNow_41 () (Eq.symm hf) rfl rfl
-- R_tagLetter: room (0, 0), Option (Int32)
def fR_tagLetter (S : pR) (v1 : Int32) : Option (Int32) :=
  if v1 < 0 then (
    some (-1 : Int32)
  ) else (
    if v1 < (S.2.1.2.2.2.2.2.2.2 - S.2.1.2.2.2.2.2.2.1) then (
      (p_rd 12000 S.2.1.2.2.2.2.2.1 (S.2.1.2.2.2.2.2.2.1 + v1)).bind fun q3 =>
      some q3
    ) else (
      some (-1 : Int32)
    )
  )
set_option maxRecDepth 100000 in
set_option maxHeartbeats 4000000 in
theorem mR_tagLetter {V : ee_V} (a : Nat → Nat) (S : pR) (v1 : Int32) (R : Int32) (hf : fR_tagLetter S v1 = some R) : wk_I (ee V) yR_tagLetter ts_R_tagLetter ⟨0, 0, 0, 0⟩ [.ref (a 0), .int v1] (cR V a S) (fun (r : Int32) (_ : Unit) => R = r) (fun _ : Unit => cR V a S) := by
  refine wk_of (ee_ok V) (by decide +kernel) rfl (Nat.le_of_ble_eq_true rfl) ?_
  intro x X Z
  unfold fR_tagLetter at hf
  refine wk_lq (lv' := [(0, .ref (a 0)), (1, .int v1)]) rfl ?_
  refine wk_iload_n X 1 dR_tagLetter_0 rfl rfl ?_
  refine wk_if_lt X dR_tagLetter_1 (tgt := 17) rfl (fun h1 => ?_) (fun h1 => ?_)
  · replace hf := p_it h1 hf
    refine wk_iconst X dR_tagLetter_17 (v := (-1 : Int32)) (by decide) ?_
    refine wk_goto X dR_tagLetter_18 (tgt := 32) rfl ?_
    have hf := Option.some.inj hf
    exact wk_iret X Z rfl dR_tagLetter_32 () (Eq.symm hf) rfl rfl
  · replace hf := p_ie h1 hf
    refine wk_iload_n X 1 dR_tagLetter_4 rfl rfl ?_
    refine wk_aload_n X 0 dR_tagLetter_5 rfl rfl ?_
    refine wk_get X uw_R 0 rfl rfl 15 (Nat.le_of_ble_eq_true rfl) (tl tw_552) rfl rfl dR_tagLetter_6 ?_
    refine wk_aload_n X 0 dR_tagLetter_9 rfl rfl ?_
    refine wk_get X uw_R 0 rfl rfl 14 (Nat.le_of_ble_eq_true rfl) (tl tw_551) rfl rfl dR_tagLetter_10 ?_
    refine wk_isub X dR_tagLetter_13 ?_
    refine wk_icmp_lt X dR_tagLetter_14 (tgt := 21) rfl (fun h2 => ?_) (fun h2 => ?_)
    · replace hf := p_it h2 hf
      refine wk_aload_n X 0 dR_tagLetter_21 rfl rfl ?_
      refine wk_get X uw_R 0 rfl rfl 13 (Nat.le_of_ble_eq_true rfl) (tl tw_550) rfl rfl dR_tagLetter_22 ?_
      refine wk_aload_n X 0 dR_tagLetter_25 rfl rfl ?_
      refine wk_get X uw_R 0 rfl rfl 14 (Nat.le_of_ble_eq_true rfl) (tl tw_551) rfl rfl dR_tagLetter_26 ?_
      refine wk_iload_n X 1 dR_tagLetter_29 rfl rfl ?_
      refine wk_iadd X dR_tagLetter_30 ?_
      obtain ⟨q3, h4, hf⟩ := p_ob hf
      obtain ⟨h4i, h4e⟩ := p_rd_some h4
      refine wk_iald X 8 0 rfl rfl h4i h4e dR_tagLetter_31 ?_
      have hf := Option.some.inj hf
      exact wk_iret X Z rfl dR_tagLetter_32 () (Eq.symm hf) rfl rfl
    · replace hf := p_ie h2 hf
      refine wk_iconst X dR_tagLetter_17 (v := (-1 : Int32)) (by decide) ?_
      refine wk_goto X dR_tagLetter_18 (tgt := 32) rfl ?_
      have hf := Option.some.inj hf
      exact wk_iret X Z rfl dR_tagLetter_32 () (Eq.symm hf) rfl rfl
-- R_pushBlock: room (0, 0), Option (pR)
def fR_pushBlock_L15 : Nat → pR → Int32 → Int32 → Option (pR)
  | 0, _, _, _ => none
  | n + 1, S, v1, v2 =>
    if S.2.2.1.2.2.2.2.2.2.1 ≤ v2 then (
      (p_wr 12000 S.2.2.1.2.2.2.2.1 (S.2.2.1.2.2.2.2.2.2.1 - S.2.2.1.2.2.2.2.2.1) v1).bind fun q5 =>
      some (S.1, S.2.1, (S.2.2.1.1, S.2.2.1.2.1, S.2.2.1.2.2.1, S.2.2.1.2.2.2.1, q5, (0 : Int32), ((S.2.2.1.2.2.2.2.2.2.1 - S.2.2.1.2.2.2.2.2.1) + (1 : Int32)), S.2.2.1.2.2.2.2.2.2.2.1, S.2.2.1.2.2.2.2.2.2.2.2), S.2.2.2)
    ) else (
      (p_rd 12000 S.2.2.1.2.2.2.2.1 v2).bind fun q7 =>
      (p_wr 12000 S.2.2.1.2.2.2.2.1 (v2 - S.2.2.1.2.2.2.2.2.1) q7).bind fun q9 =>
      fR_pushBlock_L15 n (S.1, S.2.1, (S.2.2.1.1, S.2.2.1.2.1, S.2.2.1.2.2.1, S.2.2.1.2.2.2.1, q9, S.2.2.1.2.2.2.2.2.1, S.2.2.1.2.2.2.2.2.2.1, S.2.2.1.2.2.2.2.2.2.2.1, S.2.2.1.2.2.2.2.2.2.2.2), S.2.2.2) v1 (v2 + (1 : Int32))
    )
def fR_pushBlock (S : pR) (v1 : Int32) : Option (pR) :=
  if S.2.2.1.2.2.2.2.2.2.1 = (12000 : Int32) then (
    fR_pushBlock_L15 100000 S v1 S.2.2.1.2.2.2.2.2.1
  ) else (
    (p_wr 12000 S.2.2.1.2.2.2.2.1 S.2.2.1.2.2.2.2.2.2.1 v1).bind fun q2 =>
    some (S.1, S.2.1, (S.2.2.1.1, S.2.2.1.2.1, S.2.2.1.2.2.1, S.2.2.1.2.2.2.1, q2, S.2.2.1.2.2.2.2.2.1, (S.2.2.1.2.2.2.2.2.2.1 + (1 : Int32)), S.2.2.1.2.2.2.2.2.2.2.1, S.2.2.1.2.2.2.2.2.2.2.2), S.2.2.2)
  )
set_option maxRecDepth 100000 in
set_option maxHeartbeats 4000000 in
theorem wR_pushBlock_L15 {V : ee_V} (a : Nat → Nat) (S0 : pR) {x : wk_C} (X : wk_K (ee V) x cR_pushBlock 3 "TagWorkshopModel" ts_R_pushBlock ⟨0, 0, 0, 0⟩) (R : pR) (Z : wk_N x none (va_Qv (fun u : pR => R = u) (wk_B (ee V) (cR V a S0) (fun u : pR => cR V a u)) (wk_in (cR V a S0))) (cR V a S0)) : ∀ (n : Nat) (S : pR) (v1 : Int32) (v2 : Int32), fR_pushBlock_L15 n S v1 v2 = some R → wk_G (ee V) x 3 (cR V a S) 15 [(0, .ref (a 0)), (1, .int v1), (2, .int v2)] [] := by
  intro n
  induction n with
  | zero => intro S v1 v2 hf; exact absurd hf (by rw [fR_pushBlock_L15]; exact fun h => by cases h)
  | succ n ih =>
    intro S v1 v2 hf
    rw [fR_pushBlock_L15] at hf
    refine wk_iload_n X 2 dR_pushBlock_15 rfl rfl ?_
    refine wk_aload_n X 0 dR_pushBlock_16 rfl rfl ?_
    refine wk_get X uw_R 0 rfl rfl 22 (Nat.le_of_ble_eq_true rfl) (tl tw_559) rfl rfl dR_pushBlock_17 ?_
    refine wk_icmp_ge X dR_pushBlock_20 (tgt := 46) rfl (fun h4 => ?_) (fun h4 => ?_)
    · replace hf := p_it h4 hf
      refine wk_aload_n X 0 dR_pushBlock_46 rfl rfl ?_
      refine wk_dup X dR_pushBlock_47 rfl ?_
      refine wk_get X uw_R 0 rfl rfl 22 (Nat.le_of_ble_eq_true rfl) (tl tw_559) rfl rfl dR_pushBlock_48 ?_
      refine wk_aload_n X 0 dR_pushBlock_51 rfl rfl ?_
      refine wk_get X uw_R 0 rfl rfl 21 (Nat.le_of_ble_eq_true rfl) (tl tw_558) rfl rfl dR_pushBlock_52 ?_
      refine wk_isub X dR_pushBlock_55 ?_
      refine wk_put X uw_R 0 rfl rfl 22 (Nat.le_of_ble_eq_true rfl) ft_R ft_R_ok fn_R (tl tw_559) rfl rfl rfl rfl (Nat.le_of_ble_eq_true rfl) dR_pushBlock_56 (ws' := cR V a (S.1, S.2.1, (S.2.2.1.1, S.2.2.1.2.1, S.2.2.1.2.2.1, S.2.2.1.2.2.2.1, S.2.2.1.2.2.2.2.1, S.2.2.1.2.2.2.2.2.1, (S.2.2.1.2.2.2.2.2.2.1 - S.2.2.1.2.2.2.2.2.1), S.2.2.1.2.2.2.2.2.2.2.1, S.2.2.1.2.2.2.2.2.2.2.2), S.2.2.2)) rfl ?_
      refine wk_aload_n X 0 dR_pushBlock_59 rfl rfl ?_
      refine wk_iconst X dR_pushBlock_60 (v := (0 : Int32)) (by decide) ?_
      refine wk_put X uw_R 0 rfl rfl 21 (Nat.le_of_ble_eq_true rfl) ft_R ft_R_ok fn_R (tl tw_558) rfl rfl rfl rfl (Nat.le_of_ble_eq_true rfl) dR_pushBlock_61 (ws' := cR V a (S.1, S.2.1, (S.2.2.1.1, S.2.2.1.2.1, S.2.2.1.2.2.1, S.2.2.1.2.2.2.1, S.2.2.1.2.2.2.2.1, (0 : Int32), (S.2.2.1.2.2.2.2.2.2.1 - S.2.2.1.2.2.2.2.2.1), S.2.2.1.2.2.2.2.2.2.2.1, S.2.2.1.2.2.2.2.2.2.2.2), S.2.2.2)) rfl ?_
      refine wk_aload_n X 0 dR_pushBlock_64 rfl rfl ?_
      refine wk_get X uw_R 0 rfl rfl 20 (Nat.le_of_ble_eq_true rfl) (tl tw_557) rfl rfl dR_pushBlock_65 ?_
      refine wk_aload_n X 0 dR_pushBlock_68 rfl rfl ?_
      refine wk_get X uw_R 0 rfl rfl 22 (Nat.le_of_ble_eq_true rfl) (tl tw_559) rfl rfl dR_pushBlock_69 ?_
      refine wk_iload_n X 1 dR_pushBlock_72 rfl rfl ?_
      obtain ⟨q5, h6, hf⟩ := p_ob hf
      obtain ⟨h6i, h6e⟩ := p_wr_some h6
      refine wk_iast X 12 0 rfl rfl h6i h6e dR_pushBlock_73 (ws' := cR V a (S.1, S.2.1, (S.2.2.1.1, S.2.2.1.2.1, S.2.2.1.2.2.1, S.2.2.1.2.2.2.1, q5, (0 : Int32), (S.2.2.1.2.2.2.2.2.2.1 - S.2.2.1.2.2.2.2.2.1), S.2.2.1.2.2.2.2.2.2.2.1, S.2.2.1.2.2.2.2.2.2.2.2), S.2.2.2)) rfl ?_
      refine wk_aload_n X 0 dR_pushBlock_74 rfl rfl ?_
      refine wk_dup X dR_pushBlock_75 rfl ?_
      refine wk_get X uw_R 0 rfl rfl 22 (Nat.le_of_ble_eq_true rfl) (tl tw_559) rfl rfl dR_pushBlock_76 ?_
      refine wk_iconst X dR_pushBlock_79 (v := (1 : Int32)) (by decide) ?_
      refine wk_iadd X dR_pushBlock_80 ?_
      refine wk_put X uw_R 0 rfl rfl 22 (Nat.le_of_ble_eq_true rfl) ft_R ft_R_ok fn_R (tl tw_559) rfl rfl rfl rfl (Nat.le_of_ble_eq_true rfl) dR_pushBlock_81 (ws' := cR V a (S.1, S.2.1, (S.2.2.1.1, S.2.2.1.2.1, S.2.2.1.2.2.1, S.2.2.1.2.2.2.1, q5, (0 : Int32), ((S.2.2.1.2.2.2.2.2.2.1 - S.2.2.1.2.2.2.2.2.1) + (1 : Int32)), S.2.2.1.2.2.2.2.2.2.2.1, S.2.2.1.2.2.2.2.2.2.2.2), S.2.2.2)) rfl ?_
      have hf := Option.some.inj hf
      exact wk_vret X Z dR_pushBlock_84 ((S.1, S.2.1, (S.2.2.1.1, S.2.2.1.2.1, S.2.2.1.2.2.1, S.2.2.1.2.2.2.1, q5, (0 : Int32), ((S.2.2.1.2.2.2.2.2.2.1 - S.2.2.1.2.2.2.2.2.1) + (1 : Int32)), S.2.2.1.2.2.2.2.2.2.2.1, S.2.2.1.2.2.2.2.2.2.2.2), S.2.2.2)) (Eq.symm hf) rfl rfl
    · replace hf := p_ie h4 hf
      refine wk_aload_n X 0 dR_pushBlock_23 rfl rfl ?_
      refine wk_get X uw_R 0 rfl rfl 20 (Nat.le_of_ble_eq_true rfl) (tl tw_557) rfl rfl dR_pushBlock_24 ?_
      refine wk_iload_n X 2 dR_pushBlock_27 rfl rfl ?_
      refine wk_aload_n X 0 dR_pushBlock_28 rfl rfl ?_
      refine wk_get X uw_R 0 rfl rfl 21 (Nat.le_of_ble_eq_true rfl) (tl tw_558) rfl rfl dR_pushBlock_29 ?_
      refine wk_isub X dR_pushBlock_32 ?_
      refine wk_aload_n X 0 dR_pushBlock_33 rfl rfl ?_
      refine wk_get X uw_R 0 rfl rfl 20 (Nat.le_of_ble_eq_true rfl) (tl tw_557) rfl rfl dR_pushBlock_34 ?_
      refine wk_iload_n X 2 dR_pushBlock_37 rfl rfl ?_
      obtain ⟨q7, h8, hf⟩ := p_ob hf
      obtain ⟨h8i, h8e⟩ := p_rd_some h8
      refine wk_iald X 12 0 rfl rfl h8i h8e dR_pushBlock_38 ?_
      obtain ⟨q9, h10, hf⟩ := p_ob hf
      obtain ⟨h10i, h10e⟩ := p_wr_some h10
      refine wk_iast X 12 0 rfl rfl h10i h10e dR_pushBlock_39 (ws' := cR V a (S.1, S.2.1, (S.2.2.1.1, S.2.2.1.2.1, S.2.2.1.2.2.1, S.2.2.1.2.2.2.1, q9, S.2.2.1.2.2.2.2.2.1, S.2.2.1.2.2.2.2.2.2.1, S.2.2.1.2.2.2.2.2.2.2.1, S.2.2.1.2.2.2.2.2.2.2.2), S.2.2.2)) rfl ?_
      refine wk_iinc X 2 dR_pushBlock_40 (v := (v2 + (1 : Int32))) rfl rfl (Nat.le_of_ble_eq_true rfl) (lv' := [(2, .int (v2 + (1 : Int32))), (0, .ref (a 0)), (1, .int v1)]) rfl ?_
      refine wk_goto X dR_pushBlock_43 (tgt := 15) rfl ?_
      refine wk_lv [1, 2, 0] (lv' := [(0, .ref (a 0)), (1, .int v1), (2, .int (v2 + (1 : Int32)))]) rfl ?_
      exact ih (S.1, S.2.1, (S.2.2.1.1, S.2.2.1.2.1, S.2.2.1.2.2.1, S.2.2.1.2.2.2.1, q9, S.2.2.1.2.2.2.2.2.1, S.2.2.1.2.2.2.2.2.2.1, S.2.2.1.2.2.2.2.2.2.2.1, S.2.2.1.2.2.2.2.2.2.2.2), S.2.2.2) v1 (v2 + (1 : Int32)) hf
set_option maxRecDepth 100000 in
set_option maxHeartbeats 4000000 in
theorem mR_pushBlock {V : ee_V} (a : Nat → Nat) (S : pR) (v1 : Int32) (R : pR) (hf : fR_pushBlock S v1 = some R) : wk_V (ee V) yR_pushBlock ts_R_pushBlock ⟨0, 0, 0, 0⟩ [.ref (a 0), .int v1] (cR V a S) (fun u : pR => R = u) (fun u : pR => cR V a u) := by
  refine wk_of (ee_ok V) (by decide +kernel) rfl (Nat.le_of_ble_eq_true rfl) ?_
  intro x X Z
  unfold fR_pushBlock at hf
  refine wk_lq (lv' := [(0, .ref (a 0)), (1, .int v1)]) rfl ?_
  refine wk_aload_n X 0 dR_pushBlock_0 rfl rfl ?_
  refine wk_get X uw_R 0 rfl rfl 22 (Nat.le_of_ble_eq_true rfl) (tl tw_559) rfl rfl dR_pushBlock_1 ?_
  refine wk_sipush X dR_pushBlock_4 (v := (12000 : Int32)) (by decide) ?_
  refine wk_icmp_ne X dR_pushBlock_7 (tgt := 64) rfl (fun h1 => ?_) (fun h1 => ?_)
  · replace hf := p_ie h1 hf
    refine wk_aload_n X 0 dR_pushBlock_64 rfl rfl ?_
    refine wk_get X uw_R 0 rfl rfl 20 (Nat.le_of_ble_eq_true rfl) (tl tw_557) rfl rfl dR_pushBlock_65 ?_
    refine wk_aload_n X 0 dR_pushBlock_68 rfl rfl ?_
    refine wk_get X uw_R 0 rfl rfl 22 (Nat.le_of_ble_eq_true rfl) (tl tw_559) rfl rfl dR_pushBlock_69 ?_
    refine wk_iload_n X 1 dR_pushBlock_72 rfl rfl ?_
    obtain ⟨q2, h3, hf⟩ := p_ob hf
    obtain ⟨h3i, h3e⟩ := p_wr_some h3
    refine wk_iast X 12 0 rfl rfl h3i h3e dR_pushBlock_73 (ws' := cR V a (S.1, S.2.1, (S.2.2.1.1, S.2.2.1.2.1, S.2.2.1.2.2.1, S.2.2.1.2.2.2.1, q2, S.2.2.1.2.2.2.2.2.1, S.2.2.1.2.2.2.2.2.2.1, S.2.2.1.2.2.2.2.2.2.2.1, S.2.2.1.2.2.2.2.2.2.2.2), S.2.2.2)) rfl ?_
    refine wk_aload_n X 0 dR_pushBlock_74 rfl rfl ?_
    refine wk_dup X dR_pushBlock_75 rfl ?_
    refine wk_get X uw_R 0 rfl rfl 22 (Nat.le_of_ble_eq_true rfl) (tl tw_559) rfl rfl dR_pushBlock_76 ?_
    refine wk_iconst X dR_pushBlock_79 (v := (1 : Int32)) (by decide) ?_
    refine wk_iadd X dR_pushBlock_80 ?_
    refine wk_put X uw_R 0 rfl rfl 22 (Nat.le_of_ble_eq_true rfl) ft_R ft_R_ok fn_R (tl tw_559) rfl rfl rfl rfl (Nat.le_of_ble_eq_true rfl) dR_pushBlock_81 (ws' := cR V a (S.1, S.2.1, (S.2.2.1.1, S.2.2.1.2.1, S.2.2.1.2.2.1, S.2.2.1.2.2.2.1, q2, S.2.2.1.2.2.2.2.2.1, (S.2.2.1.2.2.2.2.2.2.1 + (1 : Int32)), S.2.2.1.2.2.2.2.2.2.2.1, S.2.2.1.2.2.2.2.2.2.2.2), S.2.2.2)) rfl ?_
    have hf := Option.some.inj hf
    exact wk_vret X Z dR_pushBlock_84 ((S.1, S.2.1, (S.2.2.1.1, S.2.2.1.2.1, S.2.2.1.2.2.1, S.2.2.1.2.2.2.1, q2, S.2.2.1.2.2.2.2.2.1, (S.2.2.1.2.2.2.2.2.2.1 + (1 : Int32)), S.2.2.1.2.2.2.2.2.2.2.1, S.2.2.1.2.2.2.2.2.2.2.2), S.2.2.2)) (Eq.symm hf) rfl rfl
  · replace hf := p_it h1 hf
    refine wk_aload_n X 0 dR_pushBlock_10 rfl rfl ?_
    refine wk_get X uw_R 0 rfl rfl 21 (Nat.le_of_ble_eq_true rfl) (tl tw_558) rfl rfl dR_pushBlock_11 ?_
    refine wk_istore_n X dR_pushBlock_14 rfl (Nat.le_of_ble_eq_true rfl) (lv' := [(2, .int S.2.2.1.2.2.2.2.2.1), (0, .ref (a 0)), (1, .int v1)]) rfl ?_
    refine wk_lv [1, 2, 0] (lv' := [(0, .ref (a 0)), (1, .int v1), (2, .int S.2.2.1.2.2.2.2.2.1)]) rfl ?_
    exact wR_pushBlock_L15 a S X R Z 100000 S v1 S.2.2.1.2.2.2.2.2.1 hf

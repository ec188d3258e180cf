-- R_cyclicNow: room (2, 41), Option (Int32)
def fR_cyclicNow (S : pR) (v1 : Int32) : Option (Int32) :=
  if v1 = 0 then (
    some ((2 : Int32) * S.2.2.1.1)
  ) else (
    if v1 = (1 : Int32) then (
      some (fR_bits S)
    ) else (
      if v1 = (2 : Int32) then (
        (fR_cyclicCan S).bind fun q5 =>
        some q5
      ) else (
        if v1 = (3 : Int32) then (
          some S.2.2.1.2.2.2.2.2.2.2.2
        ) else (
          some (-1 : Int32)
        )
      )
    )
  )
set_option maxRecDepth 100000 in
set_option maxHeartbeats 4000000 in
theorem mR_cyclicNow {V : ee_V} (a : Nat → Nat) (S : pR) (v1 : Int32) (R : Int32) (hf : fR_cyclicNow S v1 = some R) : wk_I (ee V) yR_cyclicNow ts_R_cyclicNow ⟨2, 0, 0, 41⟩ [.ref (a 0), .int v1] (cR V a S) (fun (r : Int32) (_ : Unit) => R = r) (fun _ : Unit => cR V a S) := by
  refine wk_of (ee_ok V) (by decide +kernel) rfl (Nat.le_of_ble_eq_true rfl) ?_
  intro x X Z
  unfold fR_cyclicNow at hf
  refine wk_lq (lv' := [(0, .ref (a 0)), (1, .int v1)]) rfl ?_
  refine wk_iload_n X 1 dR_cyclicNow_0 rfl rfl ?_
  refine wk_if_ne X dR_cyclicNow_1 (tgt := 13) rfl (fun h1 => ?_) (fun h1 => ?_)
  · replace hf := p_ie h1 hf
    refine wk_iload_n X 1 dR_cyclicNow_13 rfl rfl ?_
    refine wk_iconst X dR_cyclicNow_14 (v := (1 : Int32)) (by decide) ?_
    refine wk_icmp_ne X dR_cyclicNow_15 (tgt := 25) rfl (fun h2 => ?_) (fun h2 => ?_)
    · replace hf := p_ie h2 hf
      refine wk_iload_n X 1 dR_cyclicNow_25 rfl rfl ?_
      refine wk_iconst X dR_cyclicNow_26 (v := (2 : Int32)) (by decide) ?_
      refine wk_icmp_ne X dR_cyclicNow_27 (tgt := 37) rfl (fun h3 => ?_) (fun h3 => ?_)
      · replace hf := p_ie h3 hf
        refine wk_iload_n X 1 dR_cyclicNow_37 rfl rfl ?_
        refine wk_iconst X dR_cyclicNow_38 (v := (3 : Int32)) (by decide) ?_
        refine wk_icmp_ne X dR_cyclicNow_39 (tgt := 49) rfl (fun h4 => ?_) (fun h4 => ?_)
        · replace hf := p_ie h4 hf
          refine wk_iconst X dR_cyclicNow_49 (v := (-1 : Int32)) (by decide) ?_
          have hf := Option.some.inj hf
          exact wk_iret X Z rfl dR_cyclicNow_50 () (Eq.symm hf) rfl rfl
        · replace hf := p_it h4 hf
          refine wk_aload_n X 0 dR_cyclicNow_42 rfl rfl ?_
          refine wk_get X uw_R 0 rfl rfl 24 (Nat.le_of_ble_eq_true rfl) (tl tw_561) rfl rfl dR_cyclicNow_43 ?_
          refine wk_goto X dR_cyclicNow_46 (tgt := 50) rfl ?_
          have hf := Option.some.inj hf
          exact wk_iret X Z rfl dR_cyclicNow_50 () (Eq.symm hf) rfl rfl
      · replace hf := p_it h3 hf
        refine wk_aload_n X 0 dR_cyclicNow_30 rfl rfl ?_
        obtain ⟨q5, h6, hf⟩ := p_ob hf
        refine wk_goI [0, 1, 2, 3, 4, 5, 6, 7, 8, 9, 10, 11, 12] (wk_rV X (mR_cyclicCan (V := V) a S q5 h6) rfl (gd (tw_775)) [0, 1, 2, 3, 4, 5, 6, 7, 8, 9, 10, 11, 12] rfl rfl 0 rfl rfl (tl tw_772) (tl tw_774) (tl tv_20) (tl tw_7) 0 pd_R_cyclicCan rfl ⟨rfl, rfl⟩ ⟨Nat.le_of_ble_eq_true rfl, Nat.le_of_ble_eq_true rfl⟩ rfl (Nat.le_of_ble_eq_true rfl) dR_cyclicNow_31) rfl ?_
        rintro r ⟨⟩ rfl
        refine wk_ws (ws' := cR V a S) rfl ?_
        refine wk_goto X dR_cyclicNow_34 (tgt := 50) rfl ?_
        have hf := Option.some.inj hf
        exact wk_iret X Z rfl dR_cyclicNow_50 () (Eq.symm hf) rfl rfl
    · replace hf := p_it h2 hf
      refine wk_aload_n X 0 dR_cyclicNow_18 rfl rfl ?_
      refine wk_goI [0, 1, 2, 3, 4, 5, 6, 7, 8, 9, 10, 11, 12] (wk_rV X (mR_bits (V := V) a S (fR_bits S) rfl) rfl (gd (tw_779)) [0, 1, 2, 3, 4, 5, 6, 7, 8, 9, 10, 11, 12] rfl rfl 0 rfl rfl (tl tw_776) (tl tw_778) (tl tv_21) (tl tw_7) 0 pd_R_bits rfl ⟨rfl, rfl⟩ ⟨Nat.le_of_ble_eq_true rfl, Nat.le_of_ble_eq_true rfl⟩ rfl (Nat.le_of_ble_eq_true rfl) dR_cyclicNow_19) rfl ?_
      rintro r ⟨⟩ rfl
      refine wk_ws (ws' := cR V a S) rfl ?_
      refine wk_goto X dR_cyclicNow_22 (tgt := 50) rfl ?_
      have hf := Option.some.inj hf
      exact wk_iret X Z rfl dR_cyclicNow_50 () (Eq.symm hf) rfl rfl
  · replace hf := p_it h1 hf
    refine wk_iconst X dR_cyclicNow_4 (v := (2 : Int32)) (by decide) ?_
    refine wk_aload_n X 0 dR_cyclicNow_5 rfl rfl ?_
    refine wk_get X uw_R 0 rfl rfl 16 (Nat.le_of_ble_eq_true rfl) (tl tw_553) rfl rfl dR_cyclicNow_6 ?_
    refine wk_imul X dR_cyclicNow_9 ?_
    refine wk_goto X dR_cyclicNow_10 (tgt := 50) rfl ?_
    have hf := Option.some.inj hf
    exact wk_iret X Z rfl dR_cyclicNow_50 () (Eq.symm hf) rfl rfl
-- R_cyclicBit: room (1, 20), Option (Int32)
def fR_cyclicBit (S : pR) (v1 : Int32) : Option (Int32) :=
  if v1 < 0 then (
    some (-1 : Int32)
  ) else (
    if v1 < (fR_bits S) then (
      (p_dv (S.2.2.1.2.2.2.2.2.2.2.1 + v1) S.2.2.1.1).bind fun q3 =>
      (p_rd 12000 S.2.2.1.2.2.2.2.1 (S.2.2.1.2.2.2.2.2.1 + q3)).bind fun q5 =>
      (p_rm (S.2.2.1.2.2.2.2.2.2.2.1 + v1) S.2.2.1.1).bind fun q7 =>
      if q5 = q7 then (
        some (1 : Int32)
      ) else (
        some (0 : Int32)
      )
    ) else (
      some (-1 : Int32)
    )
  )
set_option maxRecDepth 100000 in
set_option maxHeartbeats 4000000 in
theorem mR_cyclicBit {V : ee_V} (a : Nat → Nat) (S : pR) (v1 : Int32) (R : Int32) (hf : fR_cyclicBit S v1 = some R) : wk_I (ee V) yR_cyclicBit ts_R_cyclicBit ⟨1, 0, 0, 20⟩ [.ref (a 0), .int v1] (cR V a S) (fun (r : Int32) (_ : Unit) => R = r) (fun _ : Unit => cR V a S) := by
  refine wk_of (ee_ok V) (by decide +kernel) rfl (Nat.le_of_ble_eq_true rfl) ?_
  intro x X Z
  unfold fR_cyclicBit at hf
  refine wk_lq (lv' := [(0, .ref (a 0)), (1, .int v1)]) rfl ?_
  refine wk_iload_n X 1 dR_cyclicBit_0 rfl rfl ?_
  refine wk_if_lt X dR_cyclicBit_1 (tgt := 12) rfl (fun h1 => ?_) (fun h1 => ?_)
  · replace hf := p_it h1 hf
    refine wk_iconst X dR_cyclicBit_12 (v := (-1 : Int32)) (by decide) ?_
    have hf := Option.some.inj hf
    exact wk_iret X Z rfl dR_cyclicBit_13 () (Eq.symm hf) rfl rfl
  · replace hf := p_ie h1 hf
    refine wk_iload_n X 1 dR_cyclicBit_4 rfl rfl ?_
    refine wk_aload_n X 0 dR_cyclicBit_5 rfl rfl ?_
    refine wk_goI [0, 1, 2, 3, 4, 5, 6, 7, 8, 9, 10, 11, 12] (wk_rV X (mR_bits (V := V) a S (fR_bits S) rfl) rfl (gd (tw_779)) [0, 1, 2, 3, 4, 5, 6, 7, 8, 9, 10, 11, 12] rfl rfl 0 rfl rfl (tl tw_776) (tl tw_778) (tl tv_21) (tl tw_7) 0 pd_R_bits rfl ⟨rfl, rfl⟩ ⟨Nat.le_of_ble_eq_true rfl, Nat.le_of_ble_eq_true rfl⟩ rfl (Nat.le_of_ble_eq_true rfl) dR_cyclicBit_6) rfl ?_
    rintro r ⟨⟩ rfl
    refine wk_ws (ws' := cR V a S) rfl ?_
    refine wk_icmp_lt X dR_cyclicBit_9 (tgt := 14) rfl (fun h2 => ?_) (fun h2 => ?_)
    · replace hf := p_it h2 hf
      refine wk_aload_n X 0 dR_cyclicBit_14 rfl rfl ?_
      refine wk_get X uw_R 0 rfl rfl 23 (Nat.le_of_ble_eq_true rfl) (tl tw_560) rfl rfl dR_cyclicBit_15 ?_
      refine wk_iload_n X 1 dR_cyclicBit_18 rfl rfl ?_
      refine wk_iadd X dR_cyclicBit_19 ?_
      refine wk_istore_n X dR_cyclicBit_20 rfl (Nat.le_of_ble_eq_true rfl) (lv' := [(2, .int (S.2.2.1.2.2.2.2.2.2.2.1 + v1)), (0, .ref (a 0)), (1, .int v1)]) rfl ?_
      refine wk_aload_n X 1 dR_cyclicBit_21 rfl rfl ?_
      refine wk_get X uw_R 0 rfl rfl 20 (Nat.le_of_ble_eq_true rfl) (tl tw_557) rfl rfl dR_cyclicBit_22 ?_
      refine wk_aload_n X 1 dR_cyclicBit_25 rfl rfl ?_
      refine wk_get X uw_R 0 rfl rfl 21 (Nat.le_of_ble_eq_true rfl) (tl tw_558) rfl rfl dR_cyclicBit_26 ?_
      refine wk_iload_n X 0 dR_cyclicBit_29 rfl rfl ?_
      refine wk_aload_n X 1 dR_cyclicBit_30 rfl rfl ?_
      refine wk_get X uw_R 0 rfl rfl 16 (Nat.le_of_ble_eq_true rfl) (tl tw_553) rfl rfl dR_cyclicBit_31 ?_
      obtain ⟨q3, h4, hf⟩ := p_ob hf
      obtain ⟨h4z, h4e⟩ := p_dv_some h4
      refine wk_idiv X dR_cyclicBit_34 h4z ?_
      refine wk_top h4e ?_
      refine wk_iadd X dR_cyclicBit_35 ?_
      obtain ⟨q5, h6, hf⟩ := p_ob hf
      obtain ⟨h6i, h6e⟩ := p_rd_some h6
      refine wk_iald X 12 0 rfl rfl h6i h6e dR_cyclicBit_36 ?_
      refine wk_iload_n X 0 dR_cyclicBit_37 rfl rfl ?_
      refine wk_aload_n X 1 dR_cyclicBit_38 rfl rfl ?_
      refine wk_get X uw_R 0 rfl rfl 16 (Nat.le_of_ble_eq_true rfl) (tl tw_553) rfl rfl dR_cyclicBit_39 ?_
      obtain ⟨q7, h8, hf⟩ := p_ob hf
      obtain ⟨h8z, h8e⟩ := p_rm_some h8
      refine wk_irem X dR_cyclicBit_42 h8z ?_
      refine wk_top h8e ?_
      refine wk_icmp_ne X dR_cyclicBit_43 (tgt := 50) rfl (fun h9 => ?_) (fun h9 => ?_)
      · replace hf := p_ie h9 hf
        refine wk_iconst X dR_cyclicBit_50 (v := (0 : Int32)) (by decide) ?_
        have hf := Option.some.inj hf
        exact wk_iret X Z rfl dR_cyclicBit_51 () (Eq.symm hf) rfl rfl
      · replace hf := p_it h9 hf
        refine wk_iconst X dR_cyclicBit_46 (v := (1 : Int32)) (by decide) ?_
        refine wk_goto X dR_cyclicBit_47 (tgt := 51) rfl ?_
        have hf := Option.some.inj hf
        exact wk_iret X Z rfl dR_cyclicBit_51 () (Eq.symm hf) rfl rfl
    · replace hf := p_ie h2 hf
      refine wk_iconst X dR_cyclicBit_12 (v := (-1 : Int32)) (by decide) ?_
      have hf := Option.some.inj hf
      exact wk_iret X Z rfl dR_cyclicBit_13 () (Eq.symm hf) rfl rfl
-- R_decodeCyclic: room (0, 0), Option (Int32)
def fR_decodeCyclic (S : pR) (v1 : Int32) : Option (Int32) :=
  if S.2.2.1.2.2.2.2.2.2.2.2 = 0 then (
    if v1 < 0 then (
      some (-1 : Int32)
    ) else (
      if v1 < (S.2.2.1.2.2.2.2.2.2.1 - S.2.2.1.2.2.2.2.2.1) then (
        (p_rd 12000 S.2.2.1.2.2.2.2.1 (S.2.2.1.2.2.2.2.2.1 + v1)).bind fun q4 =>
        some q4
      ) else (
        some (-1 : Int32)
      )
    )
  ) else (
    some (-1 : Int32)
  )
set_option maxRecDepth 100000 in
set_option maxHeartbeats 4000000 in
theorem mR_decodeCyclic {V : ee_V} (a : Nat → Nat) (S : pR) (v1 : Int32) (R : Int32) (hf : fR_decodeCyclic S v1 = some R) : wk_I (ee V) yR_decodeCyclic ts_R_decodeCyclic ⟨0, 0, 0, 0⟩ [.ref (a 0), .int v1] (cR V a S) (fun (r : Int32) (_ : Unit) => R = r) (fun _ : Unit => cR V a S) := by
  refine wk_of (ee_ok V) (by decide +kernel) rfl (Nat.le_of_ble_eq_true rfl) ?_
  intro x X Z
  unfold fR_decodeCyclic at hf
  refine wk_lq (lv' := [(0, .ref (a 0)), (1, .int v1)]) rfl ?_
  refine wk_aload_n X 0 dR_decodeCyclic_0 rfl rfl ?_
  refine wk_get X uw_R 0 rfl rfl 24 (Nat.le_of_ble_eq_true rfl) (tl tw_561) rfl rfl dR_decodeCyclic_1 ?_
  refine wk_if_ne X dR_decodeCyclic_4 (tgt := 24) rfl (fun h1 => ?_) (fun h1 => ?_)
  · replace hf := p_ie h1 hf
    refine wk_iconst X dR_decodeCyclic_24 (v := (-1 : Int32)) (by decide) ?_
    refine wk_goto X dR_decodeCyclic_25 (tgt := 39) rfl ?_
    have hf := Option.some.inj hf
    exact wk_iret X Z rfl dR_decodeCyclic_39 () (Eq.symm hf) rfl rfl
  · replace hf := p_it h1 hf
    refine wk_iload_n X 1 dR_decodeCyclic_7 rfl rfl ?_
    refine wk_if_lt X dR_decodeCyclic_8 (tgt := 24) rfl (fun h2 => ?_) (fun h2 => ?_)
    · replace hf := p_it h2 hf
      refine wk_iconst X dR_decodeCyclic_24 (v := (-1 : Int32)) (by decide) ?_
      refine wk_goto X dR_decodeCyclic_25 (tgt := 39) rfl ?_
      have hf := Option.some.inj hf
      exact wk_iret X Z rfl dR_decodeCyclic_39 () (Eq.symm hf) rfl rfl
    · replace hf := p_ie h2 hf
      refine wk_iload_n X 1 dR_decodeCyclic_11 rfl rfl ?_
      refine wk_aload_n X 0 dR_decodeCyclic_12 rfl rfl ?_
      refine wk_get X uw_R 0 rfl rfl 22 (Nat.le_of_ble_eq_true rfl) (tl tw_559) rfl rfl dR_decodeCyclic_13 ?_
      refine wk_aload_n X 0 dR_decodeCyclic_16 rfl rfl ?_
      refine wk_get X uw_R 0 rfl rfl 21 (Nat.le_of_ble_eq_true rfl) (tl tw_558) rfl rfl dR_decodeCyclic_17 ?_
      refine wk_isub X dR_decodeCyclic_20 ?_
      refine wk_icmp_lt X dR_decodeCyclic_21 (tgt := 28) rfl (fun h3 => ?_) (fun h3 => ?_)
      · replace hf := p_it h3 hf
        refine wk_aload_n X 0 dR_decodeCyclic_28 rfl rfl ?_
        refine wk_get X uw_R 0 rfl rfl 20 (Nat.le_of_ble_eq_true rfl) (tl tw_557) rfl rfl dR_decodeCyclic_29 ?_
        refine wk_aload_n X 0 dR_decodeCyclic_32 rfl rfl ?_
        refine wk_get X uw_R 0 rfl rfl 21 (Nat.le_of_ble_eq_true rfl) (tl tw_558) rfl rfl dR_decodeCyclic_33 ?_
        refine wk_iload_n X 1 dR_decodeCyclic_36 rfl rfl ?_
        refine wk_iadd X dR_decodeCyclic_37 ?_
        obtain ⟨q4, h5, hf⟩ := p_ob hf
        obtain ⟨h5i, h5e⟩ := p_rd_some h5
        refine wk_iald X 12 0 rfl rfl h5i h5e dR_decodeCyclic_38 ?_
        have hf := Option.some.inj hf
        exact wk_iret X Z rfl dR_decodeCyclic_39 () (Eq.symm hf) rfl rfl
      · replace hf := p_ie h3 hf
        refine wk_iconst X dR_decodeCyclic_24 (v := (-1 : Int32)) (by decide) ?_
        refine wk_goto X dR_decodeCyclic_25 (tgt := 39) rfl ?_
        have hf := Option.some.inj hf
        exact wk_iret X Z rfl dR_decodeCyclic_39 () (Eq.symm hf) rfl rfl
-- R_pairs: room (0, 0), Option (Int32)
def fR_pairs_L2 (S : pR) : Nat → Int32 → Int32 → Int32 → Option (Int32)
  | 0, _, _, _ => none
  | n + 1, v1, v2, v3 =>
    if S.2.1.2.2.2.2.2.2.2 ≤ ((v1 + ((2 : Int32) * v3)) + (1 : Int32)) then (
      some v3
    ) else (
      (p_rd 12000 S.2.1.2.2.2.2.2.1 (v1 + ((2 : Int32) * v3))).bind fun q2 =>
      if q2 = v2 then (
        (p_rd 12000 S.2.1.2.2.2.2.2.1 ((v1 + ((2 : Int32) * v3)) + (1 : Int32))).bind fun q5 =>
        if q5 = 0 then (
          fR_pairs_L2 S n v1 v2 (v3 + (1 : Int32))
        ) else (
          some v3
        )
      ) else (
        some v3
      )
    )
def fR_pairs (S : pR) (v1 : Int32) (v2 : Int32) : Option (Int32) :=
  fR_pairs_L2 S 100000 v1 v2 (0 : Int32)
set_option maxRecDepth 100000 in
set_option maxHeartbeats 4000000 in
theorem wR_pairs_L2 {V : ee_V} (a : Nat → Nat) (S : pR) {x : wk_C} (X : wk_K (ee V) x cR_pairs 4 "TagWorkshopModel" ts_R_pairs ⟨0, 0, 0, 0⟩) (R : Int32) (Z : wk_N x (some .int) (va_Qi (fun (r : Int32) (_ : Unit) => R = r) (wk_B (ee V) (cR V a S) (fun _ : Unit => cR V a S)) (wk_in (cR V a S))) (cR V a S)) : ∀ (n : Nat) (v1 : Int32) (v2 : Int32) (v3 : Int32), fR_pairs_L2 S n v1 v2 v3 = some R → wk_G (ee V) x 4 (cR V a S) 2 [(0, .ref (a 0)), (1, .int v1), (2, .int v2), (3, .int v3)] [] := by
  intro n
  induction n with
  | zero => intro v1 v2 v3 hf; exact absurd hf (by rw [fR_pairs_L2]; exact fun h => by cases h)
  | succ n ih =>
    intro v1 v2 v3 hf
    rw [fR_pairs_L2] at hf
    refine wk_iload_n X 1 dR_pairs_2 rfl rfl ?_
    refine wk_iconst X dR_pairs_3 (v := (2 : Int32)) (by decide) ?_
    refine wk_iload_n X 3 dR_pairs_4 rfl rfl ?_
    refine wk_imul X dR_pairs_5 ?_
    refine wk_iadd X dR_pairs_6 ?_
    refine wk_iconst X dR_pairs_7 (v := (1 : Int32)) (by decide) ?_
    refine wk_iadd X dR_pairs_8 ?_
    refine wk_aload_n X 0 dR_pairs_9 rfl rfl ?_
    refine wk_get X uw_R 0 rfl rfl 15 (Nat.le_of_ble_eq_true rfl) (tl tw_552) rfl rfl dR_pairs_10 ?_
    refine wk_icmp_ge X dR_pairs_13 (tgt := 51) rfl (fun h1 => ?_) (fun h1 => ?_)
    · replace hf := p_it h1 hf
      refine wk_iload_n X 3 dR_pairs_51 rfl rfl ?_
      have hf := Option.some.inj hf
      exact wk_iret X Z rfl dR_pairs_52 () (Eq.symm hf) rfl rfl
    · replace hf := p_ie h1 hf
      refine wk_aload_n X 0 dR_pairs_16 rfl rfl ?_
      refine wk_get X uw_R 0 rfl rfl 13 (Nat.le_of_ble_eq_true rfl) (tl tw_550) rfl rfl dR_pairs_17 ?_
      refine wk_iload_n X 1 dR_pairs_20 rfl rfl ?_
      refine wk_iconst X dR_pairs_21 (v := (2 : Int32)) (by decide) ?_
      refine wk_iload_n X 3 dR_pairs_22 rfl rfl ?_
      refine wk_imul X dR_pairs_23 ?_
      refine wk_iadd X dR_pairs_24 ?_
      obtain ⟨q2, h3, hf⟩ := p_ob hf
      obtain ⟨h3i, h3e⟩ := p_rd_some h3
      refine wk_iald X 8 0 rfl rfl h3i h3e dR_pairs_25 ?_
      refine wk_iload_n X 2 dR_pairs_26 rfl rfl ?_
      refine wk_icmp_ne X dR_pairs_27 (tgt := 51) rfl (fun h4 => ?_) (fun h4 => ?_)
      · replace hf := p_ie h4 hf
        refine wk_iload_n X 3 dR_pairs_51 rfl rfl ?_
        have hf := Option.some.inj hf
        exact wk_iret X Z rfl dR_pairs_52 () (Eq.symm hf) rfl rfl
      · replace hf := p_it h4 hf
        refine wk_aload_n X 0 dR_pairs_30 rfl rfl ?_
        refine wk_get X uw_R 0 rfl rfl 13 (Nat.le_of_ble_eq_true rfl) (tl tw_550) rfl rfl dR_pairs_31 ?_
        refine wk_iload_n X 1 dR_pairs_34 rfl rfl ?_
        refine wk_iconst X dR_pairs_35 (v := (2 : Int32)) (by decide) ?_
        refine wk_iload_n X 3 dR_pairs_36 rfl rfl ?_
        refine wk_imul X dR_pairs_37 ?_
        refine wk_iadd X dR_pairs_38 ?_
        refine wk_iconst X dR_pairs_39 (v := (1 : Int32)) (by decide) ?_
        refine wk_iadd X dR_pairs_40 ?_
        obtain ⟨q5, h6, hf⟩ := p_ob hf
        obtain ⟨h6i, h6e⟩ := p_rd_some h6
        refine wk_iald X 8 0 rfl rfl h6i h6e dR_pairs_41 ?_
        refine wk_if_ne X dR_pairs_42 (tgt := 51) rfl (fun h7 => ?_) (fun h7 => ?_)
        · replace hf := p_ie h7 hf
          refine wk_iload_n X 3 dR_pairs_51 rfl rfl ?_
          have hf := Option.some.inj hf
          exact wk_iret X Z rfl dR_pairs_52 () (Eq.symm hf) rfl rfl
        · replace hf := p_it h7 hf
          refine wk_iinc X 3 dR_pairs_45 (v := (v3 + (1 : Int32))) rfl rfl (Nat.le_of_ble_eq_true rfl) (lv' := [(3, .int (v3 + (1 : Int32))), (0, .ref (a 0)), (1, .int v1), (2, .int v2)]) rfl ?_
          refine wk_goto X dR_pairs_48 (tgt := 2) rfl ?_
          refine wk_lv [1, 2, 3, 0] (lv' := [(0, .ref (a 0)), (1, .int v1), (2, .int v2), (3, .int (v3 + (1 : Int32)))]) rfl ?_
          exact ih v1 v2 (v3 + (1 : Int32)) hf
set_option maxRecDepth 100000 in
set_option maxHeartbeats 4000000 in
theorem mR_pairs {V : ee_V} (a : Nat → Nat) (S : pR) (v1 : Int32) (v2 : Int32) (R : Int32) (hf : fR_pairs S v1 v2 = some R) : wk_I (ee V) yR_pairs ts_R_pairs ⟨0, 0, 0, 0⟩ [.ref (a 0), .int v1, .int v2] (cR V a S) (fun (r : Int32) (_ : Unit) => R = r) (fun _ : Unit => cR V a S) := by
  refine wk_of (ee_ok V) (by decide +kernel) rfl (Nat.le_of_ble_eq_true rfl) ?_
  intro x X Z
  unfold fR_pairs at hf
  refine wk_lq (lv' := [(0, .ref (a 0)), (1, .int v1), (2, .int v2)]) rfl ?_
  refine wk_iconst X dR_pairs_0 (v := (0 : Int32)) (by decide) ?_
  refine wk_istore_n X dR_pairs_1 rfl (Nat.le_of_ble_eq_true rfl) (lv' := [(3, .int (0 : Int32)), (0, .ref (a 0)), (1, .int v1), (2, .int v2)]) rfl ?_
  refine wk_lv [1, 2, 3, 0] (lv' := [(0, .ref (a 0)), (1, .int v1), (2, .int v2), (3, .int (0 : Int32))]) rfl ?_
  exact wR_pairs_L2 a S X R Z 100000 v1 v2 (0 : Int32) hf

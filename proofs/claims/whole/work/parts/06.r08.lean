-- R_extend: room (1, 22), Option (Bool × pR)
def fR_extend (S : pR) (v1 : Int32) (v2 : Int32) : Option (Bool × pR) :=
  if (fR_isLetter S v1) = true then (
    if (fR_isLetter S v2) = true then (
      (p_rd 300 S.2.1.2.2.2.1 v1).bind fun q3 =>
      if q3 = (12 : Int32) then (
        some (false, S)
      ) else (
        (fR_add S v1 v2).bind fun q6 =>
        some (true, q6)
      )
    ) else (
      some (false, S)
    )
  ) else (
    some (false, S)
  )
set_option maxRecDepth 100000 in
set_option maxHeartbeats 4000000 in
theorem mR_extend {V : ee_V} (a : Nat → Nat) (S : pR) (v1 : Int32) (v2 : Int32) (R : Bool × pR) (hf : fR_extend S v1 v2 = some R) : wk_I (ee V) yR_extend ts_R_extend ⟨1, 0, 0, 22⟩ [.ref (a 0), .int v1, .int v2] (cR V a S) (fun (r : Int32) (u : pR) => p_b (R.1) = r ∧ R.2 = u) (fun u : pR => cR V a u) := by
  refine wk_of (ee_ok V) (by decide +kernel) rfl (Nat.le_of_ble_eq_true rfl) ?_
  intro x X Z
  unfold fR_extend at hf
  refine wk_lq (lv' := [(0, .ref (a 0)), (1, .int v1), (2, .int v2)]) rfl ?_
  refine wk_aload_n X 0 dR_extend_0 rfl rfl ?_
  refine wk_iload_n X 1 dR_extend_1 rfl rfl ?_
  refine wk_goI [0, 1, 2, 3, 4, 5, 6, 7, 8, 9, 10, 11, 12] (wk_rV X (mR_isLetter (V := V) a S v1 (fR_isLetter S v1) rfl) rfl (gd (tw_722)) [0, 1, 2, 3, 4, 5, 6, 7, 8, 9, 10, 11, 12] rfl rfl 0 rfl rfl (tl tw_719) (tl tw_721) (tl tv_16) (tl tw_7) 1 pd_R_isLetter rfl ⟨rfl, rfl⟩ ⟨Nat.le_of_ble_eq_true rfl, Nat.le_of_ble_eq_true rfl⟩ rfl (Nat.le_of_ble_eq_true rfl) dR_extend_2) rfl ?_
  rintro r ⟨⟩ rfl
  refine wk_ws (ws' := cR V a S) rfl ?_
  refine wk_bz_eq X dR_extend_5 (tgt := 27) rfl (fun h1 => ?_) (fun h1 => ?_)
  · replace hf := p_ie h1 hf
    refine wk_iconst X dR_extend_27 (v := (0 : Int32)) (by decide) ?_
    have hf := Option.some.inj hf
    exact wk_iret X Z rfl dR_extend_28 (S) ⟨Eq.symm (congrArg p_b (congrArg Prod.fst hf)), Eq.symm (congrArg Prod.snd hf)⟩ rfl rfl
  · replace hf := p_it h1 hf
    refine wk_aload_n X 0 dR_extend_8 rfl rfl ?_
    refine wk_iload_n X 2 dR_extend_9 rfl rfl ?_
    refine wk_goI [0, 1, 2, 3, 4, 5, 6, 7, 8, 9, 10, 11, 12] (wk_rV X (mR_isLetter (V := V) a S v2 (fR_isLetter S v2) rfl) rfl (gd (tw_722)) [0, 1, 2, 3, 4, 5, 6, 7, 8, 9, 10, 11, 12] rfl rfl 0 rfl rfl (tl tw_719) (tl tw_721) (tl tv_16) (tl tw_7) 1 pd_R_isLetter rfl ⟨rfl, rfl⟩ ⟨Nat.le_of_ble_eq_true rfl, Nat.le_of_ble_eq_true rfl⟩ rfl (Nat.le_of_ble_eq_true rfl) dR_extend_10) rfl ?_
    rintro r ⟨⟩ rfl
    refine wk_ws (ws' := cR V a S) rfl ?_
    refine wk_bz_eq X dR_extend_13 (tgt := 27) rfl (fun h2 => ?_) (fun h2 => ?_)
    · replace hf := p_ie h2 hf
      refine wk_iconst X dR_extend_27 (v := (0 : Int32)) (by decide) ?_
      have hf := Option.some.inj hf
      exact wk_iret X Z rfl dR_extend_28 (S) ⟨Eq.symm (congrArg p_b (congrArg Prod.fst hf)), Eq.symm (congrArg Prod.snd hf)⟩ rfl rfl
    · replace hf := p_it h2 hf
      refine wk_aload_n X 0 dR_extend_16 rfl rfl ?_
      refine wk_get X uw_R 0 rfl rfl 11 (Nat.le_of_ble_eq_true rfl) (tl tw_548) rfl rfl dR_extend_17 ?_
      refine wk_iload_n X 1 dR_extend_20 rfl rfl ?_
      obtain ⟨q3, h4, hf⟩ := p_ob hf
      obtain ⟨h4i, h4e⟩ := p_rd_some h4
      refine wk_iald X 6 0 rfl rfl h4i h4e dR_extend_21 ?_
      refine wk_bipush X dR_extend_22 (v := (12 : Int32)) (by decide) ?_
      refine wk_icmp_ne X dR_extend_24 (tgt := 29) rfl (fun h5 => ?_) (fun h5 => ?_)
      · replace hf := p_ie h5 hf
        refine wk_aload_n X 0 dR_extend_29 rfl rfl ?_
        refine wk_iload_n X 1 dR_extend_30 rfl rfl ?_
        refine wk_iload_n X 2 dR_extend_31 rfl rfl ?_
        obtain ⟨q6, h7, hf⟩ := p_ob hf
        refine wk_goV [0, 1, 2, 3, 4, 5, 6, 7, 8, 9, 10, 11, 12] (wk_rV X (mR_add (V := V) a S v1 v2 q6 h7) rfl (gd (tw_698)) [0, 1, 2, 3, 4, 5, 6, 7, 8, 9, 10, 11, 12] rfl rfl 0 rfl rfl (tl tw_695) (tl tw_697) (tl tv_12) (tl tw_7) 2 pd_R_add rfl ⟨rfl, rfl⟩ ⟨Nat.le_of_ble_eq_true rfl, Nat.le_of_ble_eq_true rfl⟩ rfl (Nat.le_of_ble_eq_true rfl) dR_extend_32) rfl ?_
        rintro u rfl
        refine wk_ws (ws' := cR V a q6) rfl ?_
        refine wk_iconst X dR_extend_35 (v := (1 : Int32)) (by decide) ?_
        have hf := Option.some.inj hf
        exact wk_iret X Z rfl dR_extend_36 (q6) ⟨Eq.symm (congrArg p_b (congrArg Prod.fst hf)), Eq.symm (congrArg Prod.snd hf)⟩ rfl rfl
      · replace hf := p_it h5 hf
        refine wk_iconst X dR_extend_27 (v := (0 : Int32)) (by decide) ?_
        have hf := Option.some.inj hf
        exact wk_iret X Z rfl dR_extend_28 (S) ⟨Eq.symm (congrArg p_b (congrArg Prod.fst hf)), Eq.symm (congrArg Prod.snd hf)⟩ rfl rfl
-- R_production: room (1, 21), Option (Int32)
def fR_production (S : pR) (v1 : Int32) (v2 : Int32) : Option (Int32) :=
  if (fR_isLetter S v1) = true then (
    if v2 < 0 then (
      some (-1 : Int32)
    ) else (
      (p_rd 300 S.2.1.2.2.2.1 v1).bind fun q3 =>
      if v2 < q3 then (
        (p_rd 3600 S.2.1.2.2.1 (((12 : Int32) * v1) + v2)).bind fun q6 =>
        some q6
      ) else (
        some (-1 : Int32)
      )
    )
  ) else (
    some (-1 : Int32)
  )
set_option maxRecDepth 100000 in
set_option maxHeartbeats 4000000 in
theorem mR_production {V : ee_V} (a : Nat → Nat) (S : pR) (v1 : Int32) (v2 : Int32) (R : Int32) (hf : fR_production S v1 v2 = some R) : wk_I (ee V) yR_production ts_R_production ⟨1, 0, 0, 21⟩ [.ref (a 0), .int v1, .int v2] (cR V a S) (fun (r : Int32) (_ : Unit) => R = r) (fun _ : Unit => cR V a S) := by
  refine wk_of (ee_ok V) (by decide +kernel) rfl (Nat.le_of_ble_eq_true rfl) ?_
  intro x X Z
  unfold fR_production at hf
  refine wk_lq (lv' := [(0, .ref (a 0)), (1, .int v1), (2, .int v2)]) rfl ?_
  refine wk_aload_n X 0 dR_production_0 rfl rfl ?_
  refine wk_iload_n X 1 dR_production_1 rfl rfl ?_
  refine wk_goI [0, 1, 2, 3, 4, 5, 6, 7, 8, 9, 10, 11, 12] (wk_rV X (mR_isLetter (V := V) a S v1 (fR_isLetter S v1) rfl) rfl (gd (tw_722)) [0, 1, 2, 3, 4, 5, 6, 7, 8, 9, 10, 11, 12] rfl rfl 0 rfl rfl (tl tw_719) (tl tw_721) (tl tv_16) (tl tw_7) 1 pd_R_isLetter rfl ⟨rfl, rfl⟩ ⟨Nat.le_of_ble_eq_true rfl, Nat.le_of_ble_eq_true rfl⟩ rfl (Nat.le_of_ble_eq_true rfl) dR_production_2) rfl ?_
  rintro r ⟨⟩ rfl
  refine wk_ws (ws' := cR V a S) rfl ?_
  refine wk_bz_eq X dR_production_5 (tgt := 22) rfl (fun h1 => ?_) (fun h1 => ?_)
  · replace hf := p_ie h1 hf
    refine wk_iconst X dR_production_22 (v := (-1 : Int32)) (by decide) ?_
    refine wk_goto X dR_production_23 (tgt := 37) rfl ?_
    have hf := Option.some.inj hf
    exact wk_iret X Z rfl dR_production_37 () (Eq.symm hf) rfl rfl
  · replace hf := p_it h1 hf
    refine wk_iload_n X 2 dR_production_8 rfl rfl ?_
    refine wk_if_lt X dR_production_9 (tgt := 22) rfl (fun h2 => ?_) (fun h2 => ?_)
    · replace hf := p_it h2 hf
      refine wk_iconst X dR_production_22 (v := (-1 : Int32)) (by decide) ?_
      refine wk_goto X dR_production_23 (tgt := 37) rfl ?_
      have hf := Option.some.inj hf
      exact wk_iret X Z rfl dR_production_37 () (Eq.symm hf) rfl rfl
    · replace hf := p_ie h2 hf
      refine wk_iload_n X 2 dR_production_12 rfl rfl ?_
      refine wk_aload_n X 0 dR_production_13 rfl rfl ?_
      refine wk_get X uw_R 0 rfl rfl 11 (Nat.le_of_ble_eq_true rfl) (tl tw_548) rfl rfl dR_production_14 ?_
      refine wk_iload_n X 1 dR_production_17 rfl rfl ?_
      obtain ⟨q3, h4, hf⟩ := p_ob hf
      obtain ⟨h4i, h4e⟩ := p_rd_some h4
      refine wk_iald X 6 0 rfl rfl h4i h4e dR_production_18 ?_
      refine wk_icmp_lt X dR_production_19 (tgt := 26) rfl (fun h5 => ?_) (fun h5 => ?_)
      · replace hf := p_it h5 hf
        refine wk_aload_n X 0 dR_production_26 rfl rfl ?_
        refine wk_get X uw_R 0 rfl rfl 10 (Nat.le_of_ble_eq_true rfl) (tl tw_547) rfl rfl dR_production_27 ?_
        refine wk_bipush X dR_production_30 (v := (12 : Int32)) (by decide) ?_
        refine wk_iload_n X 1 dR_production_32 rfl rfl ?_
        refine wk_imul X dR_production_33 ?_
        refine wk_iload_n X 2 dR_production_34 rfl rfl ?_
        refine wk_iadd X dR_production_35 ?_
        obtain ⟨q6, h7, hf⟩ := p_ob hf
        obtain ⟨h7i, h7e⟩ := p_rd_some h7
        refine wk_iald X 5 0 rfl rfl h7i h7e dR_production_36 ?_
        have hf := Option.some.inj hf
        exact wk_iret X Z rfl dR_production_37 () (Eq.symm hf) rfl rfl
      · replace hf := p_ie h5 hf
        refine wk_iconst X dR_production_22 (v := (-1 : Int32)) (by decide) ?_
        refine wk_goto X dR_production_23 (tgt := 37) rfl ?_
        have hf := Option.some.inj hf
        exact wk_iret X Z rfl dR_production_37 () (Eq.symm hf) rfl rfl
-- R_spoil: room (2, 43), Option (Int32 × pR)
def fR_spoil (S : pR) (v1 : Int32) (v2 : Int32) (v3 : Int32) : Option (Int32 × pR) :=
  (fR_production S v1 v2).bind fun q1 =>
  if q1 = (-1 : Int32) then (
    some ((-1 : Int32), S)
  ) else (
    if (fR_isLetter S v3) = true then (
      (p_wr 3600 S.2.1.2.2.1 (((12 : Int32) * v1) + v2) v3).bind fun q5 =>
      some (q1, (S.1, (S.2.1.1, S.2.1.2.1, q5, S.2.1.2.2.2.1, S.2.1.2.2.2.2.1, S.2.1.2.2.2.2.2.1, S.2.1.2.2.2.2.2.2.1, S.2.1.2.2.2.2.2.2.2), S.2.2.1, S.2.2.2))
    ) else (
      some ((-1 : Int32), S)
    )
  )
set_option maxRecDepth 100000 in
set_option maxHeartbeats 4000000 in
theorem mR_spoil {V : ee_V} (a : Nat → Nat) (S : pR) (v1 : Int32) (v2 : Int32) (v3 : Int32) (R : Int32 × pR) (hf : fR_spoil S v1 v2 v3 = some R) : wk_I (ee V) yR_spoil ts_R_spoil ⟨2, 0, 0, 43⟩ [.ref (a 0), .int v1, .int v2, .int v3] (cR V a S) (fun (r : Int32) (u : pR) => R.1 = r ∧ R.2 = u) (fun u : pR => cR V a u) := by
  refine wk_of (ee_ok V) (by decide +kernel) rfl (Nat.le_of_ble_eq_true rfl) ?_
  intro x X Z
  unfold fR_spoil at hf
  refine wk_lq (lv' := [(0, .ref (a 0)), (1, .int v1), (2, .int v2), (3, .int v3)]) rfl ?_
  refine wk_aload_n X 0 dR_spoil_0 rfl rfl ?_
  refine wk_iload_n X 1 dR_spoil_1 rfl rfl ?_
  refine wk_iload_n X 2 dR_spoil_2 rfl rfl ?_
  obtain ⟨q1, h2, hf⟩ := p_ob hf
  refine wk_goI [0, 1, 2, 3, 4, 5, 6, 7, 8, 9, 10, 11, 12] (wk_rV X (mR_production (V := V) a S v1 v2 q1 h2) rfl (gd (tw_730)) [0, 1, 2, 3, 4, 5, 6, 7, 8, 9, 10, 11, 12] rfl rfl 0 rfl rfl (tl tw_727) (tl tw_728) (tl tw_729) (tl tw_7) 2 pd_R_production rfl ⟨rfl, rfl⟩ ⟨Nat.le_of_ble_eq_true rfl, Nat.le_of_ble_eq_true rfl⟩ rfl (Nat.le_of_ble_eq_true rfl) dR_spoil_3) rfl ?_
  rintro r ⟨⟩ rfl
  refine wk_ws (ws' := cR V a S) rfl ?_
  refine wk_istore X dR_spoil_6 (Nat.le_of_ble_eq_true rfl) (lv' := [(4, .int q1), (0, .ref (a 0)), (1, .int v1), (2, .int v2), (3, .int v3)]) rfl ?_
  refine wk_iload X 0 dR_spoil_8 rfl ?_
  refine wk_iconst X dR_spoil_10 (v := (-1 : Int32)) (by decide) ?_
  refine wk_icmp_eq X dR_spoil_11 (tgt := 22) rfl (fun h3 => ?_) (fun h3 => ?_)
  · replace hf := p_it h3 hf
    refine wk_iconst X dR_spoil_22 (v := (-1 : Int32)) (by decide) ?_
    have hf := Option.some.inj hf
    exact wk_iret X Z rfl dR_spoil_23 (S) ⟨Eq.symm (congrArg Prod.fst hf), Eq.symm (congrArg Prod.snd hf)⟩ rfl rfl
  · replace hf := p_ie h3 hf
    refine wk_aload_n X 1 dR_spoil_14 rfl rfl ?_
    refine wk_iload_n X 4 dR_spoil_15 rfl rfl ?_
    refine wk_goI [0, 1, 2, 3, 4, 5, 6, 7, 8, 9, 10, 11, 12] (wk_rV X (mR_isLetter (V := V) a S v3 (fR_isLetter S v3) rfl) rfl (gd (tw_722)) [0, 1, 2, 3, 4, 5, 6, 7, 8, 9, 10, 11, 12] rfl rfl 0 rfl rfl (tl tw_719) (tl tw_721) (tl tv_16) (tl tw_7) 1 pd_R_isLetter rfl ⟨rfl, rfl⟩ ⟨Nat.le_of_ble_eq_true rfl, Nat.le_of_ble_eq_true rfl⟩ rfl (Nat.le_of_ble_eq_true rfl) dR_spoil_16) rfl ?_
    rintro r ⟨⟩ rfl
    refine wk_ws (ws' := cR V a S) rfl ?_
    refine wk_bz_ne X dR_spoil_19 (tgt := 24) rfl (fun h4 => ?_) (fun h4 => ?_)
    · replace hf := p_it h4 hf
      refine wk_aload_n X 1 dR_spoil_24 rfl rfl ?_
      refine wk_get X uw_R 0 rfl rfl 10 (Nat.le_of_ble_eq_true rfl) (tl tw_547) rfl rfl dR_spoil_25 ?_
      refine wk_bipush X dR_spoil_28 (v := (12 : Int32)) (by decide) ?_
      refine wk_iload_n X 2 dR_spoil_30 rfl rfl ?_
      refine wk_imul X dR_spoil_31 ?_
      refine wk_iload_n X 3 dR_spoil_32 rfl rfl ?_
      refine wk_iadd X dR_spoil_33 ?_
      refine wk_iload_n X 4 dR_spoil_34 rfl rfl ?_
      obtain ⟨q5, h6, hf⟩ := p_ob hf
      obtain ⟨h6i, h6e⟩ := p_wr_some h6
      refine wk_iast X 5 0 rfl rfl h6i h6e dR_spoil_35 (ws' := cR V a (S.1, (S.2.1.1, S.2.1.2.1, q5, S.2.1.2.2.2.1, S.2.1.2.2.2.2.1, S.2.1.2.2.2.2.2.1, S.2.1.2.2.2.2.2.2.1, S.2.1.2.2.2.2.2.2.2), S.2.2.1, S.2.2.2)) rfl ?_
      refine wk_iload X 0 dR_spoil_36 rfl ?_
      have hf := Option.some.inj hf
      exact wk_iret X Z rfl dR_spoil_38 ((S.1, (S.2.1.1, S.2.1.2.1, q5, S.2.1.2.2.2.1, S.2.1.2.2.2.2.1, S.2.1.2.2.2.2.2.1, S.2.1.2.2.2.2.2.2.1, S.2.1.2.2.2.2.2.2.2), S.2.2.1, S.2.2.2)) ⟨Eq.symm (congrArg Prod.fst hf), Eq.symm (congrArg Prod.snd hf)⟩ rfl rfl
    · replace hf := p_ie h4 hf
      refine wk_iconst X dR_spoil_22 (v := (-1 : Int32)) (by decide) ?_
      have hf := Option.some.inj hf
      exact wk_iret X Z rfl dR_spoil_23 (S) ⟨Eq.symm (congrArg Prod.fst hf), Eq.symm (congrArg Prod.snd hf)⟩ rfl rfl
-- R_halts: room (1, 21), Option (Bool × pR)
def fR_halts (S : pR) (v1 : Int32) (v2 : Bool) : Option (Bool × pR) :=
  if (fR_isLetter S v1) = true then (
    (p_wr 300 S.2.1.2.2.2.2.1 v1 (p_b v2)).bind fun q2 =>
    some (true, (S.1, (S.2.1.1, S.2.1.2.1, S.2.1.2.2.1, S.2.1.2.2.2.1, q2, S.2.1.2.2.2.2.2.1, S.2.1.2.2.2.2.2.2.1, S.2.1.2.2.2.2.2.2.2), S.2.2.1, S.2.2.2))
  ) else (
    some (false, S)
  )
set_option maxRecDepth 100000 in
set_option maxHeartbeats 4000000 in
theorem mR_halts {V : ee_V} (a : Nat → Nat) (S : pR) (v1 : Int32) (v2 : Bool) (R : Bool × pR) (hf : fR_halts S v1 v2 = some R) : wk_I (ee V) yR_halts ts_R_halts ⟨1, 0, 0, 21⟩ [.ref (a 0), .int v1, .int (p_b v2)] (cR V a S) (fun (r : Int32) (u : pR) => p_b (R.1) = r ∧ R.2 = u) (fun u : pR => cR V a u) := by
  refine wk_of (ee_ok V) (by decide +kernel) rfl (Nat.le_of_ble_eq_true rfl) ?_
  intro x X Z
  unfold fR_halts at hf
  refine wk_lq (lv' := [(0, .ref (a 0)), (1, .int v1), (2, .int (p_b v2))]) rfl ?_
  refine wk_aload_n X 0 dR_halts_0 rfl rfl ?_
  refine wk_iload_n X 1 dR_halts_1 rfl rfl ?_
  refine wk_goI [0, 1, 2, 3, 4, 5, 6, 7, 8, 9, 10, 11, 12] (wk_rV X (mR_isLetter (V := V) a S v1 (fR_isLetter S v1) rfl) rfl (gd (tw_722)) [0, 1, 2, 3, 4, 5, 6, 7, 8, 9, 10, 11, 12] rfl rfl 0 rfl rfl (tl tw_719) (tl tw_721) (tl tv_16) (tl tw_7) 1 pd_R_isLetter rfl ⟨rfl, rfl⟩ ⟨Nat.le_of_ble_eq_true rfl, Nat.le_of_ble_eq_true rfl⟩ rfl (Nat.le_of_ble_eq_true rfl) dR_halts_2) rfl ?_
  rintro r ⟨⟩ rfl
  refine wk_ws (ws' := cR V a S) rfl ?_
  refine wk_bz_ne X dR_halts_5 (tgt := 10) rfl (fun h1 => ?_) (fun h1 => ?_)
  · replace hf := p_it h1 hf
    refine wk_aload_n X 0 dR_halts_10 rfl rfl ?_
    refine wk_get X uw_R 0 rfl rfl 12 (Nat.le_of_ble_eq_true rfl) (tl tw_549) rfl rfl dR_halts_11 ?_
    refine wk_iload_n X 1 dR_halts_14 rfl rfl ?_
    refine wk_iload_n X 2 dR_halts_15 rfl rfl ?_
    obtain ⟨q2, h3, hf⟩ := p_ob hf
    obtain ⟨h3i, h3e⟩ := p_wr_some h3
    refine wk_zast X 7 1 rfl rfl h3i (p_vnar _) h3e dR_halts_16 (ws' := cR V a (S.1, (S.2.1.1, S.2.1.2.1, S.2.1.2.2.1, S.2.1.2.2.2.1, q2, S.2.1.2.2.2.2.2.1, S.2.1.2.2.2.2.2.2.1, S.2.1.2.2.2.2.2.2.2), S.2.2.1, S.2.2.2)) rfl ?_
    refine wk_iconst X dR_halts_17 (v := (1 : Int32)) (by decide) ?_
    have hf := Option.some.inj hf
    exact wk_iret X Z rfl dR_halts_18 ((S.1, (S.2.1.1, S.2.1.2.1, S.2.1.2.2.1, S.2.1.2.2.2.1, q2, S.2.1.2.2.2.2.2.1, S.2.1.2.2.2.2.2.2.1, S.2.1.2.2.2.2.2.2.2), S.2.2.1, S.2.2.2)) ⟨Eq.symm (congrArg p_b (congrArg Prod.fst hf)), Eq.symm (congrArg Prod.snd hf)⟩ rfl rfl
  · replace hf := p_ie h1 hf
    refine wk_iconst X dR_halts_8 (v := (0 : Int32)) (by decide) ?_
    have hf := Option.some.inj hf
    exact wk_iret X Z rfl dR_halts_9 (S) ⟨Eq.symm (congrArg p_b (congrArg Prod.fst hf)), Eq.symm (congrArg Prod.snd hf)⟩ rfl rfl
-- R_put: room (1, 22), Option (Bool × pR)
def fR_put (S : pR) (v1 : Int32) : Option (Bool × pR) :=
  if (fR_isLetter S v1) = true then (
    if (S.2.1.2.2.2.2.2.2.2 - S.2.1.2.2.2.2.2.2.1) = (4000 : Int32) then (
      some (false, S)
    ) else (
      (fR_push S v1).bind fun q3 =>
      some (true, q3)
    )
  ) else (
    some (false, S)
  )
set_option maxRecDepth 100000 in
set_option maxHeartbeats 4000000 in
theorem mR_put {V : ee_V} (a : Nat → Nat) (S : pR) (v1 : Int32) (R : Bool × pR) (hf : fR_put S v1 = some R) : wk_I (ee V) yR_put ts_R_put ⟨1, 0, 0, 22⟩ [.ref (a 0), .int v1] (cR V a S) (fun (r : Int32) (u : pR) => p_b (R.1) = r ∧ R.2 = u) (fun u : pR => cR V a u) := by
  refine wk_of (ee_ok V) (by decide +kernel) rfl (Nat.le_of_ble_eq_true rfl) ?_
  intro x X Z
  unfold fR_put at hf
  refine wk_lq (lv' := [(0, .ref (a 0)), (1, .int v1)]) rfl ?_
  refine wk_aload_n X 0 dR_put_0 rfl rfl ?_
  refine wk_iload_n X 1 dR_put_1 rfl rfl ?_
  refine wk_goI [0, 1, 2, 3, 4, 5, 6, 7, 8, 9, 10, 11, 12] (wk_rV X (mR_isLetter (V := V) a S v1 (fR_isLetter S v1) rfl) rfl (gd (tw_722)) [0, 1, 2, 3, 4, 5, 6, 7, 8, 9, 10, 11, 12] rfl rfl 0 rfl rfl (tl tw_719) (tl tw_721) (tl tv_16) (tl tw_7) 1 pd_R_isLetter rfl ⟨rfl, rfl⟩ ⟨Nat.le_of_ble_eq_true rfl, Nat.le_of_ble_eq_true rfl⟩ rfl (Nat.le_of_ble_eq_true rfl) dR_put_2) rfl ?_
  rintro r ⟨⟩ rfl
  refine wk_ws (ws' := cR V a S) rfl ?_
  refine wk_bz_eq X dR_put_5 (tgt := 23) rfl (fun h1 => ?_) (fun h1 => ?_)
  · replace hf := p_ie h1 hf
    refine wk_iconst X dR_put_23 (v := (0 : Int32)) (by decide) ?_
    have hf := Option.some.inj hf
    exact wk_iret X Z rfl dR_put_24 (S) ⟨Eq.symm (congrArg p_b (congrArg Prod.fst hf)), Eq.symm (congrArg Prod.snd hf)⟩ rfl rfl
  · replace hf := p_it h1 hf
    refine wk_aload_n X 0 dR_put_8 rfl rfl ?_
    refine wk_get X uw_R 0 rfl rfl 15 (Nat.le_of_ble_eq_true rfl) (tl tw_552) rfl rfl dR_put_9 ?_
    refine wk_aload_n X 0 dR_put_12 rfl rfl ?_
    refine wk_get X uw_R 0 rfl rfl 14 (Nat.le_of_ble_eq_true rfl) (tl tw_551) rfl rfl dR_put_13 ?_
    refine wk_isub X dR_put_16 ?_
    refine wk_sipush X dR_put_17 (v := (4000 : Int32)) (by decide) ?_
    refine wk_icmp_ne X dR_put_20 (tgt := 25) rfl (fun h2 => ?_) (fun h2 => ?_)
    · replace hf := p_ie h2 hf
      refine wk_aload_n X 0 dR_put_25 rfl rfl ?_
      refine wk_iload_n X 1 dR_put_26 rfl rfl ?_
      obtain ⟨q3, h4, hf⟩ := p_ob hf
      refine wk_goV [0, 1, 2, 3, 4, 5, 6, 7, 8, 9, 10, 11, 12] (wk_rV X (mR_push (V := V) a S v1 q3 h4) rfl (gd (tw_710)) [0, 1, 2, 3, 4, 5, 6, 7, 8, 9, 10, 11, 12] rfl rfl 0 rfl rfl (tl tw_707) (tl tw_709) (tl tv_15) (tl tw_7) 1 pd_R_push rfl ⟨rfl, rfl⟩ ⟨Nat.le_of_ble_eq_true rfl, Nat.le_of_ble_eq_true rfl⟩ rfl (Nat.le_of_ble_eq_true rfl) dR_put_27) rfl ?_
      rintro u rfl
      refine wk_ws (ws' := cR V a q3) rfl ?_
      refine wk_iconst X dR_put_30 (v := (1 : Int32)) (by decide) ?_
      have hf := Option.some.inj hf
      exact wk_iret X Z rfl dR_put_31 (q3) ⟨Eq.symm (congrArg p_b (congrArg Prod.fst hf)), Eq.symm (congrArg Prod.snd hf)⟩ rfl rfl
    · replace hf := p_it h2 hf
      refine wk_iconst X dR_put_23 (v := (0 : Int32)) (by decide) ?_
      have hf := Option.some.inj hf
      exact wk_iret X Z rfl dR_put_24 (S) ⟨Eq.symm (congrArg p_b (congrArg Prod.fst hf)), Eq.symm (congrArg Prod.snd hf)⟩ rfl rfl
-- R_tagCan: room (0, 0), Option (Int32)
def fR_tagCan (S : pR) : Option (Int32) :=
  if (S.2.1.2.2.2.2.2.2.2 - S.2.1.2.2.2.2.2.2.1) < (2 : Int32) then (
    some (0 : Int32)
  ) else (
    (p_rd 12000 S.2.1.2.2.2.2.2.1 S.2.1.2.2.2.2.2.2.1).bind fun q2 =>
    (p_rd 300 S.2.1.2.2.2.2.1 q2).bind fun q4 =>
    if q4 = 0 then (
      (p_rd 300 S.2.1.2.2.2.1 q2).bind fun q9 =>
      if (((S.2.1.2.2.2.2.2.2.2 - S.2.1.2.2.2.2.2.2.1) - (2 : Int32)) + q9) ≤ (4000 : Int32) then (
        some (1 : Int32)
      ) else (
        some (-2 : Int32)
      )
    ) else (
      some (0 : Int32)
    )
  )
set_option maxRecDepth 100000 in
set_option maxHeartbeats 4000000 in
theorem mR_tagCan {V : ee_V} (a : Nat → Nat) (S : pR) (R : Int32) (hf : fR_tagCan S = some R) : wk_I (ee V) yR_tagCan ts_R_tagCan ⟨0, 0, 0, 0⟩ [.ref (a 0)] (cR V a S) (fun (r : Int32) (_ : Unit) => R = r) (fun _ : Unit => cR V a S) := by
  refine wk_of (ee_ok V) (by decide +kernel) rfl (Nat.le_of_ble_eq_true rfl) ?_
  intro x X Z
  unfold fR_tagCan at hf
  refine wk_lq (lv' := [(0, .ref (a 0))]) rfl ?_
  refine wk_aload_n X 0 dR_tagCan_0 rfl rfl ?_
  refine wk_get X uw_R 0 rfl rfl 15 (Nat.le_of_ble_eq_true rfl) (tl tw_552) rfl rfl dR_tagCan_1 ?_
  refine wk_aload_n X 0 dR_tagCan_4 rfl rfl ?_
  refine wk_get X uw_R 0 rfl rfl 14 (Nat.le_of_ble_eq_true rfl) (tl tw_551) rfl rfl dR_tagCan_5 ?_
  refine wk_isub X dR_tagCan_8 ?_
  refine wk_istore_n X dR_tagCan_9 rfl (Nat.le_of_ble_eq_true rfl) (lv' := [(1, .int (S.2.1.2.2.2.2.2.2.2 - S.2.1.2.2.2.2.2.2.1)), (0, .ref (a 0))]) rfl ?_
  refine wk_iload_n X 0 dR_tagCan_10 rfl rfl ?_
  refine wk_iconst X dR_tagCan_11 (v := (2 : Int32)) (by decide) ?_
  refine wk_icmp_lt X dR_tagCan_12 (tgt := 32) rfl (fun h1 => ?_) (fun h1 => ?_)
  · replace hf := p_it h1 hf
    refine wk_iconst X dR_tagCan_32 (v := (0 : Int32)) (by decide) ?_
    have hf := Option.some.inj hf
    exact wk_iret X Z rfl dR_tagCan_33 () (Eq.symm hf) rfl rfl
  · replace hf := p_ie h1 hf
    refine wk_aload_n X 1 dR_tagCan_15 rfl rfl ?_
    refine wk_get X uw_R 0 rfl rfl 12 (Nat.le_of_ble_eq_true rfl) (tl tw_549) rfl rfl dR_tagCan_16 ?_
    refine wk_aload_n X 1 dR_tagCan_19 rfl rfl ?_
    refine wk_get X uw_R 0 rfl rfl 13 (Nat.le_of_ble_eq_true rfl) (tl tw_550) rfl rfl dR_tagCan_20 ?_
    refine wk_aload_n X 1 dR_tagCan_23 rfl rfl ?_
    refine wk_get X uw_R 0 rfl rfl 14 (Nat.le_of_ble_eq_true rfl) (tl tw_551) rfl rfl dR_tagCan_24 ?_
    obtain ⟨q2, h3, hf⟩ := p_ob hf
    obtain ⟨h3i, h3e⟩ := p_rd_some h3
    refine wk_iald X 8 0 rfl rfl h3i h3e dR_tagCan_27 ?_
    obtain ⟨q4, h5, hf⟩ := p_ob hf
    obtain ⟨h5i, h5e⟩ := p_rd_some h5
    refine wk_zald X 7 1 rfl rfl h5i h5e dR_tagCan_28 ?_
    refine wk_if_eq X dR_tagCan_29 (tgt := 34) rfl (fun h6 => ?_) (fun h6 => ?_)
    · replace hf := p_it h6 hf
      refine wk_iload_n X 0 dR_tagCan_34 rfl rfl ?_
      refine wk_iconst X dR_tagCan_35 (v := (2 : Int32)) (by decide) ?_
      refine wk_isub X dR_tagCan_36 ?_
      refine wk_aload_n X 1 dR_tagCan_37 rfl rfl ?_
      refine wk_get X uw_R 0 rfl rfl 11 (Nat.le_of_ble_eq_true rfl) (tl tw_548) rfl rfl dR_tagCan_38 ?_
      refine wk_aload_n X 1 dR_tagCan_41 rfl rfl ?_
      refine wk_get X uw_R 0 rfl rfl 13 (Nat.le_of_ble_eq_true rfl) (tl tw_550) rfl rfl dR_tagCan_42 ?_
      refine wk_aload_n X 1 dR_tagCan_45 rfl rfl ?_
      refine wk_get X uw_R 0 rfl rfl 14 (Nat.le_of_ble_eq_true rfl) (tl tw_551) rfl rfl dR_tagCan_46 ?_
      refine wk_iald X 8 0 rfl rfl h3i h3e dR_tagCan_49 ?_
      obtain ⟨q9, h10, hf⟩ := p_ob hf
      obtain ⟨h10i, h10e⟩ := p_rd_some h10
      refine wk_iald X 6 0 rfl rfl h10i h10e dR_tagCan_50 ?_
      refine wk_iadd X dR_tagCan_51 ?_
      refine wk_sipush X dR_tagCan_52 (v := (4000 : Int32)) (by decide) ?_
      refine wk_icmp_le X dR_tagCan_55 (tgt := 63) rfl (fun h11 => ?_) (fun h11 => ?_)
      · replace hf := p_it h11 hf
        refine wk_iconst X dR_tagCan_63 (v := (1 : Int32)) (by decide) ?_
        have hf := Option.some.inj hf
        exact wk_iret X Z rfl dR_tagCan_64 () (Eq.symm hf) rfl rfl
      · replace hf := p_ie h11 hf
        refine wk_bipush X dR_tagCan_58 (v := (-2 : Int32)) (by decide) ?_
        refine wk_goto X dR_tagCan_60 (tgt := 64) rfl ?_
        have hf := Option.some.inj hf
        exact wk_iret X Z rfl dR_tagCan_64 () (Eq.symm hf) rfl rfl
    · replace hf := p_ie h6 hf
      refine wk_iconst X dR_tagCan_32 (v := (0 : Int32)) (by decide) ?_
      have hf := Option.some.inj hf
      exact wk_iret X Z rfl dR_tagCan_33 () (Eq.symm hf) rfl rfl
-- R_tagStep: room (1, 22), Option (pR)
def fR_tagStep_L22 : Nat → pR → Int32 → Int32 → Option (pR)
  | 0, _, _, _ => none
  | n + 1, S, v1, v2 =>
    (p_rd 300 S.2.1.2.2.2.1 v1).bind fun q3 =>
    if q3 ≤ v2 then (
      some S
    ) else (
      (p_rd 3600 S.2.1.2.2.1 (((12 : Int32) * v1) + v2)).bind fun q6 =>
      (fR_push S q6).bind fun q8 =>
      fR_tagStep_L22 n q8 v1 (v2 + (1 : Int32))
    )
def fR_tagStep (S : pR) : Option (pR) :=
  (p_rd 12000 S.2.1.2.2.2.2.2.1 S.2.1.2.2.2.2.2.2.1).bind fun q1 =>
  fR_tagStep_L22 100000 (S.1, (S.2.1.1, S.2.1.2.1, S.2.1.2.2.1, S.2.1.2.2.2.1, S.2.1.2.2.2.2.1, S.2.1.2.2.2.2.2.1, (S.2.1.2.2.2.2.2.2.1 + (2 : Int32)), S.2.1.2.2.2.2.2.2.2), S.2.2.1, S.2.2.2) q1 (0 : Int32)
set_option maxRecDepth 100000 in
set_option maxHeartbeats 4000000 in
theorem wR_tagStep_L22 {V : ee_V} (a : Nat → Nat) (S0 : pR) {x : wk_C} (X : wk_K (ee V) x cR_tagStep 3 "TagWorkshopModel" ts_R_tagStep ⟨1, 0, 0, 22⟩) (R : pR) (Z : wk_N x none (va_Qv (fun u : pR => R = u) (wk_B (ee V) (cR V a S0) (fun u : pR => cR V a u)) (wk_in (cR V a S0))) (cR V a S0)) : ∀ (n : Nat) (S : pR) (v1 : Int32) (v2 : Int32), fR_tagStep_L22 n S v1 v2 = some R → wk_G (ee V) x 3 (cR V a S) 22 [(0, .ref (a 0)), (1, .int v1), (2, .int v2)] [] := by
  intro n
  induction n with
  | zero => intro S v1 v2 hf; exact absurd hf (by rw [fR_tagStep_L22]; exact fun h => by cases h)
  | succ n ih =>
    intro S v1 v2 hf
    rw [fR_tagStep_L22] at hf
    refine wk_iload_n X 2 dR_tagStep_22 rfl rfl ?_
    refine wk_aload_n X 0 dR_tagStep_23 rfl rfl ?_
    refine wk_get X uw_R 0 rfl rfl 11 (Nat.le_of_ble_eq_true rfl) (tl tw_548) rfl rfl dR_tagStep_24 ?_
    refine wk_iload_n X 1 dR_tagStep_27 rfl rfl ?_
    obtain ⟨q3, h4, hf⟩ := p_ob hf
    obtain ⟨h4i, h4e⟩ := p_rd_some h4
    refine wk_iald X 6 0 rfl rfl h4i h4e dR_tagStep_28 ?_
    refine wk_icmp_ge X dR_tagStep_29 (tgt := 53) rfl (fun h5 => ?_) (fun h5 => ?_)
    · replace hf := p_it h5 hf
      have hf := Option.some.inj hf
      exact wk_vret X Z dR_tagStep_53 (S) (Eq.symm hf) rfl rfl
    · replace hf := p_ie h5 hf
      refine wk_aload_n X 0 dR_tagStep_32 rfl rfl ?_
      refine wk_aload_n X 0 dR_tagStep_33 rfl rfl ?_
      refine wk_get X uw_R 0 rfl rfl 10 (Nat.le_of_ble_eq_true rfl) (tl tw_547) rfl rfl dR_tagStep_34 ?_
      refine wk_bipush X dR_tagStep_37 (v := (12 : Int32)) (by decide) ?_
      refine wk_iload_n X 1 dR_tagStep_39 rfl rfl ?_
      refine wk_imul X dR_tagStep_40 ?_
      refine wk_iload_n X 2 dR_tagStep_41 rfl rfl ?_
      refine wk_iadd X dR_tagStep_42 ?_
      obtain ⟨q6, h7, hf⟩ := p_ob hf
      obtain ⟨h7i, h7e⟩ := p_rd_some h7
      refine wk_iald X 5 0 rfl rfl h7i h7e dR_tagStep_43 ?_
      obtain ⟨q8, h9, hf⟩ := p_ob hf
      refine wk_goV [0, 1, 2, 3, 4, 5, 6, 7, 8, 9, 10, 11, 12] (wk_rV X (mR_push (V := V) a S q6 q8 h9) rfl (gd (tw_710)) [0, 1, 2, 3, 4, 5, 6, 7, 8, 9, 10, 11, 12] rfl rfl 0 rfl rfl (tl tw_707) (tl tw_709) (tl tv_15) (tl tw_7) 1 pd_R_push rfl ⟨rfl, rfl⟩ ⟨Nat.le_of_ble_eq_true rfl, Nat.le_of_ble_eq_true rfl⟩ rfl (Nat.le_of_ble_eq_true rfl) dR_tagStep_44) rfl ?_
      rintro u rfl
      refine wk_ws (ws' := cR V a q8) rfl ?_
      refine wk_iinc X 2 dR_tagStep_47 (v := (v2 + (1 : Int32))) rfl rfl (Nat.le_of_ble_eq_true rfl) (lv' := [(2, .int (v2 + (1 : Int32))), (0, .ref (a 0)), (1, .int v1)]) rfl ?_
      refine wk_goto X dR_tagStep_50 (tgt := 22) rfl ?_
      refine wk_lv [1, 2, 0] (lv' := [(0, .ref (a 0)), (1, .int v1), (2, .int (v2 + (1 : Int32)))]) rfl ?_
      exact ih q8 v1 (v2 + (1 : Int32)) hf
set_option maxRecDepth 100000 in
set_option maxHeartbeats 4000000 in
theorem mR_tagStep {V : ee_V} (a : Nat → Nat) (S : pR) (R : pR) (hf : fR_tagStep S = some R) : wk_V (ee V) yR_tagStep ts_R_tagStep ⟨1, 0, 0, 22⟩ [.ref (a 0)] (cR V a S) (fun u : pR => R = u) (fun u : pR => cR V a u) := by
  refine wk_of (ee_ok V) (by decide +kernel) rfl (Nat.le_of_ble_eq_true rfl) ?_
  intro x X Z
  unfold fR_tagStep at hf
  refine wk_lq (lv' := [(0, .ref (a 0))]) rfl ?_
  refine wk_aload_n X 0 dR_tagStep_0 rfl rfl ?_
  refine wk_get X uw_R 0 rfl rfl 13 (Nat.le_of_ble_eq_true rfl) (tl tw_550) rfl rfl dR_tagStep_1 ?_
  refine wk_aload_n X 0 dR_tagStep_4 rfl rfl ?_
  refine wk_get X uw_R 0 rfl rfl 14 (Nat.le_of_ble_eq_true rfl) (tl tw_551) rfl rfl dR_tagStep_5 ?_
  obtain ⟨q1, h2, hf⟩ := p_ob hf
  obtain ⟨h2i, h2e⟩ := p_rd_some h2
  refine wk_iald X 8 0 rfl rfl h2i h2e dR_tagStep_8 ?_
  refine wk_istore_n X dR_tagStep_9 rfl (Nat.le_of_ble_eq_true rfl) (lv' := [(1, .int q1), (0, .ref (a 0))]) rfl ?_
  refine wk_aload_n X 1 dR_tagStep_10 rfl rfl ?_
  refine wk_dup X dR_tagStep_11 rfl ?_
  refine wk_get X uw_R 0 rfl rfl 14 (Nat.le_of_ble_eq_true rfl) (tl tw_551) rfl rfl dR_tagStep_12 ?_
  refine wk_iconst X dR_tagStep_15 (v := (2 : Int32)) (by decide) ?_
  refine wk_iadd X dR_tagStep_16 ?_
  refine wk_put X uw_R 0 rfl rfl 14 (Nat.le_of_ble_eq_true rfl) ft_R ft_R_ok fn_R (tl tw_551) rfl rfl rfl rfl (Nat.le_of_ble_eq_true rfl) dR_tagStep_17 (ws' := cR V a (S.1, (S.2.1.1, S.2.1.2.1, S.2.1.2.2.1, S.2.1.2.2.2.1, S.2.1.2.2.2.2.1, S.2.1.2.2.2.2.2.1, (S.2.1.2.2.2.2.2.2.1 + (2 : Int32)), S.2.1.2.2.2.2.2.2.2), S.2.2.1, S.2.2.2)) rfl ?_
  refine wk_iconst X dR_tagStep_20 (v := (0 : Int32)) (by decide) ?_
  refine wk_istore_n X dR_tagStep_21 rfl (Nat.le_of_ble_eq_true rfl) (lv' := [(2, .int (0 : Int32)), (1, .int q1), (0, .ref (a 0))]) rfl ?_
  refine wk_lv [2, 1, 0] (lv' := [(0, .ref (a 0)), (1, .int q1), (2, .int (0 : Int32))]) rfl ?_
  exact wR_tagStep_L22 a S X R Z 100000 (S.1, (S.2.1.1, S.2.1.2.1, S.2.1.2.2.1, S.2.1.2.2.2.1, S.2.1.2.2.2.2.1, S.2.1.2.2.2.2.2.1, (S.2.1.2.2.2.2.2.2.1 + (2 : Int32)), S.2.1.2.2.2.2.2.2.2), S.2.2.1, S.2.2.2) q1 (0 : Int32) hf

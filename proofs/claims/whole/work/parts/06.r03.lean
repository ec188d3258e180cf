-- R_emptySystem: room (0, 0), Option (pR)
def fR_emptySystem_L22 : Nat → pR → Int32 → Int32 → Option (pR)
  | 0, _, _, _ => none
  | n + 1, S, v1, v2 =>
    if (300 : Int32) ≤ v2 then (
      some (S.1, S.2.1, (S.2.2.1.1, S.2.2.1.2.1, S.2.2.1.2.2.1, S.2.2.1.2.2.2.1, S.2.2.1.2.2.2.2.1, (0 : Int32), (0 : Int32), (0 : Int32), (0 : Int32)), S.2.2.2)
    ) else (
      (p_wr 300 S.2.1.2.2.2.1 v2 (0 : Int32)).bind fun q2 =>
      (p_wr 300 S.2.1.2.2.2.2.1 v2 (0 : Int32)).bind fun q4 =>
      fR_emptySystem_L22 n (S.1, (S.2.1.1, S.2.1.2.1, S.2.1.2.2.1, q2, q4, S.2.1.2.2.2.2.2.1, S.2.1.2.2.2.2.2.2.1, S.2.1.2.2.2.2.2.2.2), S.2.2.1, S.2.2.2) v1 (v2 + (1 : Int32))
    )
def fR_emptySystem (S : pR) (v1 : Int32) : Option (pR) :=
  fR_emptySystem_L22 100000 (S.1, (v1, S.2.1.2.1, S.2.1.2.2.1, S.2.1.2.2.2.1, S.2.1.2.2.2.2.1, S.2.1.2.2.2.2.2.1, (0 : Int32), (0 : Int32)), ((0 : Int32), S.2.2.1.2.1, S.2.2.1.2.2.1, S.2.2.1.2.2.2.1, S.2.2.1.2.2.2.2.1, S.2.2.1.2.2.2.2.2.1, S.2.2.1.2.2.2.2.2.2.1, S.2.2.1.2.2.2.2.2.2.2.1, S.2.2.1.2.2.2.2.2.2.2.2), S.2.2.2) v1 (0 : Int32)
set_option maxRecDepth 100000 in
set_option maxHeartbeats 4000000 in
theorem wR_emptySystem_L22 {V : ee_V} (a : Nat → Nat) (S0 : pR) {x : wk_C} (X : wk_K (ee V) x cR_emptySystem 3 "TagWorkshopModel" ts_R_emptySystem ⟨0, 0, 0, 0⟩) (R : pR) (Z : wk_N x none (va_Qv (fun u : pR => R = u) (wk_B (ee V) (cR V a S0) (fun u : pR => cR V a u)) (wk_in (cR V a S0))) (cR V a S0)) : ∀ (n : Nat) (S : pR) (v1 : Int32) (v2 : Int32), fR_emptySystem_L22 n S v1 v2 = some R → wk_G (ee V) x 3 (cR V a S) 22 [(0, .ref (a 0)), (1, .int v1), (2, .int v2)] [] := by
  intro n
  induction n with
  | zero => intro S v1 v2 hf; exact absurd hf (by rw [fR_emptySystem_L22]; exact fun h => by cases h)
  | succ n ih =>
    intro S v1 v2 hf
    rw [fR_emptySystem_L22] at hf
    refine wk_iload_n X 2 dR_emptySystem_22 rfl rfl ?_
    refine wk_sipush X dR_emptySystem_23 (v := (300 : Int32)) (by decide) ?_
    refine wk_icmp_ge X dR_emptySystem_26 (tgt := 49) rfl (fun h1 => ?_) (fun h1 => ?_)
    · replace hf := p_it h1 hf
      refine wk_aload_n X 0 dR_emptySystem_49 rfl rfl ?_
      refine wk_iconst X dR_emptySystem_50 (v := (0 : Int32)) (by decide) ?_
      refine wk_put X uw_R 0 rfl rfl 21 (Nat.le_of_ble_eq_true rfl) ft_R ft_R_ok fn_R (tl tw_558) rfl rfl rfl rfl (Nat.le_of_ble_eq_true rfl) dR_emptySystem_51 (ws' := cR V a (S.1, S.2.1, (S.2.2.1.1, S.2.2.1.2.1, S.2.2.1.2.2.1, S.2.2.1.2.2.2.1, S.2.2.1.2.2.2.2.1, (0 : Int32), S.2.2.1.2.2.2.2.2.2.1, S.2.2.1.2.2.2.2.2.2.2.1, S.2.2.1.2.2.2.2.2.2.2.2), S.2.2.2)) rfl ?_
      refine wk_aload_n X 0 dR_emptySystem_54 rfl rfl ?_
      refine wk_iconst X dR_emptySystem_55 (v := (0 : Int32)) (by decide) ?_
      refine wk_put X uw_R 0 rfl rfl 22 (Nat.le_of_ble_eq_true rfl) ft_R ft_R_ok fn_R (tl tw_559) rfl rfl rfl rfl (Nat.le_of_ble_eq_true rfl) dR_emptySystem_56 (ws' := cR V a (S.1, S.2.1, (S.2.2.1.1, S.2.2.1.2.1, S.2.2.1.2.2.1, S.2.2.1.2.2.2.1, S.2.2.1.2.2.2.2.1, (0 : Int32), (0 : Int32), S.2.2.1.2.2.2.2.2.2.2.1, S.2.2.1.2.2.2.2.2.2.2.2), S.2.2.2)) rfl ?_
      refine wk_aload_n X 0 dR_emptySystem_59 rfl rfl ?_
      refine wk_iconst X dR_emptySystem_60 (v := (0 : Int32)) (by decide) ?_
      refine wk_put X uw_R 0 rfl rfl 23 (Nat.le_of_ble_eq_true rfl) ft_R ft_R_ok fn_R (tl tw_560) rfl rfl rfl rfl (Nat.le_of_ble_eq_true rfl) dR_emptySystem_61 (ws' := cR V a (S.1, S.2.1, (S.2.2.1.1, S.2.2.1.2.1, S.2.2.1.2.2.1, S.2.2.1.2.2.2.1, S.2.2.1.2.2.2.2.1, (0 : Int32), (0 : Int32), (0 : Int32), S.2.2.1.2.2.2.2.2.2.2.2), S.2.2.2)) rfl ?_
      refine wk_aload_n X 0 dR_emptySystem_64 rfl rfl ?_
      refine wk_iconst X dR_emptySystem_65 (v := (0 : Int32)) (by decide) ?_
      refine wk_put X uw_R 0 rfl rfl 24 (Nat.le_of_ble_eq_true rfl) ft_R ft_R_ok fn_R (tl tw_561) rfl rfl rfl rfl (Nat.le_of_ble_eq_true rfl) dR_emptySystem_66 (ws' := cR V a (S.1, S.2.1, (S.2.2.1.1, S.2.2.1.2.1, S.2.2.1.2.2.1, S.2.2.1.2.2.2.1, S.2.2.1.2.2.2.2.1, (0 : Int32), (0 : Int32), (0 : Int32), (0 : Int32)), S.2.2.2)) rfl ?_
      have hf := Option.some.inj hf
      exact wk_vret X Z dR_emptySystem_69 ((S.1, S.2.1, (S.2.2.1.1, S.2.2.1.2.1, S.2.2.1.2.2.1, S.2.2.1.2.2.2.1, S.2.2.1.2.2.2.2.1, (0 : Int32), (0 : Int32), (0 : Int32), (0 : Int32)), S.2.2.2)) (Eq.symm hf) rfl rfl
    · replace hf := p_ie h1 hf
      refine wk_aload_n X 0 dR_emptySystem_29 rfl rfl ?_
      refine wk_get X uw_R 0 rfl rfl 11 (Nat.le_of_ble_eq_true rfl) (tl tw_548) rfl rfl dR_emptySystem_30 ?_
      refine wk_iload_n X 2 dR_emptySystem_33 rfl rfl ?_
      refine wk_iconst X dR_emptySystem_34 (v := (0 : Int32)) (by decide) ?_
      obtain ⟨q2, h3, hf⟩ := p_ob hf
      obtain ⟨h3i, h3e⟩ := p_wr_some h3
      refine wk_iast X 6 0 rfl rfl h3i h3e dR_emptySystem_35 (ws' := cR V a (S.1, (S.2.1.1, S.2.1.2.1, S.2.1.2.2.1, q2, S.2.1.2.2.2.2.1, S.2.1.2.2.2.2.2.1, S.2.1.2.2.2.2.2.2.1, S.2.1.2.2.2.2.2.2.2), S.2.2.1, S.2.2.2)) rfl ?_
      refine wk_aload_n X 0 dR_emptySystem_36 rfl rfl ?_
      refine wk_get X uw_R 0 rfl rfl 12 (Nat.le_of_ble_eq_true rfl) (tl tw_549) rfl rfl dR_emptySystem_37 ?_
      refine wk_iload_n X 2 dR_emptySystem_40 rfl rfl ?_
      refine wk_iconst X dR_emptySystem_41 (v := (0 : Int32)) (by decide) ?_
      obtain ⟨q4, h5, hf⟩ := p_ob hf
      obtain ⟨h5i, h5e⟩ := p_wr_some h5
      refine wk_zast X 7 1 rfl rfl h5i (by decide) h5e dR_emptySystem_42 (ws' := cR V a (S.1, (S.2.1.1, S.2.1.2.1, S.2.1.2.2.1, q2, q4, S.2.1.2.2.2.2.2.1, S.2.1.2.2.2.2.2.2.1, S.2.1.2.2.2.2.2.2.2), S.2.2.1, S.2.2.2)) rfl ?_
      refine wk_iinc X 2 dR_emptySystem_43 (v := (v2 + (1 : Int32))) rfl rfl (Nat.le_of_ble_eq_true rfl) (lv' := [(2, .int (v2 + (1 : Int32))), (0, .ref (a 0)), (1, .int v1)]) rfl ?_
      refine wk_goto X dR_emptySystem_46 (tgt := 22) rfl ?_
      refine wk_lv [1, 2, 0] (lv' := [(0, .ref (a 0)), (1, .int v1), (2, .int (v2 + (1 : Int32)))]) rfl ?_
      exact ih (S.1, (S.2.1.1, S.2.1.2.1, S.2.1.2.2.1, q2, q4, S.2.1.2.2.2.2.2.1, S.2.1.2.2.2.2.2.2.1, S.2.1.2.2.2.2.2.2.2), S.2.2.1, S.2.2.2) v1 (v2 + (1 : Int32)) hf
set_option maxRecDepth 100000 in
set_option maxHeartbeats 4000000 in
theorem mR_emptySystem {V : ee_V} (a : Nat → Nat) (S : pR) (v1 : Int32) (R : pR) (hf : fR_emptySystem S v1 = some R) : wk_V (ee V) yR_emptySystem ts_R_emptySystem ⟨0, 0, 0, 0⟩ [.ref (a 0), .int v1] (cR V a S) (fun u : pR => R = u) (fun u : pR => cR V a u) := by
  refine wk_of (ee_ok V) (by decide +kernel) rfl (Nat.le_of_ble_eq_true rfl) ?_
  intro x X Z
  unfold fR_emptySystem at hf
  refine wk_lq (lv' := [(0, .ref (a 0)), (1, .int v1)]) rfl ?_
  refine wk_aload_n X 0 dR_emptySystem_0 rfl rfl ?_
  refine wk_iload_n X 1 dR_emptySystem_1 rfl rfl ?_
  refine wk_put X uw_R 0 rfl rfl 8 (Nat.le_of_ble_eq_true rfl) ft_R ft_R_ok fn_R (tl tw_545) rfl rfl rfl rfl (Nat.le_of_ble_eq_true rfl) dR_emptySystem_2 (ws' := cR V a (S.1, (v1, S.2.1.2.1, S.2.1.2.2.1, S.2.1.2.2.2.1, S.2.1.2.2.2.2.1, S.2.1.2.2.2.2.2.1, S.2.1.2.2.2.2.2.2.1, S.2.1.2.2.2.2.2.2.2), S.2.2.1, S.2.2.2)) rfl ?_
  refine wk_aload_n X 0 dR_emptySystem_5 rfl rfl ?_
  refine wk_iconst X dR_emptySystem_6 (v := (0 : Int32)) (by decide) ?_
  refine wk_put X uw_R 0 rfl rfl 14 (Nat.le_of_ble_eq_true rfl) ft_R ft_R_ok fn_R (tl tw_551) rfl rfl rfl rfl (Nat.le_of_ble_eq_true rfl) dR_emptySystem_7 (ws' := cR V a (S.1, (v1, S.2.1.2.1, S.2.1.2.2.1, S.2.1.2.2.2.1, S.2.1.2.2.2.2.1, S.2.1.2.2.2.2.2.1, (0 : Int32), S.2.1.2.2.2.2.2.2.2), S.2.2.1, S.2.2.2)) rfl ?_
  refine wk_aload_n X 0 dR_emptySystem_10 rfl rfl ?_
  refine wk_iconst X dR_emptySystem_11 (v := (0 : Int32)) (by decide) ?_
  refine wk_put X uw_R 0 rfl rfl 15 (Nat.le_of_ble_eq_true rfl) ft_R ft_R_ok fn_R (tl tw_552) rfl rfl rfl rfl (Nat.le_of_ble_eq_true rfl) dR_emptySystem_12 (ws' := cR V a (S.1, (v1, S.2.1.2.1, S.2.1.2.2.1, S.2.1.2.2.2.1, S.2.1.2.2.2.2.1, S.2.1.2.2.2.2.2.1, (0 : Int32), (0 : Int32)), S.2.2.1, S.2.2.2)) rfl ?_
  refine wk_aload_n X 0 dR_emptySystem_15 rfl rfl ?_
  refine wk_iconst X dR_emptySystem_16 (v := (0 : Int32)) (by decide) ?_
  refine wk_put X uw_R 0 rfl rfl 16 (Nat.le_of_ble_eq_true rfl) ft_R ft_R_ok fn_R (tl tw_553) rfl rfl rfl rfl (Nat.le_of_ble_eq_true rfl) dR_emptySystem_17 (ws' := cR V a (S.1, (v1, S.2.1.2.1, S.2.1.2.2.1, S.2.1.2.2.2.1, S.2.1.2.2.2.2.1, S.2.1.2.2.2.2.2.1, (0 : Int32), (0 : Int32)), ((0 : Int32), S.2.2.1.2.1, S.2.2.1.2.2.1, S.2.2.1.2.2.2.1, S.2.2.1.2.2.2.2.1, S.2.2.1.2.2.2.2.2.1, S.2.2.1.2.2.2.2.2.2.1, S.2.2.1.2.2.2.2.2.2.2.1, S.2.2.1.2.2.2.2.2.2.2.2), S.2.2.2)) rfl ?_
  refine wk_iconst X dR_emptySystem_20 (v := (0 : Int32)) (by decide) ?_
  refine wk_istore_n X dR_emptySystem_21 rfl (Nat.le_of_ble_eq_true rfl) (lv' := [(2, .int (0 : Int32)), (0, .ref (a 0)), (1, .int v1)]) rfl ?_
  refine wk_lv [1, 2, 0] (lv' := [(0, .ref (a 0)), (1, .int v1), (2, .int (0 : Int32))]) rfl ?_
  exact wR_emptySystem_L22 a S X R Z 100000 (S.1, (v1, S.2.1.2.1, S.2.1.2.2.1, S.2.1.2.2.2.1, S.2.1.2.2.2.2.1, S.2.1.2.2.2.2.2.1, (0 : Int32), (0 : Int32)), ((0 : Int32), S.2.2.1.2.1, S.2.2.1.2.2.1, S.2.2.1.2.2.2.1, S.2.2.1.2.2.2.2.1, S.2.2.1.2.2.2.2.2.1, S.2.2.1.2.2.2.2.2.2.1, S.2.2.1.2.2.2.2.2.2.2.1, S.2.2.1.2.2.2.2.2.2.2.2), S.2.2.2) v1 (0 : Int32) hf
-- R_letterOf: room (0, 0), Int32
def fR_letterOf (v0 : Int32) (v1 : Int32) (v2 : Int32) : Int32 :=
  (((1 : Int32) + ((18 : Int32) * (((2 : Int32) * (v0 - (1 : Int32))) + v1))) + v2)
set_option maxRecDepth 100000 in
set_option maxHeartbeats 4000000 in
theorem mR_letterOf {V : ee_V} (v0 : Int32) (v1 : Int32) (v2 : Int32) (R : Int32) (hf : fR_letterOf v0 v1 v2 = R) : wk_I (ee V) yR_letterOf ts_R_letterOf ⟨0, 0, 0, 0⟩ [.int v0, .int v1, .int v2] (([] : va_W)) (fun (r : Int32) (_ : Unit) => R = r) (fun _ : Unit => ([] : va_W)) := by
  refine wk_of (ee_ok V) (by decide +kernel) rfl (Nat.le_of_ble_eq_true rfl) ?_
  intro x X Z
  unfold fR_letterOf at hf
  refine wk_lq (lv' := [(0, .int v0), (1, .int v1), (2, .int v2)]) rfl ?_
  refine wk_iconst X dR_letterOf_0 (v := (1 : Int32)) (by decide) ?_
  refine wk_bipush X dR_letterOf_1 (v := (18 : Int32)) (by decide) ?_
  refine wk_iconst X dR_letterOf_3 (v := (2 : Int32)) (by decide) ?_
  refine wk_iload_n X 0 dR_letterOf_4 rfl rfl ?_
  refine wk_iconst X dR_letterOf_5 (v := (1 : Int32)) (by decide) ?_
  refine wk_isub X dR_letterOf_6 ?_
  refine wk_imul X dR_letterOf_7 ?_
  refine wk_iload_n X 1 dR_letterOf_8 rfl rfl ?_
  refine wk_iadd X dR_letterOf_9 ?_
  refine wk_imul X dR_letterOf_10 ?_
  refine wk_iadd X dR_letterOf_11 ?_
  refine wk_iload_n X 2 dR_letterOf_12 rfl rfl ?_
  refine wk_iadd X dR_letterOf_13 ?_
  exact wk_iret X Z rfl dR_letterOf_14 () (Eq.symm hf) rfl rfl
-- R_add: room (0, 0), Option (pR)
def fR_add (S : pR) (v1 : Int32) (v2 : Int32) : Option (pR) :=
  (p_rd 300 S.2.1.2.2.2.1 v1).bind fun q1 =>
  (p_wr 3600 S.2.1.2.2.1 (((12 : Int32) * v1) + q1) v2).bind fun q3 =>
  (p_wr 300 S.2.1.2.2.2.1 v1 (q1 + (1 : Int32))).bind fun q7 =>
  some (S.1, (S.2.1.1, S.2.1.2.1, q3, q7, S.2.1.2.2.2.2.1, S.2.1.2.2.2.2.2.1, S.2.1.2.2.2.2.2.2.1, S.2.1.2.2.2.2.2.2.2), S.2.2.1, S.2.2.2)
set_option maxRecDepth 100000 in
set_option maxHeartbeats 4000000 in
theorem mR_add {V : ee_V} (a : Nat → Nat) (S : pR) (v1 : Int32) (v2 : Int32) (R : pR) (hf : fR_add S v1 v2 = some R) : wk_V (ee V) yR_add ts_R_add ⟨0, 0, 0, 0⟩ [.ref (a 0), .int v1, .int v2] (cR V a S) (fun u : pR => R = u) (fun u : pR => cR V a u) := by
  refine wk_of (ee_ok V) (by decide +kernel) rfl (Nat.le_of_ble_eq_true rfl) ?_
  intro x X Z
  unfold fR_add at hf
  refine wk_lq (lv' := [(0, .ref (a 0)), (1, .int v1), (2, .int v2)]) rfl ?_
  refine wk_aload_n X 0 dR_add_0 rfl rfl ?_
  refine wk_get X uw_R 0 rfl rfl 10 (Nat.le_of_ble_eq_true rfl) (tl tw_547) rfl rfl dR_add_1 ?_
  refine wk_bipush X dR_add_4 (v := (12 : Int32)) (by decide) ?_
  refine wk_iload_n X 1 dR_add_6 rfl rfl ?_
  refine wk_imul X dR_add_7 ?_
  refine wk_aload_n X 0 dR_add_8 rfl rfl ?_
  refine wk_get X uw_R 0 rfl rfl 11 (Nat.le_of_ble_eq_true rfl) (tl tw_548) rfl rfl dR_add_9 ?_
  refine wk_iload_n X 1 dR_add_12 rfl rfl ?_
  obtain ⟨q1, h2, hf⟩ := p_ob hf
  obtain ⟨h2i, h2e⟩ := p_rd_some h2
  refine wk_iald X 6 0 rfl rfl h2i h2e dR_add_13 ?_
  refine wk_iadd X dR_add_14 ?_
  refine wk_iload_n X 2 dR_add_15 rfl rfl ?_
  obtain ⟨q3, h4, hf⟩ := p_ob hf
  obtain ⟨h4i, h4e⟩ := p_wr_some h4
  refine wk_iast X 5 0 rfl rfl h4i h4e dR_add_16 (ws' := cR V a (S.1, (S.2.1.1, S.2.1.2.1, q3, S.2.1.2.2.2.1, S.2.1.2.2.2.2.1, S.2.1.2.2.2.2.2.1, S.2.1.2.2.2.2.2.2.1, S.2.1.2.2.2.2.2.2.2), S.2.2.1, S.2.2.2)) rfl ?_
  refine wk_aload_n X 0 dR_add_17 rfl rfl ?_
  refine wk_get X uw_R 0 rfl rfl 11 (Nat.le_of_ble_eq_true rfl) (tl tw_548) rfl rfl dR_add_18 ?_
  refine wk_iload_n X 1 dR_add_21 rfl rfl ?_
  refine wk_dup2 X dR_add_22 rfl rfl ?_
  refine wk_iald X 6 0 rfl rfl h2i h2e dR_add_23 ?_
  refine wk_iconst X dR_add_24 (v := (1 : Int32)) (by decide) ?_
  refine wk_iadd X dR_add_25 ?_
  obtain ⟨q7, h8, hf⟩ := p_ob hf
  obtain ⟨h8i, h8e⟩ := p_wr_some h8
  refine wk_iast X 6 0 rfl rfl h8i h8e dR_add_26 (ws' := cR V a (S.1, (S.2.1.1, S.2.1.2.1, q3, q7, S.2.1.2.2.2.2.1, S.2.1.2.2.2.2.2.1, S.2.1.2.2.2.2.2.2.1, S.2.1.2.2.2.2.2.2.2), S.2.2.1, S.2.2.2)) rfl ?_
  have hf := Option.some.inj hf
  exact wk_vret X Z dR_add_27 ((S.1, (S.2.1.1, S.2.1.2.1, q3, q7, S.2.1.2.2.2.2.1, S.2.1.2.2.2.2.2.1, S.2.1.2.2.2.2.2.2.1, S.2.1.2.2.2.2.2.2.2), S.2.2.1, S.2.2.2)) (Eq.symm hf) rfl rfl
-- R_two: room (1, 22), Option (pR)
def fR_two (S : pR) (v1 : Int32) (v2 : Int32) (v3 : Int32) : Option (pR) :=
  (fR_add S v1 v2).bind fun q1 =>
  (fR_add q1 v1 v3).bind fun q3 =>
  some q3
set_option maxRecDepth 100000 in
set_option maxHeartbeats 4000000 in
theorem mR_two {V : ee_V} (a : Nat → Nat) (S : pR) (v1 : Int32) (v2 : Int32) (v3 : Int32) (R : pR) (hf : fR_two S v1 v2 v3 = some R) : wk_V (ee V) yR_two ts_R_two ⟨1, 0, 0, 22⟩ [.ref (a 0), .int v1, .int v2, .int v3] (cR V a S) (fun u : pR => R = u) (fun u : pR => cR V a u) := by
  refine wk_of (ee_ok V) (by decide +kernel) rfl (Nat.le_of_ble_eq_true rfl) ?_
  intro x X Z
  unfold fR_two at hf
  refine wk_lq (lv' := [(0, .ref (a 0)), (1, .int v1), (2, .int v2), (3, .int v3)]) rfl ?_
  refine wk_aload_n X 0 dR_two_0 rfl rfl ?_
  refine wk_iload_n X 1 dR_two_1 rfl rfl ?_
  refine wk_iload_n X 2 dR_two_2 rfl rfl ?_
  obtain ⟨q1, h2, hf⟩ := p_ob hf
  refine wk_goV [0, 1, 2, 3, 4, 5, 6, 7, 8, 9, 10, 11, 12] (wk_rV X (mR_add (V := V) a S v1 v2 q1 h2) rfl (gd (tw_698)) [0, 1, 2, 3, 4, 5, 6, 7, 8, 9, 10, 11, 12] rfl rfl 0 rfl rfl (tl tw_695) (tl tw_697) (tl tv_12) (tl tw_7) 2 pd_R_add rfl ⟨rfl, rfl⟩ ⟨Nat.le_of_ble_eq_true rfl, Nat.le_of_ble_eq_true rfl⟩ rfl (Nat.le_of_ble_eq_true rfl) dR_two_3) rfl ?_
  rintro u rfl
  refine wk_ws (ws' := cR V a q1) rfl ?_
  refine wk_aload_n X 0 dR_two_6 rfl rfl ?_
  refine wk_iload_n X 1 dR_two_7 rfl rfl ?_
  refine wk_iload_n X 3 dR_two_8 rfl rfl ?_
  obtain ⟨q3, h4, hf⟩ := p_ob hf
  refine wk_goV [0, 1, 2, 3, 4, 5, 6, 7, 8, 9, 10, 11, 12] (wk_rV X (mR_add (V := V) a q1 v1 v3 q3 h4) rfl (gd (tw_698)) [0, 1, 2, 3, 4, 5, 6, 7, 8, 9, 10, 11, 12] rfl rfl 0 rfl rfl (tl tw_695) (tl tw_697) (tl tv_12) (tl tw_7) 2 pd_R_add rfl ⟨rfl, rfl⟩ ⟨Nat.le_of_ble_eq_true rfl, Nat.le_of_ble_eq_true rfl⟩ rfl (Nat.le_of_ble_eq_true rfl) dR_two_9) rfl ?_
  rintro u rfl
  refine wk_ws (ws' := cR V a q3) rfl ?_
  have hf := Option.some.inj hf
  exact wk_vret X Z dR_two_12 (q3) (Eq.symm hf) rfl rfl

-- T_copyFrom: room (1, 26), Option (pT)
def fT_copyFrom_L10 (S2 : pT) : Nat → pT → Int32 → Option (pT)
  | 0, _, _ => none
  | n + 1, S, v2 =>
    if S.2.2.2.2.2.2.1 ≤ v2 then (
      some ((va_cpy S2.1 S.1 0 0 600), S.2.1, S.2.2.1, (va_cpy S2.2.2.2.1 S.2.2.2.1 0 0 4096), S2.2.2.2.2.1, S2.2.2.2.2.2.1, S.2.2.2.2.2.2.1, S.2.2.2.2.2.2.2)
    ) else (
      (p_rd 300 S2.2.1 v2).bind fun q2 =>
      (p_wr 300 S.2.1 v2 q2).bind fun q4 =>
      (p_rd 300 S2.2.2.1 v2).bind fun q6 =>
      (p_wr 300 S.2.2.1 v2 (vp_nar .boolean q6)).bind fun q8 =>
      fT_copyFrom_L10 S2 n (S.1, q4, q8, S.2.2.2.1, S.2.2.2.2.1, S.2.2.2.2.2.1, S.2.2.2.2.2.2.1, S.2.2.2.2.2.2.2) (v2 + (1 : Int32))
    )
def fT_copyFrom (S : pT) (S2 : pT) : Option (pT) :=
  fT_copyFrom_L10 S2 100000 (S.1, S.2.1, S.2.2.1, S.2.2.2.1, S.2.2.2.2.1, S.2.2.2.2.2.1, S2.2.2.2.2.2.2.1, S.2.2.2.2.2.2.2) (0 : Int32)
set_option maxRecDepth 100000 in
set_option maxHeartbeats 4000000 in
theorem wT_copyFrom_L10 {V : ee_V} (a b : Nat → Nat) (S2 : pT) (S0 : pT) {x : wk_C} (X : wk_K (ee V) x cT_copyFrom 3 "TagWorkshop$TagSystem" ts_T_copyFrom ⟨1, 0, 0, 26⟩) (R : pT) (Z : wk_N x none (va_Qv (fun u : pT => R = u) (wk_B (ee V) (cT V a S0 ++ cT V b S2) (fun u : pT => cT V a u ++ cT V b S2)) (wk_in (cT V a S0 ++ cT V b S2))) (cT V a S0 ++ cT V b S2)) : ∀ (n : Nat) (S : pT) (v2 : Int32), fT_copyFrom_L10 S2 n S v2 = some R → wk_G (ee V) x 3 (cT V a S ++ cT V b S2) 10 [(0, .ref (a 0)), (1, .ref (b 0)), (2, .int v2)] [] := by
  intro n
  induction n with
  | zero => intro S v2 hf; exact absurd hf (by rw [fT_copyFrom_L10]; exact fun h => by cases h)
  | succ n ih =>
    intro S v2 hf
    rw [fT_copyFrom_L10] at hf
    refine wk_iload_n X 2 dT_copyFrom_10 rfl rfl ?_
    refine wk_aload_n X 0 dT_copyFrom_11 rfl rfl ?_
    refine wk_get X uw_T 0 rfl rfl 6 (Nat.le_of_ble_eq_true rfl) (tl tw_74) rfl rfl dT_copyFrom_12 ?_
    refine wk_icmp_ge X dT_copyFrom_15 (tgt := 48) rfl (fun h1 => ?_) (fun h1 => ?_)
    · replace hf := p_it h1 hf
      refine wk_aload_n X 1 dT_copyFrom_48 rfl rfl ?_
      refine wk_get X uw_T 5 rfl rfl 0 (Nat.le_of_ble_eq_true rfl) (tl tw_65) rfl rfl dT_copyFrom_49 ?_
      refine wk_iconst X dT_copyFrom_52 (v := (0 : Int32)) (by decide) ?_
      refine wk_aload_n X 0 dT_copyFrom_53 rfl rfl ?_
      refine wk_get X uw_T 0 rfl rfl 0 (Nat.le_of_ble_eq_true rfl) (tl tw_65) rfl rfl dT_copyFrom_54 ?_
      refine wk_iconst X dT_copyFrom_57 (v := (0 : Int32)) (by decide) ?_
      refine wk_aload_n X 0 dT_copyFrom_58 rfl rfl ?_
      refine wk_get X uw_T 0 rfl rfl 0 (Nat.le_of_ble_eq_true rfl) (tl tw_65) rfl rfl dT_copyFrom_59 ?_
      refine wk_alen X 1 2 rfl rfl (v := (600 : Int32)) rfl dT_copyFrom_62 ?_
      refine wk_copyl X (tl tw_341) (tl tw_343) (tl tw_342) (tl tw_10) 6 1 2 rfl rfl rfl (by decide) (by decide) (by decide) (by decide) (by decide) (by decide) (fun _ _ => rfl) (Nat.le_of_ble_eq_true rfl) (Nat.le_of_ble_eq_true rfl) dT_copyFrom_63 (ws' := cT V a ((va_cpy S2.1 S.1 0 0 600), S.2.1, S.2.2.1, S.2.2.2.1, S.2.2.2.2.1, S.2.2.2.2.2.1, S.2.2.2.2.2.2.1, S.2.2.2.2.2.2.2) ++ cT V b S2) rfl ?_
      refine wk_aload_n X 1 dT_copyFrom_66 rfl rfl ?_
      refine wk_get X uw_T 5 rfl rfl 3 (Nat.le_of_ble_eq_true rfl) (tl tw_68) rfl rfl dT_copyFrom_67 ?_
      refine wk_iconst X dT_copyFrom_70 (v := (0 : Int32)) (by decide) ?_
      refine wk_aload_n X 0 dT_copyFrom_71 rfl rfl ?_
      refine wk_get X uw_T 0 rfl rfl 3 (Nat.le_of_ble_eq_true rfl) (tl tw_68) rfl rfl dT_copyFrom_72 ?_
      refine wk_iconst X dT_copyFrom_75 (v := (0 : Int32)) (by decide) ?_
      refine wk_aload_n X 0 dT_copyFrom_76 rfl rfl ?_
      refine wk_get X uw_T 0 rfl rfl 3 (Nat.le_of_ble_eq_true rfl) (tl tw_68) rfl rfl dT_copyFrom_77 ?_
      refine wk_alen X 4 0 rfl rfl (v := (4096 : Int32)) rfl dT_copyFrom_80 ?_
      refine wk_copyi X (tl tw_341) (tl tw_343) (tl tw_342) (tl tw_10) 9 4 0 rfl rfl rfl (by decide) (by decide) (by decide) (by decide) (by decide) (by decide) (fun _ _ => rfl) (Nat.le_of_ble_eq_true rfl) (Nat.le_of_ble_eq_true rfl) dT_copyFrom_81 (ws' := cT V a ((va_cpy S2.1 S.1 0 0 600), S.2.1, S.2.2.1, (va_cpy S2.2.2.2.1 S.2.2.2.1 0 0 4096), S.2.2.2.2.1, S.2.2.2.2.2.1, S.2.2.2.2.2.2.1, S.2.2.2.2.2.2.2) ++ cT V b S2) rfl ?_
      refine wk_aload_n X 0 dT_copyFrom_84 rfl rfl ?_
      refine wk_aload_n X 1 dT_copyFrom_85 rfl rfl ?_
      refine wk_get X uw_T 5 rfl rfl 4 (Nat.le_of_ble_eq_true rfl) (tl tw_69) rfl rfl dT_copyFrom_86 ?_
      refine wk_put X uw_T 0 rfl rfl 4 (Nat.le_of_ble_eq_true rfl) ft_T ft_T_ok fn_T (tl tw_69) rfl rfl rfl rfl (Nat.le_of_ble_eq_true rfl) dT_copyFrom_89 (ws' := cT V a ((va_cpy S2.1 S.1 0 0 600), S.2.1, S.2.2.1, (va_cpy S2.2.2.2.1 S.2.2.2.1 0 0 4096), S2.2.2.2.2.1, S.2.2.2.2.2.1, S.2.2.2.2.2.2.1, S.2.2.2.2.2.2.2) ++ cT V b S2) rfl ?_
      refine wk_aload_n X 0 dT_copyFrom_92 rfl rfl ?_
      refine wk_aload_n X 1 dT_copyFrom_93 rfl rfl ?_
      refine wk_get X uw_T 5 rfl rfl 5 (Nat.le_of_ble_eq_true rfl) (tl tw_70) rfl rfl dT_copyFrom_94 ?_
      refine wk_put X uw_T 0 rfl rfl 5 (Nat.le_of_ble_eq_true rfl) ft_T ft_T_ok fn_T (tl tw_70) rfl rfl rfl rfl (Nat.le_of_ble_eq_true rfl) dT_copyFrom_97 (ws' := cT V a ((va_cpy S2.1 S.1 0 0 600), S.2.1, S.2.2.1, (va_cpy S2.2.2.2.1 S.2.2.2.1 0 0 4096), S2.2.2.2.2.1, S2.2.2.2.2.2.1, S.2.2.2.2.2.2.1, S.2.2.2.2.2.2.2) ++ cT V b S2) rfl ?_
      have hf := Option.some.inj hf
      exact wk_vret X Z dT_copyFrom_100 (((va_cpy S2.1 S.1 0 0 600), S.2.1, S.2.2.1, (va_cpy S2.2.2.2.1 S.2.2.2.1 0 0 4096), S2.2.2.2.2.1, S2.2.2.2.2.2.1, S.2.2.2.2.2.2.1, S.2.2.2.2.2.2.2)) (Eq.symm hf) rfl rfl
    · replace hf := p_ie h1 hf
      refine wk_aload_n X 0 dT_copyFrom_18 rfl rfl ?_
      refine wk_get X uw_T 0 rfl rfl 1 (Nat.le_of_ble_eq_true rfl) (tl tw_66) rfl rfl dT_copyFrom_19 ?_
      refine wk_iload_n X 2 dT_copyFrom_22 rfl rfl ?_
      refine wk_aload_n X 1 dT_copyFrom_23 rfl rfl ?_
      refine wk_get X uw_T 5 rfl rfl 1 (Nat.le_of_ble_eq_true rfl) (tl tw_66) rfl rfl dT_copyFrom_24 ?_
      refine wk_iload_n X 2 dT_copyFrom_27 rfl rfl ?_
      obtain ⟨q2, h3, hf⟩ := p_ob hf
      obtain ⟨h3i, h3e⟩ := p_rd_some h3
      refine wk_iald X 7 0 rfl rfl h3i h3e dT_copyFrom_28 ?_
      obtain ⟨q4, h5, hf⟩ := p_ob hf
      obtain ⟨h5i, h5e⟩ := p_wr_some h5
      refine wk_iast X 2 0 rfl rfl h5i h5e dT_copyFrom_29 (ws' := cT V a (S.1, q4, S.2.2.1, S.2.2.2.1, S.2.2.2.2.1, S.2.2.2.2.2.1, S.2.2.2.2.2.2.1, S.2.2.2.2.2.2.2) ++ cT V b S2) rfl ?_
      refine wk_aload_n X 0 dT_copyFrom_30 rfl rfl ?_
      refine wk_get X uw_T 0 rfl rfl 2 (Nat.le_of_ble_eq_true rfl) (tl tw_67) rfl rfl dT_copyFrom_31 ?_
      refine wk_iload_n X 2 dT_copyFrom_34 rfl rfl ?_
      refine wk_aload_n X 1 dT_copyFrom_35 rfl rfl ?_
      refine wk_get X uw_T 5 rfl rfl 2 (Nat.le_of_ble_eq_true rfl) (tl tw_67) rfl rfl dT_copyFrom_36 ?_
      refine wk_iload_n X 2 dT_copyFrom_39 rfl rfl ?_
      obtain ⟨q6, h7, hf⟩ := p_ob hf
      obtain ⟨h7i, h7e⟩ := p_rd_some h7
      refine wk_zald X 8 1 rfl rfl h7i h7e dT_copyFrom_40 ?_
      obtain ⟨q8, h9, hf⟩ := p_ob hf
      obtain ⟨h9i, h9e⟩ := p_wr_some h9
      refine wk_zastN X 3 1 rfl rfl h9i h9e dT_copyFrom_41 (ws' := cT V a (S.1, q4, q8, S.2.2.2.1, S.2.2.2.2.1, S.2.2.2.2.2.1, S.2.2.2.2.2.2.1, S.2.2.2.2.2.2.2) ++ cT V b S2) rfl ?_
      refine wk_iinc X 2 dT_copyFrom_42 (v := (v2 + (1 : Int32))) rfl rfl (Nat.le_of_ble_eq_true rfl) (lv' := [(2, .int (v2 + (1 : Int32))), (0, .ref (a 0)), (1, .ref (b 0))]) rfl ?_
      refine wk_goto X dT_copyFrom_45 (tgt := 10) rfl ?_
      refine wk_lv [1, 2, 0] (lv' := [(0, .ref (a 0)), (1, .ref (b 0)), (2, .int (v2 + (1 : Int32)))]) rfl ?_
      exact ih (S.1, q4, q8, S.2.2.2.1, S.2.2.2.2.1, S.2.2.2.2.2.1, S.2.2.2.2.2.2.1, S.2.2.2.2.2.2.2) (v2 + (1 : Int32)) hf
set_option maxRecDepth 100000 in
set_option maxHeartbeats 4000000 in
theorem mT_copyFrom {V : ee_V} (a b : Nat → Nat) (S : pT) (S2 : pT) (R : pT) (hf : fT_copyFrom S S2 = some R) : wk_V (ee V) yT_copyFrom ts_T_copyFrom ⟨1, 0, 0, 26⟩ [.ref (a 0), .ref (b 0)] (cT V a S ++ cT V b S2) (fun u : pT => R = u) (fun u : pT => cT V a u ++ cT V b S2) := by
  refine wk_of (ee_ok V) (by decide +kernel) rfl (Nat.le_of_ble_eq_true rfl) ?_
  intro x X Z
  unfold fT_copyFrom at hf
  refine wk_lq (lv' := [(0, .ref (a 0)), (1, .ref (b 0))]) rfl ?_
  refine wk_aload_n X 0 dT_copyFrom_0 rfl rfl ?_
  refine wk_aload_n X 1 dT_copyFrom_1 rfl rfl ?_
  refine wk_get X uw_T 5 rfl rfl 6 (Nat.le_of_ble_eq_true rfl) (tl tw_74) rfl rfl dT_copyFrom_2 ?_
  refine wk_put X uw_T 0 rfl rfl 6 (Nat.le_of_ble_eq_true rfl) ft_T ft_T_ok fn_T (tl tw_74) rfl rfl rfl rfl (Nat.le_of_ble_eq_true rfl) dT_copyFrom_5 (ws' := cT V a (S.1, S.2.1, S.2.2.1, S.2.2.2.1, S.2.2.2.2.1, S.2.2.2.2.2.1, S2.2.2.2.2.2.2.1, S.2.2.2.2.2.2.2) ++ cT V b S2) rfl ?_
  refine wk_iconst X dT_copyFrom_8 (v := (0 : Int32)) (by decide) ?_
  refine wk_istore_n X dT_copyFrom_9 rfl (Nat.le_of_ble_eq_true rfl) (lv' := [(2, .int (0 : Int32)), (0, .ref (a 0)), (1, .ref (b 0))]) rfl ?_
  refine wk_lv [1, 2, 0] (lv' := [(0, .ref (a 0)), (1, .ref (b 0)), (2, .int (0 : Int32))]) rfl ?_
  exact wT_copyFrom_L10 a b S2 S X R Z 100000 (S.1, S.2.1, S.2.2.1, S.2.2.2.1, S.2.2.2.2.1, S.2.2.2.2.2.1, S2.2.2.2.2.2.2.1, S.2.2.2.2.2.2.2) (0 : Int32) hf
-- Y_makeOf: room (2, 48), Option (pY)
def fY_makeOf (S : pY) (S2 : pT) : Option (pY) :=
  (fT_copyFrom S.1 S2).bind fun q1 =>
  some (q1, (0 : Int32))
set_option maxRecDepth 100000 in
set_option maxHeartbeats 4000000 in
theorem mY_makeOf {V : ee_V} (a b : Nat → Nat) (S : pY) (S2 : pT) (R : pY) (hf : fY_makeOf S S2 = some R) : wk_V (ee V) yY_makeOf ts_Y_makeOf ⟨2, 0, 0, 48⟩ [.ref (a 0), .ref (b 0)] (cY V a S ++ cT V b S2) (fun u : pY => R = u) (fun u : pY => cY V a u ++ cT V b S2) := by
  refine wk_of (ee_ok V) (by decide +kernel) rfl (Nat.le_of_ble_eq_true rfl) ?_
  intro x X Z
  unfold fY_makeOf at hf
  refine wk_lq (lv' := [(0, .ref (a 0)), (1, .ref (b 0))]) rfl ?_
  refine wk_aload_n X 0 dY_makeOf_0 rfl rfl ?_
  refine wk_get X uw_Y 0 rfl rfl 0 (Nat.le_of_ble_eq_true rfl) (tl tw_107) rfl rfl dY_makeOf_1 ?_
  refine wk_aload_n X 1 dY_makeOf_4 rfl rfl ?_
  obtain ⟨q1, h2, hf⟩ := p_ob hf
  refine wk_goV [1, 2, 3, 4, 5, 6, 7, 8, 9, 10] (wk_rV X (mT_copyFrom (V := V) (fun i => a (i + 1)) b S.1 S2 q1 h2) rfl (gd (tw_340)) [1, 2, 3, 4, 5, 6, 7, 8, 9, 10] rfl rfl 1 rfl rfl (tl tw_337) (tl tw_338) (tl tw_339) (tl tw_4) 1 pd_T_copyFrom rfl ⟨rfl, rfl⟩ ⟨Nat.le_of_ble_eq_true rfl, Nat.le_of_ble_eq_true rfl⟩ rfl (Nat.le_of_ble_eq_true rfl) dY_makeOf_5) rfl ?_
  rintro u rfl
  refine wk_ws (ws' := cY V a (q1, S.2) ++ cT V b S2) rfl ?_
  refine wk_aload_n X 0 dY_makeOf_8 rfl rfl ?_
  refine wk_iconst X dY_makeOf_9 (v := (0 : Int32)) (by decide) ?_
  refine wk_put X uw_Y 0 rfl rfl 1 (Nat.le_of_ble_eq_true rfl) ft_Y ft_Y_ok fn_Y (tl tw_108) rfl rfl rfl rfl (Nat.le_of_ble_eq_true rfl) dY_makeOf_10 (ws' := cY V a (q1, (0 : Int32)) ++ cT V b S2) rfl ?_
  have hf := Option.some.inj hf
  exact wk_vret X Z dY_makeOf_13 ((q1, (0 : Int32))) (Eq.symm hf) rfl rfl
-- Y_appendants: room (0, 0), Int32
def fY_appendants (S : pY) : Int32 :=
  ((2 : Int32) * S.1.2.2.2.2.2.2.1)
set_option maxRecDepth 100000 in
set_option maxHeartbeats 4000000 in
theorem mY_appendants {V : ee_V} (a : Nat → Nat) (S : pY) (R : Int32) (hf : fY_appendants S = R) : wk_I (ee V) yY_appendants ts_Y_appendants ⟨0, 0, 0, 0⟩ [.ref (a 0)] (cY V a S) (fun (r : Int32) (_ : Unit) => R = r) (fun _ : Unit => cY V a S) := by
  refine wk_of (ee_ok V) (by decide +kernel) rfl (Nat.le_of_ble_eq_true rfl) ?_
  intro x X Z
  unfold fY_appendants at hf
  refine wk_lq (lv' := [(0, .ref (a 0))]) rfl ?_
  refine wk_iconst X dY_appendants_0 (v := (2 : Int32)) (by decide) ?_
  refine wk_aload_n X 0 dY_appendants_1 rfl rfl ?_
  refine wk_get X uw_Y 0 rfl rfl 0 (Nat.le_of_ble_eq_true rfl) (tl tw_107) rfl rfl dY_appendants_2 ?_
  refine wk_get X uw_T 1 rfl rfl 6 (Nat.le_of_ble_eq_true rfl) (tl tw_75) rfl rfl dY_appendants_5 ?_
  refine wk_imul X dY_appendants_8 ?_
  exact wk_iret X Z rfl dY_appendants_9 () (Eq.symm hf) rfl rfl
-- X_compileCyclic: room (3, 69), Option (Int32 × pX)
def fX_compileCyclic (S : pX) : Option (Int32 × pX) :=
  if S.2.1.2.2.2.2.2.2.1 = 0 then (
    some ((0 : Int32), S)
  ) else (
    (fY_makeOf S.2.2.1 S.2.1).bind fun q2 =>
    some ((fY_appendants q2), (S.1, S.2.1, q2, S.2.2.2))
  )
set_option maxRecDepth 100000 in
set_option maxHeartbeats 4000000 in
theorem mX_compileCyclic {V : ee_V} (a : Nat → Nat) (S : pX) (R : Int32 × pX) (hf : fX_compileCyclic S = some R) : wk_I (ee V) yX_compileCyclic ts_X_compileCyclic ⟨3, 0, 0, 69⟩ [.ref (a 0)] (cX V a S) (fun (r : Int32) (u : pX) => R.1 = r ∧ R.2 = u) (fun u : pX => cX V a u) := by
  refine wk_of (ee_ok V) (by decide +kernel) rfl (Nat.le_of_ble_eq_true rfl) ?_
  intro x X Z
  unfold fX_compileCyclic at hf
  refine wk_lq (lv' := [(0, .ref (a 0))]) rfl ?_
  refine wk_aload_n X 0 dX_compileCyclic_0 rfl rfl ?_
  refine wk_get X uw_X 0 rfl rfl 1 (Nat.le_of_ble_eq_true rfl) (tl tw_139) rfl rfl dX_compileCyclic_1 ?_
  refine wk_get X uw_T 5 rfl rfl 6 (Nat.le_of_ble_eq_true rfl) (tl tw_76) rfl rfl dX_compileCyclic_4 ?_
  refine wk_if_ne X dX_compileCyclic_7 (tgt := 12) rfl (fun h1 => ?_) (fun h1 => ?_)
  · replace hf := p_ie h1 hf
    refine wk_aload_n X 0 dX_compileCyclic_12 rfl rfl ?_
    refine wk_get X uw_X 0 rfl rfl 2 (Nat.le_of_ble_eq_true rfl) (tl tw_140) rfl rfl dX_compileCyclic_13 ?_
    refine wk_aload_n X 0 dX_compileCyclic_16 rfl rfl ?_
    refine wk_get X uw_X 0 rfl rfl 1 (Nat.le_of_ble_eq_true rfl) (tl tw_139) rfl rfl dX_compileCyclic_17 ?_
    obtain ⟨q2, h3, hf⟩ := p_ob hf
    refine wk_goV [10, 11, 12, 13, 14, 15, 5, 6, 7, 8, 9] (wk_rV X (mY_makeOf (V := V) (fun i => a (i + 10)) (fun i => a (i + 5)) S.2.2.1 S.2.1 q2 h3) rfl (gd (tw_336)) [10, 11, 12, 13, 14, 15, 5, 6, 7, 8, 9] rfl rfl 10 rfl rfl (tl tw_333) (tl tw_334) (tl tw_335) (tl tw_5) 1 pd_Y_makeOf rfl ⟨rfl, rfl⟩ ⟨Nat.le_of_ble_eq_true rfl, Nat.le_of_ble_eq_true rfl⟩ rfl (Nat.le_of_ble_eq_true rfl) dX_compileCyclic_20) rfl ?_
    rintro u rfl
    refine wk_ws (ws' := cX V a (S.1, S.2.1, q2, S.2.2.2)) rfl ?_
    refine wk_aload_n X 0 dX_compileCyclic_23 rfl rfl ?_
    refine wk_get X uw_X 0 rfl rfl 2 (Nat.le_of_ble_eq_true rfl) (tl tw_140) rfl rfl dX_compileCyclic_24 ?_
    refine wk_goI [10, 11, 12, 13, 14, 15] (wk_rV X (mY_appendants (V := V) (fun i => a (i + 10)) q2 (fY_appendants q2) rfl) rfl (gd (tw_347)) [10, 11, 12, 13, 14, 15] rfl rfl 10 rfl rfl (tl tw_344) (tl tw_345) (tl tw_346) (tl tw_5) 0 pd_Y_appendants rfl ⟨rfl, rfl⟩ ⟨Nat.le_of_ble_eq_true rfl, Nat.le_of_ble_eq_true rfl⟩ rfl (Nat.le_of_ble_eq_true rfl) dX_compileCyclic_27) rfl ?_
    rintro r ⟨⟩ rfl
    refine wk_ws (ws' := cX V a (S.1, S.2.1, q2, S.2.2.2)) rfl ?_
    have hf := Option.some.inj hf
    exact wk_iret X Z rfl dX_compileCyclic_30 ((S.1, S.2.1, q2, S.2.2.2)) ⟨Eq.symm (congrArg Prod.fst hf), Eq.symm (congrArg Prod.snd hf)⟩ rfl rfl
  · replace hf := p_it h1 hf
    refine wk_iconst X dX_compileCyclic_10 (v := (0 : Int32)) (by decide) ?_
    have hf := Option.some.inj hf
    exact wk_iret X Z rfl dX_compileCyclic_11 (S) ⟨Eq.symm (congrArg Prod.fst hf), Eq.symm (congrArg Prod.snd hf)⟩ rfl rfl
-- Y_bitOf: room (0, 0), Int32
def fY_bitOf (v0 : Int32) (v1 : Int32) : Int32 :=
  if v0 = v1 then (
    (1 : Int32)
  ) else (
    (0 : Int32)
  )
set_option maxRecDepth 100000 in
set_option maxHeartbeats 4000000 in
theorem mY_bitOf {V : ee_V} (v0 : Int32) (v1 : Int32) (R : Int32) (hf : fY_bitOf v0 v1 = R) : wk_I (ee V) yY_bitOf ts_Y_bitOf ⟨0, 0, 0, 0⟩ [.int v0, .int v1] (([] : va_W)) (fun (r : Int32) (_ : Unit) => R = r) (fun _ : Unit => ([] : va_W)) := by
  refine wk_of (ee_ok V) (by decide +kernel) rfl (Nat.le_of_ble_eq_true rfl) ?_
  intro x X Z
  unfold fY_bitOf at hf
  refine wk_lq (lv' := [(0, .int v0), (1, .int v1)]) rfl ?_
  refine wk_iload_n X 0 dY_bitOf_0 rfl rfl ?_
  refine wk_iload_n X 1 dY_bitOf_1 rfl rfl ?_
  refine wk_icmp_ne X dY_bitOf_2 (tgt := 9) rfl (fun h1 => ?_) (fun h1 => ?_)
  · replace hf := p_ie h1 hf
    refine wk_iconst X dY_bitOf_9 (v := (0 : Int32)) (by decide) ?_
    exact wk_iret X Z rfl dY_bitOf_10 () (Eq.symm hf) rfl rfl
  · replace hf := p_it h1 hf
    refine wk_iconst X dY_bitOf_5 (v := (1 : Int32)) (by decide) ?_
    refine wk_goto X dY_bitOf_6 (tgt := 10) rfl ?_
    exact wk_iret X Z rfl dY_bitOf_10 () (Eq.symm hf) rfl rfl
-- Y_appendantBit: room (3, 64), Option (Int32)
def fY_appendantBit (S : pY) (v1 : Int32) (v2 : Int32) : Option (Int32) :=
  if S.1.2.2.2.2.2.2.1 = 0 then (
    some (-1 : Int32)
  ) else (
    if v2 < 0 then (
      some (-1 : Int32)
    ) else (
      (fT_productionSize S.1 v1).bind fun q3 =>
      if v2 < (q3 * S.1.2.2.2.2.2.2.1) then (
        (p_dv v2 S.1.2.2.2.2.2.2.1).bind fun q6 =>
        (fT_productionLetter S.1 v1 q6).bind fun q8 =>
        (p_rm v2 S.1.2.2.2.2.2.2.1).bind fun q10 =>
        some (fY_bitOf q8 q10)
      ) else (
        some (-1 : Int32)
      )
    )
  )
set_option maxRecDepth 100000 in
set_option maxHeartbeats 4000000 in
theorem mY_appendantBit {V : ee_V} (a : Nat → Nat) (S : pY) (v1 : Int32) (v2 : Int32) (R : Int32) (hf : fY_appendantBit S v1 v2 = some R) : wk_I (ee V) yY_appendantBit ts_Y_appendantBit ⟨3, 0, 0, 64⟩ [.ref (a 0), .int v1, .int v2] (cY V a S) (fun (r : Int32) (_ : Unit) => R = r) (fun _ : Unit => cY V a S) := by
  refine wk_of (ee_ok V) (by decide +kernel) rfl (Nat.le_of_ble_eq_true rfl) ?_
  intro x X Z
  unfold fY_appendantBit at hf
  refine wk_lq (lv' := [(0, .ref (a 0)), (1, .int v1), (2, .int v2)]) rfl ?_
  refine wk_aload_n X 0 dY_appendantBit_0 rfl rfl ?_
  refine wk_get X uw_Y 0 rfl rfl 0 (Nat.le_of_ble_eq_true rfl) (tl tw_107) rfl rfl dY_appendantBit_1 ?_
  refine wk_get X uw_T 1 rfl rfl 6 (Nat.le_of_ble_eq_true rfl) (tl tw_75) rfl rfl dY_appendantBit_4 ?_
  refine wk_istore_n X dY_appendantBit_7 rfl (Nat.le_of_ble_eq_true rfl) (lv' := [(3, .int S.1.2.2.2.2.2.2.1), (0, .ref (a 0)), (1, .int v1), (2, .int v2)]) rfl ?_
  refine wk_iload_n X 0 dY_appendantBit_8 rfl rfl ?_
  refine wk_if_eq X dY_appendantBit_9 (tgt := 30) rfl (fun h1 => ?_) (fun h1 => ?_)
  · replace hf := p_it h1 hf
    refine wk_iconst X dY_appendantBit_30 (v := (-1 : Int32)) (by decide) ?_
    have hf := Option.some.inj hf
    exact wk_iret X Z rfl dY_appendantBit_31 () (Eq.symm hf) rfl rfl
  · replace hf := p_ie h1 hf
    refine wk_iload_n X 3 dY_appendantBit_12 rfl rfl ?_
    refine wk_if_lt X dY_appendantBit_13 (tgt := 30) rfl (fun h2 => ?_) (fun h2 => ?_)
    · replace hf := p_it h2 hf
      refine wk_iconst X dY_appendantBit_30 (v := (-1 : Int32)) (by decide) ?_
      have hf := Option.some.inj hf
      exact wk_iret X Z rfl dY_appendantBit_31 () (Eq.symm hf) rfl rfl
    · replace hf := p_ie h2 hf
      refine wk_iload_n X 3 dY_appendantBit_16 rfl rfl ?_
      refine wk_aload_n X 1 dY_appendantBit_17 rfl rfl ?_
      refine wk_get X uw_Y 0 rfl rfl 0 (Nat.le_of_ble_eq_true rfl) (tl tw_107) rfl rfl dY_appendantBit_18 ?_
      refine wk_iload_n X 2 dY_appendantBit_21 rfl rfl ?_
      obtain ⟨q3, h4, hf⟩ := p_ob hf
      refine wk_goI [1, 2, 3, 4, 5] (wk_rV X (mT_productionSize (V := V) (fun i => a (i + 1)) S.1 v1 q3 h4) rfl (gd (tw_308)) [1, 2, 3, 4, 5] rfl rfl 1 rfl rfl (tl tw_356) (tl tw_306) (tl tw_307) (tl tw_4) 1 pd_T_productionSize rfl ⟨rfl, rfl⟩ ⟨Nat.le_of_ble_eq_true rfl, Nat.le_of_ble_eq_true rfl⟩ rfl (Nat.le_of_ble_eq_true rfl) dY_appendantBit_22) rfl ?_
      rintro r ⟨⟩ rfl
      refine wk_ws (ws' := cY V a S) rfl ?_
      refine wk_iload_n X 0 dY_appendantBit_25 rfl rfl ?_
      refine wk_imul X dY_appendantBit_26 ?_
      refine wk_icmp_lt X dY_appendantBit_27 (tgt := 32) rfl (fun h5 => ?_) (fun h5 => ?_)
      · replace hf := p_it h5 hf
        refine wk_aload_n X 1 dY_appendantBit_32 rfl rfl ?_
        refine wk_get X uw_Y 0 rfl rfl 0 (Nat.le_of_ble_eq_true rfl) (tl tw_107) rfl rfl dY_appendantBit_33 ?_
        refine wk_iload_n X 2 dY_appendantBit_36 rfl rfl ?_
        refine wk_iload_n X 3 dY_appendantBit_37 rfl rfl ?_
        refine wk_iload_n X 0 dY_appendantBit_38 rfl rfl ?_
        obtain ⟨q6, h7, hf⟩ := p_ob hf
        obtain ⟨h7z, h7e⟩ := p_dv_some h7
        refine wk_idiv X dY_appendantBit_39 h7z ?_
        refine wk_top h7e ?_
        obtain ⟨q8, h9, hf⟩ := p_ob hf
        refine wk_goI [1, 2, 3, 4, 5] (wk_rV X (mT_productionLetter (V := V) (fun i => a (i + 1)) S.1 v1 q6 q8 h9) rfl (gd (tw_304)) [1, 2, 3, 4, 5] rfl rfl 1 rfl rfl (tl tw_357) (tl tw_302) (tl tw_303) (tl tw_4) 2 pd_T_productionLetter rfl ⟨rfl, rfl⟩ ⟨Nat.le_of_ble_eq_true rfl, Nat.le_of_ble_eq_true rfl⟩ rfl (Nat.le_of_ble_eq_true rfl) dY_appendantBit_40) rfl ?_
        rintro r ⟨⟩ rfl
        refine wk_ws (ws' := cY V a S) rfl ?_
        refine wk_iload_n X 3 dY_appendantBit_43 rfl rfl ?_
        refine wk_iload_n X 0 dY_appendantBit_44 rfl rfl ?_
        obtain ⟨q10, h11, hf⟩ := p_ob hf
        obtain ⟨h11z, h11e⟩ := p_rm_some h11
        refine wk_irem X dY_appendantBit_45 h11z ?_
        refine wk_top h11e ?_
        refine wk_goI [] (wk_rS X (mY_bitOf (V := V) q8 q10 (fY_bitOf q8 q10) rfl) rfl (gd (tw_360)) [] rfl rfl (tl tw_358) (tl tw_359) (tl tw_5) 2 pd_Y_bitOf rfl ⟨rfl, rfl⟩ ⟨Nat.le_of_ble_eq_true rfl, Nat.le_of_ble_eq_true rfl⟩ rfl (Nat.le_of_ble_eq_true rfl) dY_appendantBit_46) rfl ?_
        rintro r ⟨⟩ rfl
        refine wk_ws (ws' := cY V a S) rfl ?_
        have hf := Option.some.inj hf
        exact wk_iret X Z rfl dY_appendantBit_49 () (Eq.symm hf) rfl rfl
      · replace hf := p_ie h5 hf
        refine wk_iconst X dY_appendantBit_30 (v := (-1 : Int32)) (by decide) ?_
        have hf := Option.some.inj hf
        exact wk_iret X Z rfl dY_appendantBit_31 () (Eq.symm hf) rfl rfl
-- X_appendant: room (4, 87), Option (Int32)
def fX_appendant (S : pX) (v1 : Int32) (v2 : Int32) : Option (Int32) :=
  (fY_appendantBit S.2.2.1 v1 v2).bind fun q1 =>
  some q1
set_option maxRecDepth 100000 in
set_option maxHeartbeats 4000000 in
theorem mX_appendant {V : ee_V} (a : Nat → Nat) (S : pX) (v1 : Int32) (v2 : Int32) (R : Int32) (hf : fX_appendant S v1 v2 = some R) : wk_I (ee V) yX_appendant ts_X_appendant ⟨4, 0, 0, 87⟩ [.ref (a 0), .int v1, .int v2] (cX V a S) (fun (r : Int32) (_ : Unit) => R = r) (fun _ : Unit => cX V a S) := by
  refine wk_of (ee_ok V) (by decide +kernel) rfl (Nat.le_of_ble_eq_true rfl) ?_
  intro x X Z
  unfold fX_appendant at hf
  refine wk_lq (lv' := [(0, .ref (a 0)), (1, .int v1), (2, .int v2)]) rfl ?_
  refine wk_aload_n X 0 dX_appendant_0 rfl rfl ?_
  refine wk_get X uw_X 0 rfl rfl 2 (Nat.le_of_ble_eq_true rfl) (tl tw_140) rfl rfl dX_appendant_1 ?_
  refine wk_iload_n X 1 dX_appendant_4 rfl rfl ?_
  refine wk_iload_n X 2 dX_appendant_5 rfl rfl ?_
  obtain ⟨q1, h2, hf⟩ := p_ob hf
  refine wk_goI [10, 11, 12, 13, 14, 15] (wk_rV X (mY_appendantBit (V := V) (fun i => a (i + 10)) S.2.2.1 v1 v2 q1 h2) rfl (gd (tw_355)) [10, 11, 12, 13, 14, 15] rfl rfl 10 rfl rfl (tl tw_352) (tl tw_353) (tl tw_354) (tl tw_5) 2 pd_Y_appendantBit rfl ⟨rfl, rfl⟩ ⟨Nat.le_of_ble_eq_true rfl, Nat.le_of_ble_eq_true rfl⟩ rfl (Nat.le_of_ble_eq_true rfl) dX_appendant_6) rfl ?_
  rintro r ⟨⟩ rfl
  refine wk_ws (ws' := cX V a S) rfl ?_
  have hf := Option.some.inj hf
  exact wk_iret X Z rfl dX_appendant_9 () (Eq.symm hf) rfl rfl
-- X_within: room (1, 21), Int32
def fX_within (v0 : Int32) (v1 : Int32) : Int32 :=
  (p_mx (0 : Int32) (p_mn v0 v1))
set_option maxRecDepth 100000 in
set_option maxHeartbeats 4000000 in
theorem mX_within {V : ee_V} (v0 : Int32) (v1 : Int32) (R : Int32) (hf : fX_within v0 v1 = R) : wk_I (ee V) yX_within ts_X_within ⟨1, 0, 0, 21⟩ [.int v0, .int v1] (([] : va_W)) (fun (r : Int32) (_ : Unit) => R = r) (fun _ : Unit => ([] : va_W)) := by
  refine wk_of (ee_ok V) (by decide +kernel) rfl (Nat.le_of_ble_eq_true rfl) ?_
  intro x X Z
  unfold fX_within at hf
  refine wk_lq (lv' := [(0, .int v0), (1, .int v1)]) rfl ?_
  refine wk_iconst X dX_within_0 (v := (0 : Int32)) (by decide) ?_
  refine wk_iload_n X 0 dX_within_1 rfl rfl ?_
  refine wk_iload_n X 1 dX_within_2 rfl rfl ?_
  refine wk_min X (tl tw_374) (tl tw_375) (tl tw_9) (tl tw_376) (Nat.le_of_ble_eq_true rfl) (Nat.le_of_ble_eq_true rfl) dX_within_3 ?_
  refine wk_top (b := (p_mn v0 v1)) rfl ?_
  refine wk_max X (tl tw_377) (tl tw_202) (tl tw_9) (tl tw_203) (Nat.le_of_ble_eq_true rfl) (Nat.le_of_ble_eq_true rfl) dX_within_6 ?_
  refine wk_top (b := (p_mx (0 : Int32) (p_mn v0 v1))) rfl ?_
  exact wk_iret X Z rfl dX_within_9 () (Eq.symm hf) rfl rfl
-- T_canGoOn: room (0, 0), Option (Int32)
def fT_canGoOn (S : pT) : Option (Int32) :=
  if S.2.2.2.2.2.1 < (2 : Int32) then (
    some (0 : Int32)
  ) else (
    (p_rd 4096 S.2.2.2.1 S.2.2.2.2.1).bind fun q2 =>
    (p_rd 300 S.2.2.1 q2).bind fun q4 =>
    if q4 = 0 then (
      (p_rd 300 S.2.1 q2).bind fun q9 =>
      if ((S.2.2.2.2.2.1 - (2 : Int32)) + q9) ≤ (4000 : Int32) then (
        some (1 : Int32)
      ) else (
        some (-2 : Int32)
      )
    ) else (
      some (0 : Int32)
    )
  )
set_option maxRecDepth 100000 in
set_option maxHeartbeats 4000000 in
theorem mT_canGoOn {V : ee_V} (a : Nat → Nat) (S : pT) (R : Int32) (hf : fT_canGoOn S = some R) : wk_I (ee V) yT_canGoOn ts_T_canGoOn ⟨0, 0, 0, 0⟩ [.ref (a 0)] (cT V a S) (fun (r : Int32) (_ : Unit) => R = r) (fun _ : Unit => cT V a S) := by
  refine wk_of (ee_ok V) (by decide +kernel) rfl (Nat.le_of_ble_eq_true rfl) ?_
  intro x X Z
  unfold fT_canGoOn at hf
  refine wk_lq (lv' := [(0, .ref (a 0))]) rfl ?_
  refine wk_aload_n X 0 dT_canGoOn_0 rfl rfl ?_
  refine wk_get X uw_T 0 rfl rfl 5 (Nat.le_of_ble_eq_true rfl) (tl tw_70) rfl rfl dT_canGoOn_1 ?_
  refine wk_iconst X dT_canGoOn_4 (v := (2 : Int32)) (by decide) ?_
  refine wk_icmp_lt X dT_canGoOn_5 (tgt := 25) rfl (fun h1 => ?_) (fun h1 => ?_)
  · replace hf := p_it h1 hf
    refine wk_iconst X dT_canGoOn_25 (v := (0 : Int32)) (by decide) ?_
    have hf := Option.some.inj hf
    exact wk_iret X Z rfl dT_canGoOn_26 () (Eq.symm hf) rfl rfl
  · replace hf := p_ie h1 hf
    refine wk_aload_n X 0 dT_canGoOn_8 rfl rfl ?_
    refine wk_get X uw_T 0 rfl rfl 2 (Nat.le_of_ble_eq_true rfl) (tl tw_67) rfl rfl dT_canGoOn_9 ?_
    refine wk_aload_n X 0 dT_canGoOn_12 rfl rfl ?_
    refine wk_get X uw_T 0 rfl rfl 3 (Nat.le_of_ble_eq_true rfl) (tl tw_68) rfl rfl dT_canGoOn_13 ?_
    refine wk_aload_n X 0 dT_canGoOn_16 rfl rfl ?_
    refine wk_get X uw_T 0 rfl rfl 4 (Nat.le_of_ble_eq_true rfl) (tl tw_69) rfl rfl dT_canGoOn_17 ?_
    obtain ⟨q2, h3, hf⟩ := p_ob hf
    obtain ⟨h3i, h3e⟩ := p_rd_some h3
    refine wk_iald X 4 0 rfl rfl h3i h3e dT_canGoOn_20 ?_
    obtain ⟨q4, h5, hf⟩ := p_ob hf
    obtain ⟨h5i, h5e⟩ := p_rd_some h5
    refine wk_zald X 3 1 rfl rfl h5i h5e dT_canGoOn_21 ?_
    refine wk_if_eq X dT_canGoOn_22 (tgt := 27) rfl (fun h6 => ?_) (fun h6 => ?_)
    · replace hf := p_it h6 hf
      refine wk_aload_n X 0 dT_canGoOn_27 rfl rfl ?_
      refine wk_get X uw_T 0 rfl rfl 5 (Nat.le_of_ble_eq_true rfl) (tl tw_70) rfl rfl dT_canGoOn_28 ?_
      refine wk_iconst X dT_canGoOn_31 (v := (2 : Int32)) (by decide) ?_
      refine wk_isub X dT_canGoOn_32 ?_
      refine wk_aload_n X 0 dT_canGoOn_33 rfl rfl ?_
      refine wk_get X uw_T 0 rfl rfl 1 (Nat.le_of_ble_eq_true rfl) (tl tw_66) rfl rfl dT_canGoOn_34 ?_
      refine wk_aload_n X 0 dT_canGoOn_37 rfl rfl ?_
      refine wk_get X uw_T 0 rfl rfl 3 (Nat.le_of_ble_eq_true rfl) (tl tw_68) rfl rfl dT_canGoOn_38 ?_
      refine wk_aload_n X 0 dT_canGoOn_41 rfl rfl ?_
      refine wk_get X uw_T 0 rfl rfl 4 (Nat.le_of_ble_eq_true rfl) (tl tw_69) rfl rfl dT_canGoOn_42 ?_
      refine wk_iald X 4 0 rfl rfl h3i h3e dT_canGoOn_45 ?_
      obtain ⟨q9, h10, hf⟩ := p_ob hf
      obtain ⟨h10i, h10e⟩ := p_rd_some h10
      refine wk_iald X 2 0 rfl rfl h10i h10e dT_canGoOn_46 ?_
      refine wk_iadd X dT_canGoOn_47 ?_
      refine wk_sipush X dT_canGoOn_48 (v := (4000 : Int32)) (by decide) ?_
      refine wk_icmp_le X dT_canGoOn_51 (tgt := 59) rfl (fun h11 => ?_) (fun h11 => ?_)
      · replace hf := p_it h11 hf
        refine wk_iconst X dT_canGoOn_59 (v := (1 : Int32)) (by decide) ?_
        have hf := Option.some.inj hf
        exact wk_iret X Z rfl dT_canGoOn_60 () (Eq.symm hf) rfl rfl
      · replace hf := p_ie h11 hf
        refine wk_bipush X dT_canGoOn_54 (v := (-2 : Int32)) (by decide) ?_
        refine wk_goto X dT_canGoOn_56 (tgt := 60) rfl ?_
        have hf := Option.some.inj hf
        exact wk_iret X Z rfl dT_canGoOn_60 () (Eq.symm hf) rfl rfl
    · replace hf := p_ie h6 hf
      refine wk_iconst X dT_canGoOn_25 (v := (0 : Int32)) (by decide) ?_
      have hf := Option.some.inj hf
      exact wk_iret X Z rfl dT_canGoOn_26 () (Eq.symm hf) rfl rfl
-- Y_canGoOn: room (1, 20), Option (Int32)
def fY_canGoOn (S : pY) : Option (Int32) :=
  if S.2 = 0 then (
    (fT_canGoOn S.1).bind fun q2 =>
    some q2
  ) else (
    some (1 : Int32)
  )
set_option maxRecDepth 100000 in
set_option maxHeartbeats 4000000 in
theorem mY_canGoOn {V : ee_V} (a : Nat → Nat) (S : pY) (R : Int32) (hf : fY_canGoOn S = some R) : wk_I (ee V) yY_canGoOn ts_Y_canGoOn ⟨1, 0, 0, 20⟩ [.ref (a 0)] (cY V a S) (fun (r : Int32) (_ : Unit) => R = r) (fun _ : Unit => cY V a S) := by
  refine wk_of (ee_ok V) (by decide +kernel) rfl (Nat.le_of_ble_eq_true rfl) ?_
  intro x X Z
  unfold fY_canGoOn at hf
  refine wk_lq (lv' := [(0, .ref (a 0))]) rfl ?_
  refine wk_aload_n X 0 dY_canGoOn_0 rfl rfl ?_
  refine wk_get X uw_Y 0 rfl rfl 1 (Nat.le_of_ble_eq_true rfl) (tl tw_108) rfl rfl dY_canGoOn_1 ?_
  refine wk_if_ne X dY_canGoOn_4 (tgt := 17) rfl (fun h1 => ?_) (fun h1 => ?_)
  · replace hf := p_ie h1 hf
    refine wk_iconst X dY_canGoOn_17 (v := (1 : Int32)) (by decide) ?_
    have hf := Option.some.inj hf
    exact wk_iret X Z rfl dY_canGoOn_18 () (Eq.symm hf) rfl rfl
  · replace hf := p_it h1 hf
    refine wk_aload_n X 0 dY_canGoOn_7 rfl rfl ?_
    refine wk_get X uw_Y 0 rfl rfl 0 (Nat.le_of_ble_eq_true rfl) (tl tw_107) rfl rfl dY_canGoOn_8 ?_
    obtain ⟨q2, h3, hf⟩ := p_ob hf
    refine wk_goI [1, 2, 3, 4, 5] (wk_rV X (mT_canGoOn (V := V) (fun i => a (i + 1)) S.1 q2 h3) rfl (gd (tw_387)) [1, 2, 3, 4, 5] rfl rfl 1 rfl rfl (tl tw_384) (tl tw_385) (tl tw_386) (tl tw_4) 0 pd_T_canGoOn rfl ⟨rfl, rfl⟩ ⟨Nat.le_of_ble_eq_true rfl, Nat.le_of_ble_eq_true rfl⟩ rfl (Nat.le_of_ble_eq_true rfl) dY_canGoOn_11) rfl ?_
    rintro r ⟨⟩ rfl
    refine wk_ws (ws' := cY V a S) rfl ?_
    refine wk_goto X dY_canGoOn_14 (tgt := 18) rfl ?_
    have hf := Option.some.inj hf
    exact wk_iret X Z rfl dY_canGoOn_18 () (Eq.symm hf) rfl rfl

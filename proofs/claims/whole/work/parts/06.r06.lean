-- R_push: room (0, 0), Option (pR)
def fR_push_L15 : Nat → pR → Int32 → Int32 → Option (pR)
  | 0, _, _, _ => none
  | n + 1, S, v1, v2 =>
    if S.2.1.2.2.2.2.2.2.2 ≤ v2 then (
      (p_wr 12000 S.2.1.2.2.2.2.2.1 (S.2.1.2.2.2.2.2.2.2 - S.2.1.2.2.2.2.2.2.1) v1).bind fun q5 =>
      some (S.1, (S.2.1.1, S.2.1.2.1, S.2.1.2.2.1, S.2.1.2.2.2.1, S.2.1.2.2.2.2.1, q5, (0 : Int32), ((S.2.1.2.2.2.2.2.2.2 - S.2.1.2.2.2.2.2.2.1) + (1 : Int32))), S.2.2.1, S.2.2.2)
    ) else (
      (p_rd 12000 S.2.1.2.2.2.2.2.1 v2).bind fun q7 =>
      (p_wr 12000 S.2.1.2.2.2.2.2.1 (v2 - S.2.1.2.2.2.2.2.2.1) q7).bind fun q9 =>
      fR_push_L15 n (S.1, (S.2.1.1, S.2.1.2.1, S.2.1.2.2.1, S.2.1.2.2.2.1, S.2.1.2.2.2.2.1, q9, S.2.1.2.2.2.2.2.2.1, S.2.1.2.2.2.2.2.2.2), S.2.2.1, S.2.2.2) v1 (v2 + (1 : Int32))
    )
def fR_push (S : pR) (v1 : Int32) : Option (pR) :=
  if S.2.1.2.2.2.2.2.2.2 = (12000 : Int32) then (
    fR_push_L15 100000 S v1 S.2.1.2.2.2.2.2.2.1
  ) else (
    (p_wr 12000 S.2.1.2.2.2.2.2.1 S.2.1.2.2.2.2.2.2.2 v1).bind fun q2 =>
    some (S.1, (S.2.1.1, S.2.1.2.1, S.2.1.2.2.1, S.2.1.2.2.2.1, S.2.1.2.2.2.2.1, q2, S.2.1.2.2.2.2.2.2.1, (S.2.1.2.2.2.2.2.2.2 + (1 : Int32))), S.2.2.1, S.2.2.2)
  )
set_option maxRecDepth 100000 in
set_option maxHeartbeats 4000000 in
theorem wR_push_L15 {V : ee_V} (a : Nat → Nat) (S0 : pR) {x : wk_C} (X : wk_K (ee V) x cR_push 3 "TagWorkshopModel" ts_R_push ⟨0, 0, 0, 0⟩) (R : pR) (Z : wk_N x none (va_Qv (fun u : pR => R = u) (wk_B (ee V) (cR V a S0) (fun u : pR => cR V a u)) (wk_in (cR V a S0))) (cR V a S0)) : ∀ (n : Nat) (S : pR) (v1 : Int32) (v2 : Int32), fR_push_L15 n S v1 v2 = some R → wk_G (ee V) x 3 (cR V a S) 15 [(0, .ref (a 0)), (1, .int v1), (2, .int v2)] [] := by
  intro n
  induction n with
  | zero => intro S v1 v2 hf; exact absurd hf (by rw [fR_push_L15]; exact fun h => by cases h)
  | succ n ih =>
    intro S v1 v2 hf
    rw [fR_push_L15] at hf
    refine wk_iload_n X 2 dR_push_15 rfl rfl ?_
    refine wk_aload_n X 0 dR_push_16 rfl rfl ?_
    refine wk_get X uw_R 0 rfl rfl 15 (Nat.le_of_ble_eq_true rfl) (tl tw_552) rfl rfl dR_push_17 ?_
    refine wk_icmp_ge X dR_push_20 (tgt := 46) rfl (fun h4 => ?_) (fun h4 => ?_)
    · replace hf := p_it h4 hf
      refine wk_aload_n X 0 dR_push_46 rfl rfl ?_
      refine wk_dup X dR_push_47 rfl ?_
      refine wk_get X uw_R 0 rfl rfl 15 (Nat.le_of_ble_eq_true rfl) (tl tw_552) rfl rfl dR_push_48 ?_
      refine wk_aload_n X 0 dR_push_51 rfl rfl ?_
      refine wk_get X uw_R 0 rfl rfl 14 (Nat.le_of_ble_eq_true rfl) (tl tw_551) rfl rfl dR_push_52 ?_
      refine wk_isub X dR_push_55 ?_
      refine wk_put X uw_R 0 rfl rfl 15 (Nat.le_of_ble_eq_true rfl) ft_R ft_R_ok fn_R (tl tw_552) rfl rfl rfl rfl (Nat.le_of_ble_eq_true rfl) dR_push_56 (ws' := cR V a (S.1, (S.2.1.1, S.2.1.2.1, S.2.1.2.2.1, S.2.1.2.2.2.1, S.2.1.2.2.2.2.1, S.2.1.2.2.2.2.2.1, S.2.1.2.2.2.2.2.2.1, (S.2.1.2.2.2.2.2.2.2 - S.2.1.2.2.2.2.2.2.1)), S.2.2.1, S.2.2.2)) rfl ?_
      refine wk_aload_n X 0 dR_push_59 rfl rfl ?_
      refine wk_iconst X dR_push_60 (v := (0 : Int32)) (by decide) ?_
      refine wk_put X uw_R 0 rfl rfl 14 (Nat.le_of_ble_eq_true rfl) ft_R ft_R_ok fn_R (tl tw_551) rfl rfl rfl rfl (Nat.le_of_ble_eq_true rfl) dR_push_61 (ws' := cR V a (S.1, (S.2.1.1, S.2.1.2.1, S.2.1.2.2.1, S.2.1.2.2.2.1, S.2.1.2.2.2.2.1, S.2.1.2.2.2.2.2.1, (0 : Int32), (S.2.1.2.2.2.2.2.2.2 - S.2.1.2.2.2.2.2.2.1)), S.2.2.1, S.2.2.2)) rfl ?_
      refine wk_aload_n X 0 dR_push_64 rfl rfl ?_
      refine wk_get X uw_R 0 rfl rfl 13 (Nat.le_of_ble_eq_true rfl) (tl tw_550) rfl rfl dR_push_65 ?_
      refine wk_aload_n X 0 dR_push_68 rfl rfl ?_
      refine wk_get X uw_R 0 rfl rfl 15 (Nat.le_of_ble_eq_true rfl) (tl tw_552) rfl rfl dR_push_69 ?_
      refine wk_iload_n X 1 dR_push_72 rfl rfl ?_
      obtain ⟨q5, h6, hf⟩ := p_ob hf
      obtain ⟨h6i, h6e⟩ := p_wr_some h6
      refine wk_iast X 8 0 rfl rfl h6i h6e dR_push_73 (ws' := cR V a (S.1, (S.2.1.1, S.2.1.2.1, S.2.1.2.2.1, S.2.1.2.2.2.1, S.2.1.2.2.2.2.1, q5, (0 : Int32), (S.2.1.2.2.2.2.2.2.2 - S.2.1.2.2.2.2.2.2.1)), S.2.2.1, S.2.2.2)) rfl ?_
      refine wk_aload_n X 0 dR_push_74 rfl rfl ?_
      refine wk_dup X dR_push_75 rfl ?_
      refine wk_get X uw_R 0 rfl rfl 15 (Nat.le_of_ble_eq_true rfl) (tl tw_552) rfl rfl dR_push_76 ?_
      refine wk_iconst X dR_push_79 (v := (1 : Int32)) (by decide) ?_
      refine wk_iadd X dR_push_80 ?_
      refine wk_put X uw_R 0 rfl rfl 15 (Nat.le_of_ble_eq_true rfl) ft_R ft_R_ok fn_R (tl tw_552) rfl rfl rfl rfl (Nat.le_of_ble_eq_true rfl) dR_push_81 (ws' := cR V a (S.1, (S.2.1.1, S.2.1.2.1, S.2.1.2.2.1, S.2.1.2.2.2.1, S.2.1.2.2.2.2.1, q5, (0 : Int32), ((S.2.1.2.2.2.2.2.2.2 - S.2.1.2.2.2.2.2.2.1) + (1 : Int32))), S.2.2.1, S.2.2.2)) rfl ?_
      have hf := Option.some.inj hf
      exact wk_vret X Z dR_push_84 ((S.1, (S.2.1.1, S.2.1.2.1, S.2.1.2.2.1, S.2.1.2.2.2.1, S.2.1.2.2.2.2.1, q5, (0 : Int32), ((S.2.1.2.2.2.2.2.2.2 - S.2.1.2.2.2.2.2.2.1) + (1 : Int32))), S.2.2.1, S.2.2.2)) (Eq.symm hf) rfl rfl
    · replace hf := p_ie h4 hf
      refine wk_aload_n X 0 dR_push_23 rfl rfl ?_
      refine wk_get X uw_R 0 rfl rfl 13 (Nat.le_of_ble_eq_true rfl) (tl tw_550) rfl rfl dR_push_24 ?_
      refine wk_iload_n X 2 dR_push_27 rfl rfl ?_
      refine wk_aload_n X 0 dR_push_28 rfl rfl ?_
      refine wk_get X uw_R 0 rfl rfl 14 (Nat.le_of_ble_eq_true rfl) (tl tw_551) rfl rfl dR_push_29 ?_
      refine wk_isub X dR_push_32 ?_
      refine wk_aload_n X 0 dR_push_33 rfl rfl ?_
      refine wk_get X uw_R 0 rfl rfl 13 (Nat.le_of_ble_eq_true rfl) (tl tw_550) rfl rfl dR_push_34 ?_
      refine wk_iload_n X 2 dR_push_37 rfl rfl ?_
      obtain ⟨q7, h8, hf⟩ := p_ob hf
      obtain ⟨h8i, h8e⟩ := p_rd_some h8
      refine wk_iald X 8 0 rfl rfl h8i h8e dR_push_38 ?_
      obtain ⟨q9, h10, hf⟩ := p_ob hf
      obtain ⟨h10i, h10e⟩ := p_wr_some h10
      refine wk_iast X 8 0 rfl rfl h10i h10e dR_push_39 (ws' := cR V a (S.1, (S.2.1.1, S.2.1.2.1, S.2.1.2.2.1, S.2.1.2.2.2.1, S.2.1.2.2.2.2.1, q9, S.2.1.2.2.2.2.2.2.1, S.2.1.2.2.2.2.2.2.2), S.2.2.1, S.2.2.2)) rfl ?_
      refine wk_iinc X 2 dR_push_40 (v := (v2 + (1 : Int32))) rfl rfl (Nat.le_of_ble_eq_true rfl) (lv' := [(2, .int (v2 + (1 : Int32))), (0, .ref (a 0)), (1, .int v1)]) rfl ?_
      refine wk_goto X dR_push_43 (tgt := 15) rfl ?_
      refine wk_lv [1, 2, 0] (lv' := [(0, .ref (a 0)), (1, .int v1), (2, .int (v2 + (1 : Int32)))]) rfl ?_
      exact ih (S.1, (S.2.1.1, S.2.1.2.1, S.2.1.2.2.1, S.2.1.2.2.2.1, S.2.1.2.2.2.2.1, q9, S.2.1.2.2.2.2.2.2.1, S.2.1.2.2.2.2.2.2.2), S.2.2.1, S.2.2.2) v1 (v2 + (1 : Int32)) hf
set_option maxRecDepth 100000 in
set_option maxHeartbeats 4000000 in
theorem mR_push {V : ee_V} (a : Nat → Nat) (S : pR) (v1 : Int32) (R : pR) (hf : fR_push S v1 = some R) : wk_V (ee V) yR_push ts_R_push ⟨0, 0, 0, 0⟩ [.ref (a 0), .int v1] (cR V a S) (fun u : pR => R = u) (fun u : pR => cR V a u) := by
  refine wk_of (ee_ok V) (by decide +kernel) rfl (Nat.le_of_ble_eq_true rfl) ?_
  intro x X Z
  unfold fR_push at hf
  refine wk_lq (lv' := [(0, .ref (a 0)), (1, .int v1)]) rfl ?_
  refine wk_aload_n X 0 dR_push_0 rfl rfl ?_
  refine wk_get X uw_R 0 rfl rfl 15 (Nat.le_of_ble_eq_true rfl) (tl tw_552) rfl rfl dR_push_1 ?_
  refine wk_sipush X dR_push_4 (v := (12000 : Int32)) (by decide) ?_
  refine wk_icmp_ne X dR_push_7 (tgt := 64) rfl (fun h1 => ?_) (fun h1 => ?_)
  · replace hf := p_ie h1 hf
    refine wk_aload_n X 0 dR_push_64 rfl rfl ?_
    refine wk_get X uw_R 0 rfl rfl 13 (Nat.le_of_ble_eq_true rfl) (tl tw_550) rfl rfl dR_push_65 ?_
    refine wk_aload_n X 0 dR_push_68 rfl rfl ?_
    refine wk_get X uw_R 0 rfl rfl 15 (Nat.le_of_ble_eq_true rfl) (tl tw_552) rfl rfl dR_push_69 ?_
    refine wk_iload_n X 1 dR_push_72 rfl rfl ?_
    obtain ⟨q2, h3, hf⟩ := p_ob hf
    obtain ⟨h3i, h3e⟩ := p_wr_some h3
    refine wk_iast X 8 0 rfl rfl h3i h3e dR_push_73 (ws' := cR V a (S.1, (S.2.1.1, S.2.1.2.1, S.2.1.2.2.1, S.2.1.2.2.2.1, S.2.1.2.2.2.2.1, q2, S.2.1.2.2.2.2.2.2.1, S.2.1.2.2.2.2.2.2.2), S.2.2.1, S.2.2.2)) rfl ?_
    refine wk_aload_n X 0 dR_push_74 rfl rfl ?_
    refine wk_dup X dR_push_75 rfl ?_
    refine wk_get X uw_R 0 rfl rfl 15 (Nat.le_of_ble_eq_true rfl) (tl tw_552) rfl rfl dR_push_76 ?_
    refine wk_iconst X dR_push_79 (v := (1 : Int32)) (by decide) ?_
    refine wk_iadd X dR_push_80 ?_
    refine wk_put X uw_R 0 rfl rfl 15 (Nat.le_of_ble_eq_true rfl) ft_R ft_R_ok fn_R (tl tw_552) rfl rfl rfl rfl (Nat.le_of_ble_eq_true rfl) dR_push_81 (ws' := cR V a (S.1, (S.2.1.1, S.2.1.2.1, S.2.1.2.2.1, S.2.1.2.2.2.1, S.2.1.2.2.2.2.1, q2, S.2.1.2.2.2.2.2.2.1, (S.2.1.2.2.2.2.2.2.2 + (1 : Int32))), S.2.2.1, S.2.2.2)) rfl ?_
    have hf := Option.some.inj hf
    exact wk_vret X Z dR_push_84 ((S.1, (S.2.1.1, S.2.1.2.1, S.2.1.2.2.1, S.2.1.2.2.2.1, S.2.1.2.2.2.2.1, q2, S.2.1.2.2.2.2.2.2.1, (S.2.1.2.2.2.2.2.2.2 + (1 : Int32))), S.2.2.1, S.2.2.2)) (Eq.symm hf) rfl rfl
  · replace hf := p_it h1 hf
    refine wk_aload_n X 0 dR_push_10 rfl rfl ?_
    refine wk_get X uw_R 0 rfl rfl 14 (Nat.le_of_ble_eq_true rfl) (tl tw_551) rfl rfl dR_push_11 ?_
    refine wk_istore_n X dR_push_14 rfl (Nat.le_of_ble_eq_true rfl) (lv' := [(2, .int S.2.1.2.2.2.2.2.2.1), (0, .ref (a 0)), (1, .int v1)]) rfl ?_
    refine wk_lv [1, 2, 0] (lv' := [(0, .ref (a 0)), (1, .int v1), (2, .int S.2.1.2.2.2.2.2.2.1)]) rfl ?_
    exact wR_push_L15 a S X R Z 100000 S v1 S.2.1.2.2.2.2.2.2.1 hf
-- R_putCode: room (1, 22), Option (pR)
def fR_putCode_L77 : Nat → pR → Int32 → Int32 → Option (pR)
  | 0, _, _, _ => none
  | n + 1, S, v1, v2 =>
    if S.1.2.2.2.2.2.2.2 ≤ v2 then (
      some S
    ) else (
      (fR_push S (v1 + (3 : Int32))).bind fun q11 =>
      (fR_push q11 (0 : Int32)).bind fun q13 =>
      fR_putCode_L77 n q13 v1 (v2 + (1 : Int32))
    )
def fR_putCode_L37 : Nat → pR → Int32 → Int32 → Option (pR)
  | 0, _, _, _ => none
  | n + 1, S, v1, v2 =>
    if S.1.2.2.2.2.2.2.1 ≤ v2 then (
      (fR_push S (v1 + (2 : Int32))).bind fun q6 =>
      (fR_push q6 (0 : Int32)).bind fun q8 =>
      fR_putCode_L77 100000 q8 v1 (0 : Int32)
    ) else (
      (fR_push S (v1 + (1 : Int32))).bind fun q15 =>
      (fR_push q15 (0 : Int32)).bind fun q17 =>
      fR_putCode_L37 n q17 v1 (v2 + (1 : Int32))
    )
def fR_putCode (S : pR) : Option (pR) :=
  (fR_push (S.1, (S.2.1.1, S.2.1.2.1, S.2.1.2.2.1, S.2.1.2.2.2.1, S.2.1.2.2.2.2.1, S.2.1.2.2.2.2.2.1, (0 : Int32), (0 : Int32)), S.2.2.1, S.2.2.2) ((fR_letterOf S.1.2.2.2.2.1 S.1.2.2.2.2.2.1 (0 : Int32)) + (0 : Int32))).bind fun q1 =>
  (fR_push q1 (0 : Int32)).bind fun q3 =>
  fR_putCode_L37 100000 q3 (fR_letterOf S.1.2.2.2.2.1 S.1.2.2.2.2.2.1 (0 : Int32)) (0 : Int32)
set_option maxRecDepth 100000 in
set_option maxHeartbeats 4000000 in
theorem wR_putCode_L77 {V : ee_V} (a : Nat → Nat) (S0 : pR) {x : wk_C} (X : wk_K (ee V) x cR_putCode 3 "TagWorkshopModel" ts_R_putCode ⟨1, 0, 0, 22⟩) (R : pR) (Z : wk_N x none (va_Qv (fun u : pR => R = u) (wk_B (ee V) (cR V a S0) (fun u : pR => cR V a u)) (wk_in (cR V a S0))) (cR V a S0)) : ∀ (n : Nat) (S : pR) (v1 : Int32) (v2 : Int32), fR_putCode_L77 n S v1 v2 = some R → wk_G (ee V) x 3 (cR V a S) 77 [(0, .ref (a 0)), (1, .int v1), (2, .int v2)] [] := by
  intro n
  induction n with
  | zero => intro S v1 v2 hf; exact absurd hf (by rw [fR_putCode_L77]; exact fun h => by cases h)
  | succ n ih =>
    intro S v1 v2 hf
    rw [fR_putCode_L77] at hf
    refine wk_iload_n X 2 dR_putCode_77 rfl rfl ?_
    refine wk_aload_n X 0 dR_putCode_78 rfl rfl ?_
    refine wk_get X uw_R 0 rfl rfl 7 (Nat.le_of_ble_eq_true rfl) (tl tw_544) rfl rfl dR_putCode_79 ?_
    refine wk_icmp_ge X dR_putCode_82 (tgt := 103) rfl (fun h10 => ?_) (fun h10 => ?_)
    · replace hf := p_it h10 hf
      have hf := Option.some.inj hf
      exact wk_vret X Z dR_putCode_103 (S) (Eq.symm hf) rfl rfl
    · replace hf := p_ie h10 hf
      refine wk_aload_n X 0 dR_putCode_85 rfl rfl ?_
      refine wk_iload_n X 1 dR_putCode_86 rfl rfl ?_
      refine wk_iconst X dR_putCode_87 (v := (3 : Int32)) (by decide) ?_
      refine wk_iadd X dR_putCode_88 ?_
      obtain ⟨q11, h12, hf⟩ := p_ob hf
      refine wk_goV [0, 1, 2, 3, 4, 5, 6, 7, 8, 9, 10, 11, 12] (wk_rV X (mR_push (V := V) a S (v1 + (3 : Int32)) q11 h12) rfl (gd (tw_710)) [0, 1, 2, 3, 4, 5, 6, 7, 8, 9, 10, 11, 12] rfl rfl 0 rfl rfl (tl tw_707) (tl tw_709) (tl tv_15) (tl tw_7) 1 pd_R_push rfl ⟨rfl, rfl⟩ ⟨Nat.le_of_ble_eq_true rfl, Nat.le_of_ble_eq_true rfl⟩ rfl (Nat.le_of_ble_eq_true rfl) dR_putCode_89) rfl ?_
      rintro u rfl
      refine wk_ws (ws' := cR V a q11) rfl ?_
      refine wk_aload_n X 0 dR_putCode_92 rfl rfl ?_
      refine wk_iconst X dR_putCode_93 (v := (0 : Int32)) (by decide) ?_
      obtain ⟨q13, h14, hf⟩ := p_ob hf
      refine wk_goV [0, 1, 2, 3, 4, 5, 6, 7, 8, 9, 10, 11, 12] (wk_rV X (mR_push (V := V) a q11 (0 : Int32) q13 h14) rfl (gd (tw_710)) [0, 1, 2, 3, 4, 5, 6, 7, 8, 9, 10, 11, 12] rfl rfl 0 rfl rfl (tl tw_707) (tl tw_709) (tl tv_15) (tl tw_7) 1 pd_R_push rfl ⟨rfl, rfl⟩ ⟨Nat.le_of_ble_eq_true rfl, Nat.le_of_ble_eq_true rfl⟩ rfl (Nat.le_of_ble_eq_true rfl) dR_putCode_94) rfl ?_
      rintro u rfl
      refine wk_ws (ws' := cR V a q13) rfl ?_
      refine wk_iinc X 2 dR_putCode_97 (v := (v2 + (1 : Int32))) rfl rfl (Nat.le_of_ble_eq_true rfl) (lv' := [(2, .int (v2 + (1 : Int32))), (0, .ref (a 0)), (1, .int v1)]) rfl ?_
      refine wk_goto X dR_putCode_100 (tgt := 77) rfl ?_
      refine wk_lv [1, 2, 0] (lv' := [(0, .ref (a 0)), (1, .int v1), (2, .int (v2 + (1 : Int32)))]) rfl ?_
      exact ih q13 v1 (v2 + (1 : Int32)) hf
set_option maxRecDepth 100000 in
set_option maxHeartbeats 4000000 in
theorem wR_putCode_L37 {V : ee_V} (a : Nat → Nat) (S0 : pR) {x : wk_C} (X : wk_K (ee V) x cR_putCode 3 "TagWorkshopModel" ts_R_putCode ⟨1, 0, 0, 22⟩) (R : pR) (Z : wk_N x none (va_Qv (fun u : pR => R = u) (wk_B (ee V) (cR V a S0) (fun u : pR => cR V a u)) (wk_in (cR V a S0))) (cR V a S0)) : ∀ (n : Nat) (S : pR) (v1 : Int32) (v2 : Int32), fR_putCode_L37 n S v1 v2 = some R → wk_G (ee V) x 3 (cR V a S) 37 [(0, .ref (a 0)), (1, .int v1), (2, .int v2)] [] := by
  intro n
  induction n with
  | zero => intro S v1 v2 hf; exact absurd hf (by rw [fR_putCode_L37]; exact fun h => by cases h)
  | succ n ih =>
    intro S v1 v2 hf
    rw [fR_putCode_L37] at hf
    refine wk_iload_n X 2 dR_putCode_37 rfl rfl ?_
    refine wk_aload_n X 0 dR_putCode_38 rfl rfl ?_
    refine wk_get X uw_R 0 rfl rfl 6 (Nat.le_of_ble_eq_true rfl) (tl tw_543) rfl rfl dR_putCode_39 ?_
    refine wk_icmp_ge X dR_putCode_42 (tgt := 63) rfl (fun h5 => ?_) (fun h5 => ?_)
    · replace hf := p_it h5 hf
      refine wk_aload_n X 0 dR_putCode_63 rfl rfl ?_
      refine wk_iload_n X 1 dR_putCode_64 rfl rfl ?_
      refine wk_iconst X dR_putCode_65 (v := (2 : Int32)) (by decide) ?_
      refine wk_iadd X dR_putCode_66 ?_
      obtain ⟨q6, h7, hf⟩ := p_ob hf
      refine wk_goV [0, 1, 2, 3, 4, 5, 6, 7, 8, 9, 10, 11, 12] (wk_rV X (mR_push (V := V) a S (v1 + (2 : Int32)) q6 h7) rfl (gd (tw_710)) [0, 1, 2, 3, 4, 5, 6, 7, 8, 9, 10, 11, 12] rfl rfl 0 rfl rfl (tl tw_707) (tl tw_709) (tl tv_15) (tl tw_7) 1 pd_R_push rfl ⟨rfl, rfl⟩ ⟨Nat.le_of_ble_eq_true rfl, Nat.le_of_ble_eq_true rfl⟩ rfl (Nat.le_of_ble_eq_true rfl) dR_putCode_67) rfl ?_
      rintro u rfl
      refine wk_ws (ws' := cR V a q6) rfl ?_
      refine wk_aload_n X 0 dR_putCode_70 rfl rfl ?_
      refine wk_iconst X dR_putCode_71 (v := (0 : Int32)) (by decide) ?_
      obtain ⟨q8, h9, hf⟩ := p_ob hf
      refine wk_goV [0, 1, 2, 3, 4, 5, 6, 7, 8, 9, 10, 11, 12] (wk_rV X (mR_push (V := V) a q6 (0 : Int32) q8 h9) rfl (gd (tw_710)) [0, 1, 2, 3, 4, 5, 6, 7, 8, 9, 10, 11, 12] rfl rfl 0 rfl rfl (tl tw_707) (tl tw_709) (tl tv_15) (tl tw_7) 1 pd_R_push rfl ⟨rfl, rfl⟩ ⟨Nat.le_of_ble_eq_true rfl, Nat.le_of_ble_eq_true rfl⟩ rfl (Nat.le_of_ble_eq_true rfl) dR_putCode_72) rfl ?_
      rintro u rfl
      refine wk_ws (ws' := cR V a q8) rfl ?_
      refine wk_iconst X dR_putCode_75 (v := (0 : Int32)) (by decide) ?_
      refine wk_istore_n X dR_putCode_76 rfl (Nat.le_of_ble_eq_true rfl) (lv' := [(2, .int (0 : Int32)), (0, .ref (a 0)), (1, .int v1)]) rfl ?_
      refine wk_lv [1, 2, 0] (lv' := [(0, .ref (a 0)), (1, .int v1), (2, .int (0 : Int32))]) rfl ?_
      exact wR_putCode_L77 a S0 X R Z 100000 q8 v1 (0 : Int32) hf
    · replace hf := p_ie h5 hf
      refine wk_aload_n X 0 dR_putCode_45 rfl rfl ?_
      refine wk_iload_n X 1 dR_putCode_46 rfl rfl ?_
      refine wk_iconst X dR_putCode_47 (v := (1 : Int32)) (by decide) ?_
      refine wk_iadd X dR_putCode_48 ?_
      obtain ⟨q15, h16, hf⟩ := p_ob hf
      refine wk_goV [0, 1, 2, 3, 4, 5, 6, 7, 8, 9, 10, 11, 12] (wk_rV X (mR_push (V := V) a S (v1 + (1 : Int32)) q15 h16) rfl (gd (tw_710)) [0, 1, 2, 3, 4, 5, 6, 7, 8, 9, 10, 11, 12] rfl rfl 0 rfl rfl (tl tw_707) (tl tw_709) (tl tv_15) (tl tw_7) 1 pd_R_push rfl ⟨rfl, rfl⟩ ⟨Nat.le_of_ble_eq_true rfl, Nat.le_of_ble_eq_true rfl⟩ rfl (Nat.le_of_ble_eq_true rfl) dR_putCode_49) rfl ?_
      rintro u rfl
      refine wk_ws (ws' := cR V a q15) rfl ?_
      refine wk_aload_n X 0 dR_putCode_52 rfl rfl ?_
      refine wk_iconst X dR_putCode_53 (v := (0 : Int32)) (by decide) ?_
      obtain ⟨q17, h18, hf⟩ := p_ob hf
      refine wk_goV [0, 1, 2, 3, 4, 5, 6, 7, 8, 9, 10, 11, 12] (wk_rV X (mR_push (V := V) a q15 (0 : Int32) q17 h18) rfl (gd (tw_710)) [0, 1, 2, 3, 4, 5, 6, 7, 8, 9, 10, 11, 12] rfl rfl 0 rfl rfl (tl tw_707) (tl tw_709) (tl tv_15) (tl tw_7) 1 pd_R_push rfl ⟨rfl, rfl⟩ ⟨Nat.le_of_ble_eq_true rfl, Nat.le_of_ble_eq_true rfl⟩ rfl (Nat.le_of_ble_eq_true rfl) dR_putCode_54) rfl ?_
      rintro u rfl
      refine wk_ws (ws' := cR V a q17) rfl ?_
      refine wk_iinc X 2 dR_putCode_57 (v := (v2 + (1 : Int32))) rfl rfl (Nat.le_of_ble_eq_true rfl) (lv' := [(2, .int (v2 + (1 : Int32))), (0, .ref (a 0)), (1, .int v1)]) rfl ?_
      refine wk_goto X dR_putCode_60 (tgt := 37) rfl ?_
      refine wk_lv [1, 2, 0] (lv' := [(0, .ref (a 0)), (1, .int v1), (2, .int (v2 + (1 : Int32)))]) rfl ?_
      exact ih q17 v1 (v2 + (1 : Int32)) hf
set_option maxRecDepth 100000 in
set_option maxHeartbeats 4000000 in
theorem mR_putCode {V : ee_V} (a : Nat → Nat) (S : pR) (R : pR) (hf : fR_putCode S = some R) : wk_V (ee V) yR_putCode ts_R_putCode ⟨1, 0, 0, 22⟩ [.ref (a 0)] (cR V a S) (fun u : pR => R = u) (fun u : pR => cR V a u) := by
  refine wk_of (ee_ok V) (by decide +kernel) rfl (Nat.le_of_ble_eq_true rfl) ?_
  intro x X Z
  unfold fR_putCode at hf
  refine wk_lq (lv' := [(0, .ref (a 0))]) rfl ?_
  refine wk_aload_n X 0 dR_putCode_0 rfl rfl ?_
  refine wk_iconst X dR_putCode_1 (v := (0 : Int32)) (by decide) ?_
  refine wk_put X uw_R 0 rfl rfl 14 (Nat.le_of_ble_eq_true rfl) ft_R ft_R_ok fn_R (tl tw_551) rfl rfl rfl rfl (Nat.le_of_ble_eq_true rfl) dR_putCode_2 (ws' := cR V a (S.1, (S.2.1.1, S.2.1.2.1, S.2.1.2.2.1, S.2.1.2.2.2.1, S.2.1.2.2.2.2.1, S.2.1.2.2.2.2.2.1, (0 : Int32), S.2.1.2.2.2.2.2.2.2), S.2.2.1, S.2.2.2)) rfl ?_
  refine wk_aload_n X 0 dR_putCode_5 rfl rfl ?_
  refine wk_iconst X dR_putCode_6 (v := (0 : Int32)) (by decide) ?_
  refine wk_put X uw_R 0 rfl rfl 15 (Nat.le_of_ble_eq_true rfl) ft_R ft_R_ok fn_R (tl tw_552) rfl rfl rfl rfl (Nat.le_of_ble_eq_true rfl) dR_putCode_7 (ws' := cR V a (S.1, (S.2.1.1, S.2.1.2.1, S.2.1.2.2.1, S.2.1.2.2.2.1, S.2.1.2.2.2.2.1, S.2.1.2.2.2.2.2.1, (0 : Int32), (0 : Int32)), S.2.2.1, S.2.2.2)) rfl ?_
  refine wk_aload_n X 0 dR_putCode_10 rfl rfl ?_
  refine wk_get X uw_R 0 rfl rfl 4 (Nat.le_of_ble_eq_true rfl) (tl tw_541) rfl rfl dR_putCode_11 ?_
  refine wk_aload_n X 0 dR_putCode_14 rfl rfl ?_
  refine wk_get X uw_R 0 rfl rfl 5 (Nat.le_of_ble_eq_true rfl) (tl tw_542) rfl rfl dR_putCode_15 ?_
  refine wk_iconst X dR_putCode_18 (v := (0 : Int32)) (by decide) ?_
  refine wk_goI [] (wk_rS X (mR_letterOf (V := V) S.1.2.2.2.2.1 S.1.2.2.2.2.2.1 (0 : Int32) (fR_letterOf S.1.2.2.2.2.1 S.1.2.2.2.2.2.1 (0 : Int32)) rfl) rfl (gd (tw_686)) [] rfl rfl (tl tw_684) (tl tw_685) (tl tw_7) 3 pd_R_letterOf rfl ⟨rfl, rfl⟩ ⟨Nat.le_of_ble_eq_true rfl, Nat.le_of_ble_eq_true rfl⟩ rfl (Nat.le_of_ble_eq_true rfl) dR_putCode_19) rfl ?_
  rintro r ⟨⟩ rfl
  refine wk_ws (ws' := cR V a (S.1, (S.2.1.1, S.2.1.2.1, S.2.1.2.2.1, S.2.1.2.2.2.1, S.2.1.2.2.2.2.1, S.2.1.2.2.2.2.2.1, (0 : Int32), (0 : Int32)), S.2.2.1, S.2.2.2)) rfl ?_
  refine wk_istore_n X dR_putCode_22 rfl (Nat.le_of_ble_eq_true rfl) (lv' := [(1, .int (fR_letterOf S.1.2.2.2.2.1 S.1.2.2.2.2.2.1 (0 : Int32))), (0, .ref (a 0))]) rfl ?_
  refine wk_aload_n X 1 dR_putCode_23 rfl rfl ?_
  refine wk_iload_n X 0 dR_putCode_24 rfl rfl ?_
  refine wk_iconst X dR_putCode_25 (v := (0 : Int32)) (by decide) ?_
  refine wk_iadd X dR_putCode_26 ?_
  obtain ⟨q1, h2, hf⟩ := p_ob hf
  refine wk_goV [0, 1, 2, 3, 4, 5, 6, 7, 8, 9, 10, 11, 12] (wk_rV X (mR_push (V := V) a (S.1, (S.2.1.1, S.2.1.2.1, S.2.1.2.2.1, S.2.1.2.2.2.1, S.2.1.2.2.2.2.1, S.2.1.2.2.2.2.2.1, (0 : Int32), (0 : Int32)), S.2.2.1, S.2.2.2) ((fR_letterOf S.1.2.2.2.2.1 S.1.2.2.2.2.2.1 (0 : Int32)) + (0 : Int32)) q1 h2) rfl (gd (tw_710)) [0, 1, 2, 3, 4, 5, 6, 7, 8, 9, 10, 11, 12] rfl rfl 0 rfl rfl (tl tw_707) (tl tw_709) (tl tv_15) (tl tw_7) 1 pd_R_push rfl ⟨rfl, rfl⟩ ⟨Nat.le_of_ble_eq_true rfl, Nat.le_of_ble_eq_true rfl⟩ rfl (Nat.le_of_ble_eq_true rfl) dR_putCode_27) rfl ?_
  rintro u rfl
  refine wk_ws (ws' := cR V a q1) rfl ?_
  refine wk_aload_n X 1 dR_putCode_30 rfl rfl ?_
  refine wk_iconst X dR_putCode_31 (v := (0 : Int32)) (by decide) ?_
  obtain ⟨q3, h4, hf⟩ := p_ob hf
  refine wk_goV [0, 1, 2, 3, 4, 5, 6, 7, 8, 9, 10, 11, 12] (wk_rV X (mR_push (V := V) a q1 (0 : Int32) q3 h4) rfl (gd (tw_710)) [0, 1, 2, 3, 4, 5, 6, 7, 8, 9, 10, 11, 12] rfl rfl 0 rfl rfl (tl tw_707) (tl tw_709) (tl tv_15) (tl tw_7) 1 pd_R_push rfl ⟨rfl, rfl⟩ ⟨Nat.le_of_ble_eq_true rfl, Nat.le_of_ble_eq_true rfl⟩ rfl (Nat.le_of_ble_eq_true rfl) dR_putCode_32) rfl ?_
  rintro u rfl
  refine wk_ws (ws' := cR V a q3) rfl ?_
  refine wk_iconst X dR_putCode_35 (v := (0 : Int32)) (by decide) ?_
  refine wk_istore_n X dR_putCode_36 rfl (Nat.le_of_ble_eq_true rfl) (lv' := [(2, .int (0 : Int32)), (1, .int (fR_letterOf S.1.2.2.2.2.1 S.1.2.2.2.2.2.1 (0 : Int32))), (0, .ref (a 0))]) rfl ?_
  refine wk_lv [2, 1, 0] (lv' := [(0, .ref (a 0)), (1, .int (fR_letterOf S.1.2.2.2.2.1 S.1.2.2.2.2.2.1 (0 : Int32))), (2, .int (0 : Int32))]) rfl ?_
  exact wR_putCode_L37 a S X R Z 100000 q3 (fR_letterOf S.1.2.2.2.2.1 S.1.2.2.2.2.2.1 (0 : Int32)) (0 : Int32) hf

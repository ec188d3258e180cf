-- R_bothTold: room (1, 21), Option (Bool)
def fR_bothTold (S : pR) (v1 : Int32) : Option (Bool) :=
  (p_rd 16 S.1.1 (fR_ruleOf v1 (0 : Int32))).bind fun q1 =>
  if q1 = 0 then (
    some false
  ) else (
    (p_rd 16 S.1.1 (fR_ruleOf v1 (1 : Int32))).bind fun q4 =>
    if q4 = 0 then (
      some false
    ) else (
      some true
    )
  )
set_option maxRecDepth 100000 in
set_option maxHeartbeats 4000000 in
theorem mR_bothTold {V : ee_V} (a : Nat → Nat) (S : pR) (v1 : Int32) (R : Bool) (hf : fR_bothTold S v1 = some R) : wk_I (ee V) yR_bothTold ts_R_bothTold ⟨1, 0, 0, 21⟩ [.ref (a 0), .int v1] (cR V a S) (fun (r : Int32) (_ : Unit) => p_b (R) = r) (fun _ : Unit => cR V a S) := by
  refine wk_of (ee_ok V) (by decide +kernel) rfl (Nat.le_of_ble_eq_true rfl) ?_
  intro x X Z
  unfold fR_bothTold at hf
  refine wk_lq (lv' := [(0, .ref (a 0)), (1, .int v1)]) rfl ?_
  refine wk_aload_n X 0 dR_bothTold_0 rfl rfl ?_
  refine wk_get X uw_R 0 rfl rfl 0 (Nat.le_of_ble_eq_true rfl) (tl tw_537) rfl rfl dR_bothTold_1 ?_
  refine wk_iload_n X 1 dR_bothTold_4 rfl rfl ?_
  refine wk_iconst X dR_bothTold_5 (v := (0 : Int32)) (by decide) ?_
  refine wk_goI [] (wk_rS X (mR_ruleOf (V := V) v1 (0 : Int32) (fR_ruleOf v1 (0 : Int32)) rfl) rfl (gd (tw_655)) [] rfl rfl (tl tw_653) (tl tw_654) (tl tw_7) 2 pd_R_ruleOf rfl ⟨rfl, rfl⟩ ⟨Nat.le_of_ble_eq_true rfl, Nat.le_of_ble_eq_true rfl⟩ rfl (Nat.le_of_ble_eq_true rfl) dR_bothTold_6) rfl ?_
  rintro r ⟨⟩ rfl
  refine wk_ws (ws' := cR V a S) rfl ?_
  obtain ⟨q1, h2, hf⟩ := p_ob hf
  obtain ⟨h2i, h2e⟩ := p_rd_some h2
  refine wk_zald X 1 1 rfl rfl h2i h2e dR_bothTold_9 ?_
  refine wk_if_eq X dR_bothTold_10 (tgt := 30) rfl (fun h3 => ?_) (fun h3 => ?_)
  · replace hf := p_it h3 hf
    refine wk_iconst X dR_bothTold_30 (v := (0 : Int32)) (by decide) ?_
    have hf := Option.some.inj hf
    exact wk_iret X Z rfl dR_bothTold_31 () (Eq.symm (congrArg p_b hf)) rfl rfl
  · replace hf := p_ie h3 hf
    refine wk_aload_n X 0 dR_bothTold_13 rfl rfl ?_
    refine wk_get X uw_R 0 rfl rfl 0 (Nat.le_of_ble_eq_true rfl) (tl tw_537) rfl rfl dR_bothTold_14 ?_
    refine wk_iload_n X 1 dR_bothTold_17 rfl rfl ?_
    refine wk_iconst X dR_bothTold_18 (v := (1 : Int32)) (by decide) ?_
    refine wk_goI [] (wk_rS X (mR_ruleOf (V := V) v1 (1 : Int32) (fR_ruleOf v1 (1 : Int32)) rfl) rfl (gd (tw_655)) [] rfl rfl (tl tw_653) (tl tw_654) (tl tw_7) 2 pd_R_ruleOf rfl ⟨rfl, rfl⟩ ⟨Nat.le_of_ble_eq_true rfl, Nat.le_of_ble_eq_true rfl⟩ rfl (Nat.le_of_ble_eq_true rfl) dR_bothTold_19) rfl ?_
    rintro r ⟨⟩ rfl
    refine wk_ws (ws' := cR V a S) rfl ?_
    obtain ⟨q4, h5, hf⟩ := p_ob hf
    obtain ⟨h5i, h5e⟩ := p_rd_some h5
    refine wk_zald X 1 1 rfl rfl h5i h5e dR_bothTold_22 ?_
    refine wk_if_eq X dR_bothTold_23 (tgt := 30) rfl (fun h6 => ?_) (fun h6 => ?_)
    · replace hf := p_it h6 hf
      refine wk_iconst X dR_bothTold_30 (v := (0 : Int32)) (by decide) ?_
      have hf := Option.some.inj hf
      exact wk_iret X Z rfl dR_bothTold_31 () (Eq.symm (congrArg p_b hf)) rfl rfl
    · replace hf := p_ie h6 hf
      refine wk_iconst X dR_bothTold_26 (v := (1 : Int32)) (by decide) ?_
      refine wk_goto X dR_bothTold_27 (tgt := 31) rfl ?_
      have hf := Option.some.inj hf
      exact wk_iret X Z rfl dR_bothTold_31 () (Eq.symm (congrArg p_b hf)) rfl rfl
-- R_greatest: room (2, 42), Option (Int32)
def fR_greatest_L6 (S : pR) : Nat → Int32 → Int32 → Int32 → Option (Int32)
  | 0, _, _, _ => none
  | n + 1, v1, v2, v3 =>
    if (16 : Int32) ≤ v3 then (
      if v1 ≤ 0 then (
        some v1
      ) else (
        if v2 = 0 then (
          (fR_bothTold S S.1.2.2.2.2.1).bind fun q4 =>
          if q4 = true then (
            some v1
          ) else (
            some (-1 : Int32)
          )
        ) else (
          some (-1 : Int32)
        )
      )
    ) else (
      (p_rd 16 S.1.1 v3).bind fun q7 =>
      if q7 = 0 then (
        fR_greatest_L6 S n v1 v2 (v3 + (1 : Int32))
      ) else (
        if ((v3 / (2 : Int32)) + (1 : Int32)) ≤ v1 then (
          (p_rd 16 S.1.2.2.2.1 v3).bind fun q11 =>
          if q11 ≤ v1 then (
            if q11 ≤ 0 then (
              fR_greatest_L6 S n v1 v2 (v3 + (1 : Int32))
            ) else (
              (fR_bothTold S q11).bind fun q19 =>
              if q19 = true then (
                fR_greatest_L6 S n v1 v2 (v3 + (1 : Int32))
              ) else (
                fR_greatest_L6 S n v1 (1 : Int32) (v3 + (1 : Int32))
              )
            )
          ) else (
            if q11 ≤ 0 then (
              fR_greatest_L6 S n q11 v2 (v3 + (1 : Int32))
            ) else (
              (fR_bothTold S q11).bind fun q29 =>
              if q29 = true then (
                fR_greatest_L6 S n q11 v2 (v3 + (1 : Int32))
              ) else (
                fR_greatest_L6 S n q11 (1 : Int32) (v3 + (1 : Int32))
              )
            )
          )
        ) else (
          (p_rd 16 S.1.2.2.2.1 v3).bind fun q32 =>
          if q32 ≤ ((v3 / (2 : Int32)) + (1 : Int32)) then (
            if q32 ≤ 0 then (
              fR_greatest_L6 S n ((v3 / (2 : Int32)) + (1 : Int32)) v2 (v3 + (1 : Int32))
            ) else (
              (fR_bothTold S q32).bind fun q40 =>
              if q40 = true then (
                fR_greatest_L6 S n ((v3 / (2 : Int32)) + (1 : Int32)) v2 (v3 + (1 : Int32))
              ) else (
                fR_greatest_L6 S n ((v3 / (2 : Int32)) + (1 : Int32)) (1 : Int32) (v3 + (1 : Int32))
              )
            )
          ) else (
            if q32 ≤ 0 then (
              fR_greatest_L6 S n q32 v2 (v3 + (1 : Int32))
            ) else (
              (fR_bothTold S q32).bind fun q50 =>
              if q50 = true then (
                fR_greatest_L6 S n q32 v2 (v3 + (1 : Int32))
              ) else (
                fR_greatest_L6 S n q32 (1 : Int32) (v3 + (1 : Int32))
              )
            )
          )
        )
      )
    )
def fR_greatest (S : pR) : Option (Int32) :=
  fR_greatest_L6 S 100000 (0 : Int32) (0 : Int32) (0 : Int32)
set_option maxRecDepth 100000 in
set_option maxHeartbeats 4000000 in
theorem wR_greatest_L6 {V : ee_V} (a : Nat → Nat) (S : pR) {x : wk_C} (X : wk_K (ee V) x cR_greatest 4 "TagWorkshopModel" ts_R_greatest ⟨2, 0, 0, 42⟩) (R : Int32) (Z : wk_N x (some .int) (va_Qi (fun (r : Int32) (_ : Unit) => R = r) (wk_B (ee V) (cR V a S) (fun _ : Unit => cR V a S)) (wk_in (cR V a S))) (cR V a S)) : ∀ (n : Nat) (v1 : Int32) (v2 : Int32) (v3 : Int32), fR_greatest_L6 S n v1 v2 v3 = some R → wk_G (ee V) x 4 (cR V a S) 6 [(0, .ref (a 0)), (1, .int v1), (2, .int v2), (3, .int v3)] [] := by
  intro n
  induction n with
  | zero => intro v1 v2 v3 hf; exact absurd hf (by rw [fR_greatest_L6]; exact fun h => by cases h)
  | succ n ih =>
    intro v1 v2 v3 hf
    rw [fR_greatest_L6] at hf
    refine wk_iload_n X 3 dR_greatest_6 rfl rfl ?_
    refine wk_bipush X dR_greatest_7 (v := (16 : Int32)) (by decide) ?_
    refine wk_icmp_ge X dR_greatest_9 (tgt := 83) rfl (fun h1 => ?_) (fun h1 => ?_)
    · replace hf := p_it h1 hf
      refine wk_iload_n X 1 dR_greatest_83 rfl rfl ?_
      refine wk_if_le X dR_greatest_84 (tgt := 106) rfl (fun h2 => ?_) (fun h2 => ?_)
      · replace hf := p_it h2 hf
        refine wk_iload_n X 1 dR_greatest_106 rfl rfl ?_
        have hf := Option.some.inj hf
        exact wk_iret X Z rfl dR_greatest_107 () (Eq.symm hf) rfl rfl
      · replace hf := p_ie h2 hf
        refine wk_iload_n X 2 dR_greatest_87 rfl rfl ?_
        refine wk_if_ne X dR_greatest_88 (tgt := 102) rfl (fun h3 => ?_) (fun h3 => ?_)
        · replace hf := p_ie h3 hf
          refine wk_iconst X dR_greatest_102 (v := (-1 : Int32)) (by decide) ?_
          refine wk_goto X dR_greatest_103 (tgt := 107) rfl ?_
          have hf := Option.some.inj hf
          exact wk_iret X Z rfl dR_greatest_107 () (Eq.symm hf) rfl rfl
        · replace hf := p_it h3 hf
          refine wk_aload_n X 0 dR_greatest_91 rfl rfl ?_
          refine wk_aload_n X 0 dR_greatest_92 rfl rfl ?_
          refine wk_get X uw_R 0 rfl rfl 4 (Nat.le_of_ble_eq_true rfl) (tl tw_541) rfl rfl dR_greatest_93 ?_
          obtain ⟨q4, h5, hf⟩ := p_ob hf
          refine wk_goI [0, 1, 2, 3, 4, 5, 6, 7, 8, 9, 10, 11, 12] (wk_rV X (mR_bothTold (V := V) a S S.1.2.2.2.2.1 q4 h5) rfl (gd (tw_679)) [0, 1, 2, 3, 4, 5, 6, 7, 8, 9, 10, 11, 12] rfl rfl 0 rfl rfl (tl tw_676) (tl tw_678) (tl tv_8) (tl tw_7) 1 pd_R_bothTold rfl ⟨rfl, rfl⟩ ⟨Nat.le_of_ble_eq_true rfl, Nat.le_of_ble_eq_true rfl⟩ rfl (Nat.le_of_ble_eq_true rfl) dR_greatest_96) rfl ?_
          rintro r ⟨⟩ rfl
          refine wk_ws (ws' := cR V a S) rfl ?_
          refine wk_bz_ne X dR_greatest_99 (tgt := 106) rfl (fun h6 => ?_) (fun h6 => ?_)
          · replace hf := p_it h6 hf
            refine wk_iload_n X 1 dR_greatest_106 rfl rfl ?_
            have hf := Option.some.inj hf
            exact wk_iret X Z rfl dR_greatest_107 () (Eq.symm hf) rfl rfl
          · replace hf := p_ie h6 hf
            refine wk_iconst X dR_greatest_102 (v := (-1 : Int32)) (by decide) ?_
            refine wk_goto X dR_greatest_103 (tgt := 107) rfl ?_
            have hf := Option.some.inj hf
            exact wk_iret X Z rfl dR_greatest_107 () (Eq.symm hf) rfl rfl
    · replace hf := p_ie h1 hf
      refine wk_aload_n X 0 dR_greatest_12 rfl rfl ?_
      refine wk_get X uw_R 0 rfl rfl 0 (Nat.le_of_ble_eq_true rfl) (tl tw_537) rfl rfl dR_greatest_13 ?_
      refine wk_iload_n X 3 dR_greatest_16 rfl rfl ?_
      obtain ⟨q7, h8, hf⟩ := p_ob hf
      obtain ⟨h8i, h8e⟩ := p_rd_some h8
      refine wk_zald X 1 1 rfl rfl h8i h8e dR_greatest_17 ?_
      refine wk_if_eq X dR_greatest_18 (tgt := 77) rfl (fun h9 => ?_) (fun h9 => ?_)
      · replace hf := p_it h9 hf
        refine wk_iinc X 3 dR_greatest_77 (v := (v3 + (1 : Int32))) rfl rfl (Nat.le_of_ble_eq_true rfl) (lv' := [(3, .int (v3 + (1 : Int32))), (0, .ref (a 0)), (1, .int v1), (2, .int v2)]) rfl ?_
        refine wk_goto X dR_greatest_80 (tgt := 6) rfl ?_
        refine wk_lv [1, 2, 3, 0] (lv' := [(0, .ref (a 0)), (1, .int v1), (2, .int v2), (3, .int (v3 + (1 : Int32)))]) rfl ?_
        exact ih v1 v2 (v3 + (1 : Int32)) hf
      · replace hf := p_ie h9 hf
        refine wk_iload_n X 3 dR_greatest_21 rfl rfl ?_
        refine wk_iconst X dR_greatest_22 (v := (2 : Int32)) (by decide) ?_
        refine wk_idiv X dR_greatest_23 (by decide) ?_
        refine wk_iconst X dR_greatest_24 (v := (1 : Int32)) (by decide) ?_
        refine wk_iadd X dR_greatest_25 ?_
        refine wk_iload_n X 1 dR_greatest_26 rfl rfl ?_
        refine wk_icmp_le X dR_greatest_27 (tgt := 36) rfl (fun h10 => ?_) (fun h10 => ?_)
        · replace hf := p_it h10 hf
          refine wk_aload_n X 0 dR_greatest_36 rfl rfl ?_
          refine wk_get X uw_R 0 rfl rfl 3 (Nat.le_of_ble_eq_true rfl) (tl tw_540) rfl rfl dR_greatest_37 ?_
          refine wk_iload_n X 3 dR_greatest_40 rfl rfl ?_
          obtain ⟨q11, h12, hf⟩ := p_ob hf
          obtain ⟨h12i, h12e⟩ := p_rd_some h12
          refine wk_iald X 4 0 rfl rfl h12i h12e dR_greatest_41 ?_
          refine wk_iload_n X 1 dR_greatest_42 rfl rfl ?_
          refine wk_icmp_le X dR_greatest_43 (tgt := 53) rfl (fun h13 => ?_) (fun h13 => ?_)
          · replace hf := p_it h13 hf
            refine wk_aload_n X 0 dR_greatest_53 rfl rfl ?_
            refine wk_get X uw_R 0 rfl rfl 3 (Nat.le_of_ble_eq_true rfl) (tl tw_540) rfl rfl dR_greatest_54 ?_
            refine wk_iload_n X 3 dR_greatest_57 rfl rfl ?_
            refine wk_iald X 4 0 rfl rfl h12i h12e dR_greatest_58 ?_
            refine wk_if_le X dR_greatest_59 (tgt := 77) rfl (fun h16 => ?_) (fun h16 => ?_)
            · replace hf := p_it h16 hf
              refine wk_iinc X 3 dR_greatest_77 (v := (v3 + (1 : Int32))) rfl rfl (Nat.le_of_ble_eq_true rfl) (lv' := [(3, .int (v3 + (1 : Int32))), (0, .ref (a 0)), (1, .int v1), (2, .int v2)]) rfl ?_
              refine wk_goto X dR_greatest_80 (tgt := 6) rfl ?_
              refine wk_lv [1, 2, 3, 0] (lv' := [(0, .ref (a 0)), (1, .int v1), (2, .int v2), (3, .int (v3 + (1 : Int32)))]) rfl ?_
              exact ih v1 v2 (v3 + (1 : Int32)) hf
            · replace hf := p_ie h16 hf
              refine wk_aload_n X 0 dR_greatest_62 rfl rfl ?_
              refine wk_aload_n X 0 dR_greatest_63 rfl rfl ?_
              refine wk_get X uw_R 0 rfl rfl 3 (Nat.le_of_ble_eq_true rfl) (tl tw_540) rfl rfl dR_greatest_64 ?_
              refine wk_iload_n X 3 dR_greatest_67 rfl rfl ?_
              refine wk_iald X 4 0 rfl rfl h12i h12e dR_greatest_68 ?_
              obtain ⟨q19, h20, hf⟩ := p_ob hf
              refine wk_goI [0, 1, 2, 3, 4, 5, 6, 7, 8, 9, 10, 11, 12] (wk_rV X (mR_bothTold (V := V) a S q11 q19 h20) rfl (gd (tw_679)) [0, 1, 2, 3, 4, 5, 6, 7, 8, 9, 10, 11, 12] rfl rfl 0 rfl rfl (tl tw_676) (tl tw_678) (tl tv_8) (tl tw_7) 1 pd_R_bothTold rfl ⟨rfl, rfl⟩ ⟨Nat.le_of_ble_eq_true rfl, Nat.le_of_ble_eq_true rfl⟩ rfl (Nat.le_of_ble_eq_true rfl) dR_greatest_69) rfl ?_
              rintro r ⟨⟩ rfl
              refine wk_ws (ws' := cR V a S) rfl ?_
              refine wk_bz_ne X dR_greatest_72 (tgt := 77) rfl (fun h21 => ?_) (fun h21 => ?_)
              · replace hf := p_it h21 hf
                refine wk_iinc X 3 dR_greatest_77 (v := (v3 + (1 : Int32))) rfl rfl (Nat.le_of_ble_eq_true rfl) (lv' := [(3, .int (v3 + (1 : Int32))), (0, .ref (a 0)), (1, .int v1), (2, .int v2)]) rfl ?_
                refine wk_goto X dR_greatest_80 (tgt := 6) rfl ?_
                refine wk_lv [1, 2, 3, 0] (lv' := [(0, .ref (a 0)), (1, .int v1), (2, .int v2), (3, .int (v3 + (1 : Int32)))]) rfl ?_
                exact ih v1 v2 (v3 + (1 : Int32)) hf
              · replace hf := p_ie h21 hf
                refine wk_iconst X dR_greatest_75 (v := (1 : Int32)) (by decide) ?_
                refine wk_istore_n X dR_greatest_76 rfl (Nat.le_of_ble_eq_true rfl) (lv' := [(2, .int (1 : Int32)), (0, .ref (a 0)), (1, .int v1), (3, .int v3)]) rfl ?_
                refine wk_iinc X 3 dR_greatest_77 (v := (v3 + (1 : Int32))) rfl rfl (Nat.le_of_ble_eq_true rfl) (lv' := [(3, .int (v3 + (1 : Int32))), (2, .int (1 : Int32)), (0, .ref (a 0)), (1, .int v1)]) rfl ?_
                refine wk_goto X dR_greatest_80 (tgt := 6) rfl ?_
                refine wk_lv [2, 3, 1, 0] (lv' := [(0, .ref (a 0)), (1, .int v1), (2, .int (1 : Int32)), (3, .int (v3 + (1 : Int32)))]) rfl ?_
                exact ih v1 (1 : Int32) (v3 + (1 : Int32)) hf
          · replace hf := p_ie h13 hf
            refine wk_aload_n X 0 dR_greatest_46 rfl rfl ?_
            refine wk_get X uw_R 0 rfl rfl 3 (Nat.le_of_ble_eq_true rfl) (tl tw_540) rfl rfl dR_greatest_47 ?_
            refine wk_iload_n X 3 dR_greatest_50 rfl rfl ?_
            refine wk_iald X 4 0 rfl rfl h12i h12e dR_greatest_51 ?_
            refine wk_istore_n X dR_greatest_52 rfl (Nat.le_of_ble_eq_true rfl) (lv' := [(1, .int q11), (0, .ref (a 0)), (2, .int v2), (3, .int v3)]) rfl ?_
            refine wk_aload_n X 1 dR_greatest_53 rfl rfl ?_
            refine wk_get X uw_R 0 rfl rfl 3 (Nat.le_of_ble_eq_true rfl) (tl tw_540) rfl rfl dR_greatest_54 ?_
            refine wk_iload_n X 3 dR_greatest_57 rfl rfl ?_
            refine wk_iald X 4 0 rfl rfl h12i h12e dR_greatest_58 ?_
            refine wk_if_le X dR_greatest_59 (tgt := 77) rfl (fun h26 => ?_) (fun h26 => ?_)
            · replace hf := p_it h26 hf
              refine wk_iinc X 3 dR_greatest_77 (v := (v3 + (1 : Int32))) rfl rfl (Nat.le_of_ble_eq_true rfl) (lv' := [(3, .int (v3 + (1 : Int32))), (1, .int q11), (0, .ref (a 0)), (2, .int v2)]) rfl ?_
              refine wk_goto X dR_greatest_80 (tgt := 6) rfl ?_
              refine wk_lv [2, 1, 3, 0] (lv' := [(0, .ref (a 0)), (1, .int q11), (2, .int v2), (3, .int (v3 + (1 : Int32)))]) rfl ?_
              exact ih q11 v2 (v3 + (1 : Int32)) hf
            · replace hf := p_ie h26 hf
              refine wk_aload_n X 1 dR_greatest_62 rfl rfl ?_
              refine wk_aload_n X 1 dR_greatest_63 rfl rfl ?_
              refine wk_get X uw_R 0 rfl rfl 3 (Nat.le_of_ble_eq_true rfl) (tl tw_540) rfl rfl dR_greatest_64 ?_
              refine wk_iload_n X 3 dR_greatest_67 rfl rfl ?_
              refine wk_iald X 4 0 rfl rfl h12i h12e dR_greatest_68 ?_
              obtain ⟨q29, h30, hf⟩ := p_ob hf
              refine wk_goI [0, 1, 2, 3, 4, 5, 6, 7, 8, 9, 10, 11, 12] (wk_rV X (mR_bothTold (V := V) a S q11 q29 h30) rfl (gd (tw_679)) [0, 1, 2, 3, 4, 5, 6, 7, 8, 9, 10, 11, 12] rfl rfl 0 rfl rfl (tl tw_676) (tl tw_678) (tl tv_8) (tl tw_7) 1 pd_R_bothTold rfl ⟨rfl, rfl⟩ ⟨Nat.le_of_ble_eq_true rfl, Nat.le_of_ble_eq_true rfl⟩ rfl (Nat.le_of_ble_eq_true rfl) dR_greatest_69) rfl ?_
              rintro r ⟨⟩ rfl
              refine wk_ws (ws' := cR V a S) rfl ?_
              refine wk_bz_ne X dR_greatest_72 (tgt := 77) rfl (fun h31 => ?_) (fun h31 => ?_)
              · replace hf := p_it h31 hf
                refine wk_iinc X 3 dR_greatest_77 (v := (v3 + (1 : Int32))) rfl rfl (Nat.le_of_ble_eq_true rfl) (lv' := [(3, .int (v3 + (1 : Int32))), (1, .int q11), (0, .ref (a 0)), (2, .int v2)]) rfl ?_
                refine wk_goto X dR_greatest_80 (tgt := 6) rfl ?_
                refine wk_lv [2, 1, 3, 0] (lv' := [(0, .ref (a 0)), (1, .int q11), (2, .int v2), (3, .int (v3 + (1 : Int32)))]) rfl ?_
                exact ih q11 v2 (v3 + (1 : Int32)) hf
              · replace hf := p_ie h31 hf
                refine wk_iconst X dR_greatest_75 (v := (1 : Int32)) (by decide) ?_
                refine wk_istore_n X dR_greatest_76 rfl (Nat.le_of_ble_eq_true rfl) (lv' := [(2, .int (1 : Int32)), (1, .int q11), (0, .ref (a 0)), (3, .int v3)]) rfl ?_
                refine wk_iinc X 3 dR_greatest_77 (v := (v3 + (1 : Int32))) rfl rfl (Nat.le_of_ble_eq_true rfl) (lv' := [(3, .int (v3 + (1 : Int32))), (2, .int (1 : Int32)), (1, .int q11), (0, .ref (a 0))]) rfl ?_
                refine wk_goto X dR_greatest_80 (tgt := 6) rfl ?_
                refine wk_lv [3, 2, 1, 0] (lv' := [(0, .ref (a 0)), (1, .int q11), (2, .int (1 : Int32)), (3, .int (v3 + (1 : Int32)))]) rfl ?_
                exact ih q11 (1 : Int32) (v3 + (1 : Int32)) hf
        · replace hf := p_ie h10 hf
          refine wk_iload_n X 3 dR_greatest_30 rfl rfl ?_
          refine wk_iconst X dR_greatest_31 (v := (2 : Int32)) (by decide) ?_
          refine wk_idiv X dR_greatest_32 (by decide) ?_
          refine wk_iconst X dR_greatest_33 (v := (1 : Int32)) (by decide) ?_
          refine wk_iadd X dR_greatest_34 ?_
          refine wk_istore_n X dR_greatest_35 rfl (Nat.le_of_ble_eq_true rfl) (lv' := [(1, .int ((v3 / (2 : Int32)) + (1 : Int32))), (0, .ref (a 0)), (2, .int v2), (3, .int v3)]) rfl ?_
          refine wk_aload_n X 1 dR_greatest_36 rfl rfl ?_
          refine wk_get X uw_R 0 rfl rfl 3 (Nat.le_of_ble_eq_true rfl) (tl tw_540) rfl rfl dR_greatest_37 ?_
          refine wk_iload_n X 3 dR_greatest_40 rfl rfl ?_
          obtain ⟨q32, h33, hf⟩ := p_ob hf
          obtain ⟨h33i, h33e⟩ := p_rd_some h33
          refine wk_iald X 4 0 rfl rfl h33i h33e dR_greatest_41 ?_
          refine wk_iload_n X 0 dR_greatest_42 rfl rfl ?_
          refine wk_icmp_le X dR_greatest_43 (tgt := 53) rfl (fun h34 => ?_) (fun h34 => ?_)
          · replace hf := p_it h34 hf
            refine wk_aload_n X 1 dR_greatest_53 rfl rfl ?_
            refine wk_get X uw_R 0 rfl rfl 3 (Nat.le_of_ble_eq_true rfl) (tl tw_540) rfl rfl dR_greatest_54 ?_
            refine wk_iload_n X 3 dR_greatest_57 rfl rfl ?_
            refine wk_iald X 4 0 rfl rfl h33i h33e dR_greatest_58 ?_
            refine wk_if_le X dR_greatest_59 (tgt := 77) rfl (fun h37 => ?_) (fun h37 => ?_)
            · replace hf := p_it h37 hf
              refine wk_iinc X 3 dR_greatest_77 (v := (v3 + (1 : Int32))) rfl rfl (Nat.le_of_ble_eq_true rfl) (lv' := [(3, .int (v3 + (1 : Int32))), (1, .int ((v3 / (2 : Int32)) + (1 : Int32))), (0, .ref (a 0)), (2, .int v2)]) rfl ?_
              refine wk_goto X dR_greatest_80 (tgt := 6) rfl ?_
              refine wk_lv [2, 1, 3, 0] (lv' := [(0, .ref (a 0)), (1, .int ((v3 / (2 : Int32)) + (1 : Int32))), (2, .int v2), (3, .int (v3 + (1 : Int32)))]) rfl ?_
              exact ih ((v3 / (2 : Int32)) + (1 : Int32)) v2 (v3 + (1 : Int32)) hf
            · replace hf := p_ie h37 hf
              refine wk_aload_n X 1 dR_greatest_62 rfl rfl ?_
              refine wk_aload_n X 1 dR_greatest_63 rfl rfl ?_
              refine wk_get X uw_R 0 rfl rfl 3 (Nat.le_of_ble_eq_true rfl) (tl tw_540) rfl rfl dR_greatest_64 ?_
              refine wk_iload_n X 3 dR_greatest_67 rfl rfl ?_
              refine wk_iald X 4 0 rfl rfl h33i h33e dR_greatest_68 ?_
              obtain ⟨q40, h41, hf⟩ := p_ob hf
              refine wk_goI [0, 1, 2, 3, 4, 5, 6, 7, 8, 9, 10, 11, 12] (wk_rV X (mR_bothTold (V := V) a S q32 q40 h41) rfl (gd (tw_679)) [0, 1, 2, 3, 4, 5, 6, 7, 8, 9, 10, 11, 12] rfl rfl 0 rfl rfl (tl tw_676) (tl tw_678) (tl tv_8) (tl tw_7) 1 pd_R_bothTold rfl ⟨rfl, rfl⟩ ⟨Nat.le_of_ble_eq_true rfl, Nat.le_of_ble_eq_true rfl⟩ rfl (Nat.le_of_ble_eq_true rfl) dR_greatest_69) rfl ?_
              rintro r ⟨⟩ rfl
              refine wk_ws (ws' := cR V a S) rfl ?_
              refine wk_bz_ne X dR_greatest_72 (tgt := 77) rfl (fun h42 => ?_) (fun h42 => ?_)
              · replace hf := p_it h42 hf
                refine wk_iinc X 3 dR_greatest_77 (v := (v3 + (1 : Int32))) rfl rfl (Nat.le_of_ble_eq_true rfl) (lv' := [(3, .int (v3 + (1 : Int32))), (1, .int ((v3 / (2 : Int32)) + (1 : Int32))), (0, .ref (a 0)), (2, .int v2)]) rfl ?_
                refine wk_goto X dR_greatest_80 (tgt := 6) rfl ?_
                refine wk_lv [2, 1, 3, 0] (lv' := [(0, .ref (a 0)), (1, .int ((v3 / (2 : Int32)) + (1 : Int32))), (2, .int v2), (3, .int (v3 + (1 : Int32)))]) rfl ?_
                exact ih ((v3 / (2 : Int32)) + (1 : Int32)) v2 (v3 + (1 : Int32)) hf
              · replace hf := p_ie h42 hf
                refine wk_iconst X dR_greatest_75 (v := (1 : Int32)) (by decide) ?_
                refine wk_istore_n X dR_greatest_76 rfl (Nat.le_of_ble_eq_true rfl) (lv' := [(2, .int (1 : Int32)), (1, .int ((v3 / (2 : Int32)) + (1 : Int32))), (0, .ref (a 0)), (3, .int v3)]) rfl ?_
                refine wk_iinc X 3 dR_greatest_77 (v := (v3 + (1 : Int32))) rfl rfl (Nat.le_of_ble_eq_true rfl) (lv' := [(3, .int (v3 + (1 : Int32))), (2, .int (1 : Int32)), (1, .int ((v3 / (2 : Int32)) + (1 : Int32))), (0, .ref (a 0))]) rfl ?_
                refine wk_goto X dR_greatest_80 (tgt := 6) rfl ?_
                refine wk_lv [3, 2, 1, 0] (lv' := [(0, .ref (a 0)), (1, .int ((v3 / (2 : Int32)) + (1 : Int32))), (2, .int (1 : Int32)), (3, .int (v3 + (1 : Int32)))]) rfl ?_
                exact ih ((v3 / (2 : Int32)) + (1 : Int32)) (1 : Int32) (v3 + (1 : Int32)) hf
          · replace hf := p_ie h34 hf
            refine wk_aload_n X 1 dR_greatest_46 rfl rfl ?_
            refine wk_get X uw_R 0 rfl rfl 3 (Nat.le_of_ble_eq_true rfl) (tl tw_540) rfl rfl dR_greatest_47 ?_
            refine wk_iload_n X 3 dR_greatest_50 rfl rfl ?_
            refine wk_iald X 4 0 rfl rfl h33i h33e dR_greatest_51 ?_
            refine wk_istore_n X dR_greatest_52 rfl (Nat.le_of_ble_eq_true rfl) (lv' := [(1, .int q32), (0, .ref (a 0)), (2, .int v2), (3, .int v3)]) rfl ?_
            refine wk_aload_n X 1 dR_greatest_53 rfl rfl ?_
            refine wk_get X uw_R 0 rfl rfl 3 (Nat.le_of_ble_eq_true rfl) (tl tw_540) rfl rfl dR_greatest_54 ?_
            refine wk_iload_n X 3 dR_greatest_57 rfl rfl ?_
            refine wk_iald X 4 0 rfl rfl h33i h33e dR_greatest_58 ?_
            refine wk_if_le X dR_greatest_59 (tgt := 77) rfl (fun h47 => ?_) (fun h47 => ?_)
            · replace hf := p_it h47 hf
              refine wk_iinc X 3 dR_greatest_77 (v := (v3 + (1 : Int32))) rfl rfl (Nat.le_of_ble_eq_true rfl) (lv' := [(3, .int (v3 + (1 : Int32))), (1, .int q32), (0, .ref (a 0)), (2, .int v2)]) rfl ?_
              refine wk_goto X dR_greatest_80 (tgt := 6) rfl ?_
              refine wk_lv [2, 1, 3, 0] (lv' := [(0, .ref (a 0)), (1, .int q32), (2, .int v2), (3, .int (v3 + (1 : Int32)))]) rfl ?_
              exact ih q32 v2 (v3 + (1 : Int32)) hf
            · replace hf := p_ie h47 hf
              refine wk_aload_n X 1 dR_greatest_62 rfl rfl ?_
              refine wk_aload_n X 1 dR_greatest_63 rfl rfl ?_
              refine wk_get X uw_R 0 rfl rfl 3 (Nat.le_of_ble_eq_true rfl) (tl tw_540) rfl rfl dR_greatest_64 ?_
              refine wk_iload_n X 3 dR_greatest_67 rfl rfl ?_
              refine wk_iald X 4 0 rfl rfl h33i h33e dR_greatest_68 ?_
              obtain ⟨q50, h51, hf⟩ := p_ob hf
              refine wk_goI [0, 1, 2, 3, 4, 5, 6, 7, 8, 9, 10, 11, 12] (wk_rV X (mR_bothTold (V := V) a S q32 q50 h51) rfl (gd (tw_679)) [0, 1, 2, 3, 4, 5, 6, 7, 8, 9, 10, 11, 12] rfl rfl 0 rfl rfl (tl tw_676) (tl tw_678) (tl tv_8) (tl tw_7) 1 pd_R_bothTold rfl ⟨rfl, rfl⟩ ⟨Nat.le_of_ble_eq_true rfl, Nat.le_of_ble_eq_true rfl⟩ rfl (Nat.le_of_ble_eq_true rfl) dR_greatest_69) rfl ?_
              rintro r ⟨⟩ rfl
              refine wk_ws (ws' := cR V a S) rfl ?_
              refine wk_bz_ne X dR_greatest_72 (tgt := 77) rfl (fun h52 => ?_) (fun h52 => ?_)
              · replace hf := p_it h52 hf
                refine wk_iinc X 3 dR_greatest_77 (v := (v3 + (1 : Int32))) rfl rfl (Nat.le_of_ble_eq_true rfl) (lv' := [(3, .int (v3 + (1 : Int32))), (1, .int q32), (0, .ref (a 0)), (2, .int v2)]) rfl ?_
                refine wk_goto X dR_greatest_80 (tgt := 6) rfl ?_
                refine wk_lv [2, 1, 3, 0] (lv' := [(0, .ref (a 0)), (1, .int q32), (2, .int v2), (3, .int (v3 + (1 : Int32)))]) rfl ?_
                exact ih q32 v2 (v3 + (1 : Int32)) hf
              · replace hf := p_ie h52 hf
                refine wk_iconst X dR_greatest_75 (v := (1 : Int32)) (by decide) ?_
                refine wk_istore_n X dR_greatest_76 rfl (Nat.le_of_ble_eq_true rfl) (lv' := [(2, .int (1 : Int32)), (1, .int q32), (0, .ref (a 0)), (3, .int v3)]) rfl ?_
                refine wk_iinc X 3 dR_greatest_77 (v := (v3 + (1 : Int32))) rfl rfl (Nat.le_of_ble_eq_true rfl) (lv' := [(3, .int (v3 + (1 : Int32))), (2, .int (1 : Int32)), (1, .int q32), (0, .ref (a 0))]) rfl ?_
                refine wk_goto X dR_greatest_80 (tgt := 6) rfl ?_
                refine wk_lv [3, 2, 1, 0] (lv' := [(0, .ref (a 0)), (1, .int q32), (2, .int (1 : Int32)), (3, .int (v3 + (1 : Int32)))]) rfl ?_
                exact ih q32 (1 : Int32) (v3 + (1 : Int32)) hf
set_option maxRecDepth 100000 in
set_option maxHeartbeats 4000000 in
theorem mR_greatest {V : ee_V} (a : Nat → Nat) (S : pR) (R : Int32) (hf : fR_greatest S = some R) : wk_I (ee V) yR_greatest ts_R_greatest ⟨2, 0, 0, 42⟩ [.ref (a 0)] (cR V a S) (fun (r : Int32) (_ : Unit) => R = r) (fun _ : Unit => cR V a S) := by
  refine wk_of (ee_ok V) (by decide +kernel) rfl (Nat.le_of_ble_eq_true rfl) ?_
  intro x X Z
  unfold fR_greatest at hf
  refine wk_lq (lv' := [(0, .ref (a 0))]) rfl ?_
  refine wk_iconst X dR_greatest_0 (v := (0 : Int32)) (by decide) ?_
  refine wk_istore_n X dR_greatest_1 rfl (Nat.le_of_ble_eq_true rfl) (lv' := [(1, .int (0 : Int32)), (0, .ref (a 0))]) rfl ?_
  refine wk_iconst X dR_greatest_2 (v := (0 : Int32)) (by decide) ?_
  refine wk_istore_n X dR_greatest_3 rfl (Nat.le_of_ble_eq_true rfl) (lv' := [(2, .int (0 : Int32)), (1, .int (0 : Int32)), (0, .ref (a 0))]) rfl ?_
  refine wk_iconst X dR_greatest_4 (v := (0 : Int32)) (by decide) ?_
  refine wk_istore_n X dR_greatest_5 rfl (Nat.le_of_ble_eq_true rfl) (lv' := [(3, .int (0 : Int32)), (2, .int (0 : Int32)), (1, .int (0 : Int32)), (0, .ref (a 0))]) rfl ?_
  refine wk_lv [3, 2, 1, 0] (lv' := [(0, .ref (a 0)), (1, .int (0 : Int32)), (2, .int (0 : Int32)), (3, .int (0 : Int32))]) rfl ?_
  exact wR_greatest_L6 a S X R Z 100000 (0 : Int32) (0 : Int32) (0 : Int32) hf

-- R_compileTag: room (3, 69), Option (Int32 × pR)
def fR_compileTag_L35 (K : pR → Int32 → Int32 → Option (Int32 × pR)) : Nat → pR → Int32 → Int32 → Int32 → Option (Int32 × pR)
  | 0, _, _, _, _ => none
  | n + 1, S, v1, v2, v3 =>
    if (2 : Int32) ≤ v3 then (
      K S v1 (v2 + (1 : Int32))
    ) else (
      (fR_goesOn S (fR_ruleOf v2 v3)).bind fun q10 =>
      if q10 = true then (
        (p_rd 16 S.1.2.2.1 (fR_ruleOf v2 v3)).bind fun q13 =>
        if q13 = (1 : Int32) then (
          (p_rd 16 S.1.2.1 (fR_ruleOf v2 v3)).bind fun q31 =>
          if q31 = (1 : Int32) then (
            (p_rd 16 S.1.2.2.2.1 (fR_ruleOf v2 v3)).bind fun q40 =>
            (fR_toTheRight S (fR_letterOf v2 v3 (0 : Int32)) true (fR_letterOf q40 (1 : Int32) (0 : Int32)) (fR_letterOf q40 (0 : Int32) (0 : Int32))).bind fun q44 =>
            fR_compileTag_L35 K n q44 v1 v2 (v3 + (1 : Int32))
          ) else (
            (p_rd 16 S.1.2.2.2.1 (fR_ruleOf v2 v3)).bind fun q34 =>
            (fR_toTheRight S (fR_letterOf v2 v3 (0 : Int32)) false (fR_letterOf q34 (1 : Int32) (0 : Int32)) (fR_letterOf q34 (0 : Int32) (0 : Int32))).bind fun q38 =>
            fR_compileTag_L35 K n q38 v1 v2 (v3 + (1 : Int32))
          )
        ) else (
          (p_rd 16 S.1.2.1 (fR_ruleOf v2 v3)).bind fun q16 =>
          if q16 = (1 : Int32) then (
            (p_rd 16 S.1.2.2.2.1 (fR_ruleOf v2 v3)).bind fun q25 =>
            (fR_toTheLeft S (fR_letterOf v2 v3 (0 : Int32)) true (fR_letterOf q25 (1 : Int32) (0 : Int32)) (fR_letterOf q25 (0 : Int32) (0 : Int32))).bind fun q29 =>
            fR_compileTag_L35 K n q29 v1 v2 (v3 + (1 : Int32))
          ) else (
            (p_rd 16 S.1.2.2.2.1 (fR_ruleOf v2 v3)).bind fun q19 =>
            (fR_toTheLeft S (fR_letterOf v2 v3 (0 : Int32)) false (fR_letterOf q19 (1 : Int32) (0 : Int32)) (fR_letterOf q19 (0 : Int32) (0 : Int32))).bind fun q23 =>
            fR_compileTag_L35 K n q23 v1 v2 (v3 + (1 : Int32))
          )
        )
      ) else (
        (p_wr 300 S.2.1.2.2.2.2.1 ((fR_letterOf v2 v3 (0 : Int32)) + (0 : Int32)) (1 : Int32)).bind fun q46 =>
        fR_compileTag_L35 K n (S.1, (S.2.1.1, S.2.1.2.1, S.2.1.2.2.1, S.2.1.2.2.2.1, q46, S.2.1.2.2.2.2.2.1, S.2.1.2.2.2.2.2.2.1, S.2.1.2.2.2.2.2.2.2), S.2.2.1, S.2.2.2) v1 v2 (v3 + (1 : Int32))
      )
    )
def fR_compileTag_L28 : Nat → pR → Int32 → Int32 → Option (Int32 × pR)
  | 0, _, _, _ => none
  | n + 1, S, v1, v2 =>
    if v1 < v2 then (
      (fR_putCode S).bind fun q7 =>
      some (q7.2.1.1, q7)
    ) else (
      fR_compileTag_L35 (fun S w1 w2 => fR_compileTag_L28 n S w1 w2) 100000 S v1 v2 (0 : Int32)
    )
def fR_compileTag (S : pR) : Option (Int32 × pR) :=
  (fR_greatest S).bind fun q1 =>
  if 0 < q1 then (
    (fR_emptySystem S ((1 : Int32) + ((36 : Int32) * q1))).bind fun q4 =>
    fR_compileTag_L28 100000 (q4.1, (q4.2.1.1, true, q4.2.1.2.2.1, q4.2.1.2.2.2.1, q4.2.1.2.2.2.2.1, q4.2.1.2.2.2.2.2.1, q4.2.1.2.2.2.2.2.2.1, q4.2.1.2.2.2.2.2.2.2), q4.2.2.1, q4.2.2.2) q1 (1 : Int32)
  ) else (
    some ((0 : Int32), S)
  )
set_option maxRecDepth 100000 in
set_option maxHeartbeats 4000000 in
theorem wR_compileTag_L35 {V : ee_V} (a : Nat → Nat) (S0 : pR) {x : wk_C} (X : wk_K (ee V) x cR_compileTag 6 "TagWorkshopModel" ts_R_compileTag ⟨3, 0, 0, 69⟩) (R : Int32 × pR) (Z : wk_N x (some .int) (va_Qi (fun (r : Int32) (u : pR) => R.1 = r ∧ R.2 = u) (wk_B (ee V) (cR V a S0) (fun u : pR => cR V a u)) (wk_in (cR V a S0))) (cR V a S0)) (K : pR → Int32 → Int32 → Option (Int32 × pR)) (hK : ∀ (S : pR) (v1 : Int32) (v2 : Int32), K S v1 v2 = some R → wk_G (ee V) x 6 (cR V a S) 28 [(0, .ref (a 0)), (1, .int v1), (2, .int v2)] []) : ∀ (n : Nat) (S : pR) (v1 : Int32) (v2 : Int32) (v3 : Int32), fR_compileTag_L35 K n S v1 v2 v3 = some R → wk_G (ee V) x 6 (cR V a S) 35 [(0, .ref (a 0)), (1, .int v1), (2, .int v2), (3, .int v3)] [] := by
  intro n
  induction n with
  | zero => intro S v1 v2 v3 hf; exact absurd hf (by rw [fR_compileTag_L35]; exact fun h => by cases h)
  | succ n ih =>
    intro S v1 v2 v3 hf
    rw [fR_compileTag_L35] at hf
    refine wk_iload_n X 3 dR_compileTag_35 rfl rfl ?_
    refine wk_iconst X dR_compileTag_36 (v := (2 : Int32)) (by decide) ?_
    refine wk_icmp_ge X dR_compileTag_37 (tgt := 189) rfl (fun h9 => ?_) (fun h9 => ?_)
    · replace hf := p_it h9 hf
      refine wk_iinc X 2 dR_compileTag_189 (v := (v2 + (1 : Int32))) rfl rfl (Nat.le_of_ble_eq_true rfl) (lv' := [(2, .int (v2 + (1 : Int32))), (0, .ref (a 0)), (1, .int v1), (3, .int v3)]) rfl ?_
      refine wk_goto X dR_compileTag_192 (tgt := 28) rfl ?_
      refine wk_lv [1, 2, 0] (lv' := [(0, .ref (a 0)), (1, .int v1), (2, .int (v2 + (1 : Int32)))]) rfl ?_
      exact hK S v1 (v2 + (1 : Int32)) hf
    · replace hf := p_ie h9 hf
      refine wk_iload_n X 2 dR_compileTag_40 rfl rfl ?_
      refine wk_iload_n X 3 dR_compileTag_41 rfl rfl ?_
      refine wk_goI [] (wk_rS X (mR_ruleOf (V := V) v2 v3 (fR_ruleOf v2 v3) rfl) rfl (gd (tw_655)) [] rfl rfl (tl tw_653) (tl tw_654) (tl tw_7) 2 pd_R_ruleOf rfl ⟨rfl, rfl⟩ ⟨Nat.le_of_ble_eq_true rfl, Nat.le_of_ble_eq_true rfl⟩ rfl (Nat.le_of_ble_eq_true rfl) dR_compileTag_42) rfl ?_
      rintro r ⟨⟩ rfl
      refine wk_ws (ws' := cR V a S) rfl ?_
      refine wk_istore X dR_compileTag_45 (Nat.le_of_ble_eq_true rfl) (lv' := [(4, .int (fR_ruleOf v2 v3)), (0, .ref (a 0)), (1, .int v1), (2, .int v2), (3, .int v3)]) rfl ?_
      refine wk_iload_n X 3 dR_compileTag_47 rfl rfl ?_
      refine wk_iload_n X 4 dR_compileTag_48 rfl rfl ?_
      refine wk_iconst X dR_compileTag_49 (v := (0 : Int32)) (by decide) ?_
      refine wk_goI [] (wk_rS X (mR_letterOf (V := V) v2 v3 (0 : Int32) (fR_letterOf v2 v3 (0 : Int32)) rfl) rfl (gd (tw_686)) [] rfl rfl (tl tw_684) (tl tw_685) (tl tw_7) 3 pd_R_letterOf rfl ⟨rfl, rfl⟩ ⟨Nat.le_of_ble_eq_true rfl, Nat.le_of_ble_eq_true rfl⟩ rfl (Nat.le_of_ble_eq_true rfl) dR_compileTag_50) rfl ?_
      rintro r ⟨⟩ rfl
      refine wk_ws (ws' := cR V a S) rfl ?_
      refine wk_istore X dR_compileTag_53 (Nat.le_of_ble_eq_true rfl) (lv' := [(5, .int (fR_letterOf v2 v3 (0 : Int32))), (4, .int (fR_ruleOf v2 v3)), (0, .ref (a 0)), (1, .int v1), (2, .int v2), (3, .int v3)]) rfl ?_
      refine wk_aload_n X 2 dR_compileTag_55 rfl rfl ?_
      refine wk_iload X 1 dR_compileTag_56 rfl ?_
      obtain ⟨q10, h11, hf⟩ := p_ob hf
      refine wk_goI [0, 1, 2, 3, 4, 5, 6, 7, 8, 9, 10, 11, 12] (wk_rV X (mR_goesOn (V := V) a S (fR_ruleOf v2 v3) q10 h11) rfl (gd (tw_659)) [0, 1, 2, 3, 4, 5, 6, 7, 8, 9, 10, 11, 12] rfl rfl 0 rfl rfl (tl tw_656) (tl tw_658) (tl tv_5) (tl tw_7) 1 pd_R_goesOn rfl ⟨rfl, rfl⟩ ⟨Nat.le_of_ble_eq_true rfl, Nat.le_of_ble_eq_true rfl⟩ rfl (Nat.le_of_ble_eq_true rfl) dR_compileTag_58) rfl ?_
      rintro r ⟨⟩ rfl
      refine wk_ws (ws' := cR V a S) rfl ?_
      refine wk_bz_ne X dR_compileTag_61 (tgt := 77) rfl (fun h12 => ?_) (fun h12 => ?_)
      · replace hf := p_it h12 hf
        refine wk_aload_n X 2 dR_compileTag_77 rfl rfl ?_
        refine wk_get X uw_R 0 rfl rfl 2 (Nat.le_of_ble_eq_true rfl) (tl tw_539) rfl rfl dR_compileTag_78 ?_
        refine wk_iload X 1 dR_compileTag_81 rfl ?_
        obtain ⟨q13, h14, hf⟩ := p_ob hf
        obtain ⟨h14i, h14e⟩ := p_rd_some h14
        refine wk_iald X 3 0 rfl rfl h14i h14e dR_compileTag_83 ?_
        refine wk_iconst X dR_compileTag_84 (v := (1 : Int32)) (by decide) ?_
        refine wk_icmp_ne X dR_compileTag_85 (tgt := 137) rfl (fun h15 => ?_) (fun h15 => ?_)
        · replace hf := p_ie h15 hf
          refine wk_aload_n X 2 dR_compileTag_137 rfl rfl ?_
          refine wk_iload X 0 dR_compileTag_138 rfl ?_
          refine wk_aload_n X 2 dR_compileTag_140 rfl rfl ?_
          refine wk_get X uw_R 0 rfl rfl 1 (Nat.le_of_ble_eq_true rfl) (tl tw_538) rfl rfl dR_compileTag_141 ?_
          refine wk_iload X 1 dR_compileTag_144 rfl ?_
          obtain ⟨q16, h17, hf⟩ := p_ob hf
          obtain ⟨h17i, h17e⟩ := p_rd_some h17
          refine wk_iald X 2 0 rfl rfl h17i h17e dR_compileTag_146 ?_
          refine wk_iconst X dR_compileTag_147 (v := (1 : Int32)) (by decide) ?_
          refine wk_icmp_ne X dR_compileTag_148 (tgt := 155) rfl (fun h18 => ?_) (fun h18 => ?_)
          · replace hf := p_ie h18 hf
            refine wk_iconst X dR_compileTag_155 (v := (0 : Int32)) (by decide) ?_
            refine wk_aload_n X 2 dR_compileTag_156 rfl rfl ?_
            refine wk_get X uw_R 0 rfl rfl 3 (Nat.le_of_ble_eq_true rfl) (tl tw_540) rfl rfl dR_compileTag_157 ?_
            refine wk_iload X 1 dR_compileTag_160 rfl ?_
            obtain ⟨q19, h20, hf⟩ := p_ob hf
            obtain ⟨h20i, h20e⟩ := p_rd_some h20
            refine wk_iald X 4 0 rfl rfl h20i h20e dR_compileTag_162 ?_
            refine wk_iconst X dR_compileTag_163 (v := (1 : Int32)) (by decide) ?_
            refine wk_iconst X dR_compileTag_164 (v := (0 : Int32)) (by decide) ?_
            refine wk_goI [] (wk_rS X (mR_letterOf (V := V) q19 (1 : Int32) (0 : Int32) (fR_letterOf q19 (1 : Int32) (0 : Int32)) rfl) rfl (gd (tw_686)) [] rfl rfl (tl tw_684) (tl tw_685) (tl tw_7) 3 pd_R_letterOf rfl ⟨rfl, rfl⟩ ⟨Nat.le_of_ble_eq_true rfl, Nat.le_of_ble_eq_true rfl⟩ rfl (Nat.le_of_ble_eq_true rfl) dR_compileTag_165) rfl ?_
            rintro r ⟨⟩ rfl
            refine wk_ws (ws' := cR V a S) rfl ?_
            refine wk_aload_n X 2 dR_compileTag_168 rfl rfl ?_
            refine wk_get X uw_R 0 rfl rfl 3 (Nat.le_of_ble_eq_true rfl) (tl tw_540) rfl rfl dR_compileTag_169 ?_
            refine wk_iload X 1 dR_compileTag_172 rfl ?_
            refine wk_iald X 4 0 rfl rfl h20i h20e dR_compileTag_174 ?_
            refine wk_iconst X dR_compileTag_175 (v := (0 : Int32)) (by decide) ?_
            refine wk_iconst X dR_compileTag_176 (v := (0 : Int32)) (by decide) ?_
            refine wk_goI [] (wk_rS X (mR_letterOf (V := V) q19 (0 : Int32) (0 : Int32) (fR_letterOf q19 (0 : Int32) (0 : Int32)) rfl) rfl (gd (tw_686)) [] rfl rfl (tl tw_684) (tl tw_685) (tl tw_7) 3 pd_R_letterOf rfl ⟨rfl, rfl⟩ ⟨Nat.le_of_ble_eq_true rfl, Nat.le_of_ble_eq_true rfl⟩ rfl (Nat.le_of_ble_eq_true rfl) dR_compileTag_177) rfl ?_
            rintro r ⟨⟩ rfl
            refine wk_ws (ws' := cR V a S) rfl ?_
            obtain ⟨q23, h24, hf⟩ := p_ob hf
            refine wk_goV [0, 1, 2, 3, 4, 5, 6, 7, 8, 9, 10, 11, 12] (wk_rV X (mR_toTheLeft (V := V) a S (fR_letterOf v2 v3 (0 : Int32)) false (fR_letterOf q19 (1 : Int32) (0 : Int32)) (fR_letterOf q19 (0 : Int32) (0 : Int32)) q23 h24) rfl (gd (tw_702)) [0, 1, 2, 3, 4, 5, 6, 7, 8, 9, 10, 11, 12] rfl rfl 0 rfl rfl (tl tw_699) (tl tw_701) (tl tv_13) (tl tw_7) 4 pd_R_toTheLeft rfl ⟨rfl, rfl⟩ ⟨Nat.le_of_ble_eq_true rfl, Nat.le_of_ble_eq_true rfl⟩ rfl (Nat.le_of_ble_eq_true rfl) dR_compileTag_180) rfl ?_
            rintro u rfl
            refine wk_ws (ws' := cR V a q23) rfl ?_
            refine wk_iinc X 5 dR_compileTag_183 (v := (v3 + (1 : Int32))) rfl rfl (Nat.le_of_ble_eq_true rfl) (lv' := [(3, .int (v3 + (1 : Int32))), (5, .int (fR_letterOf v2 v3 (0 : Int32))), (4, .int (fR_ruleOf v2 v3)), (0, .ref (a 0)), (1, .int v1), (2, .int v2)]) rfl ?_
            refine wk_goto X dR_compileTag_186 (tgt := 35) rfl ?_
            refine wk_lv [3, 4, 5, 0] (lv' := [(0, .ref (a 0)), (1, .int v1), (2, .int v2), (3, .int (v3 + (1 : Int32)))]) rfl ?_
            exact ih q23 v1 v2 (v3 + (1 : Int32)) hf
          · replace hf := p_it h18 hf
            refine wk_iconst X dR_compileTag_151 (v := (1 : Int32)) (by decide) ?_
            refine wk_goto X dR_compileTag_152 (tgt := 156) rfl ?_
            refine wk_aload_n X 2 dR_compileTag_156 rfl rfl ?_
            refine wk_get X uw_R 0 rfl rfl 3 (Nat.le_of_ble_eq_true rfl) (tl tw_540) rfl rfl dR_compileTag_157 ?_
            refine wk_iload X 1 dR_compileTag_160 rfl ?_
            obtain ⟨q25, h26, hf⟩ := p_ob hf
            obtain ⟨h26i, h26e⟩ := p_rd_some h26
            refine wk_iald X 4 0 rfl rfl h26i h26e dR_compileTag_162 ?_
            refine wk_iconst X dR_compileTag_163 (v := (1 : Int32)) (by decide) ?_
            refine wk_iconst X dR_compileTag_164 (v := (0 : Int32)) (by decide) ?_
            refine wk_goI [] (wk_rS X (mR_letterOf (V := V) q25 (1 : Int32) (0 : Int32) (fR_letterOf q25 (1 : Int32) (0 : Int32)) rfl) rfl (gd (tw_686)) [] rfl rfl (tl tw_684) (tl tw_685) (tl tw_7) 3 pd_R_letterOf rfl ⟨rfl, rfl⟩ ⟨Nat.le_of_ble_eq_true rfl, Nat.le_of_ble_eq_true rfl⟩ rfl (Nat.le_of_ble_eq_true rfl) dR_compileTag_165) rfl ?_
            rintro r ⟨⟩ rfl
            refine wk_ws (ws' := cR V a S) rfl ?_
            refine wk_aload_n X 2 dR_compileTag_168 rfl rfl ?_
            refine wk_get X uw_R 0 rfl rfl 3 (Nat.le_of_ble_eq_true rfl) (tl tw_540) rfl rfl dR_compileTag_169 ?_
            refine wk_iload X 1 dR_compileTag_172 rfl ?_
            refine wk_iald X 4 0 rfl rfl h26i h26e dR_compileTag_174 ?_
            refine wk_iconst X dR_compileTag_175 (v := (0 : Int32)) (by decide) ?_
            refine wk_iconst X dR_compileTag_176 (v := (0 : Int32)) (by decide) ?_
            refine wk_goI [] (wk_rS X (mR_letterOf (V := V) q25 (0 : Int32) (0 : Int32) (fR_letterOf q25 (0 : Int32) (0 : Int32)) rfl) rfl (gd (tw_686)) [] rfl rfl (tl tw_684) (tl tw_685) (tl tw_7) 3 pd_R_letterOf rfl ⟨rfl, rfl⟩ ⟨Nat.le_of_ble_eq_true rfl, Nat.le_of_ble_eq_true rfl⟩ rfl (Nat.le_of_ble_eq_true rfl) dR_compileTag_177) rfl ?_
            rintro r ⟨⟩ rfl
            refine wk_ws (ws' := cR V a S) rfl ?_
            obtain ⟨q29, h30, hf⟩ := p_ob hf
            refine wk_goV [0, 1, 2, 3, 4, 5, 6, 7, 8, 9, 10, 11, 12] (wk_rV X (mR_toTheLeft (V := V) a S (fR_letterOf v2 v3 (0 : Int32)) true (fR_letterOf q25 (1 : Int32) (0 : Int32)) (fR_letterOf q25 (0 : Int32) (0 : Int32)) q29 h30) rfl (gd (tw_702)) [0, 1, 2, 3, 4, 5, 6, 7, 8, 9, 10, 11, 12] rfl rfl 0 rfl rfl (tl tw_699) (tl tw_701) (tl tv_13) (tl tw_7) 4 pd_R_toTheLeft rfl ⟨rfl, rfl⟩ ⟨Nat.le_of_ble_eq_true rfl, Nat.le_of_ble_eq_true rfl⟩ rfl (Nat.le_of_ble_eq_true rfl) dR_compileTag_180) rfl ?_
            rintro u rfl
            refine wk_ws (ws' := cR V a q29) rfl ?_
            refine wk_iinc X 5 dR_compileTag_183 (v := (v3 + (1 : Int32))) rfl rfl (Nat.le_of_ble_eq_true rfl) (lv' := [(3, .int (v3 + (1 : Int32))), (5, .int (fR_letterOf v2 v3 (0 : Int32))), (4, .int (fR_ruleOf v2 v3)), (0, .ref (a 0)), (1, .int v1), (2, .int v2)]) rfl ?_
            refine wk_goto X dR_compileTag_186 (tgt := 35) rfl ?_
            refine wk_lv [3, 4, 5, 0] (lv' := [(0, .ref (a 0)), (1, .int v1), (2, .int v2), (3, .int (v3 + (1 : Int32)))]) rfl ?_
            exact ih q29 v1 v2 (v3 + (1 : Int32)) hf
        · replace hf := p_it h15 hf
          refine wk_aload_n X 2 dR_compileTag_88 rfl rfl ?_
          refine wk_iload X 0 dR_compileTag_89 rfl ?_
          refine wk_aload_n X 2 dR_compileTag_91 rfl rfl ?_
          refine wk_get X uw_R 0 rfl rfl 1 (Nat.le_of_ble_eq_true rfl) (tl tw_538) rfl rfl dR_compileTag_92 ?_
          refine wk_iload X 1 dR_compileTag_95 rfl ?_
          obtain ⟨q31, h32, hf⟩ := p_ob hf
          obtain ⟨h32i, h32e⟩ := p_rd_some h32
          refine wk_iald X 2 0 rfl rfl h32i h32e dR_compileTag_97 ?_
          refine wk_iconst X dR_compileTag_98 (v := (1 : Int32)) (by decide) ?_
          refine wk_icmp_ne X dR_compileTag_99 (tgt := 106) rfl (fun h33 => ?_) (fun h33 => ?_)
          · replace hf := p_ie h33 hf
            refine wk_iconst X dR_compileTag_106 (v := (0 : Int32)) (by decide) ?_
            refine wk_aload_n X 2 dR_compileTag_107 rfl rfl ?_
            refine wk_get X uw_R 0 rfl rfl 3 (Nat.le_of_ble_eq_true rfl) (tl tw_540) rfl rfl dR_compileTag_108 ?_
            refine wk_iload X 1 dR_compileTag_111 rfl ?_
            obtain ⟨q34, h35, hf⟩ := p_ob hf
            obtain ⟨h35i, h35e⟩ := p_rd_some h35
            refine wk_iald X 4 0 rfl rfl h35i h35e dR_compileTag_113 ?_
            refine wk_iconst X dR_compileTag_114 (v := (1 : Int32)) (by decide) ?_
            refine wk_iconst X dR_compileTag_115 (v := (0 : Int32)) (by decide) ?_
            refine wk_goI [] (wk_rS X (mR_letterOf (V := V) q34 (1 : Int32) (0 : Int32) (fR_letterOf q34 (1 : Int32) (0 : Int32)) rfl) rfl (gd (tw_686)) [] rfl rfl (tl tw_684) (tl tw_685) (tl tw_7) 3 pd_R_letterOf rfl ⟨rfl, rfl⟩ ⟨Nat.le_of_ble_eq_true rfl, Nat.le_of_ble_eq_true rfl⟩ rfl (Nat.le_of_ble_eq_true rfl) dR_compileTag_116) rfl ?_
            rintro r ⟨⟩ rfl
            refine wk_ws (ws' := cR V a S) rfl ?_
            refine wk_aload_n X 2 dR_compileTag_119 rfl rfl ?_
            refine wk_get X uw_R 0 rfl rfl 3 (Nat.le_of_ble_eq_true rfl) (tl tw_540) rfl rfl dR_compileTag_120 ?_
            refine wk_iload X 1 dR_compileTag_123 rfl ?_
            refine wk_iald X 4 0 rfl rfl h35i h35e dR_compileTag_125 ?_
            refine wk_iconst X dR_compileTag_126 (v := (0 : Int32)) (by decide) ?_
            refine wk_iconst X dR_compileTag_127 (v := (0 : Int32)) (by decide) ?_
            refine wk_goI [] (wk_rS X (mR_letterOf (V := V) q34 (0 : Int32) (0 : Int32) (fR_letterOf q34 (0 : Int32) (0 : Int32)) rfl) rfl (gd (tw_686)) [] rfl rfl (tl tw_684) (tl tw_685) (tl tw_7) 3 pd_R_letterOf rfl ⟨rfl, rfl⟩ ⟨Nat.le_of_ble_eq_true rfl, Nat.le_of_ble_eq_true rfl⟩ rfl (Nat.le_of_ble_eq_true rfl) dR_compileTag_128) rfl ?_
            rintro r ⟨⟩ rfl
            refine wk_ws (ws' := cR V a S) rfl ?_
            obtain ⟨q38, h39, hf⟩ := p_ob hf
            refine wk_goV [0, 1, 2, 3, 4, 5, 6, 7, 8, 9, 10, 11, 12] (wk_rV X (mR_toTheRight (V := V) a S (fR_letterOf v2 v3 (0 : Int32)) false (fR_letterOf q34 (1 : Int32) (0 : Int32)) (fR_letterOf q34 (0 : Int32) (0 : Int32)) q38 h39) rfl (gd (tw_690)) [0, 1, 2, 3, 4, 5, 6, 7, 8, 9, 10, 11, 12] rfl rfl 0 rfl rfl (tl tw_687) (tl tw_689) (tl tv_10) (tl tw_7) 4 pd_R_toTheRight rfl ⟨rfl, rfl⟩ ⟨Nat.le_of_ble_eq_true rfl, Nat.le_of_ble_eq_true rfl⟩ rfl (Nat.le_of_ble_eq_true rfl) dR_compileTag_131) rfl ?_
            rintro u rfl
            refine wk_ws (ws' := cR V a q38) rfl ?_
            refine wk_goto X dR_compileTag_134 (tgt := 183) rfl ?_
            refine wk_iinc X 5 dR_compileTag_183 (v := (v3 + (1 : Int32))) rfl rfl (Nat.le_of_ble_eq_true rfl) (lv' := [(3, .int (v3 + (1 : Int32))), (5, .int (fR_letterOf v2 v3 (0 : Int32))), (4, .int (fR_ruleOf v2 v3)), (0, .ref (a 0)), (1, .int v1), (2, .int v2)]) rfl ?_
            refine wk_goto X dR_compileTag_186 (tgt := 35) rfl ?_
            refine wk_lv [3, 4, 5, 0] (lv' := [(0, .ref (a 0)), (1, .int v1), (2, .int v2), (3, .int (v3 + (1 : Int32)))]) rfl ?_
            exact ih q38 v1 v2 (v3 + (1 : Int32)) hf
          · replace hf := p_it h33 hf
            refine wk_iconst X dR_compileTag_102 (v := (1 : Int32)) (by decide) ?_
            refine wk_goto X dR_compileTag_103 (tgt := 107) rfl ?_
            refine wk_aload_n X 2 dR_compileTag_107 rfl rfl ?_
            refine wk_get X uw_R 0 rfl rfl 3 (Nat.le_of_ble_eq_true rfl) (tl tw_540) rfl rfl dR_compileTag_108 ?_
            refine wk_iload X 1 dR_compileTag_111 rfl ?_
            obtain ⟨q40, h41, hf⟩ := p_ob hf
            obtain ⟨h41i, h41e⟩ := p_rd_some h41
            refine wk_iald X 4 0 rfl rfl h41i h41e dR_compileTag_113 ?_
            refine wk_iconst X dR_compileTag_114 (v := (1 : Int32)) (by decide) ?_
            refine wk_iconst X dR_compileTag_115 (v := (0 : Int32)) (by decide) ?_
            refine wk_goI [] (wk_rS X (mR_letterOf (V := V) q40 (1 : Int32) (0 : Int32) (fR_letterOf q40 (1 : Int32) (0 : Int32)) rfl) rfl (gd (tw_686)) [] rfl rfl (tl tw_684) (tl tw_685) (tl tw_7) 3 pd_R_letterOf rfl ⟨rfl, rfl⟩ ⟨Nat.le_of_ble_eq_true rfl, Nat.le_of_ble_eq_true rfl⟩ rfl (Nat.le_of_ble_eq_true rfl) dR_compileTag_116) rfl ?_
            rintro r ⟨⟩ rfl
            refine wk_ws (ws' := cR V a S) rfl ?_
            refine wk_aload_n X 2 dR_compileTag_119 rfl rfl ?_
            refine wk_get X uw_R 0 rfl rfl 3 (Nat.le_of_ble_eq_true rfl) (tl tw_540) rfl rfl dR_compileTag_120 ?_
            refine wk_iload X 1 dR_compileTag_123 rfl ?_
            refine wk_iald X 4 0 rfl rfl h41i h41e dR_compileTag_125 ?_
            refine wk_iconst X dR_compileTag_126 (v := (0 : Int32)) (by decide) ?_
            refine wk_iconst X dR_compileTag_127 (v := (0 : Int32)) (by decide) ?_
            refine wk_goI [] (wk_rS X (mR_letterOf (V := V) q40 (0 : Int32) (0 : Int32) (fR_letterOf q40 (0 : Int32) (0 : Int32)) rfl) rfl (gd (tw_686)) [] rfl rfl (tl tw_684) (tl tw_685) (tl tw_7) 3 pd_R_letterOf rfl ⟨rfl, rfl⟩ ⟨Nat.le_of_ble_eq_true rfl, Nat.le_of_ble_eq_true rfl⟩ rfl (Nat.le_of_ble_eq_true rfl) dR_compileTag_128) rfl ?_
            rintro r ⟨⟩ rfl
            refine wk_ws (ws' := cR V a S) rfl ?_
            obtain ⟨q44, h45, hf⟩ := p_ob hf
            refine wk_goV [0, 1, 2, 3, 4, 5, 6, 7, 8, 9, 10, 11, 12] (wk_rV X (mR_toTheRight (V := V) a S (fR_letterOf v2 v3 (0 : Int32)) true (fR_letterOf q40 (1 : Int32) (0 : Int32)) (fR_letterOf q40 (0 : Int32) (0 : Int32)) q44 h45) rfl (gd (tw_690)) [0, 1, 2, 3, 4, 5, 6, 7, 8, 9, 10, 11, 12] rfl rfl 0 rfl rfl (tl tw_687) (tl tw_689) (tl tv_10) (tl tw_7) 4 pd_R_toTheRight rfl ⟨rfl, rfl⟩ ⟨Nat.le_of_ble_eq_true rfl, Nat.le_of_ble_eq_true rfl⟩ rfl (Nat.le_of_ble_eq_true rfl) dR_compileTag_131) rfl ?_
            rintro u rfl
            refine wk_ws (ws' := cR V a q44) rfl ?_
            refine wk_goto X dR_compileTag_134 (tgt := 183) rfl ?_
            refine wk_iinc X 5 dR_compileTag_183 (v := (v3 + (1 : Int32))) rfl rfl (Nat.le_of_ble_eq_true rfl) (lv' := [(3, .int (v3 + (1 : Int32))), (5, .int (fR_letterOf v2 v3 (0 : Int32))), (4, .int (fR_ruleOf v2 v3)), (0, .ref (a 0)), (1, .int v1), (2, .int v2)]) rfl ?_
            refine wk_goto X dR_compileTag_186 (tgt := 35) rfl ?_
            refine wk_lv [3, 4, 5, 0] (lv' := [(0, .ref (a 0)), (1, .int v1), (2, .int v2), (3, .int (v3 + (1 : Int32)))]) rfl ?_
            exact ih q44 v1 v2 (v3 + (1 : Int32)) hf
      · replace hf := p_ie h12 hf
        refine wk_aload_n X 2 dR_compileTag_64 rfl rfl ?_
        refine wk_get X uw_R 0 rfl rfl 12 (Nat.le_of_ble_eq_true rfl) (tl tw_549) rfl rfl dR_compileTag_65 ?_
        refine wk_iload X 0 dR_compileTag_68 rfl ?_
        refine wk_iconst X dR_compileTag_70 (v := (0 : Int32)) (by decide) ?_
        refine wk_iadd X dR_compileTag_71 ?_
        refine wk_iconst X dR_compileTag_72 (v := (1 : Int32)) (by decide) ?_
        obtain ⟨q46, h47, hf⟩ := p_ob hf
        obtain ⟨h47i, h47e⟩ := p_wr_some h47
        refine wk_zast X 7 1 rfl rfl h47i (by decide) h47e dR_compileTag_73 (ws' := cR V a (S.1, (S.2.1.1, S.2.1.2.1, S.2.1.2.2.1, S.2.1.2.2.2.1, q46, S.2.1.2.2.2.2.2.1, S.2.1.2.2.2.2.2.2.1, S.2.1.2.2.2.2.2.2.2), S.2.2.1, S.2.2.2)) rfl ?_
        refine wk_goto X dR_compileTag_74 (tgt := 183) rfl ?_
        refine wk_iinc X 5 dR_compileTag_183 (v := (v3 + (1 : Int32))) rfl rfl (Nat.le_of_ble_eq_true rfl) (lv' := [(3, .int (v3 + (1 : Int32))), (5, .int (fR_letterOf v2 v3 (0 : Int32))), (4, .int (fR_ruleOf v2 v3)), (0, .ref (a 0)), (1, .int v1), (2, .int v2)]) rfl ?_
        refine wk_goto X dR_compileTag_186 (tgt := 35) rfl ?_
        refine wk_lv [3, 4, 5, 0] (lv' := [(0, .ref (a 0)), (1, .int v1), (2, .int v2), (3, .int (v3 + (1 : Int32)))]) rfl ?_
        exact ih (S.1, (S.2.1.1, S.2.1.2.1, S.2.1.2.2.1, S.2.1.2.2.2.1, q46, S.2.1.2.2.2.2.2.1, S.2.1.2.2.2.2.2.2.1, S.2.1.2.2.2.2.2.2.2), S.2.2.1, S.2.2.2) v1 v2 (v3 + (1 : Int32)) hf
set_option maxRecDepth 100000 in
set_option maxHeartbeats 4000000 in
theorem wR_compileTag_L28 {V : ee_V} (a : Nat → Nat) (S0 : pR) {x : wk_C} (X : wk_K (ee V) x cR_compileTag 6 "TagWorkshopModel" ts_R_compileTag ⟨3, 0, 0, 69⟩) (R : Int32 × pR) (Z : wk_N x (some .int) (va_Qi (fun (r : Int32) (u : pR) => R.1 = r ∧ R.2 = u) (wk_B (ee V) (cR V a S0) (fun u : pR => cR V a u)) (wk_in (cR V a S0))) (cR V a S0)) : ∀ (n : Nat) (S : pR) (v1 : Int32) (v2 : Int32), fR_compileTag_L28 n S v1 v2 = some R → wk_G (ee V) x 6 (cR V a S) 28 [(0, .ref (a 0)), (1, .int v1), (2, .int v2)] [] := by
  intro n
  induction n with
  | zero => intro S v1 v2 hf; exact absurd hf (by rw [fR_compileTag_L28]; exact fun h => by cases h)
  | succ n ih =>
    intro S v1 v2 hf
    rw [fR_compileTag_L28] at hf
    refine wk_iload_n X 2 dR_compileTag_28 rfl rfl ?_
    refine wk_iload_n X 1 dR_compileTag_29 rfl rfl ?_
    refine wk_icmp_gt X dR_compileTag_30 (tgt := 195) rfl (fun h6 => ?_) (fun h6 => ?_)
    · replace hf := p_it h6 hf
      refine wk_aload_n X 0 dR_compileTag_195 rfl rfl ?_
      obtain ⟨q7, h8, hf⟩ := p_ob hf
      refine wk_goV [0, 1, 2, 3, 4, 5, 6, 7, 8, 9, 10, 11, 12] (wk_rV X (mR_putCode (V := V) a S q7 h8) rfl (gd (tw_706)) [0, 1, 2, 3, 4, 5, 6, 7, 8, 9, 10, 11, 12] rfl rfl 0 rfl rfl (tl tw_703) (tl tw_705) (tl tv_14) (tl tw_7) 0 pd_R_putCode rfl ⟨rfl, rfl⟩ ⟨Nat.le_of_ble_eq_true rfl, Nat.le_of_ble_eq_true rfl⟩ rfl (Nat.le_of_ble_eq_true rfl) dR_compileTag_196) rfl ?_
      rintro u rfl
      refine wk_ws (ws' := cR V a q7) rfl ?_
      refine wk_aload_n X 0 dR_compileTag_199 rfl rfl ?_
      refine wk_get X uw_R 0 rfl rfl 8 (Nat.le_of_ble_eq_true rfl) (tl tw_545) rfl rfl dR_compileTag_200 ?_
      have hf := Option.some.inj hf
      exact wk_iret X Z rfl dR_compileTag_203 (q7) ⟨Eq.symm (congrArg Prod.fst hf), Eq.symm (congrArg Prod.snd hf)⟩ rfl rfl
    · replace hf := p_ie h6 hf
      refine wk_iconst X dR_compileTag_33 (v := (0 : Int32)) (by decide) ?_
      refine wk_istore_n X dR_compileTag_34 rfl (Nat.le_of_ble_eq_true rfl) (lv' := [(3, .int (0 : Int32)), (0, .ref (a 0)), (1, .int v1), (2, .int v2)]) rfl ?_
      refine wk_lv [1, 2, 3, 0] (lv' := [(0, .ref (a 0)), (1, .int v1), (2, .int v2), (3, .int (0 : Int32))]) rfl ?_
      exact wR_compileTag_L35 a S0 X R Z _ (fun S w1 w2 h => ih S w1 w2 h) 100000 S v1 v2 (0 : Int32) hf
set_option maxRecDepth 100000 in
set_option maxHeartbeats 4000000 in
theorem mR_compileTag {V : ee_V} (a : Nat → Nat) (S : pR) (R : Int32 × pR) (hf : fR_compileTag S = some R) : wk_I (ee V) yR_compileTag ts_R_compileTag ⟨3, 0, 0, 69⟩ [.ref (a 0)] (cR V a S) (fun (r : Int32) (u : pR) => R.1 = r ∧ R.2 = u) (fun u : pR => cR V a u) := by
  refine wk_of (ee_ok V) (by decide +kernel) rfl (Nat.le_of_ble_eq_true rfl) ?_
  intro x X Z
  unfold fR_compileTag at hf
  refine wk_lq (lv' := [(0, .ref (a 0))]) rfl ?_
  refine wk_aload_n X 0 dR_compileTag_0 rfl rfl ?_
  obtain ⟨q1, h2, hf⟩ := p_ob hf
  refine wk_goI [0, 1, 2, 3, 4, 5, 6, 7, 8, 9, 10, 11, 12] (wk_rV X (mR_greatest (V := V) a S q1 h2) rfl (gd (tw_675)) [0, 1, 2, 3, 4, 5, 6, 7, 8, 9, 10, 11, 12] rfl rfl 0 rfl rfl (tl tw_672) (tl tw_674) (tl tv_7) (tl tw_7) 0 pd_R_greatest rfl ⟨rfl, rfl⟩ ⟨Nat.le_of_ble_eq_true rfl, Nat.le_of_ble_eq_true rfl⟩ rfl (Nat.le_of_ble_eq_true rfl) dR_compileTag_1) rfl ?_
  rintro r ⟨⟩ rfl
  refine wk_ws (ws' := cR V a S) rfl ?_
  refine wk_istore_n X dR_compileTag_4 rfl (Nat.le_of_ble_eq_true rfl) (lv' := [(1, .int q1), (0, .ref (a 0))]) rfl ?_
  refine wk_iload_n X 0 dR_compileTag_5 rfl rfl ?_
  refine wk_if_gt X dR_compileTag_6 (tgt := 11) rfl (fun h3 => ?_) (fun h3 => ?_)
  · replace hf := p_it h3 hf
    refine wk_aload_n X 1 dR_compileTag_11 rfl rfl ?_
    refine wk_iconst X dR_compileTag_12 (v := (1 : Int32)) (by decide) ?_
    refine wk_bipush X dR_compileTag_13 (v := (36 : Int32)) (by decide) ?_
    refine wk_iload_n X 0 dR_compileTag_15 rfl rfl ?_
    refine wk_imul X dR_compileTag_16 ?_
    refine wk_iadd X dR_compileTag_17 ?_
    obtain ⟨q4, h5, hf⟩ := p_ob hf
    refine wk_goV [0, 1, 2, 3, 4, 5, 6, 7, 8, 9, 10, 11, 12] (wk_rV X (mR_emptySystem (V := V) a S ((1 : Int32) + ((36 : Int32) * q1)) q4 h5) rfl (gd (tw_683)) [0, 1, 2, 3, 4, 5, 6, 7, 8, 9, 10, 11, 12] rfl rfl 0 rfl rfl (tl tw_680) (tl tw_682) (tl tv_9) (tl tw_7) 1 pd_R_emptySystem rfl ⟨rfl, rfl⟩ ⟨Nat.le_of_ble_eq_true rfl, Nat.le_of_ble_eq_true rfl⟩ rfl (Nat.le_of_ble_eq_true rfl) dR_compileTag_18) rfl ?_
    rintro u rfl
    refine wk_ws (ws' := cR V a q4) rfl ?_
    refine wk_aload_n X 1 dR_compileTag_21 rfl rfl ?_
    refine wk_iconst X dR_compileTag_22 (v := (1 : Int32)) (by decide) ?_
    refine wk_put X uw_R 0 rfl rfl 9 (Nat.le_of_ble_eq_true rfl) ft_R ft_R_ok fn_R (tl tw_546) rfl rfl rfl rfl (Nat.le_of_ble_eq_true rfl) dR_compileTag_23 (ws' := cR V a (q4.1, (q4.2.1.1, true, q4.2.1.2.2.1, q4.2.1.2.2.2.1, q4.2.1.2.2.2.2.1, q4.2.1.2.2.2.2.2.1, q4.2.1.2.2.2.2.2.2.1, q4.2.1.2.2.2.2.2.2.2), q4.2.2.1, q4.2.2.2)) rfl ?_
    refine wk_iconst X dR_compileTag_26 (v := (1 : Int32)) (by decide) ?_
    refine wk_istore_n X dR_compileTag_27 rfl (Nat.le_of_ble_eq_true rfl) (lv' := [(2, .int (1 : Int32)), (1, .int q1), (0, .ref (a 0))]) rfl ?_
    refine wk_lv [2, 1, 0] (lv' := [(0, .ref (a 0)), (1, .int q1), (2, .int (1 : Int32))]) rfl ?_
    exact wR_compileTag_L28 a S X R Z 100000 (q4.1, (q4.2.1.1, true, q4.2.1.2.2.1, q4.2.1.2.2.2.1, q4.2.1.2.2.2.2.1, q4.2.1.2.2.2.2.2.1, q4.2.1.2.2.2.2.2.2.1, q4.2.1.2.2.2.2.2.2.2), q4.2.2.1, q4.2.2.2) q1 (1 : Int32) hf
  · replace hf := p_ie h3 hf
    refine wk_iconst X dR_compileTag_9 (v := (0 : Int32)) (by decide) ?_
    have hf := Option.some.inj hf
    exact wk_iret X Z rfl dR_compileTag_10 (S) ⟨Eq.symm (congrArg Prod.fst hf), Eq.symm (congrArg Prod.snd hf)⟩ rfl rfl
-- R_ownTag: room (1, 22), Option (Bool × pR)
def fR_ownTag (S : pR) (v1 : Int32) : Option (Bool × pR) :=
  if v1 < (1 : Int32) then (
    some (false, S)
  ) else (
    if v1 ≤ (300 : Int32) then (
      (fR_emptySystem S v1).bind fun q3 =>
      some (true, (q3.1, (q3.2.1.1, false, q3.2.1.2.2.1, q3.2.1.2.2.2.1, q3.2.1.2.2.2.2.1, q3.2.1.2.2.2.2.2.1, q3.2.1.2.2.2.2.2.2.1, q3.2.1.2.2.2.2.2.2.2), q3.2.2.1, q3.2.2.2))
    ) else (
      some (false, S)
    )
  )
set_option maxRecDepth 100000 in
set_option maxHeartbeats 4000000 in
theorem mR_ownTag {V : ee_V} (a : Nat → Nat) (S : pR) (v1 : Int32) (R : Bool × pR) (hf : fR_ownTag S v1 = some R) : wk_I (ee V) yR_ownTag ts_R_ownTag ⟨1, 0, 0, 22⟩ [.ref (a 0), .int v1] (cR V a S) (fun (r : Int32) (u : pR) => p_b (R.1) = r ∧ R.2 = u) (fun u : pR => cR V a u) := by
  refine wk_of (ee_ok V) (by decide +kernel) rfl (Nat.le_of_ble_eq_true rfl) ?_
  intro x X Z
  unfold fR_ownTag at hf
  refine wk_lq (lv' := [(0, .ref (a 0)), (1, .int v1)]) rfl ?_
  refine wk_iload_n X 1 dR_ownTag_0 rfl rfl ?_
  refine wk_iconst X dR_ownTag_1 (v := (1 : Int32)) (by decide) ?_
  refine wk_icmp_lt X dR_ownTag_2 (tgt := 12) rfl (fun h1 => ?_) (fun h1 => ?_)
  · replace hf := p_it h1 hf
    refine wk_iconst X dR_ownTag_12 (v := (0 : Int32)) (by decide) ?_
    have hf := Option.some.inj hf
    exact wk_iret X Z rfl dR_ownTag_13 (S) ⟨Eq.symm (congrArg p_b (congrArg Prod.fst hf)), Eq.symm (congrArg Prod.snd hf)⟩ rfl rfl
  · replace hf := p_ie h1 hf
    refine wk_iload_n X 1 dR_ownTag_5 rfl rfl ?_
    refine wk_sipush X dR_ownTag_6 (v := (300 : Int32)) (by decide) ?_
    refine wk_icmp_le X dR_ownTag_9 (tgt := 14) rfl (fun h2 => ?_) (fun h2 => ?_)
    · replace hf := p_it h2 hf
      refine wk_aload_n X 0 dR_ownTag_14 rfl rfl ?_
      refine wk_iload_n X 1 dR_ownTag_15 rfl rfl ?_
      obtain ⟨q3, h4, hf⟩ := p_ob hf
      refine wk_goV [0, 1, 2, 3, 4, 5, 6, 7, 8, 9, 10, 11, 12] (wk_rV X (mR_emptySystem (V := V) a S v1 q3 h4) rfl (gd (tw_683)) [0, 1, 2, 3, 4, 5, 6, 7, 8, 9, 10, 11, 12] rfl rfl 0 rfl rfl (tl tw_680) (tl tw_682) (tl tv_9) (tl tw_7) 1 pd_R_emptySystem rfl ⟨rfl, rfl⟩ ⟨Nat.le_of_ble_eq_true rfl, Nat.le_of_ble_eq_true rfl⟩ rfl (Nat.le_of_ble_eq_true rfl) dR_ownTag_16) rfl ?_
      rintro u rfl
      refine wk_ws (ws' := cR V a q3) rfl ?_
      refine wk_aload_n X 0 dR_ownTag_19 rfl rfl ?_
      refine wk_iconst X dR_ownTag_20 (v := (0 : Int32)) (by decide) ?_
      refine wk_put X uw_R 0 rfl rfl 9 (Nat.le_of_ble_eq_true rfl) ft_R ft_R_ok fn_R (tl tw_546) rfl rfl rfl rfl (Nat.le_of_ble_eq_true rfl) dR_ownTag_21 (ws' := cR V a (q3.1, (q3.2.1.1, false, q3.2.1.2.2.1, q3.2.1.2.2.2.1, q3.2.1.2.2.2.2.1, q3.2.1.2.2.2.2.2.1, q3.2.1.2.2.2.2.2.2.1, q3.2.1.2.2.2.2.2.2.2), q3.2.2.1, q3.2.2.2)) rfl ?_
      refine wk_iconst X dR_ownTag_24 (v := (1 : Int32)) (by decide) ?_
      have hf := Option.some.inj hf
      exact wk_iret X Z rfl dR_ownTag_25 ((q3.1, (q3.2.1.1, false, q3.2.1.2.2.1, q3.2.1.2.2.2.1, q3.2.1.2.2.2.2.1, q3.2.1.2.2.2.2.2.1, q3.2.1.2.2.2.2.2.2.1, q3.2.1.2.2.2.2.2.2.2), q3.2.2.1, q3.2.2.2)) ⟨Eq.symm (congrArg p_b (congrArg Prod.fst hf)), Eq.symm (congrArg Prod.snd hf)⟩ rfl rfl
    · replace hf := p_ie h2 hf
      refine wk_iconst X dR_ownTag_12 (v := (0 : Int32)) (by decide) ?_
      have hf := Option.some.inj hf
      exact wk_iret X Z rfl dR_ownTag_13 (S) ⟨Eq.symm (congrArg p_b (congrArg Prod.fst hf)), Eq.symm (congrArg Prod.snd hf)⟩ rfl rfl
-- R_isLetter: room (0, 0), Bool
def fR_isLetter (S : pR) (v1 : Int32) : Bool :=
  if v1 < 0 then (
    false
  ) else (
    if S.2.1.1 ≤ v1 then (
      false
    ) else (
      true
    )
  )
set_option maxRecDepth 100000 in
set_option maxHeartbeats 4000000 in
theorem mR_isLetter {V : ee_V} (a : Nat → Nat) (S : pR) (v1 : Int32) (R : Bool) (hf : fR_isLetter S v1 = R) : wk_I (ee V) yR_isLetter ts_R_isLetter ⟨0, 0, 0, 0⟩ [.ref (a 0), .int v1] (cR V a S) (fun (r : Int32) (_ : Unit) => p_b (R) = r) (fun _ : Unit => cR V a S) := by
  refine wk_of (ee_ok V) (by decide +kernel) rfl (Nat.le_of_ble_eq_true rfl) ?_
  intro x X Z
  unfold fR_isLetter at hf
  refine wk_lq (lv' := [(0, .ref (a 0)), (1, .int v1)]) rfl ?_
  refine wk_iload_n X 1 dR_isLetter_0 rfl rfl ?_
  refine wk_if_lt X dR_isLetter_1 (tgt := 16) rfl (fun h1 => ?_) (fun h1 => ?_)
  · replace hf := p_it h1 hf
    refine wk_iconst X dR_isLetter_16 (v := (0 : Int32)) (by decide) ?_
    exact wk_iret X Z rfl dR_isLetter_17 () (Eq.symm (congrArg p_b hf)) rfl rfl
  · replace hf := p_ie h1 hf
    refine wk_iload_n X 1 dR_isLetter_4 rfl rfl ?_
    refine wk_aload_n X 0 dR_isLetter_5 rfl rfl ?_
    refine wk_get X uw_R 0 rfl rfl 8 (Nat.le_of_ble_eq_true rfl) (tl tw_545) rfl rfl dR_isLetter_6 ?_
    refine wk_icmp_ge X dR_isLetter_9 (tgt := 16) rfl (fun h2 => ?_) (fun h2 => ?_)
    · replace hf := p_it h2 hf
      refine wk_iconst X dR_isLetter_16 (v := (0 : Int32)) (by decide) ?_
      exact wk_iret X Z rfl dR_isLetter_17 () (Eq.symm (congrArg p_b hf)) rfl rfl
    · replace hf := p_ie h2 hf
      refine wk_iconst X dR_isLetter_12 (v := (1 : Int32)) (by decide) ?_
      refine wk_goto X dR_isLetter_13 (tgt := 17) rfl ?_
      exact wk_iret X Z rfl dR_isLetter_17 () (Eq.symm (congrArg p_b hf)) rfl rfl

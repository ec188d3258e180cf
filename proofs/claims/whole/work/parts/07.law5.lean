set_option maxRecDepth 100000 in
set_option maxHeartbeats 4000000 in
theorem wL_law_L753 {V : ee_V} (a b : Nat → Nat) (ln : Nat) (xs : Nat → Int32) (bs : Nat) {x : wk_C} (X : wk_K (ee V) x code 4 "TagWorkshopLaw" ts_L_law room_1) (hX : va_X bs ln xs (wx_s x) (wx_H x)) (hbl : bs < (wx_H x).size) (hbA : ¬ wx_A x bs) (hend : ∀ ws lv, wk_G (ee V) x 4 ws 849 lv [.int 1]) (K : pX → pR → Int32 → Option (Bool)) (hK : ∀ (S : pX) (S2 : pR) (v3 : Int32), K S S2 v3 = some true → wk_G (ee V) x 4 (cX V a S ++ cR V b S2) 18 [(0, .ref bs), (1, .ref (a 0)), (2, .ref (b 0)), (3, .int v3)] []) : ∀ (S : pX) (S2 : pR) (v3 : Int32), fL_law_L753 ln xs K S S2 v3 = some true → wk_G (ee V) x 4 (cX V a S ++ cR V b S2) 753 [(0, .ref bs), (1, .ref (a 0)), (2, .ref (b 0)), (3, .int v3)] [] := by
  intro S S2 v3 hf
  unfold fL_law_L753 at hf
  refine wk_aload_n X 1 dL_law_753 rfl rfl ?_
  obtain ⟨q265, h266, hf⟩ := p_ob hf
  refine wk_goIl (wk_rVl X (mX_nextBorder (V := V) a S q265 h266) rfl (gd (tw_505)) rfl rfl (tl tw_502) (tl tw_503) (tl tw_504) (tl tw_1) 0 pd_X_nextBorder rfl ⟨rfl, rfl⟩ ⟨Nat.le_of_ble_eq_true rfl, Nat.le_of_ble_eq_true rfl⟩ rfl (Nat.le_of_ble_eq_true rfl) dL_law_754) (fun _ => rfl) ?_
  rintro r u ⟨rfl, rfl⟩
  refine wk_aload_n X 2 dL_law_757 rfl rfl ?_
  obtain ⟨q267, h268, hf⟩ := p_ob hf
  refine wk_goIr (wk_rVr X (mR_nextBorder (V := V) b S2 q267 h268) rfl (gd (tw_815)) rfl rfl (tl tw_812) (tl tw_813) (tl tw_814) (tl tw_7) 0 pd_R_nextBorder rfl ⟨rfl, rfl⟩ ⟨Nat.le_of_ble_eq_true rfl, Nat.le_of_ble_eq_true rfl⟩ rfl (Nat.le_of_ble_eq_true rfl) dL_law_758) (fun _ => rfl) ?_
  rintro r u ⟨rfl, rfl⟩
  refine wk_icmp_eq X dL_law_761 (tgt := 842) rfl (fun h269 => ?_) (fun h269 => ?_)
  · replace hf := p_it h269 hf
    refine wk_iinc X 3 dL_law_842 (v := (v3 + (6 : Int32))) rfl rfl (Nat.le_of_ble_eq_true rfl) (lv' := [(3, .int (v3 + (6 : Int32))), (0, .ref bs), (1, .ref (a 0)), (2, .ref (b 0))]) rfl ?_
    refine wk_goto X dL_law_845 (tgt := 18) rfl ?_
    refine wk_lv [1, 2, 3, 0] (lv' := [(0, .ref bs), (1, .ref (a 0)), (2, .ref (b 0)), (3, .int (v3 + (6 : Int32)))]) rfl ?_
    exact hK q265.2 q267.2 (v3 + (6 : Int32)) hf
  · replace hf := p_ie h269 hf
    refine wk_iconst X dL_law_764 (v := (0 : Int32)) (by decide) ?_
    exact absurd (Option.some.inj hf) (by decide)
set_option maxRecDepth 100000 in
set_option maxHeartbeats 4000000 in
theorem wL_law_L766 {V : ee_V} (a b : Nat → Nat) (ln : Nat) (xs : Nat → Int32) (bs : Nat) {x : wk_C} (X : wk_K (ee V) x code 4 "TagWorkshopLaw" ts_L_law room_1) (hX : va_X bs ln xs (wx_s x) (wx_H x)) (hbl : bs < (wx_H x).size) (hbA : ¬ wx_A x bs) (hend : ∀ ws lv, wk_G (ee V) x 4 ws 849 lv [.int 1]) (K : pX → pR → Int32 → Option (Bool)) (hK : ∀ (S : pX) (S2 : pR) (v3 : Int32), K S S2 v3 = some true → wk_G (ee V) x 4 (cX V a S ++ cR V b S2) 18 [(0, .ref bs), (1, .ref (a 0)), (2, .ref (b 0)), (3, .int v3)] []) : ∀ (S : pX) (S2 : pR) (v3 : Int32), fL_law_L766 ln xs K S S2 v3 = some true → wk_G (ee V) x 4 (cX V a S ++ cR V b S2) 766 [(0, .ref bs), (1, .ref (a 0)), (2, .ref (b 0)), (3, .int v3)] [] := by
  intro S S2 v3 hf
  unfold fL_law_L766 at hf
  refine wk_aload_n X 1 dL_law_766 rfl rfl ?_
  refine wk_aload_n X 0 dL_law_767 rfl rfl ?_
  refine wk_iload_n X 3 dL_law_768 rfl rfl ?_
  refine wk_iconst X dL_law_769 (v := (1 : Int32)) (by decide) ?_
  refine wk_iadd X dL_law_770 ?_
  obtain ⟨q271, h272, hf⟩ := p_ob hf
  obtain ⟨h272i, h272e⟩ := p_rd_some h272
  refine wk_sld X hX hbl hbA h272i h272e dL_law_771 ?_
  refine wk_aload_n X 0 dL_law_772 rfl rfl ?_
  refine wk_iload_n X 3 dL_law_773 rfl rfl ?_
  refine wk_iconst X dL_law_774 (v := (2 : Int32)) (by decide) ?_
  refine wk_iadd X dL_law_775 ?_
  obtain ⟨q273, h274, hf⟩ := p_ob hf
  obtain ⟨h274i, h274e⟩ := p_rd_some h274
  refine wk_sld X hX hbl hbA h274i h274e dL_law_776 ?_
  refine wk_aload_n X 0 dL_law_777 rfl rfl ?_
  refine wk_iload_n X 3 dL_law_778 rfl rfl ?_
  refine wk_iconst X dL_law_779 (v := (3 : Int32)) (by decide) ?_
  refine wk_iadd X dL_law_780 ?_
  obtain ⟨q275, h276, hf⟩ := p_ob hf
  obtain ⟨h276i, h276e⟩ := p_rd_some h276
  refine wk_sld X hX hbl hbA h276i h276e dL_law_781 ?_
  refine wk_aload_n X 0 dL_law_782 rfl rfl ?_
  refine wk_iload_n X 3 dL_law_783 rfl rfl ?_
  refine wk_iconst X dL_law_784 (v := (4 : Int32)) (by decide) ?_
  refine wk_iadd X dL_law_785 ?_
  obtain ⟨q277, h278, hf⟩ := p_ob hf
  obtain ⟨h278i, h278e⟩ := p_rd_some h278
  refine wk_sld X hX hbl hbA h278i h278e dL_law_786 ?_
  obtain ⟨q279, h280, hf⟩ := p_ob hf
  refine wk_goIl (wk_rVl X (mX_roundCost (V := V) a S q271 q273 q275 q277 q279 h280) rfl (gd (tw_510)) rfl rfl (tl tw_507) (tl tw_508) (tl tw_509) (tl tw_1) 4 pd_X_roundCost rfl ⟨rfl, rfl⟩ ⟨Nat.le_of_ble_eq_true rfl, Nat.le_of_ble_eq_true rfl⟩ rfl (Nat.le_of_ble_eq_true rfl) dL_law_787) (fun _ => rfl) ?_
  rintro r ⟨⟩ rfl
  refine wk_aload_n X 2 dL_law_790 rfl rfl ?_
  refine wk_aload_n X 0 dL_law_791 rfl rfl ?_
  refine wk_iload_n X 3 dL_law_792 rfl rfl ?_
  refine wk_iconst X dL_law_793 (v := (1 : Int32)) (by decide) ?_
  refine wk_iadd X dL_law_794 ?_
  refine wk_sld X hX hbl hbA h272i h272e dL_law_795 ?_
  refine wk_aload_n X 0 dL_law_796 rfl rfl ?_
  refine wk_iload_n X 3 dL_law_797 rfl rfl ?_
  refine wk_iconst X dL_law_798 (v := (2 : Int32)) (by decide) ?_
  refine wk_iadd X dL_law_799 ?_
  refine wk_sld X hX hbl hbA h274i h274e dL_law_800 ?_
  refine wk_aload_n X 0 dL_law_801 rfl rfl ?_
  refine wk_iload_n X 3 dL_law_802 rfl rfl ?_
  refine wk_iconst X dL_law_803 (v := (3 : Int32)) (by decide) ?_
  refine wk_iadd X dL_law_804 ?_
  refine wk_sld X hX hbl hbA h276i h276e dL_law_805 ?_
  refine wk_aload_n X 0 dL_law_806 rfl rfl ?_
  refine wk_iload_n X 3 dL_law_807 rfl rfl ?_
  refine wk_iconst X dL_law_808 (v := (4 : Int32)) (by decide) ?_
  refine wk_iadd X dL_law_809 ?_
  refine wk_sld X hX hbl hbA h278i h278e dL_law_810 ?_
  obtain ⟨q289, h290, hf⟩ := p_ob hf
  refine wk_goIr (wk_rVr X (mR_roundCost (V := V) b S2 q271 q273 q275 q277 q289 h290) rfl (gd (tw_819)) rfl rfl (tl tw_816) (tl tw_817) (tl tw_818) (tl tw_7) 4 pd_R_roundCost rfl ⟨rfl, rfl⟩ ⟨Nat.le_of_ble_eq_true rfl, Nat.le_of_ble_eq_true rfl⟩ rfl (Nat.le_of_ble_eq_true rfl) dL_law_811) (fun _ => rfl) ?_
  rintro r ⟨⟩ rfl
  refine wk_icmp_eq X dL_law_814 (tgt := 842) rfl (fun h291 => ?_) (fun h291 => ?_)
  · replace hf := p_it h291 hf
    refine wk_iinc X 3 dL_law_842 (v := (v3 + (6 : Int32))) rfl rfl (Nat.le_of_ble_eq_true rfl) (lv' := [(3, .int (v3 + (6 : Int32))), (0, .ref bs), (1, .ref (a 0)), (2, .ref (b 0))]) rfl ?_
    refine wk_goto X dL_law_845 (tgt := 18) rfl ?_
    refine wk_lv [1, 2, 3, 0] (lv' := [(0, .ref bs), (1, .ref (a 0)), (2, .ref (b 0)), (3, .int (v3 + (6 : Int32)))]) rfl ?_
    exact hK S S2 (v3 + (6 : Int32)) hf
  · replace hf := p_ie h291 hf
    refine wk_iconst X dL_law_817 (v := (0 : Int32)) (by decide) ?_
    exact absurd (Option.some.inj hf) (by decide)
set_option maxRecDepth 100000 in
set_option maxHeartbeats 4000000 in
theorem wL_law_L819 {V : ee_V} (a b : Nat → Nat) (ln : Nat) (xs : Nat → Int32) (bs : Nat) {x : wk_C} (X : wk_K (ee V) x code 4 "TagWorkshopLaw" ts_L_law room_1) (hX : va_X bs ln xs (wx_s x) (wx_H x)) (hbl : bs < (wx_H x).size) (hbA : ¬ wx_A x bs) (hend : ∀ ws lv, wk_G (ee V) x 4 ws 849 lv [.int 1]) (K : pX → pR → Int32 → Option (Bool)) (hK : ∀ (S : pX) (S2 : pR) (v3 : Int32), K S S2 v3 = some true → wk_G (ee V) x 4 (cX V a S ++ cR V b S2) 18 [(0, .ref bs), (1, .ref (a 0)), (2, .ref (b 0)), (3, .int v3)] []) : ∀ (S : pX) (S2 : pR) (v3 : Int32), fL_law_L819 ln xs K S S2 v3 = some true → wk_G (ee V) x 4 (cX V a S ++ cR V b S2) 819 [(0, .ref bs), (1, .ref (a 0)), (2, .ref (b 0)), (3, .int v3)] [] := by
  intro S S2 v3 hf
  unfold fL_law_L819 at hf
  refine wk_aload_n X 1 dL_law_819 rfl rfl ?_
  refine wk_aload_n X 0 dL_law_820 rfl rfl ?_
  refine wk_iload_n X 3 dL_law_821 rfl rfl ?_
  refine wk_iconst X dL_law_822 (v := (1 : Int32)) (by decide) ?_
  refine wk_iadd X dL_law_823 ?_
  obtain ⟨q293, h294, hf⟩ := p_ob hf
  obtain ⟨h294i, h294e⟩ := p_rd_some h294
  refine wk_sld X hX hbl hbA h294i h294e dL_law_824 ?_
  obtain ⟨q295, h296, hf⟩ := p_ob hf
  refine wk_goIl (wk_rVl X (mX_lockStep (V := V) a S q293 q295 h296) rfl (gd (tw_519)) rfl rfl (tl tw_516) (tl tw_517) (tl tw_518) (tl tw_1) 1 pd_X_lockStep rfl ⟨rfl, rfl⟩ ⟨Nat.le_of_ble_eq_true rfl, Nat.le_of_ble_eq_true rfl⟩ rfl (Nat.le_of_ble_eq_true rfl) dL_law_825) (fun _ => rfl) ?_
  rintro r u ⟨rfl, rfl⟩
  refine wk_aload_n X 2 dL_law_828 rfl rfl ?_
  refine wk_aload_n X 0 dL_law_829 rfl rfl ?_
  refine wk_iload_n X 3 dL_law_830 rfl rfl ?_
  refine wk_iconst X dL_law_831 (v := (1 : Int32)) (by decide) ?_
  refine wk_iadd X dL_law_832 ?_
  refine wk_sld X hX hbl hbA h294i h294e dL_law_833 ?_
  obtain ⟨q299, h300, hf⟩ := p_ob hf
  refine wk_goIr (wk_rVr X (mR_lockStep (V := V) b S2 q293 q299 h300) rfl (gd (tw_823)) rfl rfl (tl tw_820) (tl tw_821) (tl tw_822) (tl tw_7) 1 pd_R_lockStep rfl ⟨rfl, rfl⟩ ⟨Nat.le_of_ble_eq_true rfl, Nat.le_of_ble_eq_true rfl⟩ rfl (Nat.le_of_ble_eq_true rfl) dL_law_834) (fun _ => rfl) ?_
  rintro r u ⟨rfl, rfl⟩
  refine wk_icmp_eq X dL_law_837 (tgt := 842) rfl (fun h301 => ?_) (fun h301 => ?_)
  · replace hf := p_it h301 hf
    refine wk_iinc X 3 dL_law_842 (v := (v3 + (6 : Int32))) rfl rfl (Nat.le_of_ble_eq_true rfl) (lv' := [(3, .int (v3 + (6 : Int32))), (0, .ref bs), (1, .ref (a 0)), (2, .ref (b 0))]) rfl ?_
    refine wk_goto X dL_law_845 (tgt := 18) rfl ?_
    refine wk_lv [1, 2, 3, 0] (lv' := [(0, .ref bs), (1, .ref (a 0)), (2, .ref (b 0)), (3, .int (v3 + (6 : Int32)))]) rfl ?_
    exact hK q295.2 q299.2 (v3 + (6 : Int32)) hf
  · replace hf := p_ie h301 hf
    refine wk_iconst X dL_law_840 (v := (0 : Int32)) (by decide) ?_
    exact absurd (Option.some.inj hf) (by decide)
set_option maxRecDepth 100000 in
set_option maxHeartbeats 4000000 in
theorem wL_law_L18 {V : ee_V} (a b : Nat → Nat) (ln : Nat) (xs : Nat → Int32) (bs : Nat) {x : wk_C} (X : wk_K (ee V) x code 4 "TagWorkshopLaw" ts_L_law room_1) (hX : va_X bs ln xs (wx_s x) (wx_H x)) (hbl : bs < (wx_H x).size) (hbA : ¬ wx_A x bs) (hend : ∀ ws lv, wk_G (ee V) x 4 ws 849 lv [.int 1]) : ∀ (n : Nat) (S : pX) (S2 : pR) (v3 : Int32), fL_law_L18 ln xs n S S2 v3 = some true → wk_G (ee V) x 4 (cX V a S ++ cR V b S2) 18 [(0, .ref bs), (1, .ref (a 0)), (2, .ref (b 0)), (3, .int v3)] [] := by
  intro n
  induction n with
  | zero => intro S S2 v3 hf; exact absurd hf (by rw [fL_law_L18]; exact fun h => by cases h)
  | succ n ih =>
    intro S S2 v3 hf
    rw [fL_law_L18] at hf
    refine wk_iload_n X 3 dL_law_18 rfl rfl ?_
    refine wk_aload_n X 0 dL_law_19 rfl rfl ?_
    refine wk_slen X hX hbl hbA dL_law_20 ?_
    refine wk_bipush X dL_law_21 (v := (6 : Int32)) (by decide) ?_
    refine wk_isub X dL_law_23 ?_
    refine wk_icmp_gt X dL_law_24 (tgt := 848) rfl (fun h1 => ?_) (fun h1 => ?_)
    · replace hf := p_it h1 hf
      refine wk_iconst X dL_law_848 (v := (1 : Int32)) (by decide) ?_
      exact hend _ _
    · replace hf := p_ie h1 hf
      refine wk_aload_n X 0 dL_law_27 rfl rfl ?_
      refine wk_iload_n X 3 dL_law_28 rfl rfl ?_
      obtain ⟨q2, h3, hf⟩ := p_ob hf
      obtain ⟨h3i, h3e⟩ := p_rd_some h3
      refine wk_sld X hX hbl hbA h3i h3e dL_law_29 ?_
      refine wk_bipush X dL_law_30 (v := (31 : Int32)) (by decide) ?_
      refine wk_iand X dL_law_32 ?_
      by_cases h4 : (q2 &&& (31 : Int32)) = (0 : Int32)
      · replace hf := p_it h4 hf
        refine wk_swIn X dL_law_33 (off := 111) (tgt := 144) (by rw [h4]; decide) (by rw [h4]; decide) (by rw [h4]; rfl) rfl ?_
        refine wk_lv [0, 1, 2, 3] (lv' := [(0, .ref bs), (1, .ref (a 0)), (2, .ref (b 0)), (3, .int v3)]) rfl ?_
        exact wL_law_L144 a b ln xs bs X hX hbl hbA hend _ (fun S S2 w3 h => ih S S2 w3 h) S S2 v3 hf
      · replace hf := p_ie h4 hf
        by_cases h30 : (q2 &&& (31 : Int32)) = (1 : Int32)
        · replace hf := p_it h30 hf
          refine wk_swIn X dL_law_33 (off := 174) (tgt := 207) (by rw [h30]; decide) (by rw [h30]; decide) (by rw [h30]; rfl) rfl ?_
          refine wk_lv [0, 1, 2, 3] (lv' := [(0, .ref bs), (1, .ref (a 0)), (2, .ref (b 0)), (3, .int v3)]) rfl ?_
          exact wL_law_L207 a b ln xs bs X hX hbl hbA hend _ (fun S S2 w3 h => ih S S2 w3 h) S S2 v3 hf
        · replace hf := p_ie h30 hf
          by_cases h48 : (q2 &&& (31 : Int32)) = (2 : Int32)
          · replace hf := p_it h48 hf
            refine wk_swIn X dL_law_33 (off := 227) (tgt := 260) (by rw [h48]; decide) (by rw [h48]; decide) (by rw [h48]; rfl) rfl ?_
            refine wk_lv [0, 1, 2, 3] (lv' := [(0, .ref bs), (1, .ref (a 0)), (2, .ref (b 0)), (3, .int v3)]) rfl ?_
            exact wL_law_L260 a b ln xs bs X hX hbl hbA hend _ (fun S S2 w3 h => ih S S2 w3 h) S S2 v3 hf
          · replace hf := p_ie h48 hf
            by_cases h54 : (q2 &&& (31 : Int32)) = (3 : Int32)
            · replace hf := p_it h54 hf
              refine wk_swIn X dL_law_33 (off := 240) (tgt := 273) (by rw [h54]; decide) (by rw [h54]; decide) (by rw [h54]; rfl) rfl ?_
              refine wk_lv [0, 1, 2, 3] (lv' := [(0, .ref bs), (1, .ref (a 0)), (2, .ref (b 0)), (3, .int v3)]) rfl ?_
              exact wL_law_L273 a b ln xs bs X hX hbl hbA hend _ (fun S S2 w3 h => ih S S2 w3 h) S S2 v3 hf
            · replace hf := p_ie h54 hf
              by_cases h64 : (q2 &&& (31 : Int32)) = (4 : Int32)
              · replace hf := p_it h64 hf
                refine wk_swIn X dL_law_33 (off := 263) (tgt := 296) (by rw [h64]; decide) (by rw [h64]; decide) (by rw [h64]; rfl) rfl ?_
                refine wk_lv [0, 1, 2, 3] (lv' := [(0, .ref bs), (1, .ref (a 0)), (2, .ref (b 0)), (3, .int v3)]) rfl ?_
                exact wL_law_L296 a b ln xs bs X hX hbl hbA hend _ (fun S S2 w3 h => ih S S2 w3 h) S S2 v3 hf
              · replace hf := p_ie h64 hf
                by_cases h78 : (q2 &&& (31 : Int32)) = (5 : Int32)
                · replace hf := p_it h78 hf
                  refine wk_swIn X dL_law_33 (off := 296) (tgt := 329) (by rw [h78]; decide) (by rw [h78]; decide) (by rw [h78]; rfl) rfl ?_
                  refine wk_lv [0, 1, 2, 3] (lv' := [(0, .ref bs), (1, .ref (a 0)), (2, .ref (b 0)), (3, .int v3)]) rfl ?_
                  exact wL_law_L329 a b ln xs bs X hX hbl hbA hend _ (fun S S2 w3 h => ih S S2 w3 h) S S2 v3 hf
                · replace hf := p_ie h78 hf
                  by_cases h96 : (q2 &&& (31 : Int32)) = (6 : Int32)
                  · replace hf := p_it h96 hf
                    refine wk_swIn X dL_law_33 (off := 339) (tgt := 372) (by rw [h96]; decide) (by rw [h96]; decide) (by rw [h96]; rfl) rfl ?_
                    refine wk_lv [0, 1, 2, 3] (lv' := [(0, .ref bs), (1, .ref (a 0)), (2, .ref (b 0)), (3, .int v3)]) rfl ?_
                    exact wL_law_L372 a b ln xs bs X hX hbl hbA hend _ (fun S S2 w3 h => ih S S2 w3 h) S S2 v3 hf
                  · replace hf := p_ie h96 hf
                    by_cases h120 : (q2 &&& (31 : Int32)) = (7 : Int32)
                    · replace hf := p_it h120 hf
                      refine wk_swIn X dL_law_33 (off := 388) (tgt := 421) (by rw [h120]; decide) (by rw [h120]; decide) (by rw [h120]; rfl) rfl ?_
                      refine wk_lv [0, 1, 2, 3] (lv' := [(0, .ref bs), (1, .ref (a 0)), (2, .ref (b 0)), (3, .int v3)]) rfl ?_
                      exact wL_law_L421 a b ln xs bs X hX hbl hbA hend _ (fun S S2 w3 h => ih S S2 w3 h) S S2 v3 hf
                    · replace hf := p_ie h120 hf
                      by_cases h130 : (q2 &&& (31 : Int32)) = (8 : Int32)
                      · replace hf := p_it h130 hf
                        refine wk_swIn X dL_law_33 (off := 411) (tgt := 444) (by rw [h130]; decide) (by rw [h130]; decide) (by rw [h130]; rfl) rfl ?_
                        refine wk_lv [0, 1, 2, 3] (lv' := [(0, .ref bs), (1, .ref (a 0)), (2, .ref (b 0)), (3, .int v3)]) rfl ?_
                        exact wL_law_L444 a b ln xs bs X hX hbl hbA hend _ (fun S S2 w3 h => ih S S2 w3 h) S S2 v3 hf
                      · replace hf := p_ie h130 hf
                        by_cases h144 : (q2 &&& (31 : Int32)) = (9 : Int32)
                        · replace hf := p_it h144 hf
                          refine wk_swIn X dL_law_33 (off := 444) (tgt := 477) (by rw [h144]; decide) (by rw [h144]; decide) (by rw [h144]; rfl) rfl ?_
                          refine wk_lv [0, 1, 2, 3] (lv' := [(0, .ref bs), (1, .ref (a 0)), (2, .ref (b 0)), (3, .int v3)]) rfl ?_
                          exact wL_law_L477 a b ln xs bs X hX hbl hbA hend _ (fun S S2 w3 h => ih S S2 w3 h) S S2 v3 hf
                        · replace hf := p_ie h144 hf
                          by_cases h150 : (q2 &&& (31 : Int32)) = (10 : Int32)
                          · replace hf := p_it h150 hf
                            refine wk_swIn X dL_law_33 (off := 457) (tgt := 490) (by rw [h150]; decide) (by rw [h150]; decide) (by rw [h150]; rfl) rfl ?_
                            refine wk_lv [0, 1, 2, 3] (lv' := [(0, .ref bs), (1, .ref (a 0)), (2, .ref (b 0)), (3, .int v3)]) rfl ?_
                            exact wL_law_L490 a b ln xs bs X hX hbl hbA hend _ (fun S S2 w3 h => ih S S2 w3 h) S S2 v3 hf
                          · replace hf := p_ie h150 hf
                            by_cases h164 : (q2 &&& (31 : Int32)) = (11 : Int32)
                            · replace hf := p_it h164 hf
                              refine wk_swIn X dL_law_33 (off := 490) (tgt := 523) (by rw [h164]; decide) (by rw [h164]; decide) (by rw [h164]; rfl) rfl ?_
                              refine wk_lv [0, 1, 2, 3] (lv' := [(0, .ref bs), (1, .ref (a 0)), (2, .ref (b 0)), (3, .int v3)]) rfl ?_
                              exact wL_law_L523 a b ln xs bs X hX hbl hbA hend _ (fun S S2 w3 h => ih S S2 w3 h) S S2 v3 hf
                            · replace hf := p_ie h164 hf
                              by_cases h174 : (q2 &&& (31 : Int32)) = (12 : Int32)
                              · replace hf := p_it h174 hf
                                refine wk_swIn X dL_law_33 (off := 513) (tgt := 546) (by rw [h174]; decide) (by rw [h174]; decide) (by rw [h174]; rfl) rfl ?_
                                refine wk_lv [0, 1, 2, 3] (lv' := [(0, .ref bs), (1, .ref (a 0)), (2, .ref (b 0)), (3, .int v3)]) rfl ?_
                                exact wL_law_L546 a b ln xs bs X hX hbl hbA hend _ (fun S S2 w3 h => ih S S2 w3 h) S S2 v3 hf
                              · replace hf := p_ie h174 hf
                                by_cases h184 : (q2 &&& (31 : Int32)) = (13 : Int32)
                                · replace hf := p_it h184 hf
                                  refine wk_swIn X dL_law_33 (off := 536) (tgt := 569) (by rw [h184]; decide) (by rw [h184]; decide) (by rw [h184]; rfl) rfl ?_
                                  refine wk_lv [0, 1, 2, 3] (lv' := [(0, .ref bs), (1, .ref (a 0)), (2, .ref (b 0)), (3, .int v3)]) rfl ?_
                                  exact wL_law_L569 a b ln xs bs X hX hbl hbA hend _ (fun S S2 w3 h => ih S S2 w3 h) S S2 v3 hf
                                · replace hf := p_ie h184 hf
                                  by_cases h194 : (q2 &&& (31 : Int32)) = (14 : Int32)
                                  · replace hf := p_it h194 hf
                                    refine wk_swIn X dL_law_33 (off := 559) (tgt := 592) (by rw [h194]; decide) (by rw [h194]; decide) (by rw [h194]; rfl) rfl ?_
                                    refine wk_lv [0, 1, 2, 3] (lv' := [(0, .ref bs), (1, .ref (a 0)), (2, .ref (b 0)), (3, .int v3)]) rfl ?_
                                    exact wL_law_L592 a b ln xs bs X hX hbl hbA hend _ (fun S S2 w3 h => ih S S2 w3 h) S S2 v3 hf
                                  · replace hf := p_ie h194 hf
                                    by_cases h204 : (q2 &&& (31 : Int32)) = (15 : Int32)
                                    · replace hf := p_it h204 hf
                                      refine wk_swIn X dL_law_33 (off := 582) (tgt := 615) (by rw [h204]; decide) (by rw [h204]; decide) (by rw [h204]; rfl) rfl ?_
                                      refine wk_lv [0, 1, 2, 3] (lv' := [(0, .ref bs), (1, .ref (a 0)), (2, .ref (b 0)), (3, .int v3)]) rfl ?_
                                      exact wL_law_L615 a b ln xs bs X hX hbl hbA hend _ (fun S S2 w3 h => ih S S2 w3 h) S S2 v3 hf
                                    · replace hf := p_ie h204 hf
                                      by_cases h214 : (q2 &&& (31 : Int32)) = (16 : Int32)
                                      · replace hf := p_it h214 hf
                                        refine wk_swIn X dL_law_33 (off := 605) (tgt := 638) (by rw [h214]; decide) (by rw [h214]; decide) (by rw [h214]; rfl) rfl ?_
                                        refine wk_lv [0, 1, 2, 3] (lv' := [(0, .ref bs), (1, .ref (a 0)), (2, .ref (b 0)), (3, .int v3)]) rfl ?_
                                        exact wL_law_L638 a b ln xs bs X hX hbl hbA hend _ (fun S S2 w3 h => ih S S2 w3 h) S S2 v3 hf
                                      · replace hf := p_ie h214 hf
                                        by_cases h224 : (q2 &&& (31 : Int32)) = (17 : Int32)
                                        · replace hf := p_it h224 hf
                                          refine wk_swIn X dL_law_33 (off := 628) (tgt := 661) (by rw [h224]; decide) (by rw [h224]; decide) (by rw [h224]; rfl) rfl ?_
                                          refine wk_lv [0, 1, 2, 3] (lv' := [(0, .ref bs), (1, .ref (a 0)), (2, .ref (b 0)), (3, .int v3)]) rfl ?_
                                          exact wL_law_L661 a b ln xs bs X hX hbl hbA hend _ (fun S S2 w3 h => ih S S2 w3 h) S S2 v3 hf
                                        · replace hf := p_ie h224 hf
                                          by_cases h234 : (q2 &&& (31 : Int32)) = (18 : Int32)
                                          · replace hf := p_it h234 hf
                                            refine wk_swIn X dL_law_33 (off := 651) (tgt := 684) (by rw [h234]; decide) (by rw [h234]; decide) (by rw [h234]; rfl) rfl ?_
                                            refine wk_lv [0, 1, 2, 3] (lv' := [(0, .ref bs), (1, .ref (a 0)), (2, .ref (b 0)), (3, .int v3)]) rfl ?_
                                            exact wL_law_L684 a b ln xs bs X hX hbl hbA hend _ (fun S S2 w3 h => ih S S2 w3 h) S S2 v3 hf
                                          · replace hf := p_ie h234 hf
                                            by_cases h244 : (q2 &&& (31 : Int32)) = (19 : Int32)
                                            · replace hf := p_it h244 hf
                                              refine wk_swIn X dL_law_33 (off := 674) (tgt := 707) (by rw [h244]; decide) (by rw [h244]; decide) (by rw [h244]; rfl) rfl ?_
                                              refine wk_lv [0, 1, 2, 3] (lv' := [(0, .ref bs), (1, .ref (a 0)), (2, .ref (b 0)), (3, .int v3)]) rfl ?_
                                              exact wL_law_L707 a b ln xs bs X hX hbl hbA hend _ (fun S S2 w3 h => ih S S2 w3 h) S S2 v3 hf
                                            · replace hf := p_ie h244 hf
                                              by_cases h254 : (q2 &&& (31 : Int32)) = (20 : Int32)
                                              · replace hf := p_it h254 hf
                                                refine wk_swIn X dL_law_33 (off := 697) (tgt := 730) (by rw [h254]; decide) (by rw [h254]; decide) (by rw [h254]; rfl) rfl ?_
                                                refine wk_lv [0, 1, 2, 3] (lv' := [(0, .ref bs), (1, .ref (a 0)), (2, .ref (b 0)), (3, .int v3)]) rfl ?_
                                                exact wL_law_L730 a b ln xs bs X hX hbl hbA hend _ (fun S S2 w3 h => ih S S2 w3 h) S S2 v3 hf
                                              · replace hf := p_ie h254 hf
                                                by_cases h264 : (q2 &&& (31 : Int32)) = (21 : Int32)
                                                · replace hf := p_it h264 hf
                                                  refine wk_swIn X dL_law_33 (off := 720) (tgt := 753) (by rw [h264]; decide) (by rw [h264]; decide) (by rw [h264]; rfl) rfl ?_
                                                  refine wk_lv [0, 1, 2, 3] (lv' := [(0, .ref bs), (1, .ref (a 0)), (2, .ref (b 0)), (3, .int v3)]) rfl ?_
                                                  exact wL_law_L753 a b ln xs bs X hX hbl hbA hend _ (fun S S2 w3 h => ih S S2 w3 h) S S2 v3 hf
                                                · replace hf := p_ie h264 hf
                                                  by_cases h270 : (q2 &&& (31 : Int32)) = (22 : Int32)
                                                  · replace hf := p_it h270 hf
                                                    refine wk_swIn X dL_law_33 (off := 733) (tgt := 766) (by rw [h270]; decide) (by rw [h270]; decide) (by rw [h270]; rfl) rfl ?_
                                                    refine wk_lv [0, 1, 2, 3] (lv' := [(0, .ref bs), (1, .ref (a 0)), (2, .ref (b 0)), (3, .int v3)]) rfl ?_
                                                    exact wL_law_L766 a b ln xs bs X hX hbl hbA hend _ (fun S S2 w3 h => ih S S2 w3 h) S S2 v3 hf
                                                  · replace hf := p_ie h270 hf
                                                    by_cases h292 : (q2 &&& (31 : Int32)) = (23 : Int32)
                                                    · replace hf := p_it h292 hf
                                                      refine wk_swIn X dL_law_33 (off := 786) (tgt := 819) (by rw [h292]; decide) (by rw [h292]; decide) (by rw [h292]; rfl) rfl ?_
                                                      refine wk_lv [0, 1, 2, 3] (lv' := [(0, .ref bs), (1, .ref (a 0)), (2, .ref (b 0)), (3, .int v3)]) rfl ?_
                                                      exact wL_law_L819 a b ln xs bs X hX hbl hbA hend _ (fun S S2 w3 h => ih S S2 w3 h) S S2 v3 hf
                                                    · replace hf := p_ie h292 hf
                                                      have h4n : ¬ ((q2 &&& (31 : Int32))).toInt = 0 := p_sw (0 : Int32) h4
                                                      have h30n : ¬ ((q2 &&& (31 : Int32))).toInt = 1 := p_sw (1 : Int32) h30
                                                      have h48n : ¬ ((q2 &&& (31 : Int32))).toInt = 2 := p_sw (2 : Int32) h48
                                                      have h54n : ¬ ((q2 &&& (31 : Int32))).toInt = 3 := p_sw (3 : Int32) h54
                                                      have h64n : ¬ ((q2 &&& (31 : Int32))).toInt = 4 := p_sw (4 : Int32) h64
                                                      have h78n : ¬ ((q2 &&& (31 : Int32))).toInt = 5 := p_sw (5 : Int32) h78
                                                      have h96n : ¬ ((q2 &&& (31 : Int32))).toInt = 6 := p_sw (6 : Int32) h96
                                                      have h120n : ¬ ((q2 &&& (31 : Int32))).toInt = 7 := p_sw (7 : Int32) h120
                                                      have h130n : ¬ ((q2 &&& (31 : Int32))).toInt = 8 := p_sw (8 : Int32) h130
                                                      have h144n : ¬ ((q2 &&& (31 : Int32))).toInt = 9 := p_sw (9 : Int32) h144
                                                      have h150n : ¬ ((q2 &&& (31 : Int32))).toInt = 10 := p_sw (10 : Int32) h150
                                                      have h164n : ¬ ((q2 &&& (31 : Int32))).toInt = 11 := p_sw (11 : Int32) h164
                                                      have h174n : ¬ ((q2 &&& (31 : Int32))).toInt = 12 := p_sw (12 : Int32) h174
                                                      have h184n : ¬ ((q2 &&& (31 : Int32))).toInt = 13 := p_sw (13 : Int32) h184
                                                      have h194n : ¬ ((q2 &&& (31 : Int32))).toInt = 14 := p_sw (14 : Int32) h194
                                                      have h204n : ¬ ((q2 &&& (31 : Int32))).toInt = 15 := p_sw (15 : Int32) h204
                                                      have h214n : ¬ ((q2 &&& (31 : Int32))).toInt = 16 := p_sw (16 : Int32) h214
                                                      have h224n : ¬ ((q2 &&& (31 : Int32))).toInt = 17 := p_sw (17 : Int32) h224
                                                      have h234n : ¬ ((q2 &&& (31 : Int32))).toInt = 18 := p_sw (18 : Int32) h234
                                                      have h244n : ¬ ((q2 &&& (31 : Int32))).toInt = 19 := p_sw (19 : Int32) h244
                                                      have h254n : ¬ ((q2 &&& (31 : Int32))).toInt = 20 := p_sw (20 : Int32) h254
                                                      have h264n : ¬ ((q2 &&& (31 : Int32))).toInt = 21 := p_sw (21 : Int32) h264
                                                      have h270n : ¬ ((q2 &&& (31 : Int32))).toInt = 22 := p_sw (22 : Int32) h270
                                                      have h292n : ¬ ((q2 &&& (31 : Int32))).toInt = 23 := p_sw (23 : Int32) h292
                                                      refine wk_swOut X dL_law_33 (tgt := 842) (by omega) rfl ?_
                                                      refine wk_iinc X 3 dL_law_842 (v := (v3 + (6 : Int32))) rfl rfl (Nat.le_of_ble_eq_true rfl) (lv' := [(3, .int (v3 + (6 : Int32))), (0, .ref bs), (1, .ref (a 0)), (2, .ref (b 0))]) rfl ?_
                                                      refine wk_goto X dL_law_845 (tgt := 18) rfl ?_
                                                      refine wk_lv [1, 2, 3, 0] (lv' := [(0, .ref bs), (1, .ref (a 0)), (2, .ref (b 0)), (3, .int (v3 + (6 : Int32)))]) rfl ?_
                                                      exact ih S S2 (v3 + (6 : Int32)) hf

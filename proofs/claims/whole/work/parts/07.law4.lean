set_option maxRecDepth 100000 in
set_option maxHeartbeats 4000000 in
theorem wL_law_L444 {V : ee_V} (a b : Nat → Nat) (ln : Nat) (xs : Nat → Int32) (bs : Nat) {x : wk_C} (X : wk_K (ee V) x code 4 "TagWorkshopLaw" ts_L_law room_1) (hX : va_X bs ln xs (wx_s x) (wx_H x)) (hbl : bs < (wx_H x).size) (hbA : ¬ wx_A x bs) (hend : ∀ ws lv, wk_G (ee V) x 4 ws 849 lv [.int 1]) (K : pX → pR → Int32 → Option (Bool)) (hK : ∀ (S : pX) (S2 : pR) (v3 : Int32), K S S2 v3 = some true → wk_G (ee V) x 4 (cX V a S ++ cR V b S2) 18 [(0, .ref bs), (1, .ref (a 0)), (2, .ref (b 0)), (3, .int v3)] []) : ∀ (S : pX) (S2 : pR) (v3 : Int32), fL_law_L444 ln xs K S S2 v3 = some true → wk_G (ee V) x 4 (cX V a S ++ cR V b S2) 444 [(0, .ref bs), (1, .ref (a 0)), (2, .ref (b 0)), (3, .int v3)] [] := by
  intro S S2 v3 hf
  unfold fL_law_L444 at hf
  refine wk_aload_n X 1 dL_law_444 rfl rfl ?_
  refine wk_aload_n X 0 dL_law_445 rfl rfl ?_
  refine wk_iload_n X 3 dL_law_446 rfl rfl ?_
  refine wk_iconst X dL_law_447 (v := (1 : Int32)) (by decide) ?_
  refine wk_iadd X dL_law_448 ?_
  obtain ⟨q131, h132, hf⟩ := p_ob hf
  obtain ⟨h132i, h132e⟩ := p_rd_some h132
  refine wk_sld X hX hbl hbA h132i h132e dL_law_449 ?_
  refine wk_aload_n X 0 dL_law_450 rfl rfl ?_
  refine wk_iload_n X 3 dL_law_451 rfl rfl ?_
  refine wk_iconst X dL_law_452 (v := (2 : Int32)) (by decide) ?_
  refine wk_iadd X dL_law_453 ?_
  obtain ⟨q133, h134, hf⟩ := p_ob hf
  obtain ⟨h134i, h134e⟩ := p_rd_some h134
  refine wk_sld X hX hbl hbA h134i h134e dL_law_454 ?_
  obtain ⟨q135, h136, hf⟩ := p_ob hf
  refine wk_goIl (wk_rVl X (mX_production (V := V) a S q131 q133 q135 h136) rfl (gd (tw_327)) rfl rfl (tl tw_324) (tl tw_325) (tl tw_326) (tl tw_1) 2 pd_X_production rfl ⟨rfl, rfl⟩ ⟨Nat.le_of_ble_eq_true rfl, Nat.le_of_ble_eq_true rfl⟩ rfl (Nat.le_of_ble_eq_true rfl) dL_law_455) (fun _ => rfl) ?_
  rintro r ⟨⟩ rfl
  refine wk_aload_n X 2 dL_law_458 rfl rfl ?_
  refine wk_aload_n X 0 dL_law_459 rfl rfl ?_
  refine wk_iload_n X 3 dL_law_460 rfl rfl ?_
  refine wk_iconst X dL_law_461 (v := (1 : Int32)) (by decide) ?_
  refine wk_iadd X dL_law_462 ?_
  refine wk_sld X hX hbl hbA h132i h132e dL_law_463 ?_
  refine wk_aload_n X 0 dL_law_464 rfl rfl ?_
  refine wk_iload_n X 3 dL_law_465 rfl rfl ?_
  refine wk_iconst X dL_law_466 (v := (2 : Int32)) (by decide) ?_
  refine wk_iadd X dL_law_467 ?_
  refine wk_sld X hX hbl hbA h134i h134e dL_law_468 ?_
  obtain ⟨q141, h142, hf⟩ := p_ob hf
  refine wk_goIr (wk_rVr X (mR_production (V := V) b S2 q131 q133 q141 h142) rfl (gd (tw_730)) rfl rfl (tl tw_735) (tl tw_728) (tl tw_729) (tl tw_7) 2 pd_R_production rfl ⟨rfl, rfl⟩ ⟨Nat.le_of_ble_eq_true rfl, Nat.le_of_ble_eq_true rfl⟩ rfl (Nat.le_of_ble_eq_true rfl) dL_law_469) (fun _ => rfl) ?_
  rintro r ⟨⟩ rfl
  refine wk_icmp_eq X dL_law_472 (tgt := 842) rfl (fun h143 => ?_) (fun h143 => ?_)
  · replace hf := p_it h143 hf
    refine wk_iinc X 3 dL_law_842 (v := (v3 + (6 : Int32))) rfl rfl (Nat.le_of_ble_eq_true rfl) (lv' := [(3, .int (v3 + (6 : Int32))), (0, .ref bs), (1, .ref (a 0)), (2, .ref (b 0))]) rfl ?_
    refine wk_goto X dL_law_845 (tgt := 18) rfl ?_
    refine wk_lv [1, 2, 3, 0] (lv' := [(0, .ref bs), (1, .ref (a 0)), (2, .ref (b 0)), (3, .int (v3 + (6 : Int32)))]) rfl ?_
    exact hK S S2 (v3 + (6 : Int32)) hf
  · replace hf := p_ie h143 hf
    refine wk_iconst X dL_law_475 (v := (0 : Int32)) (by decide) ?_
    exact absurd (Option.some.inj hf) (by decide)
set_option maxRecDepth 100000 in
set_option maxHeartbeats 4000000 in
theorem wL_law_L477 {V : ee_V} (a b : Nat → Nat) (ln : Nat) (xs : Nat → Int32) (bs : Nat) {x : wk_C} (X : wk_K (ee V) x code 4 "TagWorkshopLaw" ts_L_law room_1) (hX : va_X bs ln xs (wx_s x) (wx_H x)) (hbl : bs < (wx_H x).size) (hbA : ¬ wx_A x bs) (hend : ∀ ws lv, wk_G (ee V) x 4 ws 849 lv [.int 1]) (K : pX → pR → Int32 → Option (Bool)) (hK : ∀ (S : pX) (S2 : pR) (v3 : Int32), K S S2 v3 = some true → wk_G (ee V) x 4 (cX V a S ++ cR V b S2) 18 [(0, .ref bs), (1, .ref (a 0)), (2, .ref (b 0)), (3, .int v3)] []) : ∀ (S : pX) (S2 : pR) (v3 : Int32), fL_law_L477 ln xs K S S2 v3 = some true → wk_G (ee V) x 4 (cX V a S ++ cR V b S2) 477 [(0, .ref bs), (1, .ref (a 0)), (2, .ref (b 0)), (3, .int v3)] [] := by
  intro S S2 v3 hf
  unfold fL_law_L477 at hf
  refine wk_aload_n X 1 dL_law_477 rfl rfl ?_
  obtain ⟨q145, h146, hf⟩ := p_ob hf
  refine wk_goIl (wk_rVl X (mX_compileCyclic (V := V) a S q145 h146) rfl (gd (tw_332)) rfl rfl (tl tw_329) (tl tw_330) (tl tw_331) (tl tw_1) 0 pd_X_compileCyclic rfl ⟨rfl, rfl⟩ ⟨Nat.le_of_ble_eq_true rfl, Nat.le_of_ble_eq_true rfl⟩ rfl (Nat.le_of_ble_eq_true rfl) dL_law_478) (fun _ => rfl) ?_
  rintro r u ⟨rfl, rfl⟩
  refine wk_aload_n X 2 dL_law_481 rfl rfl ?_
  obtain ⟨q147, h148, hf⟩ := p_ob hf
  refine wk_goIr (wk_rVr X (mR_compileCyclic (V := V) b S2 q147 h148) rfl (gd (tw_763)) rfl rfl (tl tw_760) (tl tw_761) (tl tw_762) (tl tw_7) 0 pd_R_compileCyclic rfl ⟨rfl, rfl⟩ ⟨Nat.le_of_ble_eq_true rfl, Nat.le_of_ble_eq_true rfl⟩ rfl (Nat.le_of_ble_eq_true rfl) dL_law_482) (fun _ => rfl) ?_
  rintro r u ⟨rfl, rfl⟩
  refine wk_icmp_eq X dL_law_485 (tgt := 842) rfl (fun h149 => ?_) (fun h149 => ?_)
  · replace hf := p_it h149 hf
    refine wk_iinc X 3 dL_law_842 (v := (v3 + (6 : Int32))) rfl rfl (Nat.le_of_ble_eq_true rfl) (lv' := [(3, .int (v3 + (6 : Int32))), (0, .ref bs), (1, .ref (a 0)), (2, .ref (b 0))]) rfl ?_
    refine wk_goto X dL_law_845 (tgt := 18) rfl ?_
    refine wk_lv [1, 2, 3, 0] (lv' := [(0, .ref bs), (1, .ref (a 0)), (2, .ref (b 0)), (3, .int (v3 + (6 : Int32)))]) rfl ?_
    exact hK q145.2 q147.2 (v3 + (6 : Int32)) hf
  · replace hf := p_ie h149 hf
    refine wk_iconst X dL_law_488 (v := (0 : Int32)) (by decide) ?_
    exact absurd (Option.some.inj hf) (by decide)
set_option maxRecDepth 100000 in
set_option maxHeartbeats 4000000 in
theorem wL_law_L490 {V : ee_V} (a b : Nat → Nat) (ln : Nat) (xs : Nat → Int32) (bs : Nat) {x : wk_C} (X : wk_K (ee V) x code 4 "TagWorkshopLaw" ts_L_law room_1) (hX : va_X bs ln xs (wx_s x) (wx_H x)) (hbl : bs < (wx_H x).size) (hbA : ¬ wx_A x bs) (hend : ∀ ws lv, wk_G (ee V) x 4 ws 849 lv [.int 1]) (K : pX → pR → Int32 → Option (Bool)) (hK : ∀ (S : pX) (S2 : pR) (v3 : Int32), K S S2 v3 = some true → wk_G (ee V) x 4 (cX V a S ++ cR V b S2) 18 [(0, .ref bs), (1, .ref (a 0)), (2, .ref (b 0)), (3, .int v3)] []) : ∀ (S : pX) (S2 : pR) (v3 : Int32), fL_law_L490 ln xs K S S2 v3 = some true → wk_G (ee V) x 4 (cX V a S ++ cR V b S2) 490 [(0, .ref bs), (1, .ref (a 0)), (2, .ref (b 0)), (3, .int v3)] [] := by
  intro S S2 v3 hf
  unfold fL_law_L490 at hf
  refine wk_aload_n X 1 dL_law_490 rfl rfl ?_
  refine wk_aload_n X 0 dL_law_491 rfl rfl ?_
  refine wk_iload_n X 3 dL_law_492 rfl rfl ?_
  refine wk_iconst X dL_law_493 (v := (1 : Int32)) (by decide) ?_
  refine wk_iadd X dL_law_494 ?_
  obtain ⟨q151, h152, hf⟩ := p_ob hf
  obtain ⟨h152i, h152e⟩ := p_rd_some h152
  refine wk_sld X hX hbl hbA h152i h152e dL_law_495 ?_
  refine wk_aload_n X 0 dL_law_496 rfl rfl ?_
  refine wk_iload_n X 3 dL_law_497 rfl rfl ?_
  refine wk_iconst X dL_law_498 (v := (2 : Int32)) (by decide) ?_
  refine wk_iadd X dL_law_499 ?_
  obtain ⟨q153, h154, hf⟩ := p_ob hf
  obtain ⟨h154i, h154e⟩ := p_rd_some h154
  refine wk_sld X hX hbl hbA h154i h154e dL_law_500 ?_
  obtain ⟨q155, h156, hf⟩ := p_ob hf
  refine wk_goIl (wk_rVl X (mX_appendant (V := V) a S q151 q153 q155 h156) rfl (gd (tw_351)) rfl rfl (tl tw_348) (tl tw_349) (tl tw_350) (tl tw_1) 2 pd_X_appendant rfl ⟨rfl, rfl⟩ ⟨Nat.le_of_ble_eq_true rfl, Nat.le_of_ble_eq_true rfl⟩ rfl (Nat.le_of_ble_eq_true rfl) dL_law_501) (fun _ => rfl) ?_
  rintro r ⟨⟩ rfl
  refine wk_aload_n X 2 dL_law_504 rfl rfl ?_
  refine wk_aload_n X 0 dL_law_505 rfl rfl ?_
  refine wk_iload_n X 3 dL_law_506 rfl rfl ?_
  refine wk_iconst X dL_law_507 (v := (1 : Int32)) (by decide) ?_
  refine wk_iadd X dL_law_508 ?_
  refine wk_sld X hX hbl hbA h152i h152e dL_law_509 ?_
  refine wk_aload_n X 0 dL_law_510 rfl rfl ?_
  refine wk_iload_n X 3 dL_law_511 rfl rfl ?_
  refine wk_iconst X dL_law_512 (v := (2 : Int32)) (by decide) ?_
  refine wk_iadd X dL_law_513 ?_
  refine wk_sld X hX hbl hbA h154i h154e dL_law_514 ?_
  obtain ⟨q161, h162, hf⟩ := p_ob hf
  refine wk_goIr (wk_rVr X (mR_appendant (V := V) b S2 q151 q153 q161 h162) rfl (gd (tw_787)) rfl rfl (tl tw_784) (tl tw_785) (tl tw_786) (tl tw_7) 2 pd_R_appendant rfl ⟨rfl, rfl⟩ ⟨Nat.le_of_ble_eq_true rfl, Nat.le_of_ble_eq_true rfl⟩ rfl (Nat.le_of_ble_eq_true rfl) dL_law_515) (fun _ => rfl) ?_
  rintro r ⟨⟩ rfl
  refine wk_icmp_eq X dL_law_518 (tgt := 842) rfl (fun h163 => ?_) (fun h163 => ?_)
  · replace hf := p_it h163 hf
    refine wk_iinc X 3 dL_law_842 (v := (v3 + (6 : Int32))) rfl rfl (Nat.le_of_ble_eq_true rfl) (lv' := [(3, .int (v3 + (6 : Int32))), (0, .ref bs), (1, .ref (a 0)), (2, .ref (b 0))]) rfl ?_
    refine wk_goto X dL_law_845 (tgt := 18) rfl ?_
    refine wk_lv [1, 2, 3, 0] (lv' := [(0, .ref bs), (1, .ref (a 0)), (2, .ref (b 0)), (3, .int (v3 + (6 : Int32)))]) rfl ?_
    exact hK S S2 (v3 + (6 : Int32)) hf
  · replace hf := p_ie h163 hf
    refine wk_iconst X dL_law_521 (v := (0 : Int32)) (by decide) ?_
    exact absurd (Option.some.inj hf) (by decide)
set_option maxRecDepth 100000 in
set_option maxHeartbeats 4000000 in
theorem wL_law_L523 {V : ee_V} (a b : Nat → Nat) (ln : Nat) (xs : Nat → Int32) (bs : Nat) {x : wk_C} (X : wk_K (ee V) x code 4 "TagWorkshopLaw" ts_L_law room_1) (hX : va_X bs ln xs (wx_s x) (wx_H x)) (hbl : bs < (wx_H x).size) (hbA : ¬ wx_A x bs) (hend : ∀ ws lv, wk_G (ee V) x 4 ws 849 lv [.int 1]) (K : pX → pR → Int32 → Option (Bool)) (hK : ∀ (S : pX) (S2 : pR) (v3 : Int32), K S S2 v3 = some true → wk_G (ee V) x 4 (cX V a S ++ cR V b S2) 18 [(0, .ref bs), (1, .ref (a 0)), (2, .ref (b 0)), (3, .int v3)] []) : ∀ (S : pX) (S2 : pR) (v3 : Int32), fL_law_L523 ln xs K S S2 v3 = some true → wk_G (ee V) x 4 (cX V a S ++ cR V b S2) 523 [(0, .ref bs), (1, .ref (a 0)), (2, .ref (b 0)), (3, .int v3)] [] := by
  intro S S2 v3 hf
  unfold fL_law_L523 at hf
  refine wk_aload_n X 1 dL_law_523 rfl rfl ?_
  refine wk_aload_n X 0 dL_law_524 rfl rfl ?_
  refine wk_iload_n X 3 dL_law_525 rfl rfl ?_
  refine wk_iconst X dL_law_526 (v := (1 : Int32)) (by decide) ?_
  refine wk_iadd X dL_law_527 ?_
  obtain ⟨q165, h166, hf⟩ := p_ob hf
  obtain ⟨h166i, h166e⟩ := p_rd_some h166
  refine wk_sld X hX hbl hbA h166i h166e dL_law_528 ?_
  obtain ⟨q167, h168, hf⟩ := p_ob hf
  refine wk_goIl (wk_rVl X (mX_stepTape (V := V) a S q165 q167 h168) rfl (gd (tw_364)) rfl rfl (tl tw_361) (tl tw_362) (tl tw_363) (tl tw_1) 1 pd_X_stepTape rfl ⟨rfl, rfl⟩ ⟨Nat.le_of_ble_eq_true rfl, Nat.le_of_ble_eq_true rfl⟩ rfl (Nat.le_of_ble_eq_true rfl) dL_law_529) (fun _ => rfl) ?_
  rintro r u ⟨rfl, rfl⟩
  refine wk_aload_n X 2 dL_law_532 rfl rfl ?_
  refine wk_aload_n X 0 dL_law_533 rfl rfl ?_
  refine wk_iload_n X 3 dL_law_534 rfl rfl ?_
  refine wk_iconst X dL_law_535 (v := (1 : Int32)) (by decide) ?_
  refine wk_iadd X dL_law_536 ?_
  refine wk_sld X hX hbl hbA h166i h166e dL_law_537 ?_
  obtain ⟨q171, h172, hf⟩ := p_ob hf
  refine wk_goIr (wk_rVr X (mR_stepTape (V := V) b S2 q165 q171 h172) rfl (gd (tw_645)) rfl rfl (tl tw_642) (tl tw_643) (tl tw_644) (tl tw_7) 1 pd_R_stepTape rfl ⟨rfl, rfl⟩ ⟨Nat.le_of_ble_eq_true rfl, Nat.le_of_ble_eq_true rfl⟩ rfl (Nat.le_of_ble_eq_true rfl) dL_law_538) (fun _ => rfl) ?_
  rintro r u ⟨rfl, rfl⟩
  refine wk_icmp_eq X dL_law_541 (tgt := 842) rfl (fun h173 => ?_) (fun h173 => ?_)
  · replace hf := p_it h173 hf
    refine wk_iinc X 3 dL_law_842 (v := (v3 + (6 : Int32))) rfl rfl (Nat.le_of_ble_eq_true rfl) (lv' := [(3, .int (v3 + (6 : Int32))), (0, .ref bs), (1, .ref (a 0)), (2, .ref (b 0))]) rfl ?_
    refine wk_goto X dL_law_845 (tgt := 18) rfl ?_
    refine wk_lv [1, 2, 3, 0] (lv' := [(0, .ref bs), (1, .ref (a 0)), (2, .ref (b 0)), (3, .int (v3 + (6 : Int32)))]) rfl ?_
    exact hK q167.2 q171.2 (v3 + (6 : Int32)) hf
  · replace hf := p_ie h173 hf
    refine wk_iconst X dL_law_544 (v := (0 : Int32)) (by decide) ?_
    exact absurd (Option.some.inj hf) (by decide)
set_option maxRecDepth 100000 in
set_option maxHeartbeats 4000000 in
theorem wL_law_L546 {V : ee_V} (a b : Nat → Nat) (ln : Nat) (xs : Nat → Int32) (bs : Nat) {x : wk_C} (X : wk_K (ee V) x code 4 "TagWorkshopLaw" ts_L_law room_1) (hX : va_X bs ln xs (wx_s x) (wx_H x)) (hbl : bs < (wx_H x).size) (hbA : ¬ wx_A x bs) (hend : ∀ ws lv, wk_G (ee V) x 4 ws 849 lv [.int 1]) (K : pX → pR → Int32 → Option (Bool)) (hK : ∀ (S : pX) (S2 : pR) (v3 : Int32), K S S2 v3 = some true → wk_G (ee V) x 4 (cX V a S ++ cR V b S2) 18 [(0, .ref bs), (1, .ref (a 0)), (2, .ref (b 0)), (3, .int v3)] []) : ∀ (S : pX) (S2 : pR) (v3 : Int32), fL_law_L546 ln xs K S S2 v3 = some true → wk_G (ee V) x 4 (cX V a S ++ cR V b S2) 546 [(0, .ref bs), (1, .ref (a 0)), (2, .ref (b 0)), (3, .int v3)] [] := by
  intro S S2 v3 hf
  unfold fL_law_L546 at hf
  refine wk_aload_n X 1 dL_law_546 rfl rfl ?_
  refine wk_aload_n X 0 dL_law_547 rfl rfl ?_
  refine wk_iload_n X 3 dL_law_548 rfl rfl ?_
  refine wk_iconst X dL_law_549 (v := (1 : Int32)) (by decide) ?_
  refine wk_iadd X dL_law_550 ?_
  obtain ⟨q175, h176, hf⟩ := p_ob hf
  obtain ⟨h176i, h176e⟩ := p_rd_some h176
  refine wk_sld X hX hbl hbA h176i h176e dL_law_551 ?_
  obtain ⟨q177, h178, hf⟩ := p_ob hf
  refine wk_goIl (wk_rVl X (mX_stepTag (V := V) a S q175 q177 h178) rfl (gd (tw_426)) rfl rfl (tl tw_423) (tl tw_424) (tl tw_425) (tl tw_1) 1 pd_X_stepTag rfl ⟨rfl, rfl⟩ ⟨Nat.le_of_ble_eq_true rfl, Nat.le_of_ble_eq_true rfl⟩ rfl (Nat.le_of_ble_eq_true rfl) dL_law_552) (fun _ => rfl) ?_
  rintro r u ⟨rfl, rfl⟩
  refine wk_aload_n X 2 dL_law_555 rfl rfl ?_
  refine wk_aload_n X 0 dL_law_556 rfl rfl ?_
  refine wk_iload_n X 3 dL_law_557 rfl rfl ?_
  refine wk_iconst X dL_law_558 (v := (1 : Int32)) (by decide) ?_
  refine wk_iadd X dL_law_559 ?_
  refine wk_sld X hX hbl hbA h176i h176e dL_law_560 ?_
  obtain ⟨q181, h182, hf⟩ := p_ob hf
  refine wk_goIr (wk_rVr X (mR_stepTag (V := V) b S2 q175 q181 h182) rfl (gd (tw_743)) rfl rfl (tl tw_740) (tl tw_741) (tl tw_742) (tl tw_7) 1 pd_R_stepTag rfl ⟨rfl, rfl⟩ ⟨Nat.le_of_ble_eq_true rfl, Nat.le_of_ble_eq_true rfl⟩ rfl (Nat.le_of_ble_eq_true rfl) dL_law_561) (fun _ => rfl) ?_
  rintro r u ⟨rfl, rfl⟩
  refine wk_icmp_eq X dL_law_564 (tgt := 842) rfl (fun h183 => ?_) (fun h183 => ?_)
  · replace hf := p_it h183 hf
    refine wk_iinc X 3 dL_law_842 (v := (v3 + (6 : Int32))) rfl rfl (Nat.le_of_ble_eq_true rfl) (lv' := [(3, .int (v3 + (6 : Int32))), (0, .ref bs), (1, .ref (a 0)), (2, .ref (b 0))]) rfl ?_
    refine wk_goto X dL_law_845 (tgt := 18) rfl ?_
    refine wk_lv [1, 2, 3, 0] (lv' := [(0, .ref bs), (1, .ref (a 0)), (2, .ref (b 0)), (3, .int (v3 + (6 : Int32)))]) rfl ?_
    exact hK q177.2 q181.2 (v3 + (6 : Int32)) hf
  · replace hf := p_ie h183 hf
    refine wk_iconst X dL_law_567 (v := (0 : Int32)) (by decide) ?_
    exact absurd (Option.some.inj hf) (by decide)
set_option maxRecDepth 100000 in
set_option maxHeartbeats 4000000 in
theorem wL_law_L569 {V : ee_V} (a b : Nat → Nat) (ln : Nat) (xs : Nat → Int32) (bs : Nat) {x : wk_C} (X : wk_K (ee V) x code 4 "TagWorkshopLaw" ts_L_law room_1) (hX : va_X bs ln xs (wx_s x) (wx_H x)) (hbl : bs < (wx_H x).size) (hbA : ¬ wx_A x bs) (hend : ∀ ws lv, wk_G (ee V) x 4 ws 849 lv [.int 1]) (K : pX → pR → Int32 → Option (Bool)) (hK : ∀ (S : pX) (S2 : pR) (v3 : Int32), K S S2 v3 = some true → wk_G (ee V) x 4 (cX V a S ++ cR V b S2) 18 [(0, .ref bs), (1, .ref (a 0)), (2, .ref (b 0)), (3, .int v3)] []) : ∀ (S : pX) (S2 : pR) (v3 : Int32), fL_law_L569 ln xs K S S2 v3 = some true → wk_G (ee V) x 4 (cX V a S ++ cR V b S2) 569 [(0, .ref bs), (1, .ref (a 0)), (2, .ref (b 0)), (3, .int v3)] [] := by
  intro S S2 v3 hf
  unfold fL_law_L569 at hf
  refine wk_aload_n X 1 dL_law_569 rfl rfl ?_
  refine wk_aload_n X 0 dL_law_570 rfl rfl ?_
  refine wk_iload_n X 3 dL_law_571 rfl rfl ?_
  refine wk_iconst X dL_law_572 (v := (1 : Int32)) (by decide) ?_
  refine wk_iadd X dL_law_573 ?_
  obtain ⟨q185, h186, hf⟩ := p_ob hf
  obtain ⟨h186i, h186e⟩ := p_rd_some h186
  refine wk_sld X hX hbl hbA h186i h186e dL_law_574 ?_
  obtain ⟨q187, h188, hf⟩ := p_ob hf
  refine wk_goIl (wk_rVl X (mX_stepCyclic (V := V) a S q185 q187 h188) rfl (gd (tw_433)) rfl rfl (tl tw_430) (tl tw_431) (tl tw_432) (tl tw_1) 1 pd_X_stepCyclic rfl ⟨rfl, rfl⟩ ⟨Nat.le_of_ble_eq_true rfl, Nat.le_of_ble_eq_true rfl⟩ rfl (Nat.le_of_ble_eq_true rfl) dL_law_575) (fun _ => rfl) ?_
  rintro r u ⟨rfl, rfl⟩
  refine wk_aload_n X 2 dL_law_578 rfl rfl ?_
  refine wk_aload_n X 0 dL_law_579 rfl rfl ?_
  refine wk_iload_n X 3 dL_law_580 rfl rfl ?_
  refine wk_iconst X dL_law_581 (v := (1 : Int32)) (by decide) ?_
  refine wk_iadd X dL_law_582 ?_
  refine wk_sld X hX hbl hbA h186i h186e dL_law_583 ?_
  obtain ⟨q191, h192, hf⟩ := p_ob hf
  refine wk_goIr (wk_rVr X (mR_stepCyclic (V := V) b S2 q185 q191 h192) rfl (gd (tw_771)) rfl rfl (tl tw_768) (tl tw_769) (tl tw_770) (tl tw_7) 1 pd_R_stepCyclic rfl ⟨rfl, rfl⟩ ⟨Nat.le_of_ble_eq_true rfl, Nat.le_of_ble_eq_true rfl⟩ rfl (Nat.le_of_ble_eq_true rfl) dL_law_584) (fun _ => rfl) ?_
  rintro r u ⟨rfl, rfl⟩
  refine wk_icmp_eq X dL_law_587 (tgt := 842) rfl (fun h193 => ?_) (fun h193 => ?_)
  · replace hf := p_it h193 hf
    refine wk_iinc X 3 dL_law_842 (v := (v3 + (6 : Int32))) rfl rfl (Nat.le_of_ble_eq_true rfl) (lv' := [(3, .int (v3 + (6 : Int32))), (0, .ref bs), (1, .ref (a 0)), (2, .ref (b 0))]) rfl ?_
    refine wk_goto X dL_law_845 (tgt := 18) rfl ?_
    refine wk_lv [1, 2, 3, 0] (lv' := [(0, .ref bs), (1, .ref (a 0)), (2, .ref (b 0)), (3, .int (v3 + (6 : Int32)))]) rfl ?_
    exact hK q187.2 q191.2 (v3 + (6 : Int32)) hf
  · replace hf := p_ie h193 hf
    refine wk_iconst X dL_law_590 (v := (0 : Int32)) (by decide) ?_
    exact absurd (Option.some.inj hf) (by decide)
set_option maxRecDepth 100000 in
set_option maxHeartbeats 4000000 in
theorem wL_law_L592 {V : ee_V} (a b : Nat → Nat) (ln : Nat) (xs : Nat → Int32) (bs : Nat) {x : wk_C} (X : wk_K (ee V) x code 4 "TagWorkshopLaw" ts_L_law room_1) (hX : va_X bs ln xs (wx_s x) (wx_H x)) (hbl : bs < (wx_H x).size) (hbA : ¬ wx_A x bs) (hend : ∀ ws lv, wk_G (ee V) x 4 ws 849 lv [.int 1]) (K : pX → pR → Int32 → Option (Bool)) (hK : ∀ (S : pX) (S2 : pR) (v3 : Int32), K S S2 v3 = some true → wk_G (ee V) x 4 (cX V a S ++ cR V b S2) 18 [(0, .ref bs), (1, .ref (a 0)), (2, .ref (b 0)), (3, .int v3)] []) : ∀ (S : pX) (S2 : pR) (v3 : Int32), fL_law_L592 ln xs K S S2 v3 = some true → wk_G (ee V) x 4 (cX V a S ++ cR V b S2) 592 [(0, .ref bs), (1, .ref (a 0)), (2, .ref (b 0)), (3, .int v3)] [] := by
  intro S S2 v3 hf
  unfold fL_law_L592 at hf
  refine wk_aload_n X 1 dL_law_592 rfl rfl ?_
  refine wk_aload_n X 0 dL_law_593 rfl rfl ?_
  refine wk_iload_n X 3 dL_law_594 rfl rfl ?_
  refine wk_iconst X dL_law_595 (v := (1 : Int32)) (by decide) ?_
  refine wk_iadd X dL_law_596 ?_
  obtain ⟨q195, h196, hf⟩ := p_ob hf
  obtain ⟨h196i, h196e⟩ := p_rd_some h196
  refine wk_sld X hX hbl hbA h196i h196e dL_law_597 ?_
  obtain ⟨q197, h198, hf⟩ := p_ob hf
  refine wk_goIl (wk_rVl X (mX_tapeNow (V := V) a S q195 q197 h198) rfl (gd (tw_440)) rfl rfl (tl tw_437) (tl tw_438) (tl tw_439) (tl tw_1) 1 pd_X_tapeNow rfl ⟨rfl, rfl⟩ ⟨Nat.le_of_ble_eq_true rfl, Nat.le_of_ble_eq_true rfl⟩ rfl (Nat.le_of_ble_eq_true rfl) dL_law_598) (fun _ => rfl) ?_
  rintro r ⟨⟩ rfl
  refine wk_aload_n X 2 dL_law_601 rfl rfl ?_
  refine wk_aload_n X 0 dL_law_602 rfl rfl ?_
  refine wk_iload_n X 3 dL_law_603 rfl rfl ?_
  refine wk_iconst X dL_law_604 (v := (1 : Int32)) (by decide) ?_
  refine wk_iadd X dL_law_605 ?_
  refine wk_sld X hX hbl hbA h196i h196e dL_law_606 ?_
  obtain ⟨q201, h202, hf⟩ := p_ob hf
  refine wk_goIr (wk_rVr X (mR_tapeNow (V := V) b S2 q195 q201 h202) rfl (gd (tw_667)) rfl rfl (tl tw_664) (tl tw_665) (tl tw_666) (tl tw_7) 1 pd_R_tapeNow rfl ⟨rfl, rfl⟩ ⟨Nat.le_of_ble_eq_true rfl, Nat.le_of_ble_eq_true rfl⟩ rfl (Nat.le_of_ble_eq_true rfl) dL_law_607) (fun _ => rfl) ?_
  rintro r ⟨⟩ rfl
  refine wk_icmp_eq X dL_law_610 (tgt := 842) rfl (fun h203 => ?_) (fun h203 => ?_)
  · replace hf := p_it h203 hf
    refine wk_iinc X 3 dL_law_842 (v := (v3 + (6 : Int32))) rfl rfl (Nat.le_of_ble_eq_true rfl) (lv' := [(3, .int (v3 + (6 : Int32))), (0, .ref bs), (1, .ref (a 0)), (2, .ref (b 0))]) rfl ?_
    refine wk_goto X dL_law_845 (tgt := 18) rfl ?_
    refine wk_lv [1, 2, 3, 0] (lv' := [(0, .ref bs), (1, .ref (a 0)), (2, .ref (b 0)), (3, .int (v3 + (6 : Int32)))]) rfl ?_
    exact hK S S2 (v3 + (6 : Int32)) hf
  · replace hf := p_ie h203 hf
    refine wk_iconst X dL_law_613 (v := (0 : Int32)) (by decide) ?_
    exact absurd (Option.some.inj hf) (by decide)
set_option maxRecDepth 100000 in
set_option maxHeartbeats 4000000 in
theorem wL_law_L615 {V : ee_V} (a b : Nat → Nat) (ln : Nat) (xs : Nat → Int32) (bs : Nat) {x : wk_C} (X : wk_K (ee V) x code 4 "TagWorkshopLaw" ts_L_law room_1) (hX : va_X bs ln xs (wx_s x) (wx_H x)) (hbl : bs < (wx_H x).size) (hbA : ¬ wx_A x bs) (hend : ∀ ws lv, wk_G (ee V) x 4 ws 849 lv [.int 1]) (K : pX → pR → Int32 → Option (Bool)) (hK : ∀ (S : pX) (S2 : pR) (v3 : Int32), K S S2 v3 = some true → wk_G (ee V) x 4 (cX V a S ++ cR V b S2) 18 [(0, .ref bs), (1, .ref (a 0)), (2, .ref (b 0)), (3, .int v3)] []) : ∀ (S : pX) (S2 : pR) (v3 : Int32), fL_law_L615 ln xs K S S2 v3 = some true → wk_G (ee V) x 4 (cX V a S ++ cR V b S2) 615 [(0, .ref bs), (1, .ref (a 0)), (2, .ref (b 0)), (3, .int v3)] [] := by
  intro S S2 v3 hf
  unfold fL_law_L615 at hf
  refine wk_aload_n X 1 dL_law_615 rfl rfl ?_
  refine wk_aload_n X 0 dL_law_616 rfl rfl ?_
  refine wk_iload_n X 3 dL_law_617 rfl rfl ?_
  refine wk_iconst X dL_law_618 (v := (1 : Int32)) (by decide) ?_
  refine wk_iadd X dL_law_619 ?_
  obtain ⟨q205, h206, hf⟩ := p_ob hf
  obtain ⟨h206i, h206e⟩ := p_rd_some h206
  refine wk_sld X hX hbl hbA h206i h206e dL_law_620 ?_
  obtain ⟨q207, h208, hf⟩ := p_ob hf
  refine wk_goIl (wk_rVl X (mX_tagNow (V := V) a S q205 q207 h208) rfl (gd (tw_445)) rfl rfl (tl tw_442) (tl tw_443) (tl tw_444) (tl tw_1) 1 pd_X_tagNow rfl ⟨rfl, rfl⟩ ⟨Nat.le_of_ble_eq_true rfl, Nat.le_of_ble_eq_true rfl⟩ rfl (Nat.le_of_ble_eq_true rfl) dL_law_621) (fun _ => rfl) ?_
  rintro r ⟨⟩ rfl
  refine wk_aload_n X 2 dL_law_624 rfl rfl ?_
  refine wk_aload_n X 0 dL_law_625 rfl rfl ?_
  refine wk_iload_n X 3 dL_law_626 rfl rfl ?_
  refine wk_iconst X dL_law_627 (v := (1 : Int32)) (by decide) ?_
  refine wk_iadd X dL_law_628 ?_
  refine wk_sld X hX hbl hbA h206i h206e dL_law_629 ?_
  obtain ⟨q211, h212, hf⟩ := p_ob hf
  refine wk_goIr (wk_rVr X (mR_tagNow (V := V) b S2 q205 q211 h212) rfl (gd (tw_755)) rfl rfl (tl tw_752) (tl tw_753) (tl tw_754) (tl tw_7) 1 pd_R_tagNow rfl ⟨rfl, rfl⟩ ⟨Nat.le_of_ble_eq_true rfl, Nat.le_of_ble_eq_true rfl⟩ rfl (Nat.le_of_ble_eq_true rfl) dL_law_630) (fun _ => rfl) ?_
  rintro r ⟨⟩ rfl
  refine wk_icmp_eq X dL_law_633 (tgt := 842) rfl (fun h213 => ?_) (fun h213 => ?_)
  · replace hf := p_it h213 hf
    refine wk_iinc X 3 dL_law_842 (v := (v3 + (6 : Int32))) rfl rfl (Nat.le_of_ble_eq_true rfl) (lv' := [(3, .int (v3 + (6 : Int32))), (0, .ref bs), (1, .ref (a 0)), (2, .ref (b 0))]) rfl ?_
    refine wk_goto X dL_law_845 (tgt := 18) rfl ?_
    refine wk_lv [1, 2, 3, 0] (lv' := [(0, .ref bs), (1, .ref (a 0)), (2, .ref (b 0)), (3, .int (v3 + (6 : Int32)))]) rfl ?_
    exact hK S S2 (v3 + (6 : Int32)) hf
  · replace hf := p_ie h213 hf
    refine wk_iconst X dL_law_636 (v := (0 : Int32)) (by decide) ?_
    exact absurd (Option.some.inj hf) (by decide)
set_option maxRecDepth 100000 in
set_option maxHeartbeats 4000000 in
theorem wL_law_L638 {V : ee_V} (a b : Nat → Nat) (ln : Nat) (xs : Nat → Int32) (bs : Nat) {x : wk_C} (X : wk_K (ee V) x code 4 "TagWorkshopLaw" ts_L_law room_1) (hX : va_X bs ln xs (wx_s x) (wx_H x)) (hbl : bs < (wx_H x).size) (hbA : ¬ wx_A x bs) (hend : ∀ ws lv, wk_G (ee V) x 4 ws 849 lv [.int 1]) (K : pX → pR → Int32 → Option (Bool)) (hK : ∀ (S : pX) (S2 : pR) (v3 : Int32), K S S2 v3 = some true → wk_G (ee V) x 4 (cX V a S ++ cR V b S2) 18 [(0, .ref bs), (1, .ref (a 0)), (2, .ref (b 0)), (3, .int v3)] []) : ∀ (S : pX) (S2 : pR) (v3 : Int32), fL_law_L638 ln xs K S S2 v3 = some true → wk_G (ee V) x 4 (cX V a S ++ cR V b S2) 638 [(0, .ref bs), (1, .ref (a 0)), (2, .ref (b 0)), (3, .int v3)] [] := by
  intro S S2 v3 hf
  unfold fL_law_L638 at hf
  refine wk_aload_n X 1 dL_law_638 rfl rfl ?_
  refine wk_aload_n X 0 dL_law_639 rfl rfl ?_
  refine wk_iload_n X 3 dL_law_640 rfl rfl ?_
  refine wk_iconst X dL_law_641 (v := (1 : Int32)) (by decide) ?_
  refine wk_iadd X dL_law_642 ?_
  obtain ⟨q215, h216, hf⟩ := p_ob hf
  obtain ⟨h216i, h216e⟩ := p_rd_some h216
  refine wk_sld X hX hbl hbA h216i h216e dL_law_643 ?_
  obtain ⟨q217, h218, hf⟩ := p_ob hf
  refine wk_goIl (wk_rVl X (mX_cyclicNow (V := V) a S q215 q217 h218) rfl (gd (tw_450)) rfl rfl (tl tw_447) (tl tw_448) (tl tw_449) (tl tw_1) 1 pd_X_cyclicNow rfl ⟨rfl, rfl⟩ ⟨Nat.le_of_ble_eq_true rfl, Nat.le_of_ble_eq_true rfl⟩ rfl (Nat.le_of_ble_eq_true rfl) dL_law_644) (fun _ => rfl) ?_
  rintro r ⟨⟩ rfl
  refine wk_aload_n X 2 dL_law_647 rfl rfl ?_
  refine wk_aload_n X 0 dL_law_648 rfl rfl ?_
  refine wk_iload_n X 3 dL_law_649 rfl rfl ?_
  refine wk_iconst X dL_law_650 (v := (1 : Int32)) (by decide) ?_
  refine wk_iadd X dL_law_651 ?_
  refine wk_sld X hX hbl hbA h216i h216e dL_law_652 ?_
  obtain ⟨q221, h222, hf⟩ := p_ob hf
  refine wk_goIr (wk_rVr X (mR_cyclicNow (V := V) b S2 q215 q221 h222) rfl (gd (tw_791)) rfl rfl (tl tw_788) (tl tw_789) (tl tw_790) (tl tw_7) 1 pd_R_cyclicNow rfl ⟨rfl, rfl⟩ ⟨Nat.le_of_ble_eq_true rfl, Nat.le_of_ble_eq_true rfl⟩ rfl (Nat.le_of_ble_eq_true rfl) dL_law_653) (fun _ => rfl) ?_
  rintro r ⟨⟩ rfl
  refine wk_icmp_eq X dL_law_656 (tgt := 842) rfl (fun h223 => ?_) (fun h223 => ?_)
  · replace hf := p_it h223 hf
    refine wk_iinc X 3 dL_law_842 (v := (v3 + (6 : Int32))) rfl rfl (Nat.le_of_ble_eq_true rfl) (lv' := [(3, .int (v3 + (6 : Int32))), (0, .ref bs), (1, .ref (a 0)), (2, .ref (b 0))]) rfl ?_
    refine wk_goto X dL_law_845 (tgt := 18) rfl ?_
    refine wk_lv [1, 2, 3, 0] (lv' := [(0, .ref bs), (1, .ref (a 0)), (2, .ref (b 0)), (3, .int (v3 + (6 : Int32)))]) rfl ?_
    exact hK S S2 (v3 + (6 : Int32)) hf
  · replace hf := p_ie h223 hf
    refine wk_iconst X dL_law_659 (v := (0 : Int32)) (by decide) ?_
    exact absurd (Option.some.inj hf) (by decide)
set_option maxRecDepth 100000 in
set_option maxHeartbeats 4000000 in
theorem wL_law_L661 {V : ee_V} (a b : Nat → Nat) (ln : Nat) (xs : Nat → Int32) (bs : Nat) {x : wk_C} (X : wk_K (ee V) x code 4 "TagWorkshopLaw" ts_L_law room_1) (hX : va_X bs ln xs (wx_s x) (wx_H x)) (hbl : bs < (wx_H x).size) (hbA : ¬ wx_A x bs) (hend : ∀ ws lv, wk_G (ee V) x 4 ws 849 lv [.int 1]) (K : pX → pR → Int32 → Option (Bool)) (hK : ∀ (S : pX) (S2 : pR) (v3 : Int32), K S S2 v3 = some true → wk_G (ee V) x 4 (cX V a S ++ cR V b S2) 18 [(0, .ref bs), (1, .ref (a 0)), (2, .ref (b 0)), (3, .int v3)] []) : ∀ (S : pX) (S2 : pR) (v3 : Int32), fL_law_L661 ln xs K S S2 v3 = some true → wk_G (ee V) x 4 (cX V a S ++ cR V b S2) 661 [(0, .ref bs), (1, .ref (a 0)), (2, .ref (b 0)), (3, .int v3)] [] := by
  intro S S2 v3 hf
  unfold fL_law_L661 at hf
  refine wk_aload_n X 1 dL_law_661 rfl rfl ?_
  refine wk_aload_n X 0 dL_law_662 rfl rfl ?_
  refine wk_iload_n X 3 dL_law_663 rfl rfl ?_
  refine wk_iconst X dL_law_664 (v := (1 : Int32)) (by decide) ?_
  refine wk_iadd X dL_law_665 ?_
  obtain ⟨q225, h226, hf⟩ := p_ob hf
  obtain ⟨h226i, h226e⟩ := p_rd_some h226
  refine wk_sld X hX hbl hbA h226i h226e dL_law_666 ?_
  obtain ⟨q227, h228, hf⟩ := p_ob hf
  refine wk_goIl (wk_rVl X (mX_tagLetter (V := V) a S q225 q227 h228) rfl (gd (tw_459)) rfl rfl (tl tw_456) (tl tw_457) (tl tw_458) (tl tw_1) 1 pd_X_tagLetter rfl ⟨rfl, rfl⟩ ⟨Nat.le_of_ble_eq_true rfl, Nat.le_of_ble_eq_true rfl⟩ rfl (Nat.le_of_ble_eq_true rfl) dL_law_667) (fun _ => rfl) ?_
  rintro r ⟨⟩ rfl
  refine wk_aload_n X 2 dL_law_670 rfl rfl ?_
  refine wk_aload_n X 0 dL_law_671 rfl rfl ?_
  refine wk_iload_n X 3 dL_law_672 rfl rfl ?_
  refine wk_iconst X dL_law_673 (v := (1 : Int32)) (by decide) ?_
  refine wk_iadd X dL_law_674 ?_
  refine wk_sld X hX hbl hbA h226i h226e dL_law_675 ?_
  obtain ⟨q231, h232, hf⟩ := p_ob hf
  refine wk_goIr (wk_rVr X (mR_tagLetter (V := V) b S2 q225 q231 h232) rfl (gd (tw_759)) rfl rfl (tl tw_756) (tl tw_757) (tl tw_758) (tl tw_7) 1 pd_R_tagLetter rfl ⟨rfl, rfl⟩ ⟨Nat.le_of_ble_eq_true rfl, Nat.le_of_ble_eq_true rfl⟩ rfl (Nat.le_of_ble_eq_true rfl) dL_law_676) (fun _ => rfl) ?_
  rintro r ⟨⟩ rfl
  refine wk_icmp_eq X dL_law_679 (tgt := 842) rfl (fun h233 => ?_) (fun h233 => ?_)
  · replace hf := p_it h233 hf
    refine wk_iinc X 3 dL_law_842 (v := (v3 + (6 : Int32))) rfl rfl (Nat.le_of_ble_eq_true rfl) (lv' := [(3, .int (v3 + (6 : Int32))), (0, .ref bs), (1, .ref (a 0)), (2, .ref (b 0))]) rfl ?_
    refine wk_goto X dL_law_845 (tgt := 18) rfl ?_
    refine wk_lv [1, 2, 3, 0] (lv' := [(0, .ref bs), (1, .ref (a 0)), (2, .ref (b 0)), (3, .int (v3 + (6 : Int32)))]) rfl ?_
    exact hK S S2 (v3 + (6 : Int32)) hf
  · replace hf := p_ie h233 hf
    refine wk_iconst X dL_law_682 (v := (0 : Int32)) (by decide) ?_
    exact absurd (Option.some.inj hf) (by decide)
set_option maxRecDepth 100000 in
set_option maxHeartbeats 4000000 in
theorem wL_law_L684 {V : ee_V} (a b : Nat → Nat) (ln : Nat) (xs : Nat → Int32) (bs : Nat) {x : wk_C} (X : wk_K (ee V) x code 4 "TagWorkshopLaw" ts_L_law room_1) (hX : va_X bs ln xs (wx_s x) (wx_H x)) (hbl : bs < (wx_H x).size) (hbA : ¬ wx_A x bs) (hend : ∀ ws lv, wk_G (ee V) x 4 ws 849 lv [.int 1]) (K : pX → pR → Int32 → Option (Bool)) (hK : ∀ (S : pX) (S2 : pR) (v3 : Int32), K S S2 v3 = some true → wk_G (ee V) x 4 (cX V a S ++ cR V b S2) 18 [(0, .ref bs), (1, .ref (a 0)), (2, .ref (b 0)), (3, .int v3)] []) : ∀ (S : pX) (S2 : pR) (v3 : Int32), fL_law_L684 ln xs K S S2 v3 = some true → wk_G (ee V) x 4 (cX V a S ++ cR V b S2) 684 [(0, .ref bs), (1, .ref (a 0)), (2, .ref (b 0)), (3, .int v3)] [] := by
  intro S S2 v3 hf
  unfold fL_law_L684 at hf
  refine wk_aload_n X 1 dL_law_684 rfl rfl ?_
  refine wk_aload_n X 0 dL_law_685 rfl rfl ?_
  refine wk_iload_n X 3 dL_law_686 rfl rfl ?_
  refine wk_iconst X dL_law_687 (v := (1 : Int32)) (by decide) ?_
  refine wk_iadd X dL_law_688 ?_
  obtain ⟨q235, h236, hf⟩ := p_ob hf
  obtain ⟨h236i, h236e⟩ := p_rd_some h236
  refine wk_sld X hX hbl hbA h236i h236e dL_law_689 ?_
  obtain ⟨q237, h238, hf⟩ := p_ob hf
  refine wk_goIl (wk_rVl X (mX_cyclicBit (V := V) a S q235 q237 h238) rfl (gd (tw_464)) rfl rfl (tl tw_461) (tl tw_462) (tl tw_463) (tl tw_1) 1 pd_X_cyclicBit rfl ⟨rfl, rfl⟩ ⟨Nat.le_of_ble_eq_true rfl, Nat.le_of_ble_eq_true rfl⟩ rfl (Nat.le_of_ble_eq_true rfl) dL_law_690) (fun _ => rfl) ?_
  rintro r ⟨⟩ rfl
  refine wk_aload_n X 2 dL_law_693 rfl rfl ?_
  refine wk_aload_n X 0 dL_law_694 rfl rfl ?_
  refine wk_iload_n X 3 dL_law_695 rfl rfl ?_
  refine wk_iconst X dL_law_696 (v := (1 : Int32)) (by decide) ?_
  refine wk_iadd X dL_law_697 ?_
  refine wk_sld X hX hbl hbA h236i h236e dL_law_698 ?_
  obtain ⟨q241, h242, hf⟩ := p_ob hf
  refine wk_goIr (wk_rVr X (mR_cyclicBit (V := V) b S2 q235 q241 h242) rfl (gd (tw_795)) rfl rfl (tl tw_792) (tl tw_793) (tl tw_794) (tl tw_7) 1 pd_R_cyclicBit rfl ⟨rfl, rfl⟩ ⟨Nat.le_of_ble_eq_true rfl, Nat.le_of_ble_eq_true rfl⟩ rfl (Nat.le_of_ble_eq_true rfl) dL_law_699) (fun _ => rfl) ?_
  rintro r ⟨⟩ rfl
  refine wk_icmp_eq X dL_law_702 (tgt := 842) rfl (fun h243 => ?_) (fun h243 => ?_)
  · replace hf := p_it h243 hf
    refine wk_iinc X 3 dL_law_842 (v := (v3 + (6 : Int32))) rfl rfl (Nat.le_of_ble_eq_true rfl) (lv' := [(3, .int (v3 + (6 : Int32))), (0, .ref bs), (1, .ref (a 0)), (2, .ref (b 0))]) rfl ?_
    refine wk_goto X dL_law_845 (tgt := 18) rfl ?_
    refine wk_lv [1, 2, 3, 0] (lv' := [(0, .ref bs), (1, .ref (a 0)), (2, .ref (b 0)), (3, .int (v3 + (6 : Int32)))]) rfl ?_
    exact hK S S2 (v3 + (6 : Int32)) hf
  · replace hf := p_ie h243 hf
    refine wk_iconst X dL_law_705 (v := (0 : Int32)) (by decide) ?_
    exact absurd (Option.some.inj hf) (by decide)
set_option maxRecDepth 100000 in
set_option maxHeartbeats 4000000 in
theorem wL_law_L707 {V : ee_V} (a b : Nat → Nat) (ln : Nat) (xs : Nat → Int32) (bs : Nat) {x : wk_C} (X : wk_K (ee V) x code 4 "TagWorkshopLaw" ts_L_law room_1) (hX : va_X bs ln xs (wx_s x) (wx_H x)) (hbl : bs < (wx_H x).size) (hbA : ¬ wx_A x bs) (hend : ∀ ws lv, wk_G (ee V) x 4 ws 849 lv [.int 1]) (K : pX → pR → Int32 → Option (Bool)) (hK : ∀ (S : pX) (S2 : pR) (v3 : Int32), K S S2 v3 = some true → wk_G (ee V) x 4 (cX V a S ++ cR V b S2) 18 [(0, .ref bs), (1, .ref (a 0)), (2, .ref (b 0)), (3, .int v3)] []) : ∀ (S : pX) (S2 : pR) (v3 : Int32), fL_law_L707 ln xs K S S2 v3 = some true → wk_G (ee V) x 4 (cX V a S ++ cR V b S2) 707 [(0, .ref bs), (1, .ref (a 0)), (2, .ref (b 0)), (3, .int v3)] [] := by
  intro S S2 v3 hf
  unfold fL_law_L707 at hf
  refine wk_aload_n X 1 dL_law_707 rfl rfl ?_
  refine wk_aload_n X 0 dL_law_708 rfl rfl ?_
  refine wk_iload_n X 3 dL_law_709 rfl rfl ?_
  refine wk_iconst X dL_law_710 (v := (1 : Int32)) (by decide) ?_
  refine wk_iadd X dL_law_711 ?_
  obtain ⟨q245, h246, hf⟩ := p_ob hf
  obtain ⟨h246i, h246e⟩ := p_rd_some h246
  refine wk_sld X hX hbl hbA h246i h246e dL_law_712 ?_
  obtain ⟨q247, h248, hf⟩ := p_ob hf
  refine wk_goIl (wk_rVl X (mX_decodeTag (V := V) a S q245 q247 h248) rfl (gd (tw_473)) rfl rfl (tl tw_470) (tl tw_471) (tl tw_472) (tl tw_1) 1 pd_X_decodeTag rfl ⟨rfl, rfl⟩ ⟨Nat.le_of_ble_eq_true rfl, Nat.le_of_ble_eq_true rfl⟩ rfl (Nat.le_of_ble_eq_true rfl) dL_law_713) (fun _ => rfl) ?_
  rintro r u ⟨rfl, rfl⟩
  refine wk_aload_n X 2 dL_law_716 rfl rfl ?_
  refine wk_aload_n X 0 dL_law_717 rfl rfl ?_
  refine wk_iload_n X 3 dL_law_718 rfl rfl ?_
  refine wk_iconst X dL_law_719 (v := (1 : Int32)) (by decide) ?_
  refine wk_iadd X dL_law_720 ?_
  refine wk_sld X hX hbl hbA h246i h246e dL_law_721 ?_
  obtain ⟨q251, h252, hf⟩ := p_ob hf
  refine wk_goIr (wk_rVr X (mR_decodeTag (V := V) b S2 q245 q251 h252) rfl (gd (tw_803)) rfl rfl (tl tw_800) (tl tw_801) (tl tw_802) (tl tw_7) 1 pd_R_decodeTag rfl ⟨rfl, rfl⟩ ⟨Nat.le_of_ble_eq_true rfl, Nat.le_of_ble_eq_true rfl⟩ rfl (Nat.le_of_ble_eq_true rfl) dL_law_722) (fun _ => rfl) ?_
  rintro r u ⟨rfl, rfl⟩
  refine wk_icmp_eq X dL_law_725 (tgt := 842) rfl (fun h253 => ?_) (fun h253 => ?_)
  · replace hf := p_it h253 hf
    refine wk_iinc X 3 dL_law_842 (v := (v3 + (6 : Int32))) rfl rfl (Nat.le_of_ble_eq_true rfl) (lv' := [(3, .int (v3 + (6 : Int32))), (0, .ref bs), (1, .ref (a 0)), (2, .ref (b 0))]) rfl ?_
    refine wk_goto X dL_law_845 (tgt := 18) rfl ?_
    refine wk_lv [1, 2, 3, 0] (lv' := [(0, .ref bs), (1, .ref (a 0)), (2, .ref (b 0)), (3, .int (v3 + (6 : Int32)))]) rfl ?_
    exact hK q247.2 q251.2 (v3 + (6 : Int32)) hf
  · replace hf := p_ie h253 hf
    refine wk_iconst X dL_law_728 (v := (0 : Int32)) (by decide) ?_
    exact absurd (Option.some.inj hf) (by decide)
set_option maxRecDepth 100000 in
set_option maxHeartbeats 4000000 in
theorem wL_law_L730 {V : ee_V} (a b : Nat → Nat) (ln : Nat) (xs : Nat → Int32) (bs : Nat) {x : wk_C} (X : wk_K (ee V) x code 4 "TagWorkshopLaw" ts_L_law room_1) (hX : va_X bs ln xs (wx_s x) (wx_H x)) (hbl : bs < (wx_H x).size) (hbA : ¬ wx_A x bs) (hend : ∀ ws lv, wk_G (ee V) x 4 ws 849 lv [.int 1]) (K : pX → pR → Int32 → Option (Bool)) (hK : ∀ (S : pX) (S2 : pR) (v3 : Int32), K S S2 v3 = some true → wk_G (ee V) x 4 (cX V a S ++ cR V b S2) 18 [(0, .ref bs), (1, .ref (a 0)), (2, .ref (b 0)), (3, .int v3)] []) : ∀ (S : pX) (S2 : pR) (v3 : Int32), fL_law_L730 ln xs K S S2 v3 = some true → wk_G (ee V) x 4 (cX V a S ++ cR V b S2) 730 [(0, .ref bs), (1, .ref (a 0)), (2, .ref (b 0)), (3, .int v3)] [] := by
  intro S S2 v3 hf
  unfold fL_law_L730 at hf
  refine wk_aload_n X 1 dL_law_730 rfl rfl ?_
  refine wk_aload_n X 0 dL_law_731 rfl rfl ?_
  refine wk_iload_n X 3 dL_law_732 rfl rfl ?_
  refine wk_iconst X dL_law_733 (v := (1 : Int32)) (by decide) ?_
  refine wk_iadd X dL_law_734 ?_
  obtain ⟨q255, h256, hf⟩ := p_ob hf
  obtain ⟨h256i, h256e⟩ := p_rd_some h256
  refine wk_sld X hX hbl hbA h256i h256e dL_law_735 ?_
  obtain ⟨q257, h258, hf⟩ := p_ob hf
  refine wk_goIl (wk_rVl X (mX_decodeCyclic (V := V) a S q255 q257 h258) rfl (gd (tw_497)) rfl rfl (tl tw_494) (tl tw_495) (tl tw_496) (tl tw_1) 1 pd_X_decodeCyclic rfl ⟨rfl, rfl⟩ ⟨Nat.le_of_ble_eq_true rfl, Nat.le_of_ble_eq_true rfl⟩ rfl (Nat.le_of_ble_eq_true rfl) dL_law_736) (fun _ => rfl) ?_
  rintro r ⟨⟩ rfl
  refine wk_aload_n X 2 dL_law_739 rfl rfl ?_
  refine wk_aload_n X 0 dL_law_740 rfl rfl ?_
  refine wk_iload_n X 3 dL_law_741 rfl rfl ?_
  refine wk_iconst X dL_law_742 (v := (1 : Int32)) (by decide) ?_
  refine wk_iadd X dL_law_743 ?_
  refine wk_sld X hX hbl hbA h256i h256e dL_law_744 ?_
  obtain ⟨q261, h262, hf⟩ := p_ob hf
  refine wk_goIr (wk_rVr X (mR_decodeCyclic (V := V) b S2 q255 q261 h262) rfl (gd (tw_799)) rfl rfl (tl tw_796) (tl tw_797) (tl tw_798) (tl tw_7) 1 pd_R_decodeCyclic rfl ⟨rfl, rfl⟩ ⟨Nat.le_of_ble_eq_true rfl, Nat.le_of_ble_eq_true rfl⟩ rfl (Nat.le_of_ble_eq_true rfl) dL_law_745) (fun _ => rfl) ?_
  rintro r ⟨⟩ rfl
  refine wk_icmp_eq X dL_law_748 (tgt := 842) rfl (fun h263 => ?_) (fun h263 => ?_)
  · replace hf := p_it h263 hf
    refine wk_iinc X 3 dL_law_842 (v := (v3 + (6 : Int32))) rfl rfl (Nat.le_of_ble_eq_true rfl) (lv' := [(3, .int (v3 + (6 : Int32))), (0, .ref bs), (1, .ref (a 0)), (2, .ref (b 0))]) rfl ?_
    refine wk_goto X dL_law_845 (tgt := 18) rfl ?_
    refine wk_lv [1, 2, 3, 0] (lv' := [(0, .ref bs), (1, .ref (a 0)), (2, .ref (b 0)), (3, .int (v3 + (6 : Int32)))]) rfl ?_
    exact hK S S2 (v3 + (6 : Int32)) hf
  · replace hf := p_ie h263 hf
    refine wk_iconst X dL_law_751 (v := (0 : Int32)) (by decide) ?_
    exact absurd (Option.some.inj hf) (by decide)

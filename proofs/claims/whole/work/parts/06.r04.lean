-- R_toTheRight: room (2, 45), Option (pR)
def fR_toTheRight (S : pR) (v1 : Int32) (v2 : Bool) (v3 : Int32) (v4 : Int32) : Option (pR) :=
  (fR_two S (v1 + (0 : Int32)) (v1 + (4 : Int32)) (0 : Int32)).bind fun q1 =>
  if v2 = true then (
    (fR_two q1 (v1 + (0 : Int32)) (v1 + (5 : Int32)) (0 : Int32)).bind fun q38 =>
    (fR_two q38 (v1 + (1 : Int32)) (v1 + (5 : Int32)) (0 : Int32)).bind fun q40 =>
    (fR_two q40 (v1 + (1 : Int32)) (v1 + (5 : Int32)) (0 : Int32)).bind fun q42 =>
    (fR_add q42 (v1 + (2 : Int32)) (v1 + (6 : Int32))).bind fun q44 =>
    (fR_add q44 (v1 + (3 : Int32)) (v1 + (7 : Int32))).bind fun q46 =>
    (fR_two q46 (v1 + (4 : Int32)) (v1 + (8 : Int32)) (v1 + (9 : Int32))).bind fun q48 =>
    (fR_two q48 (v1 + (5 : Int32)) (v1 + (10 : Int32)) (v1 + (11 : Int32))).bind fun q50 =>
    (fR_two q50 (v1 + (6 : Int32)) (v1 + (12 : Int32)) (v1 + (13 : Int32))).bind fun q52 =>
    (fR_two q52 (v1 + (7 : Int32)) (v1 + (14 : Int32)) (v1 + (15 : Int32))).bind fun q54 =>
    (fR_two q54 (v1 + (8 : Int32)) (v3 + (0 : Int32)) (0 : Int32)).bind fun q56 =>
    (fR_two q56 (v1 + (10 : Int32)) (v3 + (1 : Int32)) (0 : Int32)).bind fun q58 =>
    (fR_two q58 (v1 + (12 : Int32)) (v3 + (2 : Int32)) (0 : Int32)).bind fun q60 =>
    (fR_two q60 (v1 + (14 : Int32)) (v3 + (3 : Int32)) (0 : Int32)).bind fun q62 =>
    (fR_add q62 (v1 + (9 : Int32)) (0 : Int32)).bind fun q64 =>
    (fR_two q64 (v1 + (9 : Int32)) (v4 + (0 : Int32)) (0 : Int32)).bind fun q66 =>
    (fR_two q66 (v1 + (11 : Int32)) (v4 + (1 : Int32)) (0 : Int32)).bind fun q68 =>
    (fR_two q68 (v1 + (13 : Int32)) (v4 + (2 : Int32)) (0 : Int32)).bind fun q70 =>
    (fR_two q70 (v1 + (15 : Int32)) (v4 + (3 : Int32)) (0 : Int32)).bind fun q72 =>
    some q72
  ) else (
    (fR_two q1 (v1 + (1 : Int32)) (v1 + (5 : Int32)) (0 : Int32)).bind fun q4 =>
    (fR_two q4 (v1 + (1 : Int32)) (v1 + (5 : Int32)) (0 : Int32)).bind fun q6 =>
    (fR_add q6 (v1 + (2 : Int32)) (v1 + (6 : Int32))).bind fun q8 =>
    (fR_add q8 (v1 + (3 : Int32)) (v1 + (7 : Int32))).bind fun q10 =>
    (fR_two q10 (v1 + (4 : Int32)) (v1 + (8 : Int32)) (v1 + (9 : Int32))).bind fun q12 =>
    (fR_two q12 (v1 + (5 : Int32)) (v1 + (10 : Int32)) (v1 + (11 : Int32))).bind fun q14 =>
    (fR_two q14 (v1 + (6 : Int32)) (v1 + (12 : Int32)) (v1 + (13 : Int32))).bind fun q16 =>
    (fR_two q16 (v1 + (7 : Int32)) (v1 + (14 : Int32)) (v1 + (15 : Int32))).bind fun q18 =>
    (fR_two q18 (v1 + (8 : Int32)) (v3 + (0 : Int32)) (0 : Int32)).bind fun q20 =>
    (fR_two q20 (v1 + (10 : Int32)) (v3 + (1 : Int32)) (0 : Int32)).bind fun q22 =>
    (fR_two q22 (v1 + (12 : Int32)) (v3 + (2 : Int32)) (0 : Int32)).bind fun q24 =>
    (fR_two q24 (v1 + (14 : Int32)) (v3 + (3 : Int32)) (0 : Int32)).bind fun q26 =>
    (fR_add q26 (v1 + (9 : Int32)) (0 : Int32)).bind fun q28 =>
    (fR_two q28 (v1 + (9 : Int32)) (v4 + (0 : Int32)) (0 : Int32)).bind fun q30 =>
    (fR_two q30 (v1 + (11 : Int32)) (v4 + (1 : Int32)) (0 : Int32)).bind fun q32 =>
    (fR_two q32 (v1 + (13 : Int32)) (v4 + (2 : Int32)) (0 : Int32)).bind fun q34 =>
    (fR_two q34 (v1 + (15 : Int32)) (v4 + (3 : Int32)) (0 : Int32)).bind fun q36 =>
    some q36
  )
set_option maxRecDepth 100000 in
set_option maxHeartbeats 4000000 in
theorem mR_toTheRight {V : ee_V} (a : Nat → Nat) (S : pR) (v1 : Int32) (v2 : Bool) (v3 : Int32) (v4 : Int32) (R : pR) (hf : fR_toTheRight S v1 v2 v3 v4 = some R) : wk_V (ee V) yR_toTheRight ts_R_toTheRight ⟨2, 0, 0, 45⟩ [.ref (a 0), .int v1, .int (p_b v2), .int v3, .int v4] (cR V a S) (fun u : pR => R = u) (fun u : pR => cR V a u) := by
  refine wk_of (ee_ok V) (by decide +kernel) rfl (Nat.le_of_ble_eq_true rfl) ?_
  intro x X Z
  unfold fR_toTheRight at hf
  refine wk_lq (lv' := [(0, .ref (a 0)), (1, .int v1), (2, .int (p_b v2)), (3, .int v3), (4, .int v4)]) rfl ?_
  refine wk_aload_n X 0 dR_toTheRight_0 rfl rfl ?_
  refine wk_iload_n X 1 dR_toTheRight_1 rfl rfl ?_
  refine wk_iconst X dR_toTheRight_2 (v := (0 : Int32)) (by decide) ?_
  refine wk_iadd X dR_toTheRight_3 ?_
  refine wk_iload_n X 1 dR_toTheRight_4 rfl rfl ?_
  refine wk_iconst X dR_toTheRight_5 (v := (4 : Int32)) (by decide) ?_
  refine wk_iadd X dR_toTheRight_6 ?_
  refine wk_iconst X dR_toTheRight_7 (v := (0 : Int32)) (by decide) ?_
  obtain ⟨q1, h2, hf⟩ := p_ob hf
  refine wk_goV [0, 1, 2, 3, 4, 5, 6, 7, 8, 9, 10, 11, 12] (wk_rV X (mR_two (V := V) a S (v1 + (0 : Int32)) (v1 + (4 : Int32)) (0 : Int32) q1 h2) rfl (gd (tw_694)) [0, 1, 2, 3, 4, 5, 6, 7, 8, 9, 10, 11, 12] rfl rfl 0 rfl rfl (tl tw_691) (tl tw_693) (tl tv_11) (tl tw_7) 3 pd_R_two rfl ⟨rfl, rfl⟩ ⟨Nat.le_of_ble_eq_true rfl, Nat.le_of_ble_eq_true rfl⟩ rfl (Nat.le_of_ble_eq_true rfl) dR_toTheRight_8) rfl ?_
  rintro u rfl
  refine wk_ws (ws' := cR V a q1) rfl ?_
  refine wk_iload_n X 2 dR_toTheRight_11 rfl rfl ?_
  refine wk_bz_eq X dR_toTheRight_12 (tgt := 26) rfl (fun h3 => ?_) (fun h3 => ?_)
  · replace hf := p_ie h3 hf
    refine wk_aload_n X 0 dR_toTheRight_26 rfl rfl ?_
    refine wk_iload_n X 1 dR_toTheRight_27 rfl rfl ?_
    refine wk_iconst X dR_toTheRight_28 (v := (1 : Int32)) (by decide) ?_
    refine wk_iadd X dR_toTheRight_29 ?_
    refine wk_iload_n X 1 dR_toTheRight_30 rfl rfl ?_
    refine wk_iconst X dR_toTheRight_31 (v := (5 : Int32)) (by decide) ?_
    refine wk_iadd X dR_toTheRight_32 ?_
    refine wk_iconst X dR_toTheRight_33 (v := (0 : Int32)) (by decide) ?_
    obtain ⟨q4, h5, hf⟩ := p_ob hf
    refine wk_goV [0, 1, 2, 3, 4, 5, 6, 7, 8, 9, 10, 11, 12] (wk_rV X (mR_two (V := V) a q1 (v1 + (1 : Int32)) (v1 + (5 : Int32)) (0 : Int32) q4 h5) rfl (gd (tw_694)) [0, 1, 2, 3, 4, 5, 6, 7, 8, 9, 10, 11, 12] rfl rfl 0 rfl rfl (tl tw_691) (tl tw_693) (tl tv_11) (tl tw_7) 3 pd_R_two rfl ⟨rfl, rfl⟩ ⟨Nat.le_of_ble_eq_true rfl, Nat.le_of_ble_eq_true rfl⟩ rfl (Nat.le_of_ble_eq_true rfl) dR_toTheRight_34) rfl ?_
    rintro u rfl
    refine wk_ws (ws' := cR V a q4) rfl ?_
    refine wk_aload_n X 0 dR_toTheRight_37 rfl rfl ?_
    refine wk_iload_n X 1 dR_toTheRight_38 rfl rfl ?_
    refine wk_iconst X dR_toTheRight_39 (v := (1 : Int32)) (by decide) ?_
    refine wk_iadd X dR_toTheRight_40 ?_
    refine wk_iload_n X 1 dR_toTheRight_41 rfl rfl ?_
    refine wk_iconst X dR_toTheRight_42 (v := (5 : Int32)) (by decide) ?_
    refine wk_iadd X dR_toTheRight_43 ?_
    refine wk_iconst X dR_toTheRight_44 (v := (0 : Int32)) (by decide) ?_
    obtain ⟨q6, h7, hf⟩ := p_ob hf
    refine wk_goV [0, 1, 2, 3, 4, 5, 6, 7, 8, 9, 10, 11, 12] (wk_rV X (mR_two (V := V) a q4 (v1 + (1 : Int32)) (v1 + (5 : Int32)) (0 : Int32) q6 h7) rfl (gd (tw_694)) [0, 1, 2, 3, 4, 5, 6, 7, 8, 9, 10, 11, 12] rfl rfl 0 rfl rfl (tl tw_691) (tl tw_693) (tl tv_11) (tl tw_7) 3 pd_R_two rfl ⟨rfl, rfl⟩ ⟨Nat.le_of_ble_eq_true rfl, Nat.le_of_ble_eq_true rfl⟩ rfl (Nat.le_of_ble_eq_true rfl) dR_toTheRight_45) rfl ?_
    rintro u rfl
    refine wk_ws (ws' := cR V a q6) rfl ?_
    refine wk_aload_n X 0 dR_toTheRight_48 rfl rfl ?_
    refine wk_iload_n X 1 dR_toTheRight_49 rfl rfl ?_
    refine wk_iconst X dR_toTheRight_50 (v := (2 : Int32)) (by decide) ?_
    refine wk_iadd X dR_toTheRight_51 ?_
    refine wk_iload_n X 1 dR_toTheRight_52 rfl rfl ?_
    refine wk_bipush X dR_toTheRight_53 (v := (6 : Int32)) (by decide) ?_
    refine wk_iadd X dR_toTheRight_55 ?_
    obtain ⟨q8, h9, hf⟩ := p_ob hf
    refine wk_goV [0, 1, 2, 3, 4, 5, 6, 7, 8, 9, 10, 11, 12] (wk_rV X (mR_add (V := V) a q6 (v1 + (2 : Int32)) (v1 + (6 : Int32)) q8 h9) rfl (gd (tw_698)) [0, 1, 2, 3, 4, 5, 6, 7, 8, 9, 10, 11, 12] rfl rfl 0 rfl rfl (tl tw_695) (tl tw_697) (tl tv_12) (tl tw_7) 2 pd_R_add rfl ⟨rfl, rfl⟩ ⟨Nat.le_of_ble_eq_true rfl, Nat.le_of_ble_eq_true rfl⟩ rfl (Nat.le_of_ble_eq_true rfl) dR_toTheRight_56) rfl ?_
    rintro u rfl
    refine wk_ws (ws' := cR V a q8) rfl ?_
    refine wk_aload_n X 0 dR_toTheRight_59 rfl rfl ?_
    refine wk_iload_n X 1 dR_toTheRight_60 rfl rfl ?_
    refine wk_iconst X dR_toTheRight_61 (v := (3 : Int32)) (by decide) ?_
    refine wk_iadd X dR_toTheRight_62 ?_
    refine wk_iload_n X 1 dR_toTheRight_63 rfl rfl ?_
    refine wk_bipush X dR_toTheRight_64 (v := (7 : Int32)) (by decide) ?_
    refine wk_iadd X dR_toTheRight_66 ?_
    obtain ⟨q10, h11, hf⟩ := p_ob hf
    refine wk_goV [0, 1, 2, 3, 4, 5, 6, 7, 8, 9, 10, 11, 12] (wk_rV X (mR_add (V := V) a q8 (v1 + (3 : Int32)) (v1 + (7 : Int32)) q10 h11) rfl (gd (tw_698)) [0, 1, 2, 3, 4, 5, 6, 7, 8, 9, 10, 11, 12] rfl rfl 0 rfl rfl (tl tw_695) (tl tw_697) (tl tv_12) (tl tw_7) 2 pd_R_add rfl ⟨rfl, rfl⟩ ⟨Nat.le_of_ble_eq_true rfl, Nat.le_of_ble_eq_true rfl⟩ rfl (Nat.le_of_ble_eq_true rfl) dR_toTheRight_67) rfl ?_
    rintro u rfl
    refine wk_ws (ws' := cR V a q10) rfl ?_
    refine wk_aload_n X 0 dR_toTheRight_70 rfl rfl ?_
    refine wk_iload_n X 1 dR_toTheRight_71 rfl rfl ?_
    refine wk_iconst X dR_toTheRight_72 (v := (4 : Int32)) (by decide) ?_
    refine wk_iadd X dR_toTheRight_73 ?_
    refine wk_iload_n X 1 dR_toTheRight_74 rfl rfl ?_
    refine wk_bipush X dR_toTheRight_75 (v := (8 : Int32)) (by decide) ?_
    refine wk_iadd X dR_toTheRight_77 ?_
    refine wk_iload_n X 1 dR_toTheRight_78 rfl rfl ?_
    refine wk_bipush X dR_toTheRight_79 (v := (9 : Int32)) (by decide) ?_
    refine wk_iadd X dR_toTheRight_81 ?_
    obtain ⟨q12, h13, hf⟩ := p_ob hf
    refine wk_goV [0, 1, 2, 3, 4, 5, 6, 7, 8, 9, 10, 11, 12] (wk_rV X (mR_two (V := V) a q10 (v1 + (4 : Int32)) (v1 + (8 : Int32)) (v1 + (9 : Int32)) q12 h13) rfl (gd (tw_694)) [0, 1, 2, 3, 4, 5, 6, 7, 8, 9, 10, 11, 12] rfl rfl 0 rfl rfl (tl tw_691) (tl tw_693) (tl tv_11) (tl tw_7) 3 pd_R_two rfl ⟨rfl, rfl⟩ ⟨Nat.le_of_ble_eq_true rfl, Nat.le_of_ble_eq_true rfl⟩ rfl (Nat.le_of_ble_eq_true rfl) dR_toTheRight_82) rfl ?_
    rintro u rfl
    refine wk_ws (ws' := cR V a q12) rfl ?_
    refine wk_aload_n X 0 dR_toTheRight_85 rfl rfl ?_
    refine wk_iload_n X 1 dR_toTheRight_86 rfl rfl ?_
    refine wk_iconst X dR_toTheRight_87 (v := (5 : Int32)) (by decide) ?_
    refine wk_iadd X dR_toTheRight_88 ?_
    refine wk_iload_n X 1 dR_toTheRight_89 rfl rfl ?_
    refine wk_bipush X dR_toTheRight_90 (v := (10 : Int32)) (by decide) ?_
    refine wk_iadd X dR_toTheRight_92 ?_
    refine wk_iload_n X 1 dR_toTheRight_93 rfl rfl ?_
    refine wk_bipush X dR_toTheRight_94 (v := (11 : Int32)) (by decide) ?_
    refine wk_iadd X dR_toTheRight_96 ?_
    obtain ⟨q14, h15, hf⟩ := p_ob hf
    refine wk_goV [0, 1, 2, 3, 4, 5, 6, 7, 8, 9, 10, 11, 12] (wk_rV X (mR_two (V := V) a q12 (v1 + (5 : Int32)) (v1 + (10 : Int32)) (v1 + (11 : Int32)) q14 h15) rfl (gd (tw_694)) [0, 1, 2, 3, 4, 5, 6, 7, 8, 9, 10, 11, 12] rfl rfl 0 rfl rfl (tl tw_691) (tl tw_693) (tl tv_11) (tl tw_7) 3 pd_R_two rfl ⟨rfl, rfl⟩ ⟨Nat.le_of_ble_eq_true rfl, Nat.le_of_ble_eq_true rfl⟩ rfl (Nat.le_of_ble_eq_true rfl) dR_toTheRight_97) rfl ?_
    rintro u rfl
    refine wk_ws (ws' := cR V a q14) rfl ?_
    refine wk_aload_n X 0 dR_toTheRight_100 rfl rfl ?_
    refine wk_iload_n X 1 dR_toTheRight_101 rfl rfl ?_
    refine wk_bipush X dR_toTheRight_102 (v := (6 : Int32)) (by decide) ?_
    refine wk_iadd X dR_toTheRight_104 ?_
    refine wk_iload_n X 1 dR_toTheRight_105 rfl rfl ?_
    refine wk_bipush X dR_toTheRight_106 (v := (12 : Int32)) (by decide) ?_
    refine wk_iadd X dR_toTheRight_108 ?_
    refine wk_iload_n X 1 dR_toTheRight_109 rfl rfl ?_
    refine wk_bipush X dR_toTheRight_110 (v := (13 : Int32)) (by decide) ?_
    refine wk_iadd X dR_toTheRight_112 ?_
    obtain ⟨q16, h17, hf⟩ := p_ob hf
    refine wk_goV [0, 1, 2, 3, 4, 5, 6, 7, 8, 9, 10, 11, 12] (wk_rV X (mR_two (V := V) a q14 (v1 + (6 : Int32)) (v1 + (12 : Int32)) (v1 + (13 : Int32)) q16 h17) rfl (gd (tw_694)) [0, 1, 2, 3, 4, 5, 6, 7, 8, 9, 10, 11, 12] rfl rfl 0 rfl rfl (tl tw_691) (tl tw_693) (tl tv_11) (tl tw_7) 3 pd_R_two rfl ⟨rfl, rfl⟩ ⟨Nat.le_of_ble_eq_true rfl, Nat.le_of_ble_eq_true rfl⟩ rfl (Nat.le_of_ble_eq_true rfl) dR_toTheRight_113) rfl ?_
    rintro u rfl
    refine wk_ws (ws' := cR V a q16) rfl ?_
    refine wk_aload_n X 0 dR_toTheRight_116 rfl rfl ?_
    refine wk_iload_n X 1 dR_toTheRight_117 rfl rfl ?_
    refine wk_bipush X dR_toTheRight_118 (v := (7 : Int32)) (by decide) ?_
    refine wk_iadd X dR_toTheRight_120 ?_
    refine wk_iload_n X 1 dR_toTheRight_121 rfl rfl ?_
    refine wk_bipush X dR_toTheRight_122 (v := (14 : Int32)) (by decide) ?_
    refine wk_iadd X dR_toTheRight_124 ?_
    refine wk_iload_n X 1 dR_toTheRight_125 rfl rfl ?_
    refine wk_bipush X dR_toTheRight_126 (v := (15 : Int32)) (by decide) ?_
    refine wk_iadd X dR_toTheRight_128 ?_
    obtain ⟨q18, h19, hf⟩ := p_ob hf
    refine wk_goV [0, 1, 2, 3, 4, 5, 6, 7, 8, 9, 10, 11, 12] (wk_rV X (mR_two (V := V) a q16 (v1 + (7 : Int32)) (v1 + (14 : Int32)) (v1 + (15 : Int32)) q18 h19) rfl (gd (tw_694)) [0, 1, 2, 3, 4, 5, 6, 7, 8, 9, 10, 11, 12] rfl rfl 0 rfl rfl (tl tw_691) (tl tw_693) (tl tv_11) (tl tw_7) 3 pd_R_two rfl ⟨rfl, rfl⟩ ⟨Nat.le_of_ble_eq_true rfl, Nat.le_of_ble_eq_true rfl⟩ rfl (Nat.le_of_ble_eq_true rfl) dR_toTheRight_129) rfl ?_
    rintro u rfl
    refine wk_ws (ws' := cR V a q18) rfl ?_
    refine wk_aload_n X 0 dR_toTheRight_132 rfl rfl ?_
    refine wk_iload_n X 1 dR_toTheRight_133 rfl rfl ?_
    refine wk_bipush X dR_toTheRight_134 (v := (8 : Int32)) (by decide) ?_
    refine wk_iadd X dR_toTheRight_136 ?_
    refine wk_iload_n X 3 dR_toTheRight_137 rfl rfl ?_
    refine wk_iconst X dR_toTheRight_138 (v := (0 : Int32)) (by decide) ?_
    refine wk_iadd X dR_toTheRight_139 ?_
    refine wk_iconst X dR_toTheRight_140 (v := (0 : Int32)) (by decide) ?_
    obtain ⟨q20, h21, hf⟩ := p_ob hf
    refine wk_goV [0, 1, 2, 3, 4, 5, 6, 7, 8, 9, 10, 11, 12] (wk_rV X (mR_two (V := V) a q18 (v1 + (8 : Int32)) (v3 + (0 : Int32)) (0 : Int32) q20 h21) rfl (gd (tw_694)) [0, 1, 2, 3, 4, 5, 6, 7, 8, 9, 10, 11, 12] rfl rfl 0 rfl rfl (tl tw_691) (tl tw_693) (tl tv_11) (tl tw_7) 3 pd_R_two rfl ⟨rfl, rfl⟩ ⟨Nat.le_of_ble_eq_true rfl, Nat.le_of_ble_eq_true rfl⟩ rfl (Nat.le_of_ble_eq_true rfl) dR_toTheRight_141) rfl ?_
    rintro u rfl
    refine wk_ws (ws' := cR V a q20) rfl ?_
    refine wk_aload_n X 0 dR_toTheRight_144 rfl rfl ?_
    refine wk_iload_n X 1 dR_toTheRight_145 rfl rfl ?_
    refine wk_bipush X dR_toTheRight_146 (v := (10 : Int32)) (by decide) ?_
    refine wk_iadd X dR_toTheRight_148 ?_
    refine wk_iload_n X 3 dR_toTheRight_149 rfl rfl ?_
    refine wk_iconst X dR_toTheRight_150 (v := (1 : Int32)) (by decide) ?_
    refine wk_iadd X dR_toTheRight_151 ?_
    refine wk_iconst X dR_toTheRight_152 (v := (0 : Int32)) (by decide) ?_
    obtain ⟨q22, h23, hf⟩ := p_ob hf
    refine wk_goV [0, 1, 2, 3, 4, 5, 6, 7, 8, 9, 10, 11, 12] (wk_rV X (mR_two (V := V) a q20 (v1 + (10 : Int32)) (v3 + (1 : Int32)) (0 : Int32) q22 h23) rfl (gd (tw_694)) [0, 1, 2, 3, 4, 5, 6, 7, 8, 9, 10, 11, 12] rfl rfl 0 rfl rfl (tl tw_691) (tl tw_693) (tl tv_11) (tl tw_7) 3 pd_R_two rfl ⟨rfl, rfl⟩ ⟨Nat.le_of_ble_eq_true rfl, Nat.le_of_ble_eq_true rfl⟩ rfl (Nat.le_of_ble_eq_true rfl) dR_toTheRight_153) rfl ?_
    rintro u rfl
    refine wk_ws (ws' := cR V a q22) rfl ?_
    refine wk_aload_n X 0 dR_toTheRight_156 rfl rfl ?_
    refine wk_iload_n X 1 dR_toTheRight_157 rfl rfl ?_
    refine wk_bipush X dR_toTheRight_158 (v := (12 : Int32)) (by decide) ?_
    refine wk_iadd X dR_toTheRight_160 ?_
    refine wk_iload_n X 3 dR_toTheRight_161 rfl rfl ?_
    refine wk_iconst X dR_toTheRight_162 (v := (2 : Int32)) (by decide) ?_
    refine wk_iadd X dR_toTheRight_163 ?_
    refine wk_iconst X dR_toTheRight_164 (v := (0 : Int32)) (by decide) ?_
    obtain ⟨q24, h25, hf⟩ := p_ob hf
    refine wk_goV [0, 1, 2, 3, 4, 5, 6, 7, 8, 9, 10, 11, 12] (wk_rV X (mR_two (V := V) a q22 (v1 + (12 : Int32)) (v3 + (2 : Int32)) (0 : Int32) q24 h25) rfl (gd (tw_694)) [0, 1, 2, 3, 4, 5, 6, 7, 8, 9, 10, 11, 12] rfl rfl 0 rfl rfl (tl tw_691) (tl tw_693) (tl tv_11) (tl tw_7) 3 pd_R_two rfl ⟨rfl, rfl⟩ ⟨Nat.le_of_ble_eq_true rfl, Nat.le_of_ble_eq_true rfl⟩ rfl (Nat.le_of_ble_eq_true rfl) dR_toTheRight_165) rfl ?_
    rintro u rfl
    refine wk_ws (ws' := cR V a q24) rfl ?_
    refine wk_aload_n X 0 dR_toTheRight_168 rfl rfl ?_
    refine wk_iload_n X 1 dR_toTheRight_169 rfl rfl ?_
    refine wk_bipush X dR_toTheRight_170 (v := (14 : Int32)) (by decide) ?_
    refine wk_iadd X dR_toTheRight_172 ?_
    refine wk_iload_n X 3 dR_toTheRight_173 rfl rfl ?_
    refine wk_iconst X dR_toTheRight_174 (v := (3 : Int32)) (by decide) ?_
    refine wk_iadd X dR_toTheRight_175 ?_
    refine wk_iconst X dR_toTheRight_176 (v := (0 : Int32)) (by decide) ?_
    obtain ⟨q26, h27, hf⟩ := p_ob hf
    refine wk_goV [0, 1, 2, 3, 4, 5, 6, 7, 8, 9, 10, 11, 12] (wk_rV X (mR_two (V := V) a q24 (v1 + (14 : Int32)) (v3 + (3 : Int32)) (0 : Int32) q26 h27) rfl (gd (tw_694)) [0, 1, 2, 3, 4, 5, 6, 7, 8, 9, 10, 11, 12] rfl rfl 0 rfl rfl (tl tw_691) (tl tw_693) (tl tv_11) (tl tw_7) 3 pd_R_two rfl ⟨rfl, rfl⟩ ⟨Nat.le_of_ble_eq_true rfl, Nat.le_of_ble_eq_true rfl⟩ rfl (Nat.le_of_ble_eq_true rfl) dR_toTheRight_177) rfl ?_
    rintro u rfl
    refine wk_ws (ws' := cR V a q26) rfl ?_
    refine wk_aload_n X 0 dR_toTheRight_180 rfl rfl ?_
    refine wk_iload_n X 1 dR_toTheRight_181 rfl rfl ?_
    refine wk_bipush X dR_toTheRight_182 (v := (9 : Int32)) (by decide) ?_
    refine wk_iadd X dR_toTheRight_184 ?_
    refine wk_iconst X dR_toTheRight_185 (v := (0 : Int32)) (by decide) ?_
    obtain ⟨q28, h29, hf⟩ := p_ob hf
    refine wk_goV [0, 1, 2, 3, 4, 5, 6, 7, 8, 9, 10, 11, 12] (wk_rV X (mR_add (V := V) a q26 (v1 + (9 : Int32)) (0 : Int32) q28 h29) rfl (gd (tw_698)) [0, 1, 2, 3, 4, 5, 6, 7, 8, 9, 10, 11, 12] rfl rfl 0 rfl rfl (tl tw_695) (tl tw_697) (tl tv_12) (tl tw_7) 2 pd_R_add rfl ⟨rfl, rfl⟩ ⟨Nat.le_of_ble_eq_true rfl, Nat.le_of_ble_eq_true rfl⟩ rfl (Nat.le_of_ble_eq_true rfl) dR_toTheRight_186) rfl ?_
    rintro u rfl
    refine wk_ws (ws' := cR V a q28) rfl ?_
    refine wk_aload_n X 0 dR_toTheRight_189 rfl rfl ?_
    refine wk_iload_n X 1 dR_toTheRight_190 rfl rfl ?_
    refine wk_bipush X dR_toTheRight_191 (v := (9 : Int32)) (by decide) ?_
    refine wk_iadd X dR_toTheRight_193 ?_
    refine wk_iload X 4 dR_toTheRight_194 rfl ?_
    refine wk_iconst X dR_toTheRight_196 (v := (0 : Int32)) (by decide) ?_
    refine wk_iadd X dR_toTheRight_197 ?_
    refine wk_iconst X dR_toTheRight_198 (v := (0 : Int32)) (by decide) ?_
    obtain ⟨q30, h31, hf⟩ := p_ob hf
    refine wk_goV [0, 1, 2, 3, 4, 5, 6, 7, 8, 9, 10, 11, 12] (wk_rV X (mR_two (V := V) a q28 (v1 + (9 : Int32)) (v4 + (0 : Int32)) (0 : Int32) q30 h31) rfl (gd (tw_694)) [0, 1, 2, 3, 4, 5, 6, 7, 8, 9, 10, 11, 12] rfl rfl 0 rfl rfl (tl tw_691) (tl tw_693) (tl tv_11) (tl tw_7) 3 pd_R_two rfl ⟨rfl, rfl⟩ ⟨Nat.le_of_ble_eq_true rfl, Nat.le_of_ble_eq_true rfl⟩ rfl (Nat.le_of_ble_eq_true rfl) dR_toTheRight_199) rfl ?_
    rintro u rfl
    refine wk_ws (ws' := cR V a q30) rfl ?_
    refine wk_aload_n X 0 dR_toTheRight_202 rfl rfl ?_
    refine wk_iload_n X 1 dR_toTheRight_203 rfl rfl ?_
    refine wk_bipush X dR_toTheRight_204 (v := (11 : Int32)) (by decide) ?_
    refine wk_iadd X dR_toTheRight_206 ?_
    refine wk_iload X 4 dR_toTheRight_207 rfl ?_
    refine wk_iconst X dR_toTheRight_209 (v := (1 : Int32)) (by decide) ?_
    refine wk_iadd X dR_toTheRight_210 ?_
    refine wk_iconst X dR_toTheRight_211 (v := (0 : Int32)) (by decide) ?_
    obtain ⟨q32, h33, hf⟩ := p_ob hf
    refine wk_goV [0, 1, 2, 3, 4, 5, 6, 7, 8, 9, 10, 11, 12] (wk_rV X (mR_two (V := V) a q30 (v1 + (11 : Int32)) (v4 + (1 : Int32)) (0 : Int32) q32 h33) rfl (gd (tw_694)) [0, 1, 2, 3, 4, 5, 6, 7, 8, 9, 10, 11, 12] rfl rfl 0 rfl rfl (tl tw_691) (tl tw_693) (tl tv_11) (tl tw_7) 3 pd_R_two rfl ⟨rfl, rfl⟩ ⟨Nat.le_of_ble_eq_true rfl, Nat.le_of_ble_eq_true rfl⟩ rfl (Nat.le_of_ble_eq_true rfl) dR_toTheRight_212) rfl ?_
    rintro u rfl
    refine wk_ws (ws' := cR V a q32) rfl ?_
    refine wk_aload_n X 0 dR_toTheRight_215 rfl rfl ?_
    refine wk_iload_n X 1 dR_toTheRight_216 rfl rfl ?_
    refine wk_bipush X dR_toTheRight_217 (v := (13 : Int32)) (by decide) ?_
    refine wk_iadd X dR_toTheRight_219 ?_
    refine wk_iload X 4 dR_toTheRight_220 rfl ?_
    refine wk_iconst X dR_toTheRight_222 (v := (2 : Int32)) (by decide) ?_
    refine wk_iadd X dR_toTheRight_223 ?_
    refine wk_iconst X dR_toTheRight_224 (v := (0 : Int32)) (by decide) ?_
    obtain ⟨q34, h35, hf⟩ := p_ob hf
    refine wk_goV [0, 1, 2, 3, 4, 5, 6, 7, 8, 9, 10, 11, 12] (wk_rV X (mR_two (V := V) a q32 (v1 + (13 : Int32)) (v4 + (2 : Int32)) (0 : Int32) q34 h35) rfl (gd (tw_694)) [0, 1, 2, 3, 4, 5, 6, 7, 8, 9, 10, 11, 12] rfl rfl 0 rfl rfl (tl tw_691) (tl tw_693) (tl tv_11) (tl tw_7) 3 pd_R_two rfl ⟨rfl, rfl⟩ ⟨Nat.le_of_ble_eq_true rfl, Nat.le_of_ble_eq_true rfl⟩ rfl (Nat.le_of_ble_eq_true rfl) dR_toTheRight_225) rfl ?_
    rintro u rfl
    refine wk_ws (ws' := cR V a q34) rfl ?_
    refine wk_aload_n X 0 dR_toTheRight_228 rfl rfl ?_
    refine wk_iload_n X 1 dR_toTheRight_229 rfl rfl ?_
    refine wk_bipush X dR_toTheRight_230 (v := (15 : Int32)) (by decide) ?_
    refine wk_iadd X dR_toTheRight_232 ?_
    refine wk_iload X 4 dR_toTheRight_233 rfl ?_
    refine wk_iconst X dR_toTheRight_235 (v := (3 : Int32)) (by decide) ?_
    refine wk_iadd X dR_toTheRight_236 ?_
    refine wk_iconst X dR_toTheRight_237 (v := (0 : Int32)) (by decide) ?_
    obtain ⟨q36, h37, hf⟩ := p_ob hf
    refine wk_goV [0, 1, 2, 3, 4, 5, 6, 7, 8, 9, 10, 11, 12] (wk_rV X (mR_two (V := V) a q34 (v1 + (15 : Int32)) (v4 + (3 : Int32)) (0 : Int32) q36 h37) rfl (gd (tw_694)) [0, 1, 2, 3, 4, 5, 6, 7, 8, 9, 10, 11, 12] rfl rfl 0 rfl rfl (tl tw_691) (tl tw_693) (tl tv_11) (tl tw_7) 3 pd_R_two rfl ⟨rfl, rfl⟩ ⟨Nat.le_of_ble_eq_true rfl, Nat.le_of_ble_eq_true rfl⟩ rfl (Nat.le_of_ble_eq_true rfl) dR_toTheRight_238) rfl ?_
    rintro u rfl
    refine wk_ws (ws' := cR V a q36) rfl ?_
    have hf := Option.some.inj hf
    exact wk_vret X Z dR_toTheRight_241 (q36) (Eq.symm hf) rfl rfl
  · replace hf := p_it h3 hf
    refine wk_aload_n X 0 dR_toTheRight_15 rfl rfl ?_
    refine wk_iload_n X 1 dR_toTheRight_16 rfl rfl ?_
    refine wk_iconst X dR_toTheRight_17 (v := (0 : Int32)) (by decide) ?_
    refine wk_iadd X dR_toTheRight_18 ?_
    refine wk_iload_n X 1 dR_toTheRight_19 rfl rfl ?_
    refine wk_iconst X dR_toTheRight_20 (v := (5 : Int32)) (by decide) ?_
    refine wk_iadd X dR_toTheRight_21 ?_
    refine wk_iconst X dR_toTheRight_22 (v := (0 : Int32)) (by decide) ?_
    obtain ⟨q38, h39, hf⟩ := p_ob hf
    refine wk_goV [0, 1, 2, 3, 4, 5, 6, 7, 8, 9, 10, 11, 12] (wk_rV X (mR_two (V := V) a q1 (v1 + (0 : Int32)) (v1 + (5 : Int32)) (0 : Int32) q38 h39) rfl (gd (tw_694)) [0, 1, 2, 3, 4, 5, 6, 7, 8, 9, 10, 11, 12] rfl rfl 0 rfl rfl (tl tw_691) (tl tw_693) (tl tv_11) (tl tw_7) 3 pd_R_two rfl ⟨rfl, rfl⟩ ⟨Nat.le_of_ble_eq_true rfl, Nat.le_of_ble_eq_true rfl⟩ rfl (Nat.le_of_ble_eq_true rfl) dR_toTheRight_23) rfl ?_
    rintro u rfl
    refine wk_ws (ws' := cR V a q38) rfl ?_
    refine wk_aload_n X 0 dR_toTheRight_26 rfl rfl ?_
    refine wk_iload_n X 1 dR_toTheRight_27 rfl rfl ?_
    refine wk_iconst X dR_toTheRight_28 (v := (1 : Int32)) (by decide) ?_
    refine wk_iadd X dR_toTheRight_29 ?_
    refine wk_iload_n X 1 dR_toTheRight_30 rfl rfl ?_
    refine wk_iconst X dR_toTheRight_31 (v := (5 : Int32)) (by decide) ?_
    refine wk_iadd X dR_toTheRight_32 ?_
    refine wk_iconst X dR_toTheRight_33 (v := (0 : Int32)) (by decide) ?_
    obtain ⟨q40, h41, hf⟩ := p_ob hf
    refine wk_goV [0, 1, 2, 3, 4, 5, 6, 7, 8, 9, 10, 11, 12] (wk_rV X (mR_two (V := V) a q38 (v1 + (1 : Int32)) (v1 + (5 : Int32)) (0 : Int32) q40 h41) rfl (gd (tw_694)) [0, 1, 2, 3, 4, 5, 6, 7, 8, 9, 10, 11, 12] rfl rfl 0 rfl rfl (tl tw_691) (tl tw_693) (tl tv_11) (tl tw_7) 3 pd_R_two rfl ⟨rfl, rfl⟩ ⟨Nat.le_of_ble_eq_true rfl, Nat.le_of_ble_eq_true rfl⟩ rfl (Nat.le_of_ble_eq_true rfl) dR_toTheRight_34) rfl ?_
    rintro u rfl
    refine wk_ws (ws' := cR V a q40) rfl ?_
    refine wk_aload_n X 0 dR_toTheRight_37 rfl rfl ?_
    refine wk_iload_n X 1 dR_toTheRight_38 rfl rfl ?_
    refine wk_iconst X dR_toTheRight_39 (v := (1 : Int32)) (by decide) ?_
    refine wk_iadd X dR_toTheRight_40 ?_
    refine wk_iload_n X 1 dR_toTheRight_41 rfl rfl ?_
    refine wk_iconst X dR_toTheRight_42 (v := (5 : Int32)) (by decide) ?_
    refine wk_iadd X dR_toTheRight_43 ?_
    refine wk_iconst X dR_toTheRight_44 (v := (0 : Int32)) (by decide) ?_
    obtain ⟨q42, h43, hf⟩ := p_ob hf
    refine wk_goV [0, 1, 2, 3, 4, 5, 6, 7, 8, 9, 10, 11, 12] (wk_rV X (mR_two (V := V) a q40 (v1 + (1 : Int32)) (v1 + (5 : Int32)) (0 : Int32) q42 h43) rfl (gd (tw_694)) [0, 1, 2, 3, 4, 5, 6, 7, 8, 9, 10, 11, 12] rfl rfl 0 rfl rfl (tl tw_691) (tl tw_693) (tl tv_11) (tl tw_7) 3 pd_R_two rfl ⟨rfl, rfl⟩ ⟨Nat.le_of_ble_eq_true rfl, Nat.le_of_ble_eq_true rfl⟩ rfl (Nat.le_of_ble_eq_true rfl) dR_toTheRight_45) rfl ?_
    rintro u rfl
    refine wk_ws (ws' := cR V a q42) rfl ?_
    refine wk_aload_n X 0 dR_toTheRight_48 rfl rfl ?_
    refine wk_iload_n X 1 dR_toTheRight_49 rfl rfl ?_
    refine wk_iconst X dR_toTheRight_50 (v := (2 : Int32)) (by decide) ?_
    refine wk_iadd X dR_toTheRight_51 ?_
    refine wk_iload_n X 1 dR_toTheRight_52 rfl rfl ?_
    refine wk_bipush X dR_toTheRight_53 (v := (6 : Int32)) (by decide) ?_
    refine wk_iadd X dR_toTheRight_55 ?_
    obtain ⟨q44, h45, hf⟩ := p_ob hf
    refine wk_goV [0, 1, 2, 3, 4, 5, 6, 7, 8, 9, 10, 11, 12] (wk_rV X (mR_add (V := V) a q42 (v1 + (2 : Int32)) (v1 + (6 : Int32)) q44 h45) rfl (gd (tw_698)) [0, 1, 2, 3, 4, 5, 6, 7, 8, 9, 10, 11, 12] rfl rfl 0 rfl rfl (tl tw_695) (tl tw_697) (tl tv_12) (tl tw_7) 2 pd_R_add rfl ⟨rfl, rfl⟩ ⟨Nat.le_of_ble_eq_true rfl, Nat.le_of_ble_eq_true rfl⟩ rfl (Nat.le_of_ble_eq_true rfl) dR_toTheRight_56) rfl ?_
    rintro u rfl
    refine wk_ws (ws' := cR V a q44) rfl ?_
    refine wk_aload_n X 0 dR_toTheRight_59 rfl rfl ?_
    refine wk_iload_n X 1 dR_toTheRight_60 rfl rfl ?_
    refine wk_iconst X dR_toTheRight_61 (v := (3 : Int32)) (by decide) ?_
    refine wk_iadd X dR_toTheRight_62 ?_
    refine wk_iload_n X 1 dR_toTheRight_63 rfl rfl ?_
    refine wk_bipush X dR_toTheRight_64 (v := (7 : Int32)) (by decide) ?_
    refine wk_iadd X dR_toTheRight_66 ?_
    obtain ⟨q46, h47, hf⟩ := p_ob hf
    refine wk_goV [0, 1, 2, 3, 4, 5, 6, 7, 8, 9, 10, 11, 12] (wk_rV X (mR_add (V := V) a q44 (v1 + (3 : Int32)) (v1 + (7 : Int32)) q46 h47) rfl (gd (tw_698)) [0, 1, 2, 3, 4, 5, 6, 7, 8, 9, 10, 11, 12] rfl rfl 0 rfl rfl (tl tw_695) (tl tw_697) (tl tv_12) (tl tw_7) 2 pd_R_add rfl ⟨rfl, rfl⟩ ⟨Nat.le_of_ble_eq_true rfl, Nat.le_of_ble_eq_true rfl⟩ rfl (Nat.le_of_ble_eq_true rfl) dR_toTheRight_67) rfl ?_
    rintro u rfl
    refine wk_ws (ws' := cR V a q46) rfl ?_
    refine wk_aload_n X 0 dR_toTheRight_70 rfl rfl ?_
    refine wk_iload_n X 1 dR_toTheRight_71 rfl rfl ?_
    refine wk_iconst X dR_toTheRight_72 (v := (4 : Int32)) (by decide) ?_
    refine wk_iadd X dR_toTheRight_73 ?_
    refine wk_iload_n X 1 dR_toTheRight_74 rfl rfl ?_
    refine wk_bipush X dR_toTheRight_75 (v := (8 : Int32)) (by decide) ?_
    refine wk_iadd X dR_toTheRight_77 ?_
    refine wk_iload_n X 1 dR_toTheRight_78 rfl rfl ?_
    refine wk_bipush X dR_toTheRight_79 (v := (9 : Int32)) (by decide) ?_
    refine wk_iadd X dR_toTheRight_81 ?_
    obtain ⟨q48, h49, hf⟩ := p_ob hf
    refine wk_goV [0, 1, 2, 3, 4, 5, 6, 7, 8, 9, 10, 11, 12] (wk_rV X (mR_two (V := V) a q46 (v1 + (4 : Int32)) (v1 + (8 : Int32)) (v1 + (9 : Int32)) q48 h49) rfl (gd (tw_694)) [0, 1, 2, 3, 4, 5, 6, 7, 8, 9, 10, 11, 12] rfl rfl 0 rfl rfl (tl tw_691) (tl tw_693) (tl tv_11) (tl tw_7) 3 pd_R_two rfl ⟨rfl, rfl⟩ ⟨Nat.le_of_ble_eq_true rfl, Nat.le_of_ble_eq_true rfl⟩ rfl (Nat.le_of_ble_eq_true rfl) dR_toTheRight_82) rfl ?_
    rintro u rfl
    refine wk_ws (ws' := cR V a q48) rfl ?_
    refine wk_aload_n X 0 dR_toTheRight_85 rfl rfl ?_
    refine wk_iload_n X 1 dR_toTheRight_86 rfl rfl ?_
    refine wk_iconst X dR_toTheRight_87 (v := (5 : Int32)) (by decide) ?_
    refine wk_iadd X dR_toTheRight_88 ?_
    refine wk_iload_n X 1 dR_toTheRight_89 rfl rfl ?_
    refine wk_bipush X dR_toTheRight_90 (v := (10 : Int32)) (by decide) ?_
    refine wk_iadd X dR_toTheRight_92 ?_
    refine wk_iload_n X 1 dR_toTheRight_93 rfl rfl ?_
    refine wk_bipush X dR_toTheRight_94 (v := (11 : Int32)) (by decide) ?_
    refine wk_iadd X dR_toTheRight_96 ?_
    obtain ⟨q50, h51, hf⟩ := p_ob hf
    refine wk_goV [0, 1, 2, 3, 4, 5, 6, 7, 8, 9, 10, 11, 12] (wk_rV X (mR_two (V := V) a q48 (v1 + (5 : Int32)) (v1 + (10 : Int32)) (v1 + (11 : Int32)) q50 h51) rfl (gd (tw_694)) [0, 1, 2, 3, 4, 5, 6, 7, 8, 9, 10, 11, 12] rfl rfl 0 rfl rfl (tl tw_691) (tl tw_693) (tl tv_11) (tl tw_7) 3 pd_R_two rfl ⟨rfl, rfl⟩ ⟨Nat.le_of_ble_eq_true rfl, Nat.le_of_ble_eq_true rfl⟩ rfl (Nat.le_of_ble_eq_true rfl) dR_toTheRight_97) rfl ?_
    rintro u rfl
    refine wk_ws (ws' := cR V a q50) rfl ?_
    refine wk_aload_n X 0 dR_toTheRight_100 rfl rfl ?_
    refine wk_iload_n X 1 dR_toTheRight_101 rfl rfl ?_
    refine wk_bipush X dR_toTheRight_102 (v := (6 : Int32)) (by decide) ?_
    refine wk_iadd X dR_toTheRight_104 ?_
    refine wk_iload_n X 1 dR_toTheRight_105 rfl rfl ?_
    refine wk_bipush X dR_toTheRight_106 (v := (12 : Int32)) (by decide) ?_
    refine wk_iadd X dR_toTheRight_108 ?_
    refine wk_iload_n X 1 dR_toTheRight_109 rfl rfl ?_
    refine wk_bipush X dR_toTheRight_110 (v := (13 : Int32)) (by decide) ?_
    refine wk_iadd X dR_toTheRight_112 ?_
    obtain ⟨q52, h53, hf⟩ := p_ob hf
    refine wk_goV [0, 1, 2, 3, 4, 5, 6, 7, 8, 9, 10, 11, 12] (wk_rV X (mR_two (V := V) a q50 (v1 + (6 : Int32)) (v1 + (12 : Int32)) (v1 + (13 : Int32)) q52 h53) rfl (gd (tw_694)) [0, 1, 2, 3, 4, 5, 6, 7, 8, 9, 10, 11, 12] rfl rfl 0 rfl rfl (tl tw_691) (tl tw_693) (tl tv_11) (tl tw_7) 3 pd_R_two rfl ⟨rfl, rfl⟩ ⟨Nat.le_of_ble_eq_true rfl, Nat.le_of_ble_eq_true rfl⟩ rfl (Nat.le_of_ble_eq_true rfl) dR_toTheRight_113) rfl ?_
    rintro u rfl
    refine wk_ws (ws' := cR V a q52) rfl ?_
    refine wk_aload_n X 0 dR_toTheRight_116 rfl rfl ?_
    refine wk_iload_n X 1 dR_toTheRight_117 rfl rfl ?_
    refine wk_bipush X dR_toTheRight_118 (v := (7 : Int32)) (by decide) ?_
    refine wk_iadd X dR_toTheRight_120 ?_
    refine wk_iload_n X 1 dR_toTheRight_121 rfl rfl ?_
    refine wk_bipush X dR_toTheRight_122 (v := (14 : Int32)) (by decide) ?_
    refine wk_iadd X dR_toTheRight_124 ?_
    refine wk_iload_n X 1 dR_toTheRight_125 rfl rfl ?_
    refine wk_bipush X dR_toTheRight_126 (v := (15 : Int32)) (by decide) ?_
    refine wk_iadd X dR_toTheRight_128 ?_
    obtain ⟨q54, h55, hf⟩ := p_ob hf
    refine wk_goV [0, 1, 2, 3, 4, 5, 6, 7, 8, 9, 10, 11, 12] (wk_rV X (mR_two (V := V) a q52 (v1 + (7 : Int32)) (v1 + (14 : Int32)) (v1 + (15 : Int32)) q54 h55) rfl (gd (tw_694)) [0, 1, 2, 3, 4, 5, 6, 7, 8, 9, 10, 11, 12] rfl rfl 0 rfl rfl (tl tw_691) (tl tw_693) (tl tv_11) (tl tw_7) 3 pd_R_two rfl ⟨rfl, rfl⟩ ⟨Nat.le_of_ble_eq_true rfl, Nat.le_of_ble_eq_true rfl⟩ rfl (Nat.le_of_ble_eq_true rfl) dR_toTheRight_129) rfl ?_
    rintro u rfl
    refine wk_ws (ws' := cR V a q54) rfl ?_
    refine wk_aload_n X 0 dR_toTheRight_132 rfl rfl ?_
    refine wk_iload_n X 1 dR_toTheRight_133 rfl rfl ?_
    refine wk_bipush X dR_toTheRight_134 (v := (8 : Int32)) (by decide) ?_
    refine wk_iadd X dR_toTheRight_136 ?_
    refine wk_iload_n X 3 dR_toTheRight_137 rfl rfl ?_
    refine wk_iconst X dR_toTheRight_138 (v := (0 : Int32)) (by decide) ?_
    refine wk_iadd X dR_toTheRight_139 ?_
    refine wk_iconst X dR_toTheRight_140 (v := (0 : Int32)) (by decide) ?_
    obtain ⟨q56, h57, hf⟩ := p_ob hf
    refine wk_goV [0, 1, 2, 3, 4, 5, 6, 7, 8, 9, 10, 11, 12] (wk_rV X (mR_two (V := V) a q54 (v1 + (8 : Int32)) (v3 + (0 : Int32)) (0 : Int32) q56 h57) rfl (gd (tw_694)) [0, 1, 2, 3, 4, 5, 6, 7, 8, 9, 10, 11, 12] rfl rfl 0 rfl rfl (tl tw_691) (tl tw_693) (tl tv_11) (tl tw_7) 3 pd_R_two rfl ⟨rfl, rfl⟩ ⟨Nat.le_of_ble_eq_true rfl, Nat.le_of_ble_eq_true rfl⟩ rfl (Nat.le_of_ble_eq_true rfl) dR_toTheRight_141) rfl ?_
    rintro u rfl
    refine wk_ws (ws' := cR V a q56) rfl ?_
    refine wk_aload_n X 0 dR_toTheRight_144 rfl rfl ?_
    refine wk_iload_n X 1 dR_toTheRight_145 rfl rfl ?_
    refine wk_bipush X dR_toTheRight_146 (v := (10 : Int32)) (by decide) ?_
    refine wk_iadd X dR_toTheRight_148 ?_
    refine wk_iload_n X 3 dR_toTheRight_149 rfl rfl ?_
    refine wk_iconst X dR_toTheRight_150 (v := (1 : Int32)) (by decide) ?_
    refine wk_iadd X dR_toTheRight_151 ?_
    refine wk_iconst X dR_toTheRight_152 (v := (0 : Int32)) (by decide) ?_
    obtain ⟨q58, h59, hf⟩ := p_ob hf
    refine wk_goV [0, 1, 2, 3, 4, 5, 6, 7, 8, 9, 10, 11, 12] (wk_rV X (mR_two (V := V) a q56 (v1 + (10 : Int32)) (v3 + (1 : Int32)) (0 : Int32) q58 h59) rfl (gd (tw_694)) [0, 1, 2, 3, 4, 5, 6, 7, 8, 9, 10, 11, 12] rfl rfl 0 rfl rfl (tl tw_691) (tl tw_693) (tl tv_11) (tl tw_7) 3 pd_R_two rfl ⟨rfl, rfl⟩ ⟨Nat.le_of_ble_eq_true rfl, Nat.le_of_ble_eq_true rfl⟩ rfl (Nat.le_of_ble_eq_true rfl) dR_toTheRight_153) rfl ?_
    rintro u rfl
    refine wk_ws (ws' := cR V a q58) rfl ?_
    refine wk_aload_n X 0 dR_toTheRight_156 rfl rfl ?_
    refine wk_iload_n X 1 dR_toTheRight_157 rfl rfl ?_
    refine wk_bipush X dR_toTheRight_158 (v := (12 : Int32)) (by decide) ?_
    refine wk_iadd X dR_toTheRight_160 ?_
    refine wk_iload_n X 3 dR_toTheRight_161 rfl rfl ?_
    refine wk_iconst X dR_toTheRight_162 (v := (2 : Int32)) (by decide) ?_
    refine wk_iadd X dR_toTheRight_163 ?_
    refine wk_iconst X dR_toTheRight_164 (v := (0 : Int32)) (by decide) ?_
    obtain ⟨q60, h61, hf⟩ := p_ob hf
    refine wk_goV [0, 1, 2, 3, 4, 5, 6, 7, 8, 9, 10, 11, 12] (wk_rV X (mR_two (V := V) a q58 (v1 + (12 : Int32)) (v3 + (2 : Int32)) (0 : Int32) q60 h61) rfl (gd (tw_694)) [0, 1, 2, 3, 4, 5, 6, 7, 8, 9, 10, 11, 12] rfl rfl 0 rfl rfl (tl tw_691) (tl tw_693) (tl tv_11) (tl tw_7) 3 pd_R_two rfl ⟨rfl, rfl⟩ ⟨Nat.le_of_ble_eq_true rfl, Nat.le_of_ble_eq_true rfl⟩ rfl (Nat.le_of_ble_eq_true rfl) dR_toTheRight_165) rfl ?_
    rintro u rfl
    refine wk_ws (ws' := cR V a q60) rfl ?_
    refine wk_aload_n X 0 dR_toTheRight_168 rfl rfl ?_
    refine wk_iload_n X 1 dR_toTheRight_169 rfl rfl ?_
    refine wk_bipush X dR_toTheRight_170 (v := (14 : Int32)) (by decide) ?_
    refine wk_iadd X dR_toTheRight_172 ?_
    refine wk_iload_n X 3 dR_toTheRight_173 rfl rfl ?_
    refine wk_iconst X dR_toTheRight_174 (v := (3 : Int32)) (by decide) ?_
    refine wk_iadd X dR_toTheRight_175 ?_
    refine wk_iconst X dR_toTheRight_176 (v := (0 : Int32)) (by decide) ?_
    obtain ⟨q62, h63, hf⟩ := p_ob hf
    refine wk_goV [0, 1, 2, 3, 4, 5, 6, 7, 8, 9, 10, 11, 12] (wk_rV X (mR_two (V := V) a q60 (v1 + (14 : Int32)) (v3 + (3 : Int32)) (0 : Int32) q62 h63) rfl (gd (tw_694)) [0, 1, 2, 3, 4, 5, 6, 7, 8, 9, 10, 11, 12] rfl rfl 0 rfl rfl (tl tw_691) (tl tw_693) (tl tv_11) (tl tw_7) 3 pd_R_two rfl ⟨rfl, rfl⟩ ⟨Nat.le_of_ble_eq_true rfl, Nat.le_of_ble_eq_true rfl⟩ rfl (Nat.le_of_ble_eq_true rfl) dR_toTheRight_177) rfl ?_
    rintro u rfl
    refine wk_ws (ws' := cR V a q62) rfl ?_
    refine wk_aload_n X 0 dR_toTheRight_180 rfl rfl ?_
    refine wk_iload_n X 1 dR_toTheRight_181 rfl rfl ?_
    refine wk_bipush X dR_toTheRight_182 (v := (9 : Int32)) (by decide) ?_
    refine wk_iadd X dR_toTheRight_184 ?_
    refine wk_iconst X dR_toTheRight_185 (v := (0 : Int32)) (by decide) ?_
    obtain ⟨q64, h65, hf⟩ := p_ob hf
    refine wk_goV [0, 1, 2, 3, 4, 5, 6, 7, 8, 9, 10, 11, 12] (wk_rV X (mR_add (V := V) a q62 (v1 + (9 : Int32)) (0 : Int32) q64 h65) rfl (gd (tw_698)) [0, 1, 2, 3, 4, 5, 6, 7, 8, 9, 10, 11, 12] rfl rfl 0 rfl rfl (tl tw_695) (tl tw_697) (tl tv_12) (tl tw_7) 2 pd_R_add rfl ⟨rfl, rfl⟩ ⟨Nat.le_of_ble_eq_true rfl, Nat.le_of_ble_eq_true rfl⟩ rfl (Nat.le_of_ble_eq_true rfl) dR_toTheRight_186) rfl ?_
    rintro u rfl
    refine wk_ws (ws' := cR V a q64) rfl ?_
    refine wk_aload_n X 0 dR_toTheRight_189 rfl rfl ?_
    refine wk_iload_n X 1 dR_toTheRight_190 rfl rfl ?_
    refine wk_bipush X dR_toTheRight_191 (v := (9 : Int32)) (by decide) ?_
    refine wk_iadd X dR_toTheRight_193 ?_
    refine wk_iload X 4 dR_toTheRight_194 rfl ?_
    refine wk_iconst X dR_toTheRight_196 (v := (0 : Int32)) (by decide) ?_
    refine wk_iadd X dR_toTheRight_197 ?_
    refine wk_iconst X dR_toTheRight_198 (v := (0 : Int32)) (by decide) ?_
    obtain ⟨q66, h67, hf⟩ := p_ob hf
    refine wk_goV [0, 1, 2, 3, 4, 5, 6, 7, 8, 9, 10, 11, 12] (wk_rV X (mR_two (V := V) a q64 (v1 + (9 : Int32)) (v4 + (0 : Int32)) (0 : Int32) q66 h67) rfl (gd (tw_694)) [0, 1, 2, 3, 4, 5, 6, 7, 8, 9, 10, 11, 12] rfl rfl 0 rfl rfl (tl tw_691) (tl tw_693) (tl tv_11) (tl tw_7) 3 pd_R_two rfl ⟨rfl, rfl⟩ ⟨Nat.le_of_ble_eq_true rfl, Nat.le_of_ble_eq_true rfl⟩ rfl (Nat.le_of_ble_eq_true rfl) dR_toTheRight_199) rfl ?_
    rintro u rfl
    refine wk_ws (ws' := cR V a q66) rfl ?_
    refine wk_aload_n X 0 dR_toTheRight_202 rfl rfl ?_
    refine wk_iload_n X 1 dR_toTheRight_203 rfl rfl ?_
    refine wk_bipush X dR_toTheRight_204 (v := (11 : Int32)) (by decide) ?_
    refine wk_iadd X dR_toTheRight_206 ?_
    refine wk_iload X 4 dR_toTheRight_207 rfl ?_
    refine wk_iconst X dR_toTheRight_209 (v := (1 : Int32)) (by decide) ?_
    refine wk_iadd X dR_toTheRight_210 ?_
    refine wk_iconst X dR_toTheRight_211 (v := (0 : Int32)) (by decide) ?_
    obtain ⟨q68, h69, hf⟩ := p_ob hf
    refine wk_goV [0, 1, 2, 3, 4, 5, 6, 7, 8, 9, 10, 11, 12] (wk_rV X (mR_two (V := V) a q66 (v1 + (11 : Int32)) (v4 + (1 : Int32)) (0 : Int32) q68 h69) rfl (gd (tw_694)) [0, 1, 2, 3, 4, 5, 6, 7, 8, 9, 10, 11, 12] rfl rfl 0 rfl rfl (tl tw_691) (tl tw_693) (tl tv_11) (tl tw_7) 3 pd_R_two rfl ⟨rfl, rfl⟩ ⟨Nat.le_of_ble_eq_true rfl, Nat.le_of_ble_eq_true rfl⟩ rfl (Nat.le_of_ble_eq_true rfl) dR_toTheRight_212) rfl ?_
    rintro u rfl
    refine wk_ws (ws' := cR V a q68) rfl ?_
    refine wk_aload_n X 0 dR_toTheRight_215 rfl rfl ?_
    refine wk_iload_n X 1 dR_toTheRight_216 rfl rfl ?_
    refine wk_bipush X dR_toTheRight_217 (v := (13 : Int32)) (by decide) ?_
    refine wk_iadd X dR_toTheRight_219 ?_
    refine wk_iload X 4 dR_toTheRight_220 rfl ?_
    refine wk_iconst X dR_toTheRight_222 (v := (2 : Int32)) (by decide) ?_
    refine wk_iadd X dR_toTheRight_223 ?_
    refine wk_iconst X dR_toTheRight_224 (v := (0 : Int32)) (by decide) ?_
    obtain ⟨q70, h71, hf⟩ := p_ob hf
    refine wk_goV [0, 1, 2, 3, 4, 5, 6, 7, 8, 9, 10, 11, 12] (wk_rV X (mR_two (V := V) a q68 (v1 + (13 : Int32)) (v4 + (2 : Int32)) (0 : Int32) q70 h71) rfl (gd (tw_694)) [0, 1, 2, 3, 4, 5, 6, 7, 8, 9, 10, 11, 12] rfl rfl 0 rfl rfl (tl tw_691) (tl tw_693) (tl tv_11) (tl tw_7) 3 pd_R_two rfl ⟨rfl, rfl⟩ ⟨Nat.le_of_ble_eq_true rfl, Nat.le_of_ble_eq_true rfl⟩ rfl (Nat.le_of_ble_eq_true rfl) dR_toTheRight_225) rfl ?_
    rintro u rfl
    refine wk_ws (ws' := cR V a q70) rfl ?_
    refine wk_aload_n X 0 dR_toTheRight_228 rfl rfl ?_
    refine wk_iload_n X 1 dR_toTheRight_229 rfl rfl ?_
    refine wk_bipush X dR_toTheRight_230 (v := (15 : Int32)) (by decide) ?_
    refine wk_iadd X dR_toTheRight_232 ?_
    refine wk_iload X 4 dR_toTheRight_233 rfl ?_
    refine wk_iconst X dR_toTheRight_235 (v := (3 : Int32)) (by decide) ?_
    refine wk_iadd X dR_toTheRight_236 ?_
    refine wk_iconst X dR_toTheRight_237 (v := (0 : Int32)) (by decide) ?_
    obtain ⟨q72, h73, hf⟩ := p_ob hf
    refine wk_goV [0, 1, 2, 3, 4, 5, 6, 7, 8, 9, 10, 11, 12] (wk_rV X (mR_two (V := V) a q70 (v1 + (15 : Int32)) (v4 + (3 : Int32)) (0 : Int32) q72 h73) rfl (gd (tw_694)) [0, 1, 2, 3, 4, 5, 6, 7, 8, 9, 10, 11, 12] rfl rfl 0 rfl rfl (tl tw_691) (tl tw_693) (tl tv_11) (tl tw_7) 3 pd_R_two rfl ⟨rfl, rfl⟩ ⟨Nat.le_of_ble_eq_true rfl, Nat.le_of_ble_eq_true rfl⟩ rfl (Nat.le_of_ble_eq_true rfl) dR_toTheRight_238) rfl ?_
    rintro u rfl
    refine wk_ws (ws' := cR V a q72) rfl ?_
    have hf := Option.some.inj hf
    exact wk_vret X Z dR_toTheRight_241 (q72) (Eq.symm hf) rfl rfl

-- R_toTheLeft: room (2, 45), Option (pR)
def fR_toTheLeft (S : pR) (v1 : Int32) (v2 : Bool) (v3 : Int32) (v4 : Int32) : Option (pR) :=
  (fR_add S (v1 + (0 : Int32)) (v1 + (6 : Int32))).bind fun q1 =>
  (fR_add q1 (v1 + (1 : Int32)) (v1 + (7 : Int32))).bind fun q3 =>
  (fR_two q3 (v1 + (2 : Int32)) (v1 + (4 : Int32)) (v1 + (16 : Int32))).bind fun q5 =>
  if v2 = true then (
    (fR_two q5 (v1 + (2 : Int32)) (v1 + (5 : Int32)) (v1 + (17 : Int32))).bind fun q42 =>
    (fR_two q42 (v1 + (3 : Int32)) (v1 + (5 : Int32)) (v1 + (17 : Int32))).bind fun q44 =>
    (fR_two q44 (v1 + (3 : Int32)) (v1 + (5 : Int32)) (v1 + (17 : Int32))).bind fun q46 =>
    (fR_two q46 (v1 + (6 : Int32)) (v1 + (12 : Int32)) (v1 + (13 : Int32))).bind fun q48 =>
    (fR_two q48 (v1 + (7 : Int32)) (v1 + (14 : Int32)) (v1 + (15 : Int32))).bind fun q50 =>
    (fR_two q50 (v1 + (4 : Int32)) (v1 + (8 : Int32)) (0 : Int32)).bind fun q52 =>
    (fR_two q52 (v1 + (5 : Int32)) (v1 + (10 : Int32)) (0 : Int32)).bind fun q54 =>
    (fR_add q54 (v1 + (16 : Int32)) (0 : Int32)).bind fun q56 =>
    (fR_two q56 (v1 + (16 : Int32)) (v1 + (9 : Int32)) (0 : Int32)).bind fun q58 =>
    (fR_two q58 (v1 + (17 : Int32)) (v1 + (11 : Int32)) (0 : Int32)).bind fun q60 =>
    (fR_two q60 (v1 + (12 : Int32)) (v3 + (0 : Int32)) (0 : Int32)).bind fun q62 =>
    (fR_two q62 (v1 + (14 : Int32)) (v3 + (1 : Int32)) (0 : Int32)).bind fun q64 =>
    (fR_two q64 (v1 + (8 : Int32)) (v3 + (2 : Int32)) (0 : Int32)).bind fun q66 =>
    (fR_two q66 (v1 + (10 : Int32)) (v3 + (3 : Int32)) (0 : Int32)).bind fun q68 =>
    (fR_two q68 (v1 + (13 : Int32)) (v4 + (0 : Int32)) (0 : Int32)).bind fun q70 =>
    (fR_two q70 (v1 + (15 : Int32)) (v4 + (1 : Int32)) (0 : Int32)).bind fun q72 =>
    (fR_two q72 (v1 + (9 : Int32)) (v4 + (2 : Int32)) (0 : Int32)).bind fun q74 =>
    (fR_two q74 (v1 + (11 : Int32)) (v4 + (3 : Int32)) (0 : Int32)).bind fun q76 =>
    some q76
  ) else (
    (fR_two q5 (v1 + (3 : Int32)) (v1 + (5 : Int32)) (v1 + (17 : Int32))).bind fun q8 =>
    (fR_two q8 (v1 + (3 : Int32)) (v1 + (5 : Int32)) (v1 + (17 : Int32))).bind fun q10 =>
    (fR_two q10 (v1 + (6 : Int32)) (v1 + (12 : Int32)) (v1 + (13 : Int32))).bind fun q12 =>
    (fR_two q12 (v1 + (7 : Int32)) (v1 + (14 : Int32)) (v1 + (15 : Int32))).bind fun q14 =>
    (fR_two q14 (v1 + (4 : Int32)) (v1 + (8 : Int32)) (0 : Int32)).bind fun q16 =>
    (fR_two q16 (v1 + (5 : Int32)) (v1 + (10 : Int32)) (0 : Int32)).bind fun q18 =>
    (fR_add q18 (v1 + (16 : Int32)) (0 : Int32)).bind fun q20 =>
    (fR_two q20 (v1 + (16 : Int32)) (v1 + (9 : Int32)) (0 : Int32)).bind fun q22 =>
    (fR_two q22 (v1 + (17 : Int32)) (v1 + (11 : Int32)) (0 : Int32)).bind fun q24 =>
    (fR_two q24 (v1 + (12 : Int32)) (v3 + (0 : Int32)) (0 : Int32)).bind fun q26 =>
    (fR_two q26 (v1 + (14 : Int32)) (v3 + (1 : Int32)) (0 : Int32)).bind fun q28 =>
    (fR_two q28 (v1 + (8 : Int32)) (v3 + (2 : Int32)) (0 : Int32)).bind fun q30 =>
    (fR_two q30 (v1 + (10 : Int32)) (v3 + (3 : Int32)) (0 : Int32)).bind fun q32 =>
    (fR_two q32 (v1 + (13 : Int32)) (v4 + (0 : Int32)) (0 : Int32)).bind fun q34 =>
    (fR_two q34 (v1 + (15 : Int32)) (v4 + (1 : Int32)) (0 : Int32)).bind fun q36 =>
    (fR_two q36 (v1 + (9 : Int32)) (v4 + (2 : Int32)) (0 : Int32)).bind fun q38 =>
    (fR_two q38 (v1 + (11 : Int32)) (v4 + (3 : Int32)) (0 : Int32)).bind fun q40 =>
    some q40
  )
set_option maxRecDepth 100000 in
set_option maxHeartbeats 4000000 in
theorem mR_toTheLeft {V : ee_V} (a : Nat → Nat) (S : pR) (v1 : Int32) (v2 : Bool) (v3 : Int32) (v4 : Int32) (R : pR) (hf : fR_toTheLeft S v1 v2 v3 v4 = some R) : wk_V (ee V) yR_toTheLeft ts_R_toTheLeft ⟨2, 0, 0, 45⟩ [.ref (a 0), .int v1, .int (p_b v2), .int v3, .int v4] (cR V a S) (fun u : pR => R = u) (fun u : pR => cR V a u) := by
  refine wk_of (ee_ok V) (by decide +kernel) rfl (Nat.le_of_ble_eq_true rfl) ?_
  intro x X Z
  unfold fR_toTheLeft at hf
  refine wk_lq (lv' := [(0, .ref (a 0)), (1, .int v1), (2, .int (p_b v2)), (3, .int v3), (4, .int v4)]) rfl ?_
  refine wk_aload_n X 0 dR_toTheLeft_0 rfl rfl ?_
  refine wk_iload_n X 1 dR_toTheLeft_1 rfl rfl ?_
  refine wk_iconst X dR_toTheLeft_2 (v := (0 : Int32)) (by decide) ?_
  refine wk_iadd X dR_toTheLeft_3 ?_
  refine wk_iload_n X 1 dR_toTheLeft_4 rfl rfl ?_
  refine wk_bipush X dR_toTheLeft_5 (v := (6 : Int32)) (by decide) ?_
  refine wk_iadd X dR_toTheLeft_7 ?_
  obtain ⟨q1, h2, hf⟩ := p_ob hf
  refine wk_goV [0, 1, 2, 3, 4, 5, 6, 7, 8, 9, 10, 11, 12] (wk_rV X (mR_add (V := V) a S (v1 + (0 : Int32)) (v1 + (6 : Int32)) q1 h2) rfl (gd (tw_698)) [0, 1, 2, 3, 4, 5, 6, 7, 8, 9, 10, 11, 12] rfl rfl 0 rfl rfl (tl tw_695) (tl tw_697) (tl tv_12) (tl tw_7) 2 pd_R_add rfl ⟨rfl, rfl⟩ ⟨Nat.le_of_ble_eq_true rfl, Nat.le_of_ble_eq_true rfl⟩ rfl (Nat.le_of_ble_eq_true rfl) dR_toTheLeft_8) rfl ?_
  rintro u rfl
  refine wk_ws (ws' := cR V a q1) rfl ?_
  refine wk_aload_n X 0 dR_toTheLeft_11 rfl rfl ?_
  refine wk_iload_n X 1 dR_toTheLeft_12 rfl rfl ?_
  refine wk_iconst X dR_toTheLeft_13 (v := (1 : Int32)) (by decide) ?_
  refine wk_iadd X dR_toTheLeft_14 ?_
  refine wk_iload_n X 1 dR_toTheLeft_15 rfl rfl ?_
  refine wk_bipush X dR_toTheLeft_16 (v := (7 : Int32)) (by decide) ?_
  refine wk_iadd X dR_toTheLeft_18 ?_
  obtain ⟨q3, h4, hf⟩ := p_ob hf
  refine wk_goV [0, 1, 2, 3, 4, 5, 6, 7, 8, 9, 10, 11, 12] (wk_rV X (mR_add (V := V) a q1 (v1 + (1 : Int32)) (v1 + (7 : Int32)) q3 h4) rfl (gd (tw_698)) [0, 1, 2, 3, 4, 5, 6, 7, 8, 9, 10, 11, 12] rfl rfl 0 rfl rfl (tl tw_695) (tl tw_697) (tl tv_12) (tl tw_7) 2 pd_R_add rfl ⟨rfl, rfl⟩ ⟨Nat.le_of_ble_eq_true rfl, Nat.le_of_ble_eq_true rfl⟩ rfl (Nat.le_of_ble_eq_true rfl) dR_toTheLeft_19) rfl ?_
  rintro u rfl
  refine wk_ws (ws' := cR V a q3) rfl ?_
  refine wk_aload_n X 0 dR_toTheLeft_22 rfl rfl ?_
  refine wk_iload_n X 1 dR_toTheLeft_23 rfl rfl ?_
  refine wk_iconst X dR_toTheLeft_24 (v := (2 : Int32)) (by decide) ?_
  refine wk_iadd X dR_toTheLeft_25 ?_
  refine wk_iload_n X 1 dR_toTheLeft_26 rfl rfl ?_
  refine wk_iconst X dR_toTheLeft_27 (v := (4 : Int32)) (by decide) ?_
  refine wk_iadd X dR_toTheLeft_28 ?_
  refine wk_iload_n X 1 dR_toTheLeft_29 rfl rfl ?_
  refine wk_bipush X dR_toTheLeft_30 (v := (16 : Int32)) (by decide) ?_
  refine wk_iadd X dR_toTheLeft_32 ?_
  obtain ⟨q5, h6, hf⟩ := p_ob hf
  refine wk_goV [0, 1, 2, 3, 4, 5, 6, 7, 8, 9, 10, 11, 12] (wk_rV X (mR_two (V := V) a q3 (v1 + (2 : Int32)) (v1 + (4 : Int32)) (v1 + (16 : Int32)) q5 h6) rfl (gd (tw_694)) [0, 1, 2, 3, 4, 5, 6, 7, 8, 9, 10, 11, 12] rfl rfl 0 rfl rfl (tl tw_691) (tl tw_693) (tl tv_11) (tl tw_7) 3 pd_R_two rfl ⟨rfl, rfl⟩ ⟨Nat.le_of_ble_eq_true rfl, Nat.le_of_ble_eq_true rfl⟩ rfl (Nat.le_of_ble_eq_true rfl) dR_toTheLeft_33) rfl ?_
  rintro u rfl
  refine wk_ws (ws' := cR V a q5) rfl ?_
  refine wk_iload_n X 2 dR_toTheLeft_36 rfl rfl ?_
  refine wk_bz_eq X dR_toTheLeft_37 (tgt := 54) rfl (fun h7 => ?_) (fun h7 => ?_)
  · replace hf := p_ie h7 hf
    refine wk_aload_n X 0 dR_toTheLeft_54 rfl rfl ?_
    refine wk_iload_n X 1 dR_toTheLeft_55 rfl rfl ?_
    refine wk_iconst X dR_toTheLeft_56 (v := (3 : Int32)) (by decide) ?_
    refine wk_iadd X dR_toTheLeft_57 ?_
    refine wk_iload_n X 1 dR_toTheLeft_58 rfl rfl ?_
    refine wk_iconst X dR_toTheLeft_59 (v := (5 : Int32)) (by decide) ?_
    refine wk_iadd X dR_toTheLeft_60 ?_
    refine wk_iload_n X 1 dR_toTheLeft_61 rfl rfl ?_
    refine wk_bipush X dR_toTheLeft_62 (v := (17 : Int32)) (by decide) ?_
    refine wk_iadd X dR_toTheLeft_64 ?_
    obtain ⟨q8, h9, hf⟩ := p_ob hf
    refine wk_goV [0, 1, 2, 3, 4, 5, 6, 7, 8, 9, 10, 11, 12] (wk_rV X (mR_two (V := V) a q5 (v1 + (3 : Int32)) (v1 + (5 : Int32)) (v1 + (17 : Int32)) q8 h9) rfl (gd (tw_694)) [0, 1, 2, 3, 4, 5, 6, 7, 8, 9, 10, 11, 12] rfl rfl 0 rfl rfl (tl tw_691) (tl tw_693) (tl tv_11) (tl tw_7) 3 pd_R_two rfl ⟨rfl, rfl⟩ ⟨Nat.le_of_ble_eq_true rfl, Nat.le_of_ble_eq_true rfl⟩ rfl (Nat.le_of_ble_eq_true rfl) dR_toTheLeft_65) rfl ?_
    rintro u rfl
    refine wk_ws (ws' := cR V a q8) rfl ?_
    refine wk_aload_n X 0 dR_toTheLeft_68 rfl rfl ?_
    refine wk_iload_n X 1 dR_toTheLeft_69 rfl rfl ?_
    refine wk_iconst X dR_toTheLeft_70 (v := (3 : Int32)) (by decide) ?_
    refine wk_iadd X dR_toTheLeft_71 ?_
    refine wk_iload_n X 1 dR_toTheLeft_72 rfl rfl ?_
    refine wk_iconst X dR_toTheLeft_73 (v := (5 : Int32)) (by decide) ?_
    refine wk_iadd X dR_toTheLeft_74 ?_
    refine wk_iload_n X 1 dR_toTheLeft_75 rfl rfl ?_
    refine wk_bipush X dR_toTheLeft_76 (v := (17 : Int32)) (by decide) ?_
    refine wk_iadd X dR_toTheLeft_78 ?_
    obtain ⟨q10, h11, hf⟩ := p_ob hf
    refine wk_goV [0, 1, 2, 3, 4, 5, 6, 7, 8, 9, 10, 11, 12] (wk_rV X (mR_two (V := V) a q8 (v1 + (3 : Int32)) (v1 + (5 : Int32)) (v1 + (17 : Int32)) q10 h11) rfl (gd (tw_694)) [0, 1, 2, 3, 4, 5, 6, 7, 8, 9, 10, 11, 12] rfl rfl 0 rfl rfl (tl tw_691) (tl tw_693) (tl tv_11) (tl tw_7) 3 pd_R_two rfl ⟨rfl, rfl⟩ ⟨Nat.le_of_ble_eq_true rfl, Nat.le_of_ble_eq_true rfl⟩ rfl (Nat.le_of_ble_eq_true rfl) dR_toTheLeft_79) rfl ?_
    rintro u rfl
    refine wk_ws (ws' := cR V a q10) rfl ?_
    refine wk_aload_n X 0 dR_toTheLeft_82 rfl rfl ?_
    refine wk_iload_n X 1 dR_toTheLeft_83 rfl rfl ?_
    refine wk_bipush X dR_toTheLeft_84 (v := (6 : Int32)) (by decide) ?_
    refine wk_iadd X dR_toTheLeft_86 ?_
    refine wk_iload_n X 1 dR_toTheLeft_87 rfl rfl ?_
    refine wk_bipush X dR_toTheLeft_88 (v := (12 : Int32)) (by decide) ?_
    refine wk_iadd X dR_toTheLeft_90 ?_
    refine wk_iload_n X 1 dR_toTheLeft_91 rfl rfl ?_
    refine wk_bipush X dR_toTheLeft_92 (v := (13 : Int32)) (by decide) ?_
    refine wk_iadd X dR_toTheLeft_94 ?_
    obtain ⟨q12, h13, hf⟩ := p_ob hf
    refine wk_goV [0, 1, 2, 3, 4, 5, 6, 7, 8, 9, 10, 11, 12] (wk_rV X (mR_two (V := V) a q10 (v1 + (6 : Int32)) (v1 + (12 : Int32)) (v1 + (13 : Int32)) q12 h13) rfl (gd (tw_694)) [0, 1, 2, 3, 4, 5, 6, 7, 8, 9, 10, 11, 12] rfl rfl 0 rfl rfl (tl tw_691) (tl tw_693) (tl tv_11) (tl tw_7) 3 pd_R_two rfl ⟨rfl, rfl⟩ ⟨Nat.le_of_ble_eq_true rfl, Nat.le_of_ble_eq_true rfl⟩ rfl (Nat.le_of_ble_eq_true rfl) dR_toTheLeft_95) rfl ?_
    rintro u rfl
    refine wk_ws (ws' := cR V a q12) rfl ?_
    refine wk_aload_n X 0 dR_toTheLeft_98 rfl rfl ?_
    refine wk_iload_n X 1 dR_toTheLeft_99 rfl rfl ?_
    refine wk_bipush X dR_toTheLeft_100 (v := (7 : Int32)) (by decide) ?_
    refine wk_iadd X dR_toTheLeft_102 ?_
    refine wk_iload_n X 1 dR_toTheLeft_103 rfl rfl ?_
    refine wk_bipush X dR_toTheLeft_104 (v := (14 : Int32)) (by decide) ?_
    refine wk_iadd X dR_toTheLeft_106 ?_
    refine wk_iload_n X 1 dR_toTheLeft_107 rfl rfl ?_
    refine wk_bipush X dR_toTheLeft_108 (v := (15 : Int32)) (by decide) ?_
    refine wk_iadd X dR_toTheLeft_110 ?_
    obtain ⟨q14, h15, hf⟩ := p_ob hf
    refine wk_goV [0, 1, 2, 3, 4, 5, 6, 7, 8, 9, 10, 11, 12] (wk_rV X (mR_two (V := V) a q12 (v1 + (7 : Int32)) (v1 + (14 : Int32)) (v1 + (15 : Int32)) q14 h15) rfl (gd (tw_694)) [0, 1, 2, 3, 4, 5, 6, 7, 8, 9, 10, 11, 12] rfl rfl 0 rfl rfl (tl tw_691) (tl tw_693) (tl tv_11) (tl tw_7) 3 pd_R_two rfl ⟨rfl, rfl⟩ ⟨Nat.le_of_ble_eq_true rfl, Nat.le_of_ble_eq_true rfl⟩ rfl (Nat.le_of_ble_eq_true rfl) dR_toTheLeft_111) rfl ?_
    rintro u rfl
    refine wk_ws (ws' := cR V a q14) rfl ?_
    refine wk_aload_n X 0 dR_toTheLeft_114 rfl rfl ?_
    refine wk_iload_n X 1 dR_toTheLeft_115 rfl rfl ?_
    refine wk_iconst X dR_toTheLeft_116 (v := (4 : Int32)) (by decide) ?_
    refine wk_iadd X dR_toTheLeft_117 ?_
    refine wk_iload_n X 1 dR_toTheLeft_118 rfl rfl ?_
    refine wk_bipush X dR_toTheLeft_119 (v := (8 : Int32)) (by decide) ?_
    refine wk_iadd X dR_toTheLeft_121 ?_
    refine wk_iconst X dR_toTheLeft_122 (v := (0 : Int32)) (by decide) ?_
    obtain ⟨q16, h17, hf⟩ := p_ob hf
    refine wk_goV [0, 1, 2, 3, 4, 5, 6, 7, 8, 9, 10, 11, 12] (wk_rV X (mR_two (V := V) a q14 (v1 + (4 : Int32)) (v1 + (8 : Int32)) (0 : Int32) q16 h17) rfl (gd (tw_694)) [0, 1, 2, 3, 4, 5, 6, 7, 8, 9, 10, 11, 12] rfl rfl 0 rfl rfl (tl tw_691) (tl tw_693) (tl tv_11) (tl tw_7) 3 pd_R_two rfl ⟨rfl, rfl⟩ ⟨Nat.le_of_ble_eq_true rfl, Nat.le_of_ble_eq_true rfl⟩ rfl (Nat.le_of_ble_eq_true rfl) dR_toTheLeft_123) rfl ?_
    rintro u rfl
    refine wk_ws (ws' := cR V a q16) rfl ?_
    refine wk_aload_n X 0 dR_toTheLeft_126 rfl rfl ?_
    refine wk_iload_n X 1 dR_toTheLeft_127 rfl rfl ?_
    refine wk_iconst X dR_toTheLeft_128 (v := (5 : Int32)) (by decide) ?_
    refine wk_iadd X dR_toTheLeft_129 ?_
    refine wk_iload_n X 1 dR_toTheLeft_130 rfl rfl ?_
    refine wk_bipush X dR_toTheLeft_131 (v := (10 : Int32)) (by decide) ?_
    refine wk_iadd X dR_toTheLeft_133 ?_
    refine wk_iconst X dR_toTheLeft_134 (v := (0 : Int32)) (by decide) ?_
    obtain ⟨q18, h19, hf⟩ := p_ob hf
    refine wk_goV [0, 1, 2, 3, 4, 5, 6, 7, 8, 9, 10, 11, 12] (wk_rV X (mR_two (V := V) a q16 (v1 + (5 : Int32)) (v1 + (10 : Int32)) (0 : Int32) q18 h19) rfl (gd (tw_694)) [0, 1, 2, 3, 4, 5, 6, 7, 8, 9, 10, 11, 12] rfl rfl 0 rfl rfl (tl tw_691) (tl tw_693) (tl tv_11) (tl tw_7) 3 pd_R_two rfl ⟨rfl, rfl⟩ ⟨Nat.le_of_ble_eq_true rfl, Nat.le_of_ble_eq_true rfl⟩ rfl (Nat.le_of_ble_eq_true rfl) dR_toTheLeft_135) rfl ?_
    rintro u rfl
    refine wk_ws (ws' := cR V a q18) rfl ?_
    refine wk_aload_n X 0 dR_toTheLeft_138 rfl rfl ?_
    refine wk_iload_n X 1 dR_toTheLeft_139 rfl rfl ?_
    refine wk_bipush X dR_toTheLeft_140 (v := (16 : Int32)) (by decide) ?_
    refine wk_iadd X dR_toTheLeft_142 ?_
    refine wk_iconst X dR_toTheLeft_143 (v := (0 : Int32)) (by decide) ?_
    obtain ⟨q20, h21, hf⟩ := p_ob hf
    refine wk_goV [0, 1, 2, 3, 4, 5, 6, 7, 8, 9, 10, 11, 12] (wk_rV X (mR_add (V := V) a q18 (v1 + (16 : Int32)) (0 : Int32) q20 h21) rfl (gd (tw_698)) [0, 1, 2, 3, 4, 5, 6, 7, 8, 9, 10, 11, 12] rfl rfl 0 rfl rfl (tl tw_695) (tl tw_697) (tl tv_12) (tl tw_7) 2 pd_R_add rfl ⟨rfl, rfl⟩ ⟨Nat.le_of_ble_eq_true rfl, Nat.le_of_ble_eq_true rfl⟩ rfl (Nat.le_of_ble_eq_true rfl) dR_toTheLeft_144) rfl ?_
    rintro u rfl
    refine wk_ws (ws' := cR V a q20) rfl ?_
    refine wk_aload_n X 0 dR_toTheLeft_147 rfl rfl ?_
    refine wk_iload_n X 1 dR_toTheLeft_148 rfl rfl ?_
    refine wk_bipush X dR_toTheLeft_149 (v := (16 : Int32)) (by decide) ?_
    refine wk_iadd X dR_toTheLeft_151 ?_
    refine wk_iload_n X 1 dR_toTheLeft_152 rfl rfl ?_
    refine wk_bipush X dR_toTheLeft_153 (v := (9 : Int32)) (by decide) ?_
    refine wk_iadd X dR_toTheLeft_155 ?_
    refine wk_iconst X dR_toTheLeft_156 (v := (0 : Int32)) (by decide) ?_
    obtain ⟨q22, h23, hf⟩ := p_ob hf
    refine wk_goV [0, 1, 2, 3, 4, 5, 6, 7, 8, 9, 10, 11, 12] (wk_rV X (mR_two (V := V) a q20 (v1 + (16 : Int32)) (v1 + (9 : Int32)) (0 : Int32) q22 h23) rfl (gd (tw_694)) [0, 1, 2, 3, 4, 5, 6, 7, 8, 9, 10, 11, 12] rfl rfl 0 rfl rfl (tl tw_691) (tl tw_693) (tl tv_11) (tl tw_7) 3 pd_R_two rfl ⟨rfl, rfl⟩ ⟨Nat.le_of_ble_eq_true rfl, Nat.le_of_ble_eq_true rfl⟩ rfl (Nat.le_of_ble_eq_true rfl) dR_toTheLeft_157) rfl ?_
    rintro u rfl
    refine wk_ws (ws' := cR V a q22) rfl ?_
    refine wk_aload_n X 0 dR_toTheLeft_160 rfl rfl ?_
    refine wk_iload_n X 1 dR_toTheLeft_161 rfl rfl ?_
    refine wk_bipush X dR_toTheLeft_162 (v := (17 : Int32)) (by decide) ?_
    refine wk_iadd X dR_toTheLeft_164 ?_
    refine wk_iload_n X 1 dR_toTheLeft_165 rfl rfl ?_
    refine wk_bipush X dR_toTheLeft_166 (v := (11 : Int32)) (by decide) ?_
    refine wk_iadd X dR_toTheLeft_168 ?_
    refine wk_iconst X dR_toTheLeft_169 (v := (0 : Int32)) (by decide) ?_
    obtain ⟨q24, h25, hf⟩ := p_ob hf
    refine wk_goV [0, 1, 2, 3, 4, 5, 6, 7, 8, 9, 10, 11, 12] (wk_rV X (mR_two (V := V) a q22 (v1 + (17 : Int32)) (v1 + (11 : Int32)) (0 : Int32) q24 h25) rfl (gd (tw_694)) [0, 1, 2, 3, 4, 5, 6, 7, 8, 9, 10, 11, 12] rfl rfl 0 rfl rfl (tl tw_691) (tl tw_693) (tl tv_11) (tl tw_7) 3 pd_R_two rfl ⟨rfl, rfl⟩ ⟨Nat.le_of_ble_eq_true rfl, Nat.le_of_ble_eq_true rfl⟩ rfl (Nat.le_of_ble_eq_true rfl) dR_toTheLeft_170) rfl ?_
    rintro u rfl
    refine wk_ws (ws' := cR V a q24) rfl ?_
    refine wk_aload_n X 0 dR_toTheLeft_173 rfl rfl ?_
    refine wk_iload_n X 1 dR_toTheLeft_174 rfl rfl ?_
    refine wk_bipush X dR_toTheLeft_175 (v := (12 : Int32)) (by decide) ?_
    refine wk_iadd X dR_toTheLeft_177 ?_
    refine wk_iload_n X 3 dR_toTheLeft_178 rfl rfl ?_
    refine wk_iconst X dR_toTheLeft_179 (v := (0 : Int32)) (by decide) ?_
    refine wk_iadd X dR_toTheLeft_180 ?_
    refine wk_iconst X dR_toTheLeft_181 (v := (0 : Int32)) (by decide) ?_
    obtain ⟨q26, h27, hf⟩ := p_ob hf
    refine wk_goV [0, 1, 2, 3, 4, 5, 6, 7, 8, 9, 10, 11, 12] (wk_rV X (mR_two (V := V) a q24 (v1 + (12 : Int32)) (v3 + (0 : Int32)) (0 : Int32) q26 h27) rfl (gd (tw_694)) [0, 1, 2, 3, 4, 5, 6, 7, 8, 9, 10, 11, 12] rfl rfl 0 rfl rfl (tl tw_691) (tl tw_693) (tl tv_11) (tl tw_7) 3 pd_R_two rfl ⟨rfl, rfl⟩ ⟨Nat.le_of_ble_eq_true rfl, Nat.le_of_ble_eq_true rfl⟩ rfl (Nat.le_of_ble_eq_true rfl) dR_toTheLeft_182) rfl ?_
    rintro u rfl
    refine wk_ws (ws' := cR V a q26) rfl ?_
    refine wk_aload_n X 0 dR_toTheLeft_185 rfl rfl ?_
    refine wk_iload_n X 1 dR_toTheLeft_186 rfl rfl ?_
    refine wk_bipush X dR_toTheLeft_187 (v := (14 : Int32)) (by decide) ?_
    refine wk_iadd X dR_toTheLeft_189 ?_
    refine wk_iload_n X 3 dR_toTheLeft_190 rfl rfl ?_
    refine wk_iconst X dR_toTheLeft_191 (v := (1 : Int32)) (by decide) ?_
    refine wk_iadd X dR_toTheLeft_192 ?_
    refine wk_iconst X dR_toTheLeft_193 (v := (0 : Int32)) (by decide) ?_
    obtain ⟨q28, h29, hf⟩ := p_ob hf
    refine wk_goV [0, 1, 2, 3, 4, 5, 6, 7, 8, 9, 10, 11, 12] (wk_rV X (mR_two (V := V) a q26 (v1 + (14 : Int32)) (v3 + (1 : Int32)) (0 : Int32) q28 h29) rfl (gd (tw_694)) [0, 1, 2, 3, 4, 5, 6, 7, 8, 9, 10, 11, 12] rfl rfl 0 rfl rfl (tl tw_691) (tl tw_693) (tl tv_11) (tl tw_7) 3 pd_R_two rfl ⟨rfl, rfl⟩ ⟨Nat.le_of_ble_eq_true rfl, Nat.le_of_ble_eq_true rfl⟩ rfl (Nat.le_of_ble_eq_true rfl) dR_toTheLeft_194) rfl ?_
    rintro u rfl
    refine wk_ws (ws' := cR V a q28) rfl ?_
    refine wk_aload_n X 0 dR_toTheLeft_197 rfl rfl ?_
    refine wk_iload_n X 1 dR_toTheLeft_198 rfl rfl ?_
    refine wk_bipush X dR_toTheLeft_199 (v := (8 : Int32)) (by decide) ?_
    refine wk_iadd X dR_toTheLeft_201 ?_
    refine wk_iload_n X 3 dR_toTheLeft_202 rfl rfl ?_
    refine wk_iconst X dR_toTheLeft_203 (v := (2 : Int32)) (by decide) ?_
    refine wk_iadd X dR_toTheLeft_204 ?_
    refine wk_iconst X dR_toTheLeft_205 (v := (0 : Int32)) (by decide) ?_
    obtain ⟨q30, h31, hf⟩ := p_ob hf
    refine wk_goV [0, 1, 2, 3, 4, 5, 6, 7, 8, 9, 10, 11, 12] (wk_rV X (mR_two (V := V) a q28 (v1 + (8 : Int32)) (v3 + (2 : Int32)) (0 : Int32) q30 h31) rfl (gd (tw_694)) [0, 1, 2, 3, 4, 5, 6, 7, 8, 9, 10, 11, 12] rfl rfl 0 rfl rfl (tl tw_691) (tl tw_693) (tl tv_11) (tl tw_7) 3 pd_R_two rfl ⟨rfl, rfl⟩ ⟨Nat.le_of_ble_eq_true rfl, Nat.le_of_ble_eq_true rfl⟩ rfl (Nat.le_of_ble_eq_true rfl) dR_toTheLeft_206) rfl ?_
    rintro u rfl
    refine wk_ws (ws' := cR V a q30) rfl ?_
    refine wk_aload_n X 0 dR_toTheLeft_209 rfl rfl ?_
    refine wk_iload_n X 1 dR_toTheLeft_210 rfl rfl ?_
    refine wk_bipush X dR_toTheLeft_211 (v := (10 : Int32)) (by decide) ?_
    refine wk_iadd X dR_toTheLeft_213 ?_
    refine wk_iload_n X 3 dR_toTheLeft_214 rfl rfl ?_
    refine wk_iconst X dR_toTheLeft_215 (v := (3 : Int32)) (by decide) ?_
    refine wk_iadd X dR_toTheLeft_216 ?_
    refine wk_iconst X dR_toTheLeft_217 (v := (0 : Int32)) (by decide) ?_
    obtain ⟨q32, h33, hf⟩ := p_ob hf
    refine wk_goV [0, 1, 2, 3, 4, 5, 6, 7, 8, 9, 10, 11, 12] (wk_rV X (mR_two (V := V) a q30 (v1 + (10 : Int32)) (v3 + (3 : Int32)) (0 : Int32) q32 h33) rfl (gd (tw_694)) [0, 1, 2, 3, 4, 5, 6, 7, 8, 9, 10, 11, 12] rfl rfl 0 rfl rfl (tl tw_691) (tl tw_693) (tl tv_11) (tl tw_7) 3 pd_R_two rfl ⟨rfl, rfl⟩ ⟨Nat.le_of_ble_eq_true rfl, Nat.le_of_ble_eq_true rfl⟩ rfl (Nat.le_of_ble_eq_true rfl) dR_toTheLeft_218) rfl ?_
    rintro u rfl
    refine wk_ws (ws' := cR V a q32) rfl ?_
    refine wk_aload_n X 0 dR_toTheLeft_221 rfl rfl ?_
    refine wk_iload_n X 1 dR_toTheLeft_222 rfl rfl ?_
    refine wk_bipush X dR_toTheLeft_223 (v := (13 : Int32)) (by decide) ?_
    refine wk_iadd X dR_toTheLeft_225 ?_
    refine wk_iload X 4 dR_toTheLeft_226 rfl ?_
    refine wk_iconst X dR_toTheLeft_228 (v := (0 : Int32)) (by decide) ?_
    refine wk_iadd X dR_toTheLeft_229 ?_
    refine wk_iconst X dR_toTheLeft_230 (v := (0 : Int32)) (by decide) ?_
    obtain ⟨q34, h35, hf⟩ := p_ob hf
    refine wk_goV [0, 1, 2, 3, 4, 5, 6, 7, 8, 9, 10, 11, 12] (wk_rV X (mR_two (V := V) a q32 (v1 + (13 : Int32)) (v4 + (0 : Int32)) (0 : Int32) q34 h35) rfl (gd (tw_694)) [0, 1, 2, 3, 4, 5, 6, 7, 8, 9, 10, 11, 12] rfl rfl 0 rfl rfl (tl tw_691) (tl tw_693) (tl tv_11) (tl tw_7) 3 pd_R_two rfl ⟨rfl, rfl⟩ ⟨Nat.le_of_ble_eq_true rfl, Nat.le_of_ble_eq_true rfl⟩ rfl (Nat.le_of_ble_eq_true rfl) dR_toTheLeft_231) rfl ?_
    rintro u rfl
    refine wk_ws (ws' := cR V a q34) rfl ?_
    refine wk_aload_n X 0 dR_toTheLeft_234 rfl rfl ?_
    refine wk_iload_n X 1 dR_toTheLeft_235 rfl rfl ?_
    refine wk_bipush X dR_toTheLeft_236 (v := (15 : Int32)) (by decide) ?_
    refine wk_iadd X dR_toTheLeft_238 ?_
    refine wk_iload X 4 dR_toTheLeft_239 rfl ?_
    refine wk_iconst X dR_toTheLeft_241 (v := (1 : Int32)) (by decide) ?_
    refine wk_iadd X dR_toTheLeft_242 ?_
    refine wk_iconst X dR_toTheLeft_243 (v := (0 : Int32)) (by decide) ?_
    obtain ⟨q36, h37, hf⟩ := p_ob hf
    refine wk_goV [0, 1, 2, 3, 4, 5, 6, 7, 8, 9, 10, 11, 12] (wk_rV X (mR_two (V := V) a q34 (v1 + (15 : Int32)) (v4 + (1 : Int32)) (0 : Int32) q36 h37) rfl (gd (tw_694)) [0, 1, 2, 3, 4, 5, 6, 7, 8, 9, 10, 11, 12] rfl rfl 0 rfl rfl (tl tw_691) (tl tw_693) (tl tv_11) (tl tw_7) 3 pd_R_two rfl ⟨rfl, rfl⟩ ⟨Nat.le_of_ble_eq_true rfl, Nat.le_of_ble_eq_true rfl⟩ rfl (Nat.le_of_ble_eq_true rfl) dR_toTheLeft_244) rfl ?_
    rintro u rfl
    refine wk_ws (ws' := cR V a q36) rfl ?_
    refine wk_aload_n X 0 dR_toTheLeft_247 rfl rfl ?_
    refine wk_iload_n X 1 dR_toTheLeft_248 rfl rfl ?_
    refine wk_bipush X dR_toTheLeft_249 (v := (9 : Int32)) (by decide) ?_
    refine wk_iadd X dR_toTheLeft_251 ?_
    refine wk_iload X 4 dR_toTheLeft_252 rfl ?_
    refine wk_iconst X dR_toTheLeft_254 (v := (2 : Int32)) (by decide) ?_
    refine wk_iadd X dR_toTheLeft_255 ?_
    refine wk_iconst X dR_toTheLeft_256 (v := (0 : Int32)) (by decide) ?_
    obtain ⟨q38, h39, hf⟩ := p_ob hf
    refine wk_goV [0, 1, 2, 3, 4, 5, 6, 7, 8, 9, 10, 11, 12] (wk_rV X (mR_two (V := V) a q36 (v1 + (9 : Int32)) (v4 + (2 : Int32)) (0 : Int32) q38 h39) rfl (gd (tw_694)) [0, 1, 2, 3, 4, 5, 6, 7, 8, 9, 10, 11, 12] rfl rfl 0 rfl rfl (tl tw_691) (tl tw_693) (tl tv_11) (tl tw_7) 3 pd_R_two rfl ⟨rfl, rfl⟩ ⟨Nat.le_of_ble_eq_true rfl, Nat.le_of_ble_eq_true rfl⟩ rfl (Nat.le_of_ble_eq_true rfl) dR_toTheLeft_257) rfl ?_
    rintro u rfl
    refine wk_ws (ws' := cR V a q38) rfl ?_
    refine wk_aload_n X 0 dR_toTheLeft_260 rfl rfl ?_
    refine wk_iload_n X 1 dR_toTheLeft_261 rfl rfl ?_
    refine wk_bipush X dR_toTheLeft_262 (v := (11 : Int32)) (by decide) ?_
    refine wk_iadd X dR_toTheLeft_264 ?_
    refine wk_iload X 4 dR_toTheLeft_265 rfl ?_
    refine wk_iconst X dR_toTheLeft_267 (v := (3 : Int32)) (by decide) ?_
    refine wk_iadd X dR_toTheLeft_268 ?_
    refine wk_iconst X dR_toTheLeft_269 (v := (0 : Int32)) (by decide) ?_
    obtain ⟨q40, h41, hf⟩ := p_ob hf
    refine wk_goV [0, 1, 2, 3, 4, 5, 6, 7, 8, 9, 10, 11, 12] (wk_rV X (mR_two (V := V) a q38 (v1 + (11 : Int32)) (v4 + (3 : Int32)) (0 : Int32) q40 h41) rfl (gd (tw_694)) [0, 1, 2, 3, 4, 5, 6, 7, 8, 9, 10, 11, 12] rfl rfl 0 rfl rfl (tl tw_691) (tl tw_693) (tl tv_11) (tl tw_7) 3 pd_R_two rfl ⟨rfl, rfl⟩ ⟨Nat.le_of_ble_eq_true rfl, Nat.le_of_ble_eq_true rfl⟩ rfl (Nat.le_of_ble_eq_true rfl) dR_toTheLeft_270) rfl ?_
    rintro u rfl
    refine wk_ws (ws' := cR V a q40) rfl ?_
    have hf := Option.some.inj hf
    exact wk_vret X Z dR_toTheLeft_273 (q40) (Eq.symm hf) rfl rfl
  · replace hf := p_it h7 hf
    refine wk_aload_n X 0 dR_toTheLeft_40 rfl rfl ?_
    refine wk_iload_n X 1 dR_toTheLeft_41 rfl rfl ?_
    refine wk_iconst X dR_toTheLeft_42 (v := (2 : Int32)) (by decide) ?_
    refine wk_iadd X dR_toTheLeft_43 ?_
    refine wk_iload_n X 1 dR_toTheLeft_44 rfl rfl ?_
    refine wk_iconst X dR_toTheLeft_45 (v := (5 : Int32)) (by decide) ?_
    refine wk_iadd X dR_toTheLeft_46 ?_
    refine wk_iload_n X 1 dR_toTheLeft_47 rfl rfl ?_
    refine wk_bipush X dR_toTheLeft_48 (v := (17 : Int32)) (by decide) ?_
    refine wk_iadd X dR_toTheLeft_50 ?_
    obtain ⟨q42, h43, hf⟩ := p_ob hf
    refine wk_goV [0, 1, 2, 3, 4, 5, 6, 7, 8, 9, 10, 11, 12] (wk_rV X (mR_two (V := V) a q5 (v1 + (2 : Int32)) (v1 + (5 : Int32)) (v1 + (17 : Int32)) q42 h43) rfl (gd (tw_694)) [0, 1, 2, 3, 4, 5, 6, 7, 8, 9, 10, 11, 12] rfl rfl 0 rfl rfl (tl tw_691) (tl tw_693) (tl tv_11) (tl tw_7) 3 pd_R_two rfl ⟨rfl, rfl⟩ ⟨Nat.le_of_ble_eq_true rfl, Nat.le_of_ble_eq_true rfl⟩ rfl (Nat.le_of_ble_eq_true rfl) dR_toTheLeft_51) rfl ?_
    rintro u rfl
    refine wk_ws (ws' := cR V a q42) rfl ?_
    refine wk_aload_n X 0 dR_toTheLeft_54 rfl rfl ?_
    refine wk_iload_n X 1 dR_toTheLeft_55 rfl rfl ?_
    refine wk_iconst X dR_toTheLeft_56 (v := (3 : Int32)) (by decide) ?_
    refine wk_iadd X dR_toTheLeft_57 ?_
    refine wk_iload_n X 1 dR_toTheLeft_58 rfl rfl ?_
    refine wk_iconst X dR_toTheLeft_59 (v := (5 : Int32)) (by decide) ?_
    refine wk_iadd X dR_toTheLeft_60 ?_
    refine wk_iload_n X 1 dR_toTheLeft_61 rfl rfl ?_
    refine wk_bipush X dR_toTheLeft_62 (v := (17 : Int32)) (by decide) ?_
    refine wk_iadd X dR_toTheLeft_64 ?_
    obtain ⟨q44, h45, hf⟩ := p_ob hf
    refine wk_goV [0, 1, 2, 3, 4, 5, 6, 7, 8, 9, 10, 11, 12] (wk_rV X (mR_two (V := V) a q42 (v1 + (3 : Int32)) (v1 + (5 : Int32)) (v1 + (17 : Int32)) q44 h45) rfl (gd (tw_694)) [0, 1, 2, 3, 4, 5, 6, 7, 8, 9, 10, 11, 12] rfl rfl 0 rfl rfl (tl tw_691) (tl tw_693) (tl tv_11) (tl tw_7) 3 pd_R_two rfl ⟨rfl, rfl⟩ ⟨Nat.le_of_ble_eq_true rfl, Nat.le_of_ble_eq_true rfl⟩ rfl (Nat.le_of_ble_eq_true rfl) dR_toTheLeft_65) rfl ?_
    rintro u rfl
    refine wk_ws (ws' := cR V a q44) rfl ?_
    refine wk_aload_n X 0 dR_toTheLeft_68 rfl rfl ?_
    refine wk_iload_n X 1 dR_toTheLeft_69 rfl rfl ?_
    refine wk_iconst X dR_toTheLeft_70 (v := (3 : Int32)) (by decide) ?_
    refine wk_iadd X dR_toTheLeft_71 ?_
    refine wk_iload_n X 1 dR_toTheLeft_72 rfl rfl ?_
    refine wk_iconst X dR_toTheLeft_73 (v := (5 : Int32)) (by decide) ?_
    refine wk_iadd X dR_toTheLeft_74 ?_
    refine wk_iload_n X 1 dR_toTheLeft_75 rfl rfl ?_
    refine wk_bipush X dR_toTheLeft_76 (v := (17 : Int32)) (by decide) ?_
    refine wk_iadd X dR_toTheLeft_78 ?_
    obtain ⟨q46, h47, hf⟩ := p_ob hf
    refine wk_goV [0, 1, 2, 3, 4, 5, 6, 7, 8, 9, 10, 11, 12] (wk_rV X (mR_two (V := V) a q44 (v1 + (3 : Int32)) (v1 + (5 : Int32)) (v1 + (17 : Int32)) q46 h47) rfl (gd (tw_694)) [0, 1, 2, 3, 4, 5, 6, 7, 8, 9, 10, 11, 12] rfl rfl 0 rfl rfl (tl tw_691) (tl tw_693) (tl tv_11) (tl tw_7) 3 pd_R_two rfl ⟨rfl, rfl⟩ ⟨Nat.le_of_ble_eq_true rfl, Nat.le_of_ble_eq_true rfl⟩ rfl (Nat.le_of_ble_eq_true rfl) dR_toTheLeft_79) rfl ?_
    rintro u rfl
    refine wk_ws (ws' := cR V a q46) rfl ?_
    refine wk_aload_n X 0 dR_toTheLeft_82 rfl rfl ?_
    refine wk_iload_n X 1 dR_toTheLeft_83 rfl rfl ?_
    refine wk_bipush X dR_toTheLeft_84 (v := (6 : Int32)) (by decide) ?_
    refine wk_iadd X dR_toTheLeft_86 ?_
    refine wk_iload_n X 1 dR_toTheLeft_87 rfl rfl ?_
    refine wk_bipush X dR_toTheLeft_88 (v := (12 : Int32)) (by decide) ?_
    refine wk_iadd X dR_toTheLeft_90 ?_
    refine wk_iload_n X 1 dR_toTheLeft_91 rfl rfl ?_
    refine wk_bipush X dR_toTheLeft_92 (v := (13 : Int32)) (by decide) ?_
    refine wk_iadd X dR_toTheLeft_94 ?_
    obtain ⟨q48, h49, hf⟩ := p_ob hf
    refine wk_goV [0, 1, 2, 3, 4, 5, 6, 7, 8, 9, 10, 11, 12] (wk_rV X (mR_two (V := V) a q46 (v1 + (6 : Int32)) (v1 + (12 : Int32)) (v1 + (13 : Int32)) q48 h49) rfl (gd (tw_694)) [0, 1, 2, 3, 4, 5, 6, 7, 8, 9, 10, 11, 12] rfl rfl 0 rfl rfl (tl tw_691) (tl tw_693) (tl tv_11) (tl tw_7) 3 pd_R_two rfl ⟨rfl, rfl⟩ ⟨Nat.le_of_ble_eq_true rfl, Nat.le_of_ble_eq_true rfl⟩ rfl (Nat.le_of_ble_eq_true rfl) dR_toTheLeft_95) rfl ?_
    rintro u rfl
    refine wk_ws (ws' := cR V a q48) rfl ?_
    refine wk_aload_n X 0 dR_toTheLeft_98 rfl rfl ?_
    refine wk_iload_n X 1 dR_toTheLeft_99 rfl rfl ?_
    refine wk_bipush X dR_toTheLeft_100 (v := (7 : Int32)) (by decide) ?_
    refine wk_iadd X dR_toTheLeft_102 ?_
    refine wk_iload_n X 1 dR_toTheLeft_103 rfl rfl ?_
    refine wk_bipush X dR_toTheLeft_104 (v := (14 : Int32)) (by decide) ?_
    refine wk_iadd X dR_toTheLeft_106 ?_
    refine wk_iload_n X 1 dR_toTheLeft_107 rfl rfl ?_
    refine wk_bipush X dR_toTheLeft_108 (v := (15 : Int32)) (by decide) ?_
    refine wk_iadd X dR_toTheLeft_110 ?_
    obtain ⟨q50, h51, hf⟩ := p_ob hf
    refine wk_goV [0, 1, 2, 3, 4, 5, 6, 7, 8, 9, 10, 11, 12] (wk_rV X (mR_two (V := V) a q48 (v1 + (7 : Int32)) (v1 + (14 : Int32)) (v1 + (15 : Int32)) q50 h51) rfl (gd (tw_694)) [0, 1, 2, 3, 4, 5, 6, 7, 8, 9, 10, 11, 12] rfl rfl 0 rfl rfl (tl tw_691) (tl tw_693) (tl tv_11) (tl tw_7) 3 pd_R_two rfl ⟨rfl, rfl⟩ ⟨Nat.le_of_ble_eq_true rfl, Nat.le_of_ble_eq_true rfl⟩ rfl (Nat.le_of_ble_eq_true rfl) dR_toTheLeft_111) rfl ?_
    rintro u rfl
    refine wk_ws (ws' := cR V a q50) rfl ?_
    refine wk_aload_n X 0 dR_toTheLeft_114 rfl rfl ?_
    refine wk_iload_n X 1 dR_toTheLeft_115 rfl rfl ?_
    refine wk_iconst X dR_toTheLeft_116 (v := (4 : Int32)) (by decide) ?_
    refine wk_iadd X dR_toTheLeft_117 ?_
    refine wk_iload_n X 1 dR_toTheLeft_118 rfl rfl ?_
    refine wk_bipush X dR_toTheLeft_119 (v := (8 : Int32)) (by decide) ?_
    refine wk_iadd X dR_toTheLeft_121 ?_
    refine wk_iconst X dR_toTheLeft_122 (v := (0 : Int32)) (by decide) ?_
    obtain ⟨q52, h53, hf⟩ := p_ob hf
    refine wk_goV [0, 1, 2, 3, 4, 5, 6, 7, 8, 9, 10, 11, 12] (wk_rV X (mR_two (V := V) a q50 (v1 + (4 : Int32)) (v1 + (8 : Int32)) (0 : Int32) q52 h53) rfl (gd (tw_694)) [0, 1, 2, 3, 4, 5, 6, 7, 8, 9, 10, 11, 12] rfl rfl 0 rfl rfl (tl tw_691) (tl tw_693) (tl tv_11) (tl tw_7) 3 pd_R_two rfl ⟨rfl, rfl⟩ ⟨Nat.le_of_ble_eq_true rfl, Nat.le_of_ble_eq_true rfl⟩ rfl (Nat.le_of_ble_eq_true rfl) dR_toTheLeft_123) rfl ?_
    rintro u rfl
    refine wk_ws (ws' := cR V a q52) rfl ?_
    refine wk_aload_n X 0 dR_toTheLeft_126 rfl rfl ?_
    refine wk_iload_n X 1 dR_toTheLeft_127 rfl rfl ?_
    refine wk_iconst X dR_toTheLeft_128 (v := (5 : Int32)) (by decide) ?_
    refine wk_iadd X dR_toTheLeft_129 ?_
    refine wk_iload_n X 1 dR_toTheLeft_130 rfl rfl ?_
    refine wk_bipush X dR_toTheLeft_131 (v := (10 : Int32)) (by decide) ?_
    refine wk_iadd X dR_toTheLeft_133 ?_
    refine wk_iconst X dR_toTheLeft_134 (v := (0 : Int32)) (by decide) ?_
    obtain ⟨q54, h55, hf⟩ := p_ob hf
    refine wk_goV [0, 1, 2, 3, 4, 5, 6, 7, 8, 9, 10, 11, 12] (wk_rV X (mR_two (V := V) a q52 (v1 + (5 : Int32)) (v1 + (10 : Int32)) (0 : Int32) q54 h55) rfl (gd (tw_694)) [0, 1, 2, 3, 4, 5, 6, 7, 8, 9, 10, 11, 12] rfl rfl 0 rfl rfl (tl tw_691) (tl tw_693) (tl tv_11) (tl tw_7) 3 pd_R_two rfl ⟨rfl, rfl⟩ ⟨Nat.le_of_ble_eq_true rfl, Nat.le_of_ble_eq_true rfl⟩ rfl (Nat.le_of_ble_eq_true rfl) dR_toTheLeft_135) rfl ?_
    rintro u rfl
    refine wk_ws (ws' := cR V a q54) rfl ?_
    refine wk_aload_n X 0 dR_toTheLeft_138 rfl rfl ?_
    refine wk_iload_n X 1 dR_toTheLeft_139 rfl rfl ?_
    refine wk_bipush X dR_toTheLeft_140 (v := (16 : Int32)) (by decide) ?_
    refine wk_iadd X dR_toTheLeft_142 ?_
    refine wk_iconst X dR_toTheLeft_143 (v := (0 : Int32)) (by decide) ?_
    obtain ⟨q56, h57, hf⟩ := p_ob hf
    refine wk_goV [0, 1, 2, 3, 4, 5, 6, 7, 8, 9, 10, 11, 12] (wk_rV X (mR_add (V := V) a q54 (v1 + (16 : Int32)) (0 : Int32) q56 h57) rfl (gd (tw_698)) [0, 1, 2, 3, 4, 5, 6, 7, 8, 9, 10, 11, 12] rfl rfl 0 rfl rfl (tl tw_695) (tl tw_697) (tl tv_12) (tl tw_7) 2 pd_R_add rfl ⟨rfl, rfl⟩ ⟨Nat.le_of_ble_eq_true rfl, Nat.le_of_ble_eq_true rfl⟩ rfl (Nat.le_of_ble_eq_true rfl) dR_toTheLeft_144) rfl ?_
    rintro u rfl
    refine wk_ws (ws' := cR V a q56) rfl ?_
    refine wk_aload_n X 0 dR_toTheLeft_147 rfl rfl ?_
    refine wk_iload_n X 1 dR_toTheLeft_148 rfl rfl ?_
    refine wk_bipush X dR_toTheLeft_149 (v := (16 : Int32)) (by decide) ?_
    refine wk_iadd X dR_toTheLeft_151 ?_
    refine wk_iload_n X 1 dR_toTheLeft_152 rfl rfl ?_
    refine wk_bipush X dR_toTheLeft_153 (v := (9 : Int32)) (by decide) ?_
    refine wk_iadd X dR_toTheLeft_155 ?_
    refine wk_iconst X dR_toTheLeft_156 (v := (0 : Int32)) (by decide) ?_
    obtain ⟨q58, h59, hf⟩ := p_ob hf
    refine wk_goV [0, 1, 2, 3, 4, 5, 6, 7, 8, 9, 10, 11, 12] (wk_rV X (mR_two (V := V) a q56 (v1 + (16 : Int32)) (v1 + (9 : Int32)) (0 : Int32) q58 h59) rfl (gd (tw_694)) [0, 1, 2, 3, 4, 5, 6, 7, 8, 9, 10, 11, 12] rfl rfl 0 rfl rfl (tl tw_691) (tl tw_693) (tl tv_11) (tl tw_7) 3 pd_R_two rfl ⟨rfl, rfl⟩ ⟨Nat.le_of_ble_eq_true rfl, Nat.le_of_ble_eq_true rfl⟩ rfl (Nat.le_of_ble_eq_true rfl) dR_toTheLeft_157) rfl ?_
    rintro u rfl
    refine wk_ws (ws' := cR V a q58) rfl ?_
    refine wk_aload_n X 0 dR_toTheLeft_160 rfl rfl ?_
    refine wk_iload_n X 1 dR_toTheLeft_161 rfl rfl ?_
    refine wk_bipush X dR_toTheLeft_162 (v := (17 : Int32)) (by decide) ?_
    refine wk_iadd X dR_toTheLeft_164 ?_
    refine wk_iload_n X 1 dR_toTheLeft_165 rfl rfl ?_
    refine wk_bipush X dR_toTheLeft_166 (v := (11 : Int32)) (by decide) ?_
    refine wk_iadd X dR_toTheLeft_168 ?_
    refine wk_iconst X dR_toTheLeft_169 (v := (0 : Int32)) (by decide) ?_
    obtain ⟨q60, h61, hf⟩ := p_ob hf
    refine wk_goV [0, 1, 2, 3, 4, 5, 6, 7, 8, 9, 10, 11, 12] (wk_rV X (mR_two (V := V) a q58 (v1 + (17 : Int32)) (v1 + (11 : Int32)) (0 : Int32) q60 h61) rfl (gd (tw_694)) [0, 1, 2, 3, 4, 5, 6, 7, 8, 9, 10, 11, 12] rfl rfl 0 rfl rfl (tl tw_691) (tl tw_693) (tl tv_11) (tl tw_7) 3 pd_R_two rfl ⟨rfl, rfl⟩ ⟨Nat.le_of_ble_eq_true rfl, Nat.le_of_ble_eq_true rfl⟩ rfl (Nat.le_of_ble_eq_true rfl) dR_toTheLeft_170) rfl ?_
    rintro u rfl
    refine wk_ws (ws' := cR V a q60) rfl ?_
    refine wk_aload_n X 0 dR_toTheLeft_173 rfl rfl ?_
    refine wk_iload_n X 1 dR_toTheLeft_174 rfl rfl ?_
    refine wk_bipush X dR_toTheLeft_175 (v := (12 : Int32)) (by decide) ?_
    refine wk_iadd X dR_toTheLeft_177 ?_
    refine wk_iload_n X 3 dR_toTheLeft_178 rfl rfl ?_
    refine wk_iconst X dR_toTheLeft_179 (v := (0 : Int32)) (by decide) ?_
    refine wk_iadd X dR_toTheLeft_180 ?_
    refine wk_iconst X dR_toTheLeft_181 (v := (0 : Int32)) (by decide) ?_
    obtain ⟨q62, h63, hf⟩ := p_ob hf
    refine wk_goV [0, 1, 2, 3, 4, 5, 6, 7, 8, 9, 10, 11, 12] (wk_rV X (mR_two (V := V) a q60 (v1 + (12 : Int32)) (v3 + (0 : Int32)) (0 : Int32) q62 h63) rfl (gd (tw_694)) [0, 1, 2, 3, 4, 5, 6, 7, 8, 9, 10, 11, 12] rfl rfl 0 rfl rfl (tl tw_691) (tl tw_693) (tl tv_11) (tl tw_7) 3 pd_R_two rfl ⟨rfl, rfl⟩ ⟨Nat.le_of_ble_eq_true rfl, Nat.le_of_ble_eq_true rfl⟩ rfl (Nat.le_of_ble_eq_true rfl) dR_toTheLeft_182) rfl ?_
    rintro u rfl
    refine wk_ws (ws' := cR V a q62) rfl ?_
    refine wk_aload_n X 0 dR_toTheLeft_185 rfl rfl ?_
    refine wk_iload_n X 1 dR_toTheLeft_186 rfl rfl ?_
    refine wk_bipush X dR_toTheLeft_187 (v := (14 : Int32)) (by decide) ?_
    refine wk_iadd X dR_toTheLeft_189 ?_
    refine wk_iload_n X 3 dR_toTheLeft_190 rfl rfl ?_
    refine wk_iconst X dR_toTheLeft_191 (v := (1 : Int32)) (by decide) ?_
    refine wk_iadd X dR_toTheLeft_192 ?_
    refine wk_iconst X dR_toTheLeft_193 (v := (0 : Int32)) (by decide) ?_
    obtain ⟨q64, h65, hf⟩ := p_ob hf
    refine wk_goV [0, 1, 2, 3, 4, 5, 6, 7, 8, 9, 10, 11, 12] (wk_rV X (mR_two (V := V) a q62 (v1 + (14 : Int32)) (v3 + (1 : Int32)) (0 : Int32) q64 h65) rfl (gd (tw_694)) [0, 1, 2, 3, 4, 5, 6, 7, 8, 9, 10, 11, 12] rfl rfl 0 rfl rfl (tl tw_691) (tl tw_693) (tl tv_11) (tl tw_7) 3 pd_R_two rfl ⟨rfl, rfl⟩ ⟨Nat.le_of_ble_eq_true rfl, Nat.le_of_ble_eq_true rfl⟩ rfl (Nat.le_of_ble_eq_true rfl) dR_toTheLeft_194) rfl ?_
    rintro u rfl
    refine wk_ws (ws' := cR V a q64) rfl ?_
    refine wk_aload_n X 0 dR_toTheLeft_197 rfl rfl ?_
    refine wk_iload_n X 1 dR_toTheLeft_198 rfl rfl ?_
    refine wk_bipush X dR_toTheLeft_199 (v := (8 : Int32)) (by decide) ?_
    refine wk_iadd X dR_toTheLeft_201 ?_
    refine wk_iload_n X 3 dR_toTheLeft_202 rfl rfl ?_
    refine wk_iconst X dR_toTheLeft_203 (v := (2 : Int32)) (by decide) ?_
    refine wk_iadd X dR_toTheLeft_204 ?_
    refine wk_iconst X dR_toTheLeft_205 (v := (0 : Int32)) (by decide) ?_
    obtain ⟨q66, h67, hf⟩ := p_ob hf
    refine wk_goV [0, 1, 2, 3, 4, 5, 6, 7, 8, 9, 10, 11, 12] (wk_rV X (mR_two (V := V) a q64 (v1 + (8 : Int32)) (v3 + (2 : Int32)) (0 : Int32) q66 h67) rfl (gd (tw_694)) [0, 1, 2, 3, 4, 5, 6, 7, 8, 9, 10, 11, 12] rfl rfl 0 rfl rfl (tl tw_691) (tl tw_693) (tl tv_11) (tl tw_7) 3 pd_R_two rfl ⟨rfl, rfl⟩ ⟨Nat.le_of_ble_eq_true rfl, Nat.le_of_ble_eq_true rfl⟩ rfl (Nat.le_of_ble_eq_true rfl) dR_toTheLeft_206) rfl ?_
    rintro u rfl
    refine wk_ws (ws' := cR V a q66) rfl ?_
    refine wk_aload_n X 0 dR_toTheLeft_209 rfl rfl ?_
    refine wk_iload_n X 1 dR_toTheLeft_210 rfl rfl ?_
    refine wk_bipush X dR_toTheLeft_211 (v := (10 : Int32)) (by decide) ?_
    refine wk_iadd X dR_toTheLeft_213 ?_
    refine wk_iload_n X 3 dR_toTheLeft_214 rfl rfl ?_
    refine wk_iconst X dR_toTheLeft_215 (v := (3 : Int32)) (by decide) ?_
    refine wk_iadd X dR_toTheLeft_216 ?_
    refine wk_iconst X dR_toTheLeft_217 (v := (0 : Int32)) (by decide) ?_
    obtain ⟨q68, h69, hf⟩ := p_ob hf
    refine wk_goV [0, 1, 2, 3, 4, 5, 6, 7, 8, 9, 10, 11, 12] (wk_rV X (mR_two (V := V) a q66 (v1 + (10 : Int32)) (v3 + (3 : Int32)) (0 : Int32) q68 h69) rfl (gd (tw_694)) [0, 1, 2, 3, 4, 5, 6, 7, 8, 9, 10, 11, 12] rfl rfl 0 rfl rfl (tl tw_691) (tl tw_693) (tl tv_11) (tl tw_7) 3 pd_R_two rfl ⟨rfl, rfl⟩ ⟨Nat.le_of_ble_eq_true rfl, Nat.le_of_ble_eq_true rfl⟩ rfl (Nat.le_of_ble_eq_true rfl) dR_toTheLeft_218) rfl ?_
    rintro u rfl
    refine wk_ws (ws' := cR V a q68) rfl ?_
    refine wk_aload_n X 0 dR_toTheLeft_221 rfl rfl ?_
    refine wk_iload_n X 1 dR_toTheLeft_222 rfl rfl ?_
    refine wk_bipush X dR_toTheLeft_223 (v := (13 : Int32)) (by decide) ?_
    refine wk_iadd X dR_toTheLeft_225 ?_
    refine wk_iload X 4 dR_toTheLeft_226 rfl ?_
    refine wk_iconst X dR_toTheLeft_228 (v := (0 : Int32)) (by decide) ?_
    refine wk_iadd X dR_toTheLeft_229 ?_
    refine wk_iconst X dR_toTheLeft_230 (v := (0 : Int32)) (by decide) ?_
    obtain ⟨q70, h71, hf⟩ := p_ob hf
    refine wk_goV [0, 1, 2, 3, 4, 5, 6, 7, 8, 9, 10, 11, 12] (wk_rV X (mR_two (V := V) a q68 (v1 + (13 : Int32)) (v4 + (0 : Int32)) (0 : Int32) q70 h71) rfl (gd (tw_694)) [0, 1, 2, 3, 4, 5, 6, 7, 8, 9, 10, 11, 12] rfl rfl 0 rfl rfl (tl tw_691) (tl tw_693) (tl tv_11) (tl tw_7) 3 pd_R_two rfl ⟨rfl, rfl⟩ ⟨Nat.le_of_ble_eq_true rfl, Nat.le_of_ble_eq_true rfl⟩ rfl (Nat.le_of_ble_eq_true rfl) dR_toTheLeft_231) rfl ?_
    rintro u rfl
    refine wk_ws (ws' := cR V a q70) rfl ?_
    refine wk_aload_n X 0 dR_toTheLeft_234 rfl rfl ?_
    refine wk_iload_n X 1 dR_toTheLeft_235 rfl rfl ?_
    refine wk_bipush X dR_toTheLeft_236 (v := (15 : Int32)) (by decide) ?_
    refine wk_iadd X dR_toTheLeft_238 ?_
    refine wk_iload X 4 dR_toTheLeft_239 rfl ?_
    refine wk_iconst X dR_toTheLeft_241 (v := (1 : Int32)) (by decide) ?_
    refine wk_iadd X dR_toTheLeft_242 ?_
    refine wk_iconst X dR_toTheLeft_243 (v := (0 : Int32)) (by decide) ?_
    obtain ⟨q72, h73, hf⟩ := p_ob hf
    refine wk_goV [0, 1, 2, 3, 4, 5, 6, 7, 8, 9, 10, 11, 12] (wk_rV X (mR_two (V := V) a q70 (v1 + (15 : Int32)) (v4 + (1 : Int32)) (0 : Int32) q72 h73) rfl (gd (tw_694)) [0, 1, 2, 3, 4, 5, 6, 7, 8, 9, 10, 11, 12] rfl rfl 0 rfl rfl (tl tw_691) (tl tw_693) (tl tv_11) (tl tw_7) 3 pd_R_two rfl ⟨rfl, rfl⟩ ⟨Nat.le_of_ble_eq_true rfl, Nat.le_of_ble_eq_true rfl⟩ rfl (Nat.le_of_ble_eq_true rfl) dR_toTheLeft_244) rfl ?_
    rintro u rfl
    refine wk_ws (ws' := cR V a q72) rfl ?_
    refine wk_aload_n X 0 dR_toTheLeft_247 rfl rfl ?_
    refine wk_iload_n X 1 dR_toTheLeft_248 rfl rfl ?_
    refine wk_bipush X dR_toTheLeft_249 (v := (9 : Int32)) (by decide) ?_
    refine wk_iadd X dR_toTheLeft_251 ?_
    refine wk_iload X 4 dR_toTheLeft_252 rfl ?_
    refine wk_iconst X dR_toTheLeft_254 (v := (2 : Int32)) (by decide) ?_
    refine wk_iadd X dR_toTheLeft_255 ?_
    refine wk_iconst X dR_toTheLeft_256 (v := (0 : Int32)) (by decide) ?_
    obtain ⟨q74, h75, hf⟩ := p_ob hf
    refine wk_goV [0, 1, 2, 3, 4, 5, 6, 7, 8, 9, 10, 11, 12] (wk_rV X (mR_two (V := V) a q72 (v1 + (9 : Int32)) (v4 + (2 : Int32)) (0 : Int32) q74 h75) rfl (gd (tw_694)) [0, 1, 2, 3, 4, 5, 6, 7, 8, 9, 10, 11, 12] rfl rfl 0 rfl rfl (tl tw_691) (tl tw_693) (tl tv_11) (tl tw_7) 3 pd_R_two rfl ⟨rfl, rfl⟩ ⟨Nat.le_of_ble_eq_true rfl, Nat.le_of_ble_eq_true rfl⟩ rfl (Nat.le_of_ble_eq_true rfl) dR_toTheLeft_257) rfl ?_
    rintro u rfl
    refine wk_ws (ws' := cR V a q74) rfl ?_
    refine wk_aload_n X 0 dR_toTheLeft_260 rfl rfl ?_
    refine wk_iload_n X 1 dR_toTheLeft_261 rfl rfl ?_
    refine wk_bipush X dR_toTheLeft_262 (v := (11 : Int32)) (by decide) ?_
    refine wk_iadd X dR_toTheLeft_264 ?_
    refine wk_iload X 4 dR_toTheLeft_265 rfl ?_
    refine wk_iconst X dR_toTheLeft_267 (v := (3 : Int32)) (by decide) ?_
    refine wk_iadd X dR_toTheLeft_268 ?_
    refine wk_iconst X dR_toTheLeft_269 (v := (0 : Int32)) (by decide) ?_
    obtain ⟨q76, h77, hf⟩ := p_ob hf
    refine wk_goV [0, 1, 2, 3, 4, 5, 6, 7, 8, 9, 10, 11, 12] (wk_rV X (mR_two (V := V) a q74 (v1 + (11 : Int32)) (v4 + (3 : Int32)) (0 : Int32) q76 h77) rfl (gd (tw_694)) [0, 1, 2, 3, 4, 5, 6, 7, 8, 9, 10, 11, 12] rfl rfl 0 rfl rfl (tl tw_691) (tl tw_693) (tl tv_11) (tl tw_7) 3 pd_R_two rfl ⟨rfl, rfl⟩ ⟨Nat.le_of_ble_eq_true rfl, Nat.le_of_ble_eq_true rfl⟩ rfl (Nat.le_of_ble_eq_true rfl) dR_toTheLeft_270) rfl ?_
    rintro u rfl
    refine wk_ws (ws' := cR V a q76) rfl ?_
    have hf := Option.some.inj hf
    exact wk_vret X Z dR_toTheLeft_273 (q76) (Eq.symm hf) rfl rfl

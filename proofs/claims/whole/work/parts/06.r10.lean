-- R_compileCyclic: room (1, 22), Option (Int32 × pR)
def fR_compileCyclic_L112 : Nat → pR → Int32 → Option (Int32 × pR)
  | 0, _, _ => none
  | n + 1, S, v1 =>
    if S.2.1.2.2.2.2.2.2.2 ≤ v1 then (
      some (((2 : Int32) * S.2.2.1.1), (S.1, S.2.1, (S.2.2.1.1, S.2.2.1.2.1, S.2.2.1.2.2.1, S.2.2.1.2.2.2.1, S.2.2.1.2.2.2.2.1, S.2.2.1.2.2.2.2.2.1, S.2.2.1.2.2.2.2.2.2.1, (0 : Int32), (0 : Int32)), S.2.2.2))
    ) else (
      (p_rd 12000 S.2.1.2.2.2.2.2.1 v1).bind fun q4 =>
      (fR_pushBlock S q4).bind fun q6 =>
      fR_compileCyclic_L112 n q6 (v1 + (1 : Int32))
    )
def fR_compileCyclic_L53 (K : pR → Int32 → Option (Int32 × pR)) : Nat → pR → Int32 → Int32 → Option (Int32 × pR)
  | 0, _, _, _ => none
  | n + 1, S, v1, v2 =>
    (p_rd 300 S.2.1.2.2.2.1 v1).bind fun q16 =>
    if q16 ≤ v2 then (
      K S (v1 + (1 : Int32))
    ) else (
      (p_rd 3600 S.2.1.2.2.1 (((12 : Int32) * v1) + v2)).bind fun q19 =>
      (p_wr 3600 S.2.2.1.2.1 (((12 : Int32) * v1) + v2) q19).bind fun q21 =>
      fR_compileCyclic_L53 K n (S.1, S.2.1, (S.2.2.1.1, q21, S.2.2.1.2.2.1, S.2.2.1.2.2.2.1, S.2.2.1.2.2.2.2.1, S.2.2.1.2.2.2.2.2.1, S.2.2.1.2.2.2.2.2.2.1, S.2.2.1.2.2.2.2.2.2.2.1, S.2.2.1.2.2.2.2.2.2.2.2), S.2.2.2) v1 (v2 + (1 : Int32))
    )
def fR_compileCyclic_L19 : Nat → pR → Int32 → Option (Int32 × pR)
  | 0, _, _ => none
  | n + 1, S, v1 =>
    if S.2.1.1 ≤ v1 then (
      fR_compileCyclic_L112 100000 (S.1, S.2.1, (S.2.2.1.1, S.2.2.1.2.1, S.2.2.1.2.2.1, S.2.2.1.2.2.2.1, S.2.2.1.2.2.2.2.1, (0 : Int32), (0 : Int32), S.2.2.1.2.2.2.2.2.2.2.1, S.2.2.1.2.2.2.2.2.2.2.2), S.2.2.2) S.2.1.2.2.2.2.2.2.1
    ) else (
      (p_rd 300 S.2.1.2.2.2.1 v1).bind fun q8 =>
      (p_wr 300 S.2.2.1.2.2.1 v1 q8).bind fun q10 =>
      (p_rd 300 S.2.1.2.2.2.2.1 v1).bind fun q12 =>
      (p_wr 300 S.2.2.1.2.2.2.1 v1 (vp_nar .boolean q12)).bind fun q14 =>
      fR_compileCyclic_L53 (fun S w1 => fR_compileCyclic_L19 n S w1) 100000 (S.1, S.2.1, (S.2.2.1.1, S.2.2.1.2.1, q10, q14, S.2.2.1.2.2.2.2.1, S.2.2.1.2.2.2.2.2.1, S.2.2.1.2.2.2.2.2.2.1, S.2.2.1.2.2.2.2.2.2.2.1, S.2.2.1.2.2.2.2.2.2.2.2), S.2.2.2) v1 (0 : Int32)
    )
def fR_compileCyclic (S : pR) : Option (Int32 × pR) :=
  if S.2.1.1 = 0 then (
    some ((0 : Int32), S)
  ) else (
    fR_compileCyclic_L19 100000 (S.1, S.2.1, (S.2.1.1, S.2.2.1.2.1, S.2.2.1.2.2.1, S.2.2.1.2.2.2.1, S.2.2.1.2.2.2.2.1, S.2.2.1.2.2.2.2.2.1, S.2.2.1.2.2.2.2.2.2.1, S.2.2.1.2.2.2.2.2.2.2.1, S.2.2.1.2.2.2.2.2.2.2.2), S.2.2.2) (0 : Int32)
  )
set_option maxRecDepth 100000 in
set_option maxHeartbeats 4000000 in
theorem wR_compileCyclic_L112 {V : ee_V} (a : Nat → Nat) (S0 : pR) {x : wk_C} (X : wk_K (ee V) x cR_compileCyclic 3 "TagWorkshopModel" ts_R_compileCyclic ⟨1, 0, 0, 22⟩) (R : Int32 × pR) (Z : wk_N x (some .int) (va_Qi (fun (r : Int32) (u : pR) => R.1 = r ∧ R.2 = u) (wk_B (ee V) (cR V a S0) (fun u : pR => cR V a u)) (wk_in (cR V a S0))) (cR V a S0)) : ∀ (n : Nat) (S : pR) (v1 : Int32), fR_compileCyclic_L112 n S v1 = some R → wk_G (ee V) x 3 (cR V a S) 112 [(0, .ref (a 0)), (1, .int v1)] [] := by
  intro n
  induction n with
  | zero => intro S v1 hf; exact absurd hf (by rw [fR_compileCyclic_L112]; exact fun h => by cases h)
  | succ n ih =>
    intro S v1 hf
    rw [fR_compileCyclic_L112] at hf
    refine wk_iload_n X 1 dR_compileCyclic_112 rfl rfl ?_
    refine wk_aload_n X 0 dR_compileCyclic_113 rfl rfl ?_
    refine wk_get X uw_R 0 rfl rfl 15 (Nat.le_of_ble_eq_true rfl) (tl tw_552) rfl rfl dR_compileCyclic_114 ?_
    refine wk_icmp_ge X dR_compileCyclic_117 (tgt := 136) rfl (fun h3 => ?_) (fun h3 => ?_)
    · replace hf := p_it h3 hf
      refine wk_aload_n X 0 dR_compileCyclic_136 rfl rfl ?_
      refine wk_iconst X dR_compileCyclic_137 (v := (0 : Int32)) (by decide) ?_
      refine wk_put X uw_R 0 rfl rfl 23 (Nat.le_of_ble_eq_true rfl) ft_R ft_R_ok fn_R (tl tw_560) rfl rfl rfl rfl (Nat.le_of_ble_eq_true rfl) dR_compileCyclic_138 (ws' := cR V a (S.1, S.2.1, (S.2.2.1.1, S.2.2.1.2.1, S.2.2.1.2.2.1, S.2.2.1.2.2.2.1, S.2.2.1.2.2.2.2.1, S.2.2.1.2.2.2.2.2.1, S.2.2.1.2.2.2.2.2.2.1, (0 : Int32), S.2.2.1.2.2.2.2.2.2.2.2), S.2.2.2)) rfl ?_
      refine wk_aload_n X 0 dR_compileCyclic_141 rfl rfl ?_
      refine wk_iconst X dR_compileCyclic_142 (v := (0 : Int32)) (by decide) ?_
      refine wk_put X uw_R 0 rfl rfl 24 (Nat.le_of_ble_eq_true rfl) ft_R ft_R_ok fn_R (tl tw_561) rfl rfl rfl rfl (Nat.le_of_ble_eq_true rfl) dR_compileCyclic_143 (ws' := cR V a (S.1, S.2.1, (S.2.2.1.1, S.2.2.1.2.1, S.2.2.1.2.2.1, S.2.2.1.2.2.2.1, S.2.2.1.2.2.2.2.1, S.2.2.1.2.2.2.2.2.1, S.2.2.1.2.2.2.2.2.2.1, (0 : Int32), (0 : Int32)), S.2.2.2)) rfl ?_
      refine wk_iconst X dR_compileCyclic_146 (v := (2 : Int32)) (by decide) ?_
      refine wk_aload_n X 0 dR_compileCyclic_147 rfl rfl ?_
      refine wk_get X uw_R 0 rfl rfl 16 (Nat.le_of_ble_eq_true rfl) (tl tw_553) rfl rfl dR_compileCyclic_148 ?_
      refine wk_imul X dR_compileCyclic_151 ?_
      have hf := Option.some.inj hf
      exact wk_iret X Z rfl dR_compileCyclic_152 ((S.1, S.2.1, (S.2.2.1.1, S.2.2.1.2.1, S.2.2.1.2.2.1, S.2.2.1.2.2.2.1, S.2.2.1.2.2.2.2.1, S.2.2.1.2.2.2.2.2.1, S.2.2.1.2.2.2.2.2.2.1, (0 : Int32), (0 : Int32)), S.2.2.2)) ⟨Eq.symm (congrArg Prod.fst hf), Eq.symm (congrArg Prod.snd hf)⟩ rfl rfl
    · replace hf := p_ie h3 hf
      refine wk_aload_n X 0 dR_compileCyclic_120 rfl rfl ?_
      refine wk_aload_n X 0 dR_compileCyclic_121 rfl rfl ?_
      refine wk_get X uw_R 0 rfl rfl 13 (Nat.le_of_ble_eq_true rfl) (tl tw_550) rfl rfl dR_compileCyclic_122 ?_
      refine wk_iload_n X 1 dR_compileCyclic_125 rfl rfl ?_
      obtain ⟨q4, h5, hf⟩ := p_ob hf
      obtain ⟨h5i, h5e⟩ := p_rd_some h5
      refine wk_iald X 8 0 rfl rfl h5i h5e dR_compileCyclic_126 ?_
      obtain ⟨q6, h7, hf⟩ := p_ob hf
      refine wk_goV [0, 1, 2, 3, 4, 5, 6, 7, 8, 9, 10, 11, 12] (wk_rV X (mR_pushBlock (V := V) a S q4 q6 h7) rfl (gd (tw_767)) [0, 1, 2, 3, 4, 5, 6, 7, 8, 9, 10, 11, 12] rfl rfl 0 rfl rfl (tl tw_764) (tl tw_766) (tl tv_19) (tl tw_7) 1 pd_R_pushBlock rfl ⟨rfl, rfl⟩ ⟨Nat.le_of_ble_eq_true rfl, Nat.le_of_ble_eq_true rfl⟩ rfl (Nat.le_of_ble_eq_true rfl) dR_compileCyclic_127) rfl ?_
      rintro u rfl
      refine wk_ws (ws' := cR V a q6) rfl ?_
      refine wk_iinc X 1 dR_compileCyclic_130 (v := (v1 + (1 : Int32))) rfl rfl (Nat.le_of_ble_eq_true rfl) (lv' := [(1, .int (v1 + (1 : Int32))), (0, .ref (a 0))]) rfl ?_
      refine wk_goto X dR_compileCyclic_133 (tgt := 112) rfl ?_
      refine wk_lv [1, 0] (lv' := [(0, .ref (a 0)), (1, .int (v1 + (1 : Int32)))]) rfl ?_
      exact ih q6 (v1 + (1 : Int32)) hf
set_option maxRecDepth 100000 in
set_option maxHeartbeats 4000000 in
theorem wR_compileCyclic_L53 {V : ee_V} (a : Nat → Nat) (S0 : pR) {x : wk_C} (X : wk_K (ee V) x cR_compileCyclic 3 "TagWorkshopModel" ts_R_compileCyclic ⟨1, 0, 0, 22⟩) (R : Int32 × pR) (Z : wk_N x (some .int) (va_Qi (fun (r : Int32) (u : pR) => R.1 = r ∧ R.2 = u) (wk_B (ee V) (cR V a S0) (fun u : pR => cR V a u)) (wk_in (cR V a S0))) (cR V a S0)) (K : pR → Int32 → Option (Int32 × pR)) (hK : ∀ (S : pR) (v1 : Int32), K S v1 = some R → wk_G (ee V) x 3 (cR V a S) 19 [(0, .ref (a 0)), (1, .int v1)] []) : ∀ (n : Nat) (S : pR) (v1 : Int32) (v2 : Int32), fR_compileCyclic_L53 K n S v1 v2 = some R → wk_G (ee V) x 3 (cR V a S) 53 [(0, .ref (a 0)), (1, .int v1), (2, .int v2)] [] := by
  intro n
  induction n with
  | zero => intro S v1 v2 hf; exact absurd hf (by rw [fR_compileCyclic_L53]; exact fun h => by cases h)
  | succ n ih =>
    intro S v1 v2 hf
    rw [fR_compileCyclic_L53] at hf
    refine wk_iload_n X 2 dR_compileCyclic_53 rfl rfl ?_
    refine wk_aload_n X 0 dR_compileCyclic_54 rfl rfl ?_
    refine wk_get X uw_R 0 rfl rfl 11 (Nat.le_of_ble_eq_true rfl) (tl tw_548) rfl rfl dR_compileCyclic_55 ?_
    refine wk_iload_n X 1 dR_compileCyclic_58 rfl rfl ?_
    obtain ⟨q16, h17, hf⟩ := p_ob hf
    obtain ⟨h17i, h17e⟩ := p_rd_some h17
    refine wk_iald X 6 0 rfl rfl h17i h17e dR_compileCyclic_59 ?_
    refine wk_icmp_ge X dR_compileCyclic_60 (tgt := 91) rfl (fun h18 => ?_) (fun h18 => ?_)
    · replace hf := p_it h18 hf
      refine wk_iinc X 1 dR_compileCyclic_91 (v := (v1 + (1 : Int32))) rfl rfl (Nat.le_of_ble_eq_true rfl) (lv' := [(1, .int (v1 + (1 : Int32))), (0, .ref (a 0)), (2, .int v2)]) rfl ?_
      refine wk_goto X dR_compileCyclic_94 (tgt := 19) rfl ?_
      refine wk_lv [1, 0] (lv' := [(0, .ref (a 0)), (1, .int (v1 + (1 : Int32)))]) rfl ?_
      exact hK S (v1 + (1 : Int32)) hf
    · replace hf := p_ie h18 hf
      refine wk_aload_n X 0 dR_compileCyclic_63 rfl rfl ?_
      refine wk_get X uw_R 0 rfl rfl 17 (Nat.le_of_ble_eq_true rfl) (tl tw_554) rfl rfl dR_compileCyclic_64 ?_
      refine wk_bipush X dR_compileCyclic_67 (v := (12 : Int32)) (by decide) ?_
      refine wk_iload_n X 1 dR_compileCyclic_69 rfl rfl ?_
      refine wk_imul X dR_compileCyclic_70 ?_
      refine wk_iload_n X 2 dR_compileCyclic_71 rfl rfl ?_
      refine wk_iadd X dR_compileCyclic_72 ?_
      refine wk_aload_n X 0 dR_compileCyclic_73 rfl rfl ?_
      refine wk_get X uw_R 0 rfl rfl 10 (Nat.le_of_ble_eq_true rfl) (tl tw_547) rfl rfl dR_compileCyclic_74 ?_
      refine wk_bipush X dR_compileCyclic_77 (v := (12 : Int32)) (by decide) ?_
      refine wk_iload_n X 1 dR_compileCyclic_79 rfl rfl ?_
      refine wk_imul X dR_compileCyclic_80 ?_
      refine wk_iload_n X 2 dR_compileCyclic_81 rfl rfl ?_
      refine wk_iadd X dR_compileCyclic_82 ?_
      obtain ⟨q19, h20, hf⟩ := p_ob hf
      obtain ⟨h20i, h20e⟩ := p_rd_some h20
      refine wk_iald X 5 0 rfl rfl h20i h20e dR_compileCyclic_83 ?_
      obtain ⟨q21, h22, hf⟩ := p_ob hf
      obtain ⟨h22i, h22e⟩ := p_wr_some h22
      refine wk_iast X 9 0 rfl rfl h22i h22e dR_compileCyclic_84 (ws' := cR V a (S.1, S.2.1, (S.2.2.1.1, q21, S.2.2.1.2.2.1, S.2.2.1.2.2.2.1, S.2.2.1.2.2.2.2.1, S.2.2.1.2.2.2.2.2.1, S.2.2.1.2.2.2.2.2.2.1, S.2.2.1.2.2.2.2.2.2.2.1, S.2.2.1.2.2.2.2.2.2.2.2), S.2.2.2)) rfl ?_
      refine wk_iinc X 2 dR_compileCyclic_85 (v := (v2 + (1 : Int32))) rfl rfl (Nat.le_of_ble_eq_true rfl) (lv' := [(2, .int (v2 + (1 : Int32))), (0, .ref (a 0)), (1, .int v1)]) rfl ?_
      refine wk_goto X dR_compileCyclic_88 (tgt := 53) rfl ?_
      refine wk_lv [1, 2, 0] (lv' := [(0, .ref (a 0)), (1, .int v1), (2, .int (v2 + (1 : Int32)))]) rfl ?_
      exact ih (S.1, S.2.1, (S.2.2.1.1, q21, S.2.2.1.2.2.1, S.2.2.1.2.2.2.1, S.2.2.1.2.2.2.2.1, S.2.2.1.2.2.2.2.2.1, S.2.2.1.2.2.2.2.2.2.1, S.2.2.1.2.2.2.2.2.2.2.1, S.2.2.1.2.2.2.2.2.2.2.2), S.2.2.2) v1 (v2 + (1 : Int32)) hf
set_option maxRecDepth 100000 in
set_option maxHeartbeats 4000000 in
theorem wR_compileCyclic_L19 {V : ee_V} (a : Nat → Nat) (S0 : pR) {x : wk_C} (X : wk_K (ee V) x cR_compileCyclic 3 "TagWorkshopModel" ts_R_compileCyclic ⟨1, 0, 0, 22⟩) (R : Int32 × pR) (Z : wk_N x (some .int) (va_Qi (fun (r : Int32) (u : pR) => R.1 = r ∧ R.2 = u) (wk_B (ee V) (cR V a S0) (fun u : pR => cR V a u)) (wk_in (cR V a S0))) (cR V a S0)) : ∀ (n : Nat) (S : pR) (v1 : Int32), fR_compileCyclic_L19 n S v1 = some R → wk_G (ee V) x 3 (cR V a S) 19 [(0, .ref (a 0)), (1, .int v1)] [] := by
  intro n
  induction n with
  | zero => intro S v1 hf; exact absurd hf (by rw [fR_compileCyclic_L19]; exact fun h => by cases h)
  | succ n ih =>
    intro S v1 hf
    rw [fR_compileCyclic_L19] at hf
    refine wk_iload_n X 1 dR_compileCyclic_19 rfl rfl ?_
    refine wk_aload_n X 0 dR_compileCyclic_20 rfl rfl ?_
    refine wk_get X uw_R 0 rfl rfl 8 (Nat.le_of_ble_eq_true rfl) (tl tw_545) rfl rfl dR_compileCyclic_21 ?_
    refine wk_icmp_ge X dR_compileCyclic_24 (tgt := 97) rfl (fun h2 => ?_) (fun h2 => ?_)
    · replace hf := p_it h2 hf
      refine wk_aload_n X 0 dR_compileCyclic_97 rfl rfl ?_
      refine wk_iconst X dR_compileCyclic_98 (v := (0 : Int32)) (by decide) ?_
      refine wk_put X uw_R 0 rfl rfl 21 (Nat.le_of_ble_eq_true rfl) ft_R ft_R_ok fn_R (tl tw_558) rfl rfl rfl rfl (Nat.le_of_ble_eq_true rfl) dR_compileCyclic_99 (ws' := cR V a (S.1, S.2.1, (S.2.2.1.1, S.2.2.1.2.1, S.2.2.1.2.2.1, S.2.2.1.2.2.2.1, S.2.2.1.2.2.2.2.1, (0 : Int32), S.2.2.1.2.2.2.2.2.2.1, S.2.2.1.2.2.2.2.2.2.2.1, S.2.2.1.2.2.2.2.2.2.2.2), S.2.2.2)) rfl ?_
      refine wk_aload_n X 0 dR_compileCyclic_102 rfl rfl ?_
      refine wk_iconst X dR_compileCyclic_103 (v := (0 : Int32)) (by decide) ?_
      refine wk_put X uw_R 0 rfl rfl 22 (Nat.le_of_ble_eq_true rfl) ft_R ft_R_ok fn_R (tl tw_559) rfl rfl rfl rfl (Nat.le_of_ble_eq_true rfl) dR_compileCyclic_104 (ws' := cR V a (S.1, S.2.1, (S.2.2.1.1, S.2.2.1.2.1, S.2.2.1.2.2.1, S.2.2.1.2.2.2.1, S.2.2.1.2.2.2.2.1, (0 : Int32), (0 : Int32), S.2.2.1.2.2.2.2.2.2.2.1, S.2.2.1.2.2.2.2.2.2.2.2), S.2.2.2)) rfl ?_
      refine wk_aload_n X 0 dR_compileCyclic_107 rfl rfl ?_
      refine wk_get X uw_R 0 rfl rfl 14 (Nat.le_of_ble_eq_true rfl) (tl tw_551) rfl rfl dR_compileCyclic_108 ?_
      refine wk_istore_n X dR_compileCyclic_111 rfl (Nat.le_of_ble_eq_true rfl) (lv' := [(1, .int S.2.1.2.2.2.2.2.2.1), (0, .ref (a 0))]) rfl ?_
      refine wk_lv [1, 0] (lv' := [(0, .ref (a 0)), (1, .int S.2.1.2.2.2.2.2.2.1)]) rfl ?_
      exact wR_compileCyclic_L112 a S0 X R Z 100000 (S.1, S.2.1, (S.2.2.1.1, S.2.2.1.2.1, S.2.2.1.2.2.1, S.2.2.1.2.2.2.1, S.2.2.1.2.2.2.2.1, (0 : Int32), (0 : Int32), S.2.2.1.2.2.2.2.2.2.2.1, S.2.2.1.2.2.2.2.2.2.2.2), S.2.2.2) S.2.1.2.2.2.2.2.2.1 hf
    · replace hf := p_ie h2 hf
      refine wk_aload_n X 0 dR_compileCyclic_27 rfl rfl ?_
      refine wk_get X uw_R 0 rfl rfl 18 (Nat.le_of_ble_eq_true rfl) (tl tw_555) rfl rfl dR_compileCyclic_28 ?_
      refine wk_iload_n X 1 dR_compileCyclic_31 rfl rfl ?_
      refine wk_aload_n X 0 dR_compileCyclic_32 rfl rfl ?_
      refine wk_get X uw_R 0 rfl rfl 11 (Nat.le_of_ble_eq_true rfl) (tl tw_548) rfl rfl dR_compileCyclic_33 ?_
      refine wk_iload_n X 1 dR_compileCyclic_36 rfl rfl ?_
      obtain ⟨q8, h9, hf⟩ := p_ob hf
      obtain ⟨h9i, h9e⟩ := p_rd_some h9
      refine wk_iald X 6 0 rfl rfl h9i h9e dR_compileCyclic_37 ?_
      obtain ⟨q10, h11, hf⟩ := p_ob hf
      obtain ⟨h11i, h11e⟩ := p_wr_some h11
      refine wk_iast X 10 0 rfl rfl h11i h11e dR_compileCyclic_38 (ws' := cR V a (S.1, S.2.1, (S.2.2.1.1, S.2.2.1.2.1, q10, S.2.2.1.2.2.2.1, S.2.2.1.2.2.2.2.1, S.2.2.1.2.2.2.2.2.1, S.2.2.1.2.2.2.2.2.2.1, S.2.2.1.2.2.2.2.2.2.2.1, S.2.2.1.2.2.2.2.2.2.2.2), S.2.2.2)) rfl ?_
      refine wk_aload_n X 0 dR_compileCyclic_39 rfl rfl ?_
      refine wk_get X uw_R 0 rfl rfl 19 (Nat.le_of_ble_eq_true rfl) (tl tw_556) rfl rfl dR_compileCyclic_40 ?_
      refine wk_iload_n X 1 dR_compileCyclic_43 rfl rfl ?_
      refine wk_aload_n X 0 dR_compileCyclic_44 rfl rfl ?_
      refine wk_get X uw_R 0 rfl rfl 12 (Nat.le_of_ble_eq_true rfl) (tl tw_549) rfl rfl dR_compileCyclic_45 ?_
      refine wk_iload_n X 1 dR_compileCyclic_48 rfl rfl ?_
      obtain ⟨q12, h13, hf⟩ := p_ob hf
      obtain ⟨h13i, h13e⟩ := p_rd_some h13
      refine wk_zald X 7 1 rfl rfl h13i h13e dR_compileCyclic_49 ?_
      obtain ⟨q14, h15, hf⟩ := p_ob hf
      obtain ⟨h15i, h15e⟩ := p_wr_some h15
      refine wk_zastN X 11 1 rfl rfl h15i h15e dR_compileCyclic_50 (ws' := cR V a (S.1, S.2.1, (S.2.2.1.1, S.2.2.1.2.1, q10, q14, S.2.2.1.2.2.2.2.1, S.2.2.1.2.2.2.2.2.1, S.2.2.1.2.2.2.2.2.2.1, S.2.2.1.2.2.2.2.2.2.2.1, S.2.2.1.2.2.2.2.2.2.2.2), S.2.2.2)) rfl ?_
      refine wk_iconst X dR_compileCyclic_51 (v := (0 : Int32)) (by decide) ?_
      refine wk_istore_n X dR_compileCyclic_52 rfl (Nat.le_of_ble_eq_true rfl) (lv' := [(2, .int (0 : Int32)), (0, .ref (a 0)), (1, .int v1)]) rfl ?_
      refine wk_lv [1, 2, 0] (lv' := [(0, .ref (a 0)), (1, .int v1), (2, .int (0 : Int32))]) rfl ?_
      exact wR_compileCyclic_L53 a S0 X R Z _ (fun S w1 h => ih S w1 h) 100000 (S.1, S.2.1, (S.2.2.1.1, S.2.2.1.2.1, q10, q14, S.2.2.1.2.2.2.2.1, S.2.2.1.2.2.2.2.2.1, S.2.2.1.2.2.2.2.2.2.1, S.2.2.1.2.2.2.2.2.2.2.1, S.2.2.1.2.2.2.2.2.2.2.2), S.2.2.2) v1 (0 : Int32) hf
set_option maxRecDepth 100000 in
set_option maxHeartbeats 4000000 in
theorem mR_compileCyclic {V : ee_V} (a : Nat → Nat) (S : pR) (R : Int32 × pR) (hf : fR_compileCyclic S = some R) : wk_I (ee V) yR_compileCyclic ts_R_compileCyclic ⟨1, 0, 0, 22⟩ [.ref (a 0)] (cR V a S) (fun (r : Int32) (u : pR) => R.1 = r ∧ R.2 = u) (fun u : pR => cR V a u) := by
  refine wk_of (ee_ok V) (by decide +kernel) rfl (Nat.le_of_ble_eq_true rfl) ?_
  intro x X Z
  unfold fR_compileCyclic at hf
  refine wk_lq (lv' := [(0, .ref (a 0))]) rfl ?_
  refine wk_aload_n X 0 dR_compileCyclic_0 rfl rfl ?_
  refine wk_get X uw_R 0 rfl rfl 8 (Nat.le_of_ble_eq_true rfl) (tl tw_545) rfl rfl dR_compileCyclic_1 ?_
  refine wk_if_ne X dR_compileCyclic_4 (tgt := 9) rfl (fun h1 => ?_) (fun h1 => ?_)
  · replace hf := p_ie h1 hf
    refine wk_aload_n X 0 dR_compileCyclic_9 rfl rfl ?_
    refine wk_aload_n X 0 dR_compileCyclic_10 rfl rfl ?_
    refine wk_get X uw_R 0 rfl rfl 8 (Nat.le_of_ble_eq_true rfl) (tl tw_545) rfl rfl dR_compileCyclic_11 ?_
    refine wk_put X uw_R 0 rfl rfl 16 (Nat.le_of_ble_eq_true rfl) ft_R ft_R_ok fn_R (tl tw_553) rfl rfl rfl rfl (Nat.le_of_ble_eq_true rfl) dR_compileCyclic_14 (ws' := cR V a (S.1, S.2.1, (S.2.1.1, S.2.2.1.2.1, S.2.2.1.2.2.1, S.2.2.1.2.2.2.1, S.2.2.1.2.2.2.2.1, S.2.2.1.2.2.2.2.2.1, S.2.2.1.2.2.2.2.2.2.1, S.2.2.1.2.2.2.2.2.2.2.1, S.2.2.1.2.2.2.2.2.2.2.2), S.2.2.2)) rfl ?_
    refine wk_iconst X dR_compileCyclic_17 (v := (0 : Int32)) (by decide) ?_
    refine wk_istore_n X dR_compileCyclic_18 rfl (Nat.le_of_ble_eq_true rfl) (lv' := [(1, .int (0 : Int32)), (0, .ref (a 0))]) rfl ?_
    refine wk_lv [1, 0] (lv' := [(0, .ref (a 0)), (1, .int (0 : Int32))]) rfl ?_
    exact wR_compileCyclic_L19 a S X R Z 100000 (S.1, S.2.1, (S.2.1.1, S.2.2.1.2.1, S.2.2.1.2.2.1, S.2.2.1.2.2.2.1, S.2.2.1.2.2.2.2.1, S.2.2.1.2.2.2.2.2.1, S.2.2.1.2.2.2.2.2.2.1, S.2.2.1.2.2.2.2.2.2.2.1, S.2.2.1.2.2.2.2.2.2.2.2), S.2.2.2) (0 : Int32) hf
  · replace hf := p_it h1 hf
    refine wk_iconst X dR_compileCyclic_7 (v := (0 : Int32)) (by decide) ?_
    have hf := Option.some.inj hf
    exact wk_iret X Z rfl dR_compileCyclic_8 (S) ⟨Eq.symm (congrArg Prod.fst hf), Eq.symm (congrArg Prod.snd hf)⟩ rfl rfl
-- R_bits: room (0, 0), Int32
def fR_bits (S : pR) : Int32 :=
  (((S.2.2.1.2.2.2.2.2.2.1 - S.2.2.1.2.2.2.2.2.1) * S.2.2.1.1) - S.2.2.1.2.2.2.2.2.2.2.1)
set_option maxRecDepth 100000 in
set_option maxHeartbeats 4000000 in
theorem mR_bits {V : ee_V} (a : Nat → Nat) (S : pR) (R : Int32) (hf : fR_bits S = R) : wk_I (ee V) yR_bits ts_R_bits ⟨0, 0, 0, 0⟩ [.ref (a 0)] (cR V a S) (fun (r : Int32) (_ : Unit) => R = r) (fun _ : Unit => cR V a S) := by
  refine wk_of (ee_ok V) (by decide +kernel) rfl (Nat.le_of_ble_eq_true rfl) ?_
  intro x X Z
  unfold fR_bits at hf
  refine wk_lq (lv' := [(0, .ref (a 0))]) rfl ?_
  refine wk_aload_n X 0 dR_bits_0 rfl rfl ?_
  refine wk_get X uw_R 0 rfl rfl 22 (Nat.le_of_ble_eq_true rfl) (tl tw_559) rfl rfl dR_bits_1 ?_
  refine wk_aload_n X 0 dR_bits_4 rfl rfl ?_
  refine wk_get X uw_R 0 rfl rfl 21 (Nat.le_of_ble_eq_true rfl) (tl tw_558) rfl rfl dR_bits_5 ?_
  refine wk_isub X dR_bits_8 ?_
  refine wk_aload_n X 0 dR_bits_9 rfl rfl ?_
  refine wk_get X uw_R 0 rfl rfl 16 (Nat.le_of_ble_eq_true rfl) (tl tw_553) rfl rfl dR_bits_10 ?_
  refine wk_imul X dR_bits_13 ?_
  refine wk_aload_n X 0 dR_bits_14 rfl rfl ?_
  refine wk_get X uw_R 0 rfl rfl 23 (Nat.le_of_ble_eq_true rfl) (tl tw_560) rfl rfl dR_bits_15 ?_
  refine wk_isub X dR_bits_18 ?_
  exact wk_iret X Z rfl dR_bits_19 () (Eq.symm hf) rfl rfl
-- R_cyclicCan: room (1, 20), Option (Int32)
def fR_cyclicCan (S : pR) : Option (Int32) :=
  if S.2.2.1.2.2.2.2.2.2.2.2 = 0 then (
    if (S.2.2.1.2.2.2.2.2.2.1 - S.2.2.1.2.2.2.2.2.1) < (2 : Int32) then (
      some (0 : Int32)
    ) else (
      (p_rd 12000 S.2.2.1.2.2.2.2.1 S.2.2.1.2.2.2.2.2.1).bind fun q3 =>
      (p_rd 300 S.2.2.1.2.2.2.1 q3).bind fun q5 =>
      if q5 = 0 then (
        (p_rd 300 S.2.2.1.2.2.1 q3).bind fun q10 =>
        if (((S.2.2.1.2.2.2.2.2.2.1 - S.2.2.1.2.2.2.2.2.1) - (2 : Int32)) + q10) ≤ (4000 : Int32) then (
          some (1 : Int32)
        ) else (
          some (-2 : Int32)
        )
      ) else (
        some (0 : Int32)
      )
    )
  ) else (
    if (fR_bits S) ≤ 0 then (
      some (0 : Int32)
    ) else (
      some (1 : Int32)
    )
  )
set_option maxRecDepth 100000 in
set_option maxHeartbeats 4000000 in
theorem mR_cyclicCan {V : ee_V} (a : Nat → Nat) (S : pR) (R : Int32) (hf : fR_cyclicCan S = some R) : wk_I (ee V) yR_cyclicCan ts_R_cyclicCan ⟨1, 0, 0, 20⟩ [.ref (a 0)] (cR V a S) (fun (r : Int32) (_ : Unit) => R = r) (fun _ : Unit => cR V a S) := by
  refine wk_of (ee_ok V) (by decide +kernel) rfl (Nat.le_of_ble_eq_true rfl) ?_
  intro x X Z
  unfold fR_cyclicCan at hf
  refine wk_lq (lv' := [(0, .ref (a 0))]) rfl ?_
  refine wk_aload_n X 0 dR_cyclicCan_0 rfl rfl ?_
  refine wk_get X uw_R 0 rfl rfl 24 (Nat.le_of_ble_eq_true rfl) (tl tw_561) rfl rfl dR_cyclicCan_1 ?_
  refine wk_if_eq X dR_cyclicCan_4 (tgt := 20) rfl (fun h1 => ?_) (fun h1 => ?_)
  · replace hf := p_it h1 hf
    refine wk_aload_n X 0 dR_cyclicCan_20 rfl rfl ?_
    refine wk_get X uw_R 0 rfl rfl 22 (Nat.le_of_ble_eq_true rfl) (tl tw_559) rfl rfl dR_cyclicCan_21 ?_
    refine wk_aload_n X 0 dR_cyclicCan_24 rfl rfl ?_
    refine wk_get X uw_R 0 rfl rfl 21 (Nat.le_of_ble_eq_true rfl) (tl tw_558) rfl rfl dR_cyclicCan_25 ?_
    refine wk_isub X dR_cyclicCan_28 ?_
    refine wk_istore_n X dR_cyclicCan_29 rfl (Nat.le_of_ble_eq_true rfl) (lv' := [(1, .int (S.2.2.1.2.2.2.2.2.2.1 - S.2.2.1.2.2.2.2.2.1)), (0, .ref (a 0))]) rfl ?_
    refine wk_iload_n X 0 dR_cyclicCan_30 rfl rfl ?_
    refine wk_iconst X dR_cyclicCan_31 (v := (2 : Int32)) (by decide) ?_
    refine wk_icmp_lt X dR_cyclicCan_32 (tgt := 52) rfl (fun h2 => ?_) (fun h2 => ?_)
    · replace hf := p_it h2 hf
      refine wk_iconst X dR_cyclicCan_52 (v := (0 : Int32)) (by decide) ?_
      have hf := Option.some.inj hf
      exact wk_iret X Z rfl dR_cyclicCan_53 () (Eq.symm hf) rfl rfl
    · replace hf := p_ie h2 hf
      refine wk_aload_n X 1 dR_cyclicCan_35 rfl rfl ?_
      refine wk_get X uw_R 0 rfl rfl 19 (Nat.le_of_ble_eq_true rfl) (tl tw_556) rfl rfl dR_cyclicCan_36 ?_
      refine wk_aload_n X 1 dR_cyclicCan_39 rfl rfl ?_
      refine wk_get X uw_R 0 rfl rfl 20 (Nat.le_of_ble_eq_true rfl) (tl tw_557) rfl rfl dR_cyclicCan_40 ?_
      refine wk_aload_n X 1 dR_cyclicCan_43 rfl rfl ?_
      refine wk_get X uw_R 0 rfl rfl 21 (Nat.le_of_ble_eq_true rfl) (tl tw_558) rfl rfl dR_cyclicCan_44 ?_
      obtain ⟨q3, h4, hf⟩ := p_ob hf
      obtain ⟨h4i, h4e⟩ := p_rd_some h4
      refine wk_iald X 12 0 rfl rfl h4i h4e dR_cyclicCan_47 ?_
      obtain ⟨q5, h6, hf⟩ := p_ob hf
      obtain ⟨h6i, h6e⟩ := p_rd_some h6
      refine wk_zald X 11 1 rfl rfl h6i h6e dR_cyclicCan_48 ?_
      refine wk_if_eq X dR_cyclicCan_49 (tgt := 54) rfl (fun h7 => ?_) (fun h7 => ?_)
      · replace hf := p_it h7 hf
        refine wk_iload_n X 0 dR_cyclicCan_54 rfl rfl ?_
        refine wk_iconst X dR_cyclicCan_55 (v := (2 : Int32)) (by decide) ?_
        refine wk_isub X dR_cyclicCan_56 ?_
        refine wk_aload_n X 1 dR_cyclicCan_57 rfl rfl ?_
        refine wk_get X uw_R 0 rfl rfl 18 (Nat.le_of_ble_eq_true rfl) (tl tw_555) rfl rfl dR_cyclicCan_58 ?_
        refine wk_aload_n X 1 dR_cyclicCan_61 rfl rfl ?_
        refine wk_get X uw_R 0 rfl rfl 20 (Nat.le_of_ble_eq_true rfl) (tl tw_557) rfl rfl dR_cyclicCan_62 ?_
        refine wk_aload_n X 1 dR_cyclicCan_65 rfl rfl ?_
        refine wk_get X uw_R 0 rfl rfl 21 (Nat.le_of_ble_eq_true rfl) (tl tw_558) rfl rfl dR_cyclicCan_66 ?_
        refine wk_iald X 12 0 rfl rfl h4i h4e dR_cyclicCan_69 ?_
        obtain ⟨q10, h11, hf⟩ := p_ob hf
        obtain ⟨h11i, h11e⟩ := p_rd_some h11
        refine wk_iald X 10 0 rfl rfl h11i h11e dR_cyclicCan_70 ?_
        refine wk_iadd X dR_cyclicCan_71 ?_
        refine wk_sipush X dR_cyclicCan_72 (v := (4000 : Int32)) (by decide) ?_
        refine wk_icmp_le X dR_cyclicCan_75 (tgt := 83) rfl (fun h12 => ?_) (fun h12 => ?_)
        · replace hf := p_it h12 hf
          refine wk_iconst X dR_cyclicCan_83 (v := (1 : Int32)) (by decide) ?_
          have hf := Option.some.inj hf
          exact wk_iret X Z rfl dR_cyclicCan_84 () (Eq.symm hf) rfl rfl
        · replace hf := p_ie h12 hf
          refine wk_bipush X dR_cyclicCan_78 (v := (-2 : Int32)) (by decide) ?_
          refine wk_goto X dR_cyclicCan_80 (tgt := 84) rfl ?_
          have hf := Option.some.inj hf
          exact wk_iret X Z rfl dR_cyclicCan_84 () (Eq.symm hf) rfl rfl
      · replace hf := p_ie h7 hf
        refine wk_iconst X dR_cyclicCan_52 (v := (0 : Int32)) (by decide) ?_
        have hf := Option.some.inj hf
        exact wk_iret X Z rfl dR_cyclicCan_53 () (Eq.symm hf) rfl rfl
  · replace hf := p_ie h1 hf
    refine wk_aload_n X 0 dR_cyclicCan_7 rfl rfl ?_
    refine wk_goI [0, 1, 2, 3, 4, 5, 6, 7, 8, 9, 10, 11, 12] (wk_rV X (mR_bits (V := V) a S (fR_bits S) rfl) rfl (gd (tw_779)) [0, 1, 2, 3, 4, 5, 6, 7, 8, 9, 10, 11, 12] rfl rfl 0 rfl rfl (tl tw_776) (tl tw_778) (tl tv_21) (tl tw_7) 0 pd_R_bits rfl ⟨rfl, rfl⟩ ⟨Nat.le_of_ble_eq_true rfl, Nat.le_of_ble_eq_true rfl⟩ rfl (Nat.le_of_ble_eq_true rfl) dR_cyclicCan_8) rfl ?_
    rintro r ⟨⟩ rfl
    refine wk_ws (ws' := cR V a S) rfl ?_
    refine wk_if_le X dR_cyclicCan_11 (tgt := 18) rfl (fun h13 => ?_) (fun h13 => ?_)
    · replace hf := p_it h13 hf
      refine wk_iconst X dR_cyclicCan_18 (v := (0 : Int32)) (by decide) ?_
      have hf := Option.some.inj hf
      exact wk_iret X Z rfl dR_cyclicCan_19 () (Eq.symm hf) rfl rfl
    · replace hf := p_ie h13 hf
      refine wk_iconst X dR_cyclicCan_14 (v := (1 : Int32)) (by decide) ?_
      refine wk_goto X dR_cyclicCan_15 (tgt := 19) rfl ?_
      have hf := Option.some.inj hf
      exact wk_iret X Z rfl dR_cyclicCan_19 () (Eq.symm hf) rfl rfl

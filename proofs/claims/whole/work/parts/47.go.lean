/-! the law's entry: the two objects are made, then the loop -/
theorem hf_X : ∀ j, j < 4 → defaultValue (ft_X j) = vp_V [.null, .null, .null, .null] j
  | 0, _ => rfl
  | 1, _ => rfl
  | 2, _ => rfl
  | 3, _ => rfl
  | (j + 4), h => absurd h (by omega)
theorem hf_R : ∀ j, j < 29 → defaultValue (ft_R j) = vp_V [.null, .null, .null, .null, .int 0, .int 0, .int 0, .int 0, .int 0, .int 0, .null, .null, .null, .null, .int 0, .int 0, .int 0, .null, .null, .null, .null, .int 0, .int 0, .int 0, .int 0, .int 0, .int 0, .int 0, .int 0] j
  | 0, _ => rfl
  | 1, _ => rfl
  | 2, _ => rfl
  | 3, _ => rfl
  | 4, _ => rfl
  | 5, _ => rfl
  | 6, _ => rfl
  | 7, _ => rfl
  | 8, _ => rfl
  | 9, _ => rfl
  | 10, _ => rfl
  | 11, _ => rfl
  | 12, _ => rfl
  | 13, _ => rfl
  | 14, _ => rfl
  | 15, _ => rfl
  | 16, _ => rfl
  | 17, _ => rfl
  | 18, _ => rfl
  | 19, _ => rfl
  | 20, _ => rfl
  | 21, _ => rfl
  | 22, _ => rfl
  | 23, _ => rfl
  | 24, _ => rfl
  | 25, _ => rfl
  | 26, _ => rfl
  | 27, _ => rfl
  | 28, _ => rfl
  | (j + 29), h => absurd h (by omega)
set_option maxRecDepth 100000 in
set_option maxHeartbeats 4000000 in
theorem law_go {V : ee_V} {x : wk_C} {b L : Nat} {xs : Nat → Int32} (hL : L ≤ 3072) (X : wk_K (ee V) x code 4 "TagWorkshopLaw" ts_L_law room_1) (hk : wx_k x = 0) (hn : wx_n x = 0) (hA : ∀ q, (wx_H x).size ≤ q → wx_A x q) (hX : va_X b L xs (wx_s x) (wx_H x)) (hbl : b < (wx_H x).size) (hbA : ¬ wx_A x b)
    (hend : ∀ ws lv, wk_G (ee V) (wx_up (wx_up (wx_up (wx_up x 1 4) 16 10669) 1 29) 12 32464) 4 ws 849 lv [.int 1]) : wk_G (ee V) x 4 [] 0 [(0, .ref b)] [] := by
  refine wk_new X uw_X ft_X ft_X_ok (tl tw_11) (tl tw_12) (tl tw_1) hA (ci := 4) rfl (fs := [.null, .null, .null, .null]) hf_X (by show wx_k x + 1 ≤ 30; omega) (by show wx_n x + 4 ≤ 43166; omega) dL_law_0 ?_
  intro q
  refine wk_ws (ws' := [(q, .inr (4, [.null, .null, .null, .null]))]) rfl ?_
  have X1 := X.up (dk := 1) (dn := 4) (by show wx_k x + 1 ≤ 30; omega) (by show wx_n x + 4 ≤ 43166; omega)
  refine wk_dup X1 dL_law_3 rfl ?_
  refine wk_callC X1 (fun sz => mX_init q sz) rfl (gd tw_15) 0 rfl hA (tl tw_13) (tl tw_14) (tl tw_1) rfl pd_X_init ⟨rfl, rfl⟩ ⟨(Nat.le_of_ble_eq_true rfl), (Nat.le_of_ble_eq_true rfl)⟩ rfl (Nat.le_of_ble_eq_true rfl) dL_law_4 ⟨by show wx_k x + 1 + 16 ≤ 30; omega, by show wx_n x + 4 + 10669 ≤ 43166; omega⟩ ?_
  intro u hu
  refine ⟨_, _, rfl, hu.1, ?_⟩
  refine wk_ws (ws' := cX V u.1 (X_0 u.2)) rfl ?_
  have X2 := X1.up (dk := 16) (dn := 10669) (by show wx_k x + 1 + 16 ≤ 30; omega) (by show wx_n x + 4 + 10669 ≤ 43166; omega)
  refine wk_astore_n X2 dL_law_7 rfl (Nat.le_of_ble_eq_true rfl) (lv' := [(1, .ref q), (0, .ref b)]) rfl ?_
  refine wk_new X2 uw_R ft_R ft_R_ok (tl tw_531) (tl tw_532) (tl tw_7) hA (ci := 5) rfl (fs := [.null, .null, .null, .null, .int 0, .int 0, .int 0, .int 0, .int 0, .int 0, .null, .null, .null, .null, .int 0, .int 0, .int 0, .null, .null, .null, .null, .int 0, .int 0, .int 0, .int 0, .int 0, .int 0, .int 0, .int 0]) hf_R (by show wx_k x + 1 + 16 + 1 ≤ 30; omega) (by show wx_n x + 4 + 10669 + 29 ≤ 43166; omega) dL_law_8 ?_
  intro q2
  refine wk_ws (ws' := cX V u.1 (X_0 u.2) ++ [(q2, .inr (5, [.null, .null, .null, .null, .int 0, .int 0, .int 0, .int 0, .int 0, .int 0, .null, .null, .null, .null, .int 0, .int 0, .int 0, .null, .null, .null, .null, .int 0, .int 0, .int 0, .int 0, .int 0, .int 0, .int 0, .int 0]))]) rfl ?_
  have X3 := X2.up (dk := 1) (dn := 29) (by show wx_k x + 1 + 16 + 1 ≤ 30; omega) (by show wx_n x + 4 + 10669 + 29 ≤ 43166; omega)
  refine wk_dup X3 dL_law_11 rfl ?_
  refine wk_callC X3 (fun sz => mR_init q2 sz) rfl (gd tw_535) 17 rfl hA (tl tw_533) (tl tw_534) (tl tw_7) rfl pd_R_init ⟨rfl, rfl⟩ ⟨(Nat.le_of_ble_eq_true rfl), (Nat.le_of_ble_eq_true rfl)⟩ rfl (Nat.le_of_ble_eq_true rfl) dL_law_12 ⟨by show wx_k x + 1 + 16 + 1 + 12 ≤ 30; omega, by show wx_n x + 4 + 10669 + 29 + 32464 ≤ 43166; omega⟩ ?_
  intro w hw
  refine ⟨_, _, rfl, hw, ?_⟩
  refine wk_ws (ws' := cX V u.1 (X_0 u.2) ++ cR V w R_0) rfl ?_
  have X4 := X3.up (dk := 12) (dn := 32464) (by show wx_k x + 1 + 16 + 1 + 12 ≤ 30; omega) (by show wx_n x + 4 + 10669 + 29 + 32464 ≤ 43166; omega)
  refine wk_astore_n X4 dL_law_15 rfl (Nat.le_of_ble_eq_true rfl) (lv' := [(2, .ref q2), (1, .ref q), (0, .ref b)]) rfl ?_
  refine wk_iconst X4 dL_law_16 (v := nI 0) (by decide) ?_
  refine wk_istore_n X4 dL_law_17 rfl (Nat.le_of_ble_eq_true rfl) (lv' := [(3, .int (nI 0)), (2, .ref q2), (1, .ref q), (0, .ref b)]) rfl ?_
  refine wk_lv [3, 2, 1, 0] (lv' := [(0, .ref b), (1, .ref (u.1 0)), (2, .ref (w 0)), (3, .int (nI 0))]) (by rw [hu.1, hw]; rfl) ?_
  exact wL_law_L18 u.1 w L xs b X4 hX hbl hbA hend 100000 _ _ _ (law_loop hL 100000 0 _ _ (by omega) (Nat.zero_le _) (JJ_0 hu.2))

theorem ha_I (N : Nat) : ∀ cA : ClassId, vp_cell cA (N, .inl z_32) = arrV cA N (fun _ => defaultValue (newarray.typeOf .int)) := fun _ => rfl
theorem ha_Z (N : Nat) : ∀ cA : ClassId, vp_cell cA (N, .inl z_32) = arrV cA N (fun _ => defaultValue (newarray.typeOf .boolean)) := fun _ => rfl
theorem ha_J (N : Nat) : ∀ cA : ClassId, vp_cell cA (N, .inr (.inl z_64)) = arrV cA N (fun _ => defaultValue (newarray.typeOf .long)) := fun _ => rfl
set_option maxRecDepth 100000 in
set_option maxHeartbeats 4000000 in
theorem mT_init {V : ee_V} (b : Nat) (sz : Nat) : Met (we_l (ee V)) yT_init ts_T_init ⟨2, 4, 5296, 40⟩ (va_Pc [.ref b] (wk_PreC (ee V) [(b, (.inr (1, [.null, .null, .null, .null, .int 0, .int 0, .int 0, .int 0]) : va_E))] sz)) (va_Qv (fun _ : Nat × Nat × Nat × Nat => True) (wk_BC (ee V) [(b, (.inr (1, [.null, .null, .null, .null, .int 0, .int 0, .int 0, .int 0]) : va_E))] sz (fun u : Nat × Nat × Nat × Nat => [(b, .inr (1, [.ref u.1, .ref u.2.1, .ref u.2.2.1, .ref u.2.2.2, .int 0, .int 0, .int 0, .int 0])), (u.1, .inl (ev_J V, (600, .inr (.inl z_64)))), (u.2.1, .inl (ev_I V, (300, .inl z_32))), (u.2.2.1, .inl (ev_Z V, (300, .inl z_32))), (u.2.2.2, .inl (ev_I V, (4096, .inl z_32)))])) (wk_fr [(b, (.inr (1, [.null, .null, .null, .null, .int 0, .int 0, .int 0, .int 0]) : va_E))] sz)) 4 5296 (wk_fr [(b, (.inr (1, [.null, .null, .null, .null, .int 0, .int 0, .int 0, .int 0]) : va_E))] sz) := by
  refine wk_ofC2 (ee_ok V) (by decide +kernel) rfl (Nat.le_of_ble_eq_true rfl) ?_
  intro x X Z hk hn hsz hnm
  have hA : ∀ q, (wx_H x).size ≤ q → wx_A x q := fun q h => by rw [Z.2.1]; exact Or.inr (by rw [← hsz]; exact h)
  refine wk_lq (lv' := [(0, .ref b)]) rfl ?_
  refine wk_aload_n X 0 dT_init_0 rfl rfl ?_
  refine wk_callCN X (fun sz => mK_init b _ sz) rfl (gd tw_26) 0 rfl hA (am_nT_5 X.am) (tl tw_25) (tl tw_2) rfl pd_K_init ⟨rfl, rfl⟩ ⟨Nat.le_of_ble_eq_true rfl, Nat.le_of_ble_eq_true rfl⟩ rfl (Nat.le_of_ble_eq_true rfl) dT_init_1 ⟨by rw [hk]; decide, by rw [hn]; decide⟩ ?_
  intro _ _
  refine ⟨_, [], rfl, rfl, ?_⟩
  refine wk_ws (ws' := [(b, (.inr (1, [.null, .null, .null, .null, .int 0, .int 0, .int 0, .int 0]) : va_E))]) rfl ?_
  have X0 := X.up (dk := 0) (dn := 0) (by rw [hk]; decide) (by rw [hn]; decide)
  refine wk_aload_n X0 0 dT_init_4 rfl rfl ?_
  refine wk_sipush X0 dT_init_5 (v := (600 : Int32)) (by decide) ?_
  refine wk_newa X0 (atype := .long) 2 rfl (tl tw_97) (N' := 600) (a0 := (600, .inr (.inl z_64))) (ha_J 600) (by decide) (by decide) (by decide) hA (by show wx_k x + 0 + 1 ≤ 4; omega) (by show wx_n x + 0 + 600 ≤ 5296; omega) dT_init_8 ?_
  intro q0
  refine wk_ws (ws' := [(b, .inr (1, [.null, .null, .null, .null, .int 0, .int 0, .int 0, .int 0])), (q0, .inl (ev_J V, (600, .inr (.inl z_64))))]) rfl ?_
  have X1 := X0.up (dk := 1) (dn := 600) (by show wx_k x + 0 + 1 ≤ 4; omega) (by show wx_n x + 0 + 600 ≤ 5296; omega)
  refine wk_putF X1 uw_T 0 rfl rfl 0 (Nat.le_of_ble_eq_true rfl) ft_T ft_T_ok fn_T (tl tw_65) rfl rfl hnm rfl rfl rfl (Nat.le_of_ble_eq_true rfl) dT_init_10 (ws' := [(b, .inr (1, [.ref q0, .null, .null, .null, .int 0, .int 0, .int 0, .int 0])), (q0, .inl (ev_J V, (600, .inr (.inl z_64))))]) rfl ?_
  refine wk_aload_n X1 0 dT_init_13 rfl rfl ?_
  refine wk_sipush X1 dT_init_14 (v := (300 : Int32)) (by decide) ?_
  refine wk_newa X1 (atype := .int) 0 rfl (tl tw_58) (N' := 300) (a0 := (300, .inl z_32)) (ha_I 300) (by decide) (by decide) (by decide) hA (by show wx_k x + 0 + 1 + 1 ≤ 4; omega) (by show wx_n x + 0 + 600 + 300 ≤ 5296; omega) dT_init_17 ?_
  intro q1
  refine wk_ws (ws' := [(b, .inr (1, [.ref q0, .null, .null, .null, .int 0, .int 0, .int 0, .int 0])), (q0, .inl (ev_J V, (600, .inr (.inl z_64)))), (q1, .inl (ev_I V, (300, .inl z_32)))]) rfl ?_
  have X2 := X1.up (dk := 1) (dn := 300) (by show wx_k x + 0 + 1 + 1 ≤ 4; omega) (by show wx_n x + 0 + 600 + 300 ≤ 5296; omega)
  refine wk_putF X2 uw_T 0 rfl rfl 1 (Nat.le_of_ble_eq_true rfl) ft_T ft_T_ok fn_T (tl tw_66) rfl rfl hnm rfl rfl rfl (Nat.le_of_ble_eq_true rfl) dT_init_19 (ws' := [(b, .inr (1, [.ref q0, .ref q1, .null, .null, .int 0, .int 0, .int 0, .int 0])), (q0, .inl (ev_J V, (600, .inr (.inl z_64)))), (q1, .inl (ev_I V, (300, .inl z_32)))]) rfl ?_
  refine wk_aload_n X2 0 dT_init_22 rfl rfl ?_
  refine wk_sipush X2 dT_init_23 (v := (300 : Int32)) (by decide) ?_
  refine wk_newa X2 (atype := .boolean) 1 rfl (tl tw_98) (N' := 300) (a0 := (300, .inl z_32)) (ha_Z 300) (by decide) (by decide) (by decide) hA (by show wx_k x + 0 + 1 + 1 + 1 ≤ 4; omega) (by show wx_n x + 0 + 600 + 300 + 300 ≤ 5296; omega) dT_init_26 ?_
  intro q2
  refine wk_ws (ws' := [(b, .inr (1, [.ref q0, .ref q1, .null, .null, .int 0, .int 0, .int 0, .int 0])), (q0, .inl (ev_J V, (600, .inr (.inl z_64)))), (q1, .inl (ev_I V, (300, .inl z_32))), (q2, .inl (ev_Z V, (300, .inl z_32)))]) rfl ?_
  have X3 := X2.up (dk := 1) (dn := 300) (by show wx_k x + 0 + 1 + 1 + 1 ≤ 4; omega) (by show wx_n x + 0 + 600 + 300 + 300 ≤ 5296; omega)
  refine wk_putF X3 uw_T 0 rfl rfl 2 (Nat.le_of_ble_eq_true rfl) ft_T ft_T_ok fn_T (tl tw_67) rfl rfl hnm rfl rfl rfl (Nat.le_of_ble_eq_true rfl) dT_init_28 (ws' := [(b, .inr (1, [.ref q0, .ref q1, .ref q2, .null, .int 0, .int 0, .int 0, .int 0])), (q0, .inl (ev_J V, (600, .inr (.inl z_64)))), (q1, .inl (ev_I V, (300, .inl z_32))), (q2, .inl (ev_Z V, (300, .inl z_32)))]) rfl ?_
  refine wk_aload_n X3 0 dT_init_31 rfl rfl ?_
  refine wk_sipush X3 dT_init_32 (v := (4096 : Int32)) (by decide) ?_
  refine wk_newa X3 (atype := .int) 0 rfl (tl tw_58) (N' := 4096) (a0 := (4096, .inl z_32)) (ha_I 4096) (by decide) (by decide) (by decide) hA (by show wx_k x + 0 + 1 + 1 + 1 + 1 ≤ 4; omega) (by show wx_n x + 0 + 600 + 300 + 300 + 4096 ≤ 5296; omega) dT_init_35 ?_
  intro q3
  refine wk_ws (ws' := [(b, .inr (1, [.ref q0, .ref q1, .ref q2, .null, .int 0, .int 0, .int 0, .int 0])), (q0, .inl (ev_J V, (600, .inr (.inl z_64)))), (q1, .inl (ev_I V, (300, .inl z_32))), (q2, .inl (ev_Z V, (300, .inl z_32))), (q3, .inl (ev_I V, (4096, .inl z_32)))]) rfl ?_
  have X4 := X3.up (dk := 1) (dn := 4096) (by show wx_k x + 0 + 1 + 1 + 1 + 1 ≤ 4; omega) (by show wx_n x + 0 + 600 + 300 + 300 + 4096 ≤ 5296; omega)
  refine wk_putF X4 uw_T 0 rfl rfl 3 (Nat.le_of_ble_eq_true rfl) ft_T ft_T_ok fn_T (tl tw_68) rfl rfl hnm rfl rfl rfl (Nat.le_of_ble_eq_true rfl) dT_init_37 (ws' := [(b, .inr (1, [.ref q0, .ref q1, .ref q2, .ref q3, .int 0, .int 0, .int 0, .int 0])), (q0, .inl (ev_J V, (600, .inr (.inl z_64)))), (q1, .inl (ev_I V, (300, .inl z_32))), (q2, .inl (ev_Z V, (300, .inl z_32))), (q3, .inl (ev_I V, (4096, .inl z_32)))]) rfl ?_
  refine wk_aload_n X4 0 dT_init_40 rfl rfl ?_
  refine wk_iconst X4 dT_init_41 (v := (0 : Int32)) (by decide) ?_
  refine wk_put X4 uw_T 0 rfl rfl 4 (Nat.le_of_ble_eq_true rfl) ft_T ft_T_ok fn_T (tl tw_69) rfl rfl rfl rfl (Nat.le_of_ble_eq_true rfl) dT_init_42 (ws' := [(b, .inr (1, [.ref q0, .ref q1, .ref q2, .ref q3, .int 0, .int 0, .int 0, .int 0])), (q0, .inl (ev_J V, (600, .inr (.inl z_64)))), (q1, .inl (ev_I V, (300, .inl z_32))), (q2, .inl (ev_Z V, (300, .inl z_32))), (q3, .inl (ev_I V, (4096, .inl z_32)))]) rfl ?_
  refine wk_aload_n X4 0 dT_init_45 rfl rfl ?_
  refine wk_iconst X4 dT_init_46 (v := (0 : Int32)) (by decide) ?_
  refine wk_put X4 uw_T 0 rfl rfl 5 (Nat.le_of_ble_eq_true rfl) ft_T ft_T_ok fn_T (tl tw_70) rfl rfl rfl rfl (Nat.le_of_ble_eq_true rfl) dT_init_47 (ws' := [(b, .inr (1, [.ref q0, .ref q1, .ref q2, .ref q3, .int 0, .int 0, .int 0, .int 0])), (q0, .inl (ev_J V, (600, .inr (.inl z_64)))), (q1, .inl (ev_I V, (300, .inl z_32))), (q2, .inl (ev_Z V, (300, .inl z_32))), (q3, .inl (ev_I V, (4096, .inl z_32)))]) rfl ?_
  refine wk_aload_n X4 0 dT_init_50 rfl rfl ?_
  refine wk_iconst X4 dT_init_51 (v := (0 : Int32)) (by decide) ?_
  refine wk_put X4 uw_T 0 rfl rfl 6 (Nat.le_of_ble_eq_true rfl) ft_T ft_T_ok fn_T (tl tw_74) rfl rfl rfl rfl (Nat.le_of_ble_eq_true rfl) dT_init_52 (ws' := [(b, .inr (1, [.ref q0, .ref q1, .ref q2, .ref q3, .int 0, .int 0, .int 0, .int 0])), (q0, .inl (ev_J V, (600, .inr (.inl z_64)))), (q1, .inl (ev_I V, (300, .inl z_32))), (q2, .inl (ev_Z V, (300, .inl z_32))), (q3, .inl (ev_I V, (4096, .inl z_32)))]) rfl ?_
  refine wk_aload_n X4 0 dT_init_55 rfl rfl ?_
  refine wk_iconst X4 dT_init_56 (v := (0 : Int32)) (by decide) ?_
  refine wk_put X4 uw_T 0 rfl rfl 7 (Nat.le_of_ble_eq_true rfl) ft_T ft_T_ok fn_T (tl tw_77) rfl rfl rfl rfl (Nat.le_of_ble_eq_true rfl) dT_init_57 (ws' := [(b, .inr (1, [.ref q0, .ref q1, .ref q2, .ref q3, .int 0, .int 0, .int 0, .int 0])), (q0, .inl (ev_J V, (600, .inr (.inl z_64)))), (q1, .inl (ev_I V, (300, .inl z_32))), (q2, .inl (ev_Z V, (300, .inl z_32))), (q3, .inl (ev_I V, (4096, .inl z_32)))]) rfl ?_
  exact wk_vretC X4 Z (by show wx_k x + 0 + 1 + 1 + 1 + 1 = 4; omega) (by show wx_n x + 0 + 600 + 300 + 300 + 4096 = 5296; omega) dT_init_60 (q0, q1, q2, q3) trivial rfl

/-! constructor of the cyclic system -/
theorem hf_T : ∀ j, j < 8 → defaultValue (ft_T j) = vp_V [.null, .null, .null, .null, .int 0, .int 0, .int 0, .int 0] j
  | 0, _ => rfl
  | 1, _ => rfl
  | 2, _ => rfl
  | 3, _ => rfl
  | 4, _ => rfl
  | 5, _ => rfl
  | 6, _ => rfl
  | 7, _ => rfl
  | (j + 8), h => absurd h (by omega)
set_option maxRecDepth 100000 in
set_option maxHeartbeats 4000000 in
theorem mY_init {V : ee_V} (b : Nat) (sz : Nat) : Met (we_l (ee V)) yY_init ts_Y_init ⟨3, 5, 5304, 60⟩ (va_Pc [.ref b] (wk_PreC (ee V) [(b, (.inr (2, [.null, .int 0]) : va_E))] sz)) (va_Qv (fun _ : Nat × Nat × Nat × Nat × Nat => True) (wk_BC (ee V) [(b, (.inr (2, [.null, .int 0]) : va_E))] sz (fun u : Nat × Nat × Nat × Nat × Nat => [(b, .inr (2, [.ref u.1, .int 0])), (u.1, .inr (1, [.ref u.2.1, .ref u.2.2.1, .ref u.2.2.2.1, .ref u.2.2.2.2, .int 0, .int 0, .int 0, .int 0])), (u.2.1, .inl (ev_J V, (600, .inr (.inl z_64)))), (u.2.2.1, .inl (ev_I V, (300, .inl z_32))), (u.2.2.2.1, .inl (ev_Z V, (300, .inl z_32))), (u.2.2.2.2, .inl (ev_I V, (4096, .inl z_32)))])) (wk_fr [(b, (.inr (2, [.null, .int 0]) : va_E))] sz)) 5 5304 (wk_fr [(b, (.inr (2, [.null, .int 0]) : va_E))] sz) := by
  refine wk_ofC2 (ee_ok V) (by decide +kernel) rfl (Nat.le_of_ble_eq_true rfl) ?_
  intro x X Z hk hn hsz hnm
  have hA : ∀ q, (wx_H x).size ≤ q → wx_A x q := fun q h => by rw [Z.2.1]; exact Or.inr (by rw [← hsz]; exact h)
  refine wk_lq (lv' := [(0, .ref b)]) rfl ?_
  refine wk_aload_n X 0 dY_init_0 rfl rfl ?_
  refine wk_callCN X (fun sz => mK_init b _ sz) rfl (gd tw_26) 0 rfl hA (am_nY_3 X.am) (tl tw_25) (tl tw_2) rfl pd_K_init ⟨rfl, rfl⟩ ⟨(Nat.le_of_ble_eq_true rfl), (Nat.le_of_ble_eq_true rfl)⟩ rfl (Nat.le_of_ble_eq_true rfl) dY_init_1 ⟨by show wx_k x + 0 ≤ 5; omega, by show wx_n x + 0 ≤ 5304; omega⟩ ?_
  intro _ _
  refine ⟨_, [], rfl, rfl, ?_⟩
  refine wk_ws (ws' := [(b, .inr (2, [.null, .int 0]))]) rfl ?_
  have X0 := X.up (dk := 0) (dn := 0) (by show wx_k x + 0 ≤ 5; omega) (by show wx_n x + 0 ≤ 5304; omega)
  refine wk_aload_n X0 0 dY_init_4 rfl rfl ?_
  refine wk_new X0 uw_T ft_T ft_T_ok (tl tw_105) (tl tw_60) (tl tw_4) hA (ci := 1) rfl (fs := [.null, .null, .null, .null, .int 0, .int 0, .int 0, .int 0]) hf_T (by show wx_k x + 0 + 1 ≤ 5; omega) (by show wx_n x + 0 + 8 ≤ 5304; omega) dY_init_5 ?_
  intro q
  refine wk_ws (ws' := [(b, .inr (2, [.null, .int 0])), (q, .inr (1, [.null, .null, .null, .null, .int 0, .int 0, .int 0, .int 0]))]) rfl ?_
  have X1 := X0.up (dk := 1) (dn := 8) (by show wx_k x + 0 + 1 ≤ 5; omega) (by show wx_n x + 0 + 8 ≤ 5304; omega)
  refine wk_dup X1 dY_init_8 rfl ?_
  refine wk_callCN X1 (fun sz => mT_init q sz) rfl (gd tw_63) 1 rfl hA (am_nY_11 X.am) (tl tw_62) (tl tw_4) rfl pd_T_init ⟨rfl, rfl⟩ ⟨(Nat.le_of_ble_eq_true rfl), (Nat.le_of_ble_eq_true rfl)⟩ rfl (Nat.le_of_ble_eq_true rfl) dY_init_9 ⟨by show wx_k x + 0 + 1 + 4 ≤ 5; omega, by show wx_n x + 0 + 8 + 5296 ≤ 5304; omega⟩ ?_
  intro u hu
  refine ⟨_, _, rfl, rfl, ?_⟩
  refine wk_ws (ws' := [(b, .inr (2, [.null, .int 0])), (q, .inr (1, [.ref u.1, .ref u.2.1, .ref u.2.2.1, .ref u.2.2.2, .int 0, .int 0, .int 0, .int 0])), (u.1, .inl (ev_J V, (600, .inr (.inl z_64)))), (u.2.1, .inl (ev_I V, (300, .inl z_32))), (u.2.2.1, .inl (ev_Z V, (300, .inl z_32))), (u.2.2.2, .inl (ev_I V, (4096, .inl z_32)))]) rfl ?_
  have X2 := X1.up (dk := 4) (dn := 5296) (by show wx_k x + 0 + 1 + 4 ≤ 5; omega) (by show wx_n x + 0 + 8 + 5296 ≤ 5304; omega)
  refine wk_putF X2 uw_Y 0 rfl rfl 0 (Nat.le_of_ble_eq_true rfl) ft_Y ft_Y_ok fn_Y (tl tw_107) rfl rfl hnm rfl rfl rfl (Nat.le_of_ble_eq_true rfl) dY_init_12 (ws' := [(b, .inr (2, [.ref q, .int 0])), (q, .inr (1, [.ref u.1, .ref u.2.1, .ref u.2.2.1, .ref u.2.2.2, .int 0, .int 0, .int 0, .int 0])), (u.1, .inl (ev_J V, (600, .inr (.inl z_64)))), (u.2.1, .inl (ev_I V, (300, .inl z_32))), (u.2.2.1, .inl (ev_Z V, (300, .inl z_32))), (u.2.2.2, .inl (ev_I V, (4096, .inl z_32)))]) rfl ?_
  refine wk_aload_n X2 0 dY_init_15 rfl rfl ?_
  refine wk_iconst X2 dY_init_16 (v := (0 : Int32)) (by decide) ?_
  refine wk_put X2 uw_Y 0 rfl rfl 1 (Nat.le_of_ble_eq_true rfl) ft_Y ft_Y_ok fn_Y (tl tw_108) rfl rfl rfl rfl (Nat.le_of_ble_eq_true rfl) dY_init_17 (ws' := [(b, .inr (2, [.ref q, .int 0])), (q, .inr (1, [.ref u.1, .ref u.2.1, .ref u.2.2.1, .ref u.2.2.2, .int 0, .int 0, .int 0, .int 0])), (u.1, .inl (ev_J V, (600, .inr (.inl z_64)))), (u.2.1, .inl (ev_I V, (300, .inl z_32))), (u.2.2.1, .inl (ev_Z V, (300, .inl z_32))), (u.2.2.2, .inl (ev_I V, (4096, .inl z_32)))]) rfl ?_
  exact wk_vretC X2 Z (by show wx_k x + 0 + 1 + 4 = 5; omega) (by show wx_n x + 0 + 8 + 5296 = 5304; omega) dY_init_20 (q, u) trivial rfl

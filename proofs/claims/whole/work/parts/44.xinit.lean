/-! constructor of the workshop -/
theorem hf_M : ∀ j, j < 7 → defaultValue (ft_M j) = vp_V [.null, .null, .null, .int 0, .int 0, .int 0, .int 0] j
  | 0, _ => rfl
  | 1, _ => rfl
  | 2, _ => rfl
  | 3, _ => rfl
  | 4, _ => rfl
  | 5, _ => rfl
  | 6, _ => rfl
  | (j + 7), h => absurd h (by omega)
theorem hf_Y : ∀ j, j < 2 → defaultValue (ft_Y j) = vp_V [.null, .int 0] j
  | 0, _ => rfl
  | 1, _ => rfl
  | (j + 2), h => absurd h (by omega)
theorem hf_C : ∀ j, j < 4 → defaultValue (ft_C j) = vp_V [.int 0, .int 0, .int 0, .int 0] j
  | 0, _ => rfl
  | 1, _ => rfl
  | 2, _ => rfl
  | 3, _ => rfl
  | (j + 4), h => absurd h (by omega)
def ad_17 (a0 a1 a2 a3 a4 a5 a6 a7 a8 a9 a10 a11 a12 a13 a14 a15 a16 : Nat) : Nat → Nat
  | 0 => a0
  | 1 => a1
  | 2 => a2
  | 3 => a3
  | 4 => a4
  | 5 => a5
  | 6 => a6
  | 7 => a7
  | 8 => a8
  | 9 => a9
  | 10 => a10
  | 11 => a11
  | 12 => a12
  | 13 => a13
  | 14 => a14
  | 15 => a15
  | _ => a16
set_option maxRecDepth 100000 in
theorem cX_of {V : ee_V} (a0 a1 a2 a3 a4 a5 a6 a7 a8 a9 a10 a11 a12 a13 a14 a15 a16 : Nat) (nx : Nat → Int32) : cX V (ad_17 a0 a1 a2 a3 a4 a5 a6 a7 a8 a9 a10 a11 a12 a13 a14 a15 a16) (X_0 nx) = [(a0, .inr (4, [.ref a1, .ref a5, .ref a10, .ref a16])), (a1, .inr (0, [.ref a2, .ref a3, .ref a4, .int 1, .int 0, .int 0, .int 0])), (a2, .inl (ev_I V, (16, .inl z_32))), (a3, .inl (ev_I V, (16, .inl z_32))), (a4, .inl (ev_I V, (16, .inl nx))), (a5, .inr (1, [.ref a6, .ref a7, .ref a8, .ref a9, .int 0, .int 0, .int 0, .int 0])), (a6, .inl (ev_J V, (600, .inr (.inl z_64)))), (a7, .inl (ev_I V, (300, .inl z_32))), (a8, .inl (ev_Z V, (300, .inl z_32))), (a9, .inl (ev_I V, (4096, .inl z_32))), (a10, .inr (2, [.ref a11, .int 0])), (a11, .inr (1, [.ref a12, .ref a13, .ref a14, .ref a15, .int 0, .int 0, .int 0, .int 0])), (a12, .inl (ev_J V, (600, .inr (.inl z_64)))), (a13, .inl (ev_I V, (300, .inl z_32))), (a14, .inl (ev_Z V, (300, .inl z_32))), (a15, .inl (ev_I V, (4096, .inl z_32))), (a16, .inr (3, [.int 0, .int 0, .int 0, .int 0]))] := rfl
set_option maxRecDepth 100000 in
set_option maxHeartbeats 4000000 in
theorem mX_init {V : ee_V} (b : Nat) (sz : Nat) : Met (we_l (ee V)) yX_init ts_X_init ⟨4, 16, 10669, 80⟩ (va_Pc [.ref b] (wk_PreC (ee V) [(b, (.inr (4, [.null, .null, .null, .null]) : va_E))] sz)) (va_Qv (fun u : (Nat → Nat) × (Nat → Int32) => u.1 0 = b ∧ ∀ r, r < 16 → u.2 r = -1) (wk_BC (ee V) [(b, (.inr (4, [.null, .null, .null, .null]) : va_E))] sz (fun u : (Nat → Nat) × (Nat → Int32) => cX V u.1 (X_0 u.2))) (wk_fr [(b, (.inr (4, [.null, .null, .null, .null]) : va_E))] sz)) 16 10669 (wk_fr [(b, (.inr (4, [.null, .null, .null, .null]) : va_E))] sz) := by
  refine wk_ofC2 (ee_ok V) (by decide +kernel) rfl (Nat.le_of_ble_eq_true rfl) ?_
  intro x X Z hk hn hsz hnm
  have hA : ∀ q, (wx_H x).size ≤ q → wx_A x q := fun q h => by rw [Z.2.1]; exact Or.inr (by rw [← hsz]; exact h)
  refine wk_lq (lv' := [(0, .ref b)]) rfl ?_
  refine wk_aload_n X 0 dX_init_0 rfl rfl ?_
  refine wk_objInit X (tl tw_16) (tl tw_17) (tl tw_18) dX_init_1 (Nat.le_of_ble_eq_true rfl) (Nat.le_of_ble_eq_true rfl) ?_
  refine wk_aload_n X 0 dX_init_4 rfl rfl ?_
  refine wk_new X uw_M ft_M ft_M_ok (tl tw_19) (tl tw_20) (tl tw_3) hA (ci := 0) rfl (fs := [.null, .null, .null, .int 0, .int 0, .int 0, .int 0]) hf_M (by show wx_k x + 1 ≤ 16; omega) (by show wx_n x + 7 ≤ 10669; omega) dX_init_5 ?_
  intro q1
  refine wk_ws (ws' := [(b, .inr (4, [.null, .null, .null, .null])), (q1, .inr (0, [.null, .null, .null, .int 0, .int 0, .int 0, .int 0]))]) rfl ?_
  have X0 := X.up (dk := 1) (dn := 7) (by show wx_k x + 1 ≤ 16; omega) (by show wx_n x + 7 ≤ 10669; omega)
  refine wk_dup X0 dX_init_8 rfl ?_
  refine wk_callC X0 (fun sz => mM_init q1 sz) rfl (gd tw_23) 1 rfl hA (tl tw_21) (tl tw_22) (tl tw_3) rfl pd_M_init ⟨rfl, rfl⟩ ⟨(Nat.le_of_ble_eq_true rfl), (Nat.le_of_ble_eq_true rfl)⟩ rfl (Nat.le_of_ble_eq_true rfl) dX_init_9 ⟨by show wx_k x + 1 + 3 ≤ 16; omega, by show wx_n x + 7 + 48 ≤ 10669; omega⟩ ?_
  intro u1 hu1
  refine ⟨_, _, rfl, rfl, ?_⟩
  refine wk_ws (ws' := [(b, .inr (4, [.null, .null, .null, .null])), (q1, .inr (0, [.ref u1.1.1, .ref u1.1.2.1, .ref u1.1.2.2, .int 1, .int 0, .int 0, .int 0])), (u1.1.1, .inl (ev_I V, (16, .inl z_32))), (u1.1.2.1, .inl (ev_I V, (16, .inl z_32))), (u1.1.2.2, .inl (ev_I V, (16, .inl u1.2)))]) rfl ?_
  have X1 := X0.up (dk := 3) (dn := 48) (by show wx_k x + 1 + 3 ≤ 16; omega) (by show wx_n x + 7 + 48 ≤ 10669; omega)
  refine wk_putF X1 uw_X 0 rfl rfl 0 (Nat.le_of_ble_eq_true rfl) ft_X ft_X_ok fn_X (tl tw_138) rfl rfl hnm rfl rfl rfl (Nat.le_of_ble_eq_true rfl) dX_init_12 (ws' := [(b, .inr (4, [.ref q1, .null, .null, .null])), (q1, .inr (0, [.ref u1.1.1, .ref u1.1.2.1, .ref u1.1.2.2, .int 1, .int 0, .int 0, .int 0])), (u1.1.1, .inl (ev_I V, (16, .inl z_32))), (u1.1.2.1, .inl (ev_I V, (16, .inl z_32))), (u1.1.2.2, .inl (ev_I V, (16, .inl u1.2)))]) rfl ?_
  refine wk_aload_n X1 0 dX_init_15 rfl rfl ?_
  refine wk_new X1 uw_T ft_T ft_T_ok (tl tw_59) (tl tw_60) (tl tw_4) hA (ci := 1) rfl (fs := [.null, .null, .null, .null, .int 0, .int 0, .int 0, .int 0]) hf_T (by show wx_k x + 1 + 3 + 1 ≤ 16; omega) (by show wx_n x + 7 + 48 + 8 ≤ 10669; omega) dX_init_16 ?_
  intro q2
  refine wk_ws (ws' := [(b, .inr (4, [.ref q1, .null, .null, .null])), (q1, .inr (0, [.ref u1.1.1, .ref u1.1.2.1, .ref u1.1.2.2, .int 1, .int 0, .int 0, .int 0])), (u1.1.1, .inl (ev_I V, (16, .inl z_32))), (u1.1.2.1, .inl (ev_I V, (16, .inl z_32))), (u1.1.2.2, .inl (ev_I V, (16, .inl u1.2))), (q2, .inr (1, [.null, .null, .null, .null, .int 0, .int 0, .int 0, .int 0]))]) rfl ?_
  have X2 := X1.up (dk := 1) (dn := 8) (by show wx_k x + 1 + 3 + 1 ≤ 16; omega) (by show wx_n x + 7 + 48 + 8 ≤ 10669; omega)
  refine wk_dup X2 dX_init_19 rfl ?_
  refine wk_callCN X2 (fun sz => mT_init q2 sz) rfl (gd tw_63) 5 rfl hA (am_nX_18 X.am) (tl tw_62) (tl tw_4) rfl pd_T_init ⟨rfl, rfl⟩ ⟨(Nat.le_of_ble_eq_true rfl), (Nat.le_of_ble_eq_true rfl)⟩ rfl (Nat.le_of_ble_eq_true rfl) dX_init_20 ⟨by show wx_k x + 1 + 3 + 1 + 4 ≤ 16; omega, by show wx_n x + 7 + 48 + 8 + 5296 ≤ 10669; omega⟩ ?_
  intro u2 hu2
  refine ⟨_, _, rfl, rfl, ?_⟩
  refine wk_ws (ws' := [(b, .inr (4, [.ref q1, .null, .null, .null])), (q1, .inr (0, [.ref u1.1.1, .ref u1.1.2.1, .ref u1.1.2.2, .int 1, .int 0, .int 0, .int 0])), (u1.1.1, .inl (ev_I V, (16, .inl z_32))), (u1.1.2.1, .inl (ev_I V, (16, .inl z_32))), (u1.1.2.2, .inl (ev_I V, (16, .inl u1.2))), (q2, .inr (1, [.ref u2.1, .ref u2.2.1, .ref u2.2.2.1, .ref u2.2.2.2, .int 0, .int 0, .int 0, .int 0])), (u2.1, .inl (ev_J V, (600, .inr (.inl z_64)))), (u2.2.1, .inl (ev_I V, (300, .inl z_32))), (u2.2.2.1, .inl (ev_Z V, (300, .inl z_32))), (u2.2.2.2, .inl (ev_I V, (4096, .inl z_32)))]) rfl ?_
  have X3 := X2.up (dk := 4) (dn := 5296) (by show wx_k x + 1 + 3 + 1 + 4 ≤ 16; omega) (by show wx_n x + 7 + 48 + 8 + 5296 ≤ 10669; omega)
  refine wk_putF X3 uw_X 0 rfl rfl 1 (Nat.le_of_ble_eq_true rfl) ft_X ft_X_ok fn_X (tl tw_139) rfl rfl hnm rfl rfl rfl (Nat.le_of_ble_eq_true rfl) dX_init_23 (ws' := [(b, .inr (4, [.ref q1, .ref q2, .null, .null])), (q1, .inr (0, [.ref u1.1.1, .ref u1.1.2.1, .ref u1.1.2.2, .int 1, .int 0, .int 0, .int 0])), (u1.1.1, .inl (ev_I V, (16, .inl z_32))), (u1.1.2.1, .inl (ev_I V, (16, .inl z_32))), (u1.1.2.2, .inl (ev_I V, (16, .inl u1.2))), (q2, .inr (1, [.ref u2.1, .ref u2.2.1, .ref u2.2.2.1, .ref u2.2.2.2, .int 0, .int 0, .int 0, .int 0])), (u2.1, .inl (ev_J V, (600, .inr (.inl z_64)))), (u2.2.1, .inl (ev_I V, (300, .inl z_32))), (u2.2.2.1, .inl (ev_Z V, (300, .inl z_32))), (u2.2.2.2, .inl (ev_I V, (4096, .inl z_32)))]) rfl ?_
  refine wk_aload_n X3 0 dX_init_26 rfl rfl ?_
  refine wk_new X3 uw_Y ft_Y ft_Y_ok (tl tw_99) (tl tw_100) (tl tw_5) hA (ci := 2) rfl (fs := [.null, .int 0]) hf_Y (by show wx_k x + 1 + 3 + 1 + 4 + 1 ≤ 16; omega) (by show wx_n x + 7 + 48 + 8 + 5296 + 2 ≤ 10669; omega) dX_init_27 ?_
  intro q3
  refine wk_ws (ws' := [(b, .inr (4, [.ref q1, .ref q2, .null, .null])), (q1, .inr (0, [.ref u1.1.1, .ref u1.1.2.1, .ref u1.1.2.2, .int 1, .int 0, .int 0, .int 0])), (u1.1.1, .inl (ev_I V, (16, .inl z_32))), (u1.1.2.1, .inl (ev_I V, (16, .inl z_32))), (u1.1.2.2, .inl (ev_I V, (16, .inl u1.2))), (q2, .inr (1, [.ref u2.1, .ref u2.2.1, .ref u2.2.2.1, .ref u2.2.2.2, .int 0, .int 0, .int 0, .int 0])), (u2.1, .inl (ev_J V, (600, .inr (.inl z_64)))), (u2.2.1, .inl (ev_I V, (300, .inl z_32))), (u2.2.2.1, .inl (ev_Z V, (300, .inl z_32))), (u2.2.2.2, .inl (ev_I V, (4096, .inl z_32))), (q3, .inr (2, [.null, .int 0]))]) rfl ?_
  have X4 := X3.up (dk := 1) (dn := 2) (by show wx_k x + 1 + 3 + 1 + 4 + 1 ≤ 16; omega) (by show wx_n x + 7 + 48 + 8 + 5296 + 2 ≤ 10669; omega)
  refine wk_dup X4 dX_init_30 rfl ?_
  refine wk_callCN X4 (fun sz => mY_init q3 sz) rfl (gd tw_103) 10 rfl hA (am_nX_25 X.am) (tl tw_102) (tl tw_5) rfl pd_Y_init ⟨rfl, rfl⟩ ⟨(Nat.le_of_ble_eq_true rfl), (Nat.le_of_ble_eq_true rfl)⟩ rfl (Nat.le_of_ble_eq_true rfl) dX_init_31 ⟨by show wx_k x + 1 + 3 + 1 + 4 + 1 + 5 ≤ 16; omega, by show wx_n x + 7 + 48 + 8 + 5296 + 2 + 5304 ≤ 10669; omega⟩ ?_
  intro u3 hu3
  refine ⟨_, _, rfl, rfl, ?_⟩
  refine wk_ws (ws' := [(b, .inr (4, [.ref q1, .ref q2, .null, .null])), (q1, .inr (0, [.ref u1.1.1, .ref u1.1.2.1, .ref u1.1.2.2, .int 1, .int 0, .int 0, .int 0])), (u1.1.1, .inl (ev_I V, (16, .inl z_32))), (u1.1.2.1, .inl (ev_I V, (16, .inl z_32))), (u1.1.2.2, .inl (ev_I V, (16, .inl u1.2))), (q2, .inr (1, [.ref u2.1, .ref u2.2.1, .ref u2.2.2.1, .ref u2.2.2.2, .int 0, .int 0, .int 0, .int 0])), (u2.1, .inl (ev_J V, (600, .inr (.inl z_64)))), (u2.2.1, .inl (ev_I V, (300, .inl z_32))), (u2.2.2.1, .inl (ev_Z V, (300, .inl z_32))), (u2.2.2.2, .inl (ev_I V, (4096, .inl z_32))), (q3, .inr (2, [.ref u3.1, .int 0])), (u3.1, .inr (1, [.ref u3.2.1, .ref u3.2.2.1, .ref u3.2.2.2.1, .ref u3.2.2.2.2, .int 0, .int 0, .int 0, .int 0])), (u3.2.1, .inl (ev_J V, (600, .inr (.inl z_64)))), (u3.2.2.1, .inl (ev_I V, (300, .inl z_32))), (u3.2.2.2.1, .inl (ev_Z V, (300, .inl z_32))), (u3.2.2.2.2, .inl (ev_I V, (4096, .inl z_32)))]) rfl ?_
  have X5 := X4.up (dk := 5) (dn := 5304) (by show wx_k x + 1 + 3 + 1 + 4 + 1 + 5 ≤ 16; omega) (by show wx_n x + 7 + 48 + 8 + 5296 + 2 + 5304 ≤ 10669; omega)
  refine wk_putF X5 uw_X 0 rfl rfl 2 (Nat.le_of_ble_eq_true rfl) ft_X ft_X_ok fn_X (tl tw_140) rfl rfl hnm rfl rfl rfl (Nat.le_of_ble_eq_true rfl) dX_init_34 (ws' := [(b, .inr (4, [.ref q1, .ref q2, .ref q3, .null])), (q1, .inr (0, [.ref u1.1.1, .ref u1.1.2.1, .ref u1.1.2.2, .int 1, .int 0, .int 0, .int 0])), (u1.1.1, .inl (ev_I V, (16, .inl z_32))), (u1.1.2.1, .inl (ev_I V, (16, .inl z_32))), (u1.1.2.2, .inl (ev_I V, (16, .inl u1.2))), (q2, .inr (1, [.ref u2.1, .ref u2.2.1, .ref u2.2.2.1, .ref u2.2.2.2, .int 0, .int 0, .int 0, .int 0])), (u2.1, .inl (ev_J V, (600, .inr (.inl z_64)))), (u2.2.1, .inl (ev_I V, (300, .inl z_32))), (u2.2.2.1, .inl (ev_Z V, (300, .inl z_32))), (u2.2.2.2, .inl (ev_I V, (4096, .inl z_32))), (q3, .inr (2, [.ref u3.1, .int 0])), (u3.1, .inr (1, [.ref u3.2.1, .ref u3.2.2.1, .ref u3.2.2.2.1, .ref u3.2.2.2.2, .int 0, .int 0, .int 0, .int 0])), (u3.2.1, .inl (ev_J V, (600, .inr (.inl z_64)))), (u3.2.2.1, .inl (ev_I V, (300, .inl z_32))), (u3.2.2.2.1, .inl (ev_Z V, (300, .inl z_32))), (u3.2.2.2.2, .inl (ev_I V, (4096, .inl z_32)))]) rfl ?_
  refine wk_aload_n X5 0 dX_init_37 rfl rfl ?_
  refine wk_new X5 uw_C ft_C ft_C_ok (tl tw_115) (tl tw_116) (tl tw_6) hA (ci := 3) rfl (fs := [.int 0, .int 0, .int 0, .int 0]) hf_C (by show wx_k x + 1 + 3 + 1 + 4 + 1 + 5 + 1 ≤ 16; omega) (by show wx_n x + 7 + 48 + 8 + 5296 + 2 + 5304 + 4 ≤ 10669; omega) dX_init_38 ?_
  intro q4
  refine wk_ws (ws' := [(b, .inr (4, [.ref q1, .ref q2, .ref q3, .null])), (q1, .inr (0, [.ref u1.1.1, .ref u1.1.2.1, .ref u1.1.2.2, .int 1, .int 0, .int 0, .int 0])), (u1.1.1, .inl (ev_I V, (16, .inl z_32))), (u1.1.2.1, .inl (ev_I V, (16, .inl z_32))), (u1.1.2.2, .inl (ev_I V, (16, .inl u1.2))), (q2, .inr (1, [.ref u2.1, .ref u2.2.1, .ref u2.2.2.1, .ref u2.2.2.2, .int 0, .int 0, .int 0, .int 0])), (u2.1, .inl (ev_J V, (600, .inr (.inl z_64)))), (u2.2.1, .inl (ev_I V, (300, .inl z_32))), (u2.2.2.1, .inl (ev_Z V, (300, .inl z_32))), (u2.2.2.2, .inl (ev_I V, (4096, .inl z_32))), (q3, .inr (2, [.ref u3.1, .int 0])), (u3.1, .inr (1, [.ref u3.2.1, .ref u3.2.2.1, .ref u3.2.2.2.1, .ref u3.2.2.2.2, .int 0, .int 0, .int 0, .int 0])), (u3.2.1, .inl (ev_J V, (600, .inr (.inl z_64)))), (u3.2.2.1, .inl (ev_I V, (300, .inl z_32))), (u3.2.2.2.1, .inl (ev_Z V, (300, .inl z_32))), (u3.2.2.2.2, .inl (ev_I V, (4096, .inl z_32))), (q4, .inr (3, [.int 0, .int 0, .int 0, .int 0]))]) rfl ?_
  have X6 := X5.up (dk := 1) (dn := 4) (by show wx_k x + 1 + 3 + 1 + 4 + 1 + 5 + 1 ≤ 16; omega) (by show wx_n x + 7 + 48 + 8 + 5296 + 2 + 5304 + 4 ≤ 10669; omega)
  refine wk_dup X6 dX_init_41 rfl ?_
  refine wk_callCN X6 (fun sz => mC_init q4 sz) rfl (gd tw_119) 16 rfl hA (am_nX_32 X.am) (tl tw_118) (tl tw_6) rfl pd_C_init ⟨rfl, rfl⟩ ⟨(Nat.le_of_ble_eq_true rfl), (Nat.le_of_ble_eq_true rfl)⟩ rfl (Nat.le_of_ble_eq_true rfl) dX_init_42 ⟨by show wx_k x + 1 + 3 + 1 + 4 + 1 + 5 + 1 + 0 ≤ 16; omega, by show wx_n x + 7 + 48 + 8 + 5296 + 2 + 5304 + 4 + 0 ≤ 10669; omega⟩ ?_
  intro u4 hu4
  refine ⟨_, _, rfl, rfl, ?_⟩
  refine wk_ws (ws' := [(b, .inr (4, [.ref q1, .ref q2, .ref q3, .null])), (q1, .inr (0, [.ref u1.1.1, .ref u1.1.2.1, .ref u1.1.2.2, .int 1, .int 0, .int 0, .int 0])), (u1.1.1, .inl (ev_I V, (16, .inl z_32))), (u1.1.2.1, .inl (ev_I V, (16, .inl z_32))), (u1.1.2.2, .inl (ev_I V, (16, .inl u1.2))), (q2, .inr (1, [.ref u2.1, .ref u2.2.1, .ref u2.2.2.1, .ref u2.2.2.2, .int 0, .int 0, .int 0, .int 0])), (u2.1, .inl (ev_J V, (600, .inr (.inl z_64)))), (u2.2.1, .inl (ev_I V, (300, .inl z_32))), (u2.2.2.1, .inl (ev_Z V, (300, .inl z_32))), (u2.2.2.2, .inl (ev_I V, (4096, .inl z_32))), (q3, .inr (2, [.ref u3.1, .int 0])), (u3.1, .inr (1, [.ref u3.2.1, .ref u3.2.2.1, .ref u3.2.2.2.1, .ref u3.2.2.2.2, .int 0, .int 0, .int 0, .int 0])), (u3.2.1, .inl (ev_J V, (600, .inr (.inl z_64)))), (u3.2.2.1, .inl (ev_I V, (300, .inl z_32))), (u3.2.2.2.1, .inl (ev_Z V, (300, .inl z_32))), (u3.2.2.2.2, .inl (ev_I V, (4096, .inl z_32))), (q4, .inr (3, [.int 0, .int 0, .int 0, .int 0]))]) rfl ?_
  have X7 := X6.up (dk := 0) (dn := 0) (by show wx_k x + 1 + 3 + 1 + 4 + 1 + 5 + 1 + 0 ≤ 16; omega) (by show wx_n x + 7 + 48 + 8 + 5296 + 2 + 5304 + 4 + 0 ≤ 10669; omega)
  refine wk_putF X7 uw_X 0 rfl rfl 3 (Nat.le_of_ble_eq_true rfl) ft_X ft_X_ok fn_X (tl tw_141) rfl rfl hnm rfl rfl rfl (Nat.le_of_ble_eq_true rfl) dX_init_45 (ws' := [(b, .inr (4, [.ref q1, .ref q2, .ref q3, .ref q4])), (q1, .inr (0, [.ref u1.1.1, .ref u1.1.2.1, .ref u1.1.2.2, .int 1, .int 0, .int 0, .int 0])), (u1.1.1, .inl (ev_I V, (16, .inl z_32))), (u1.1.2.1, .inl (ev_I V, (16, .inl z_32))), (u1.1.2.2, .inl (ev_I V, (16, .inl u1.2))), (q2, .inr (1, [.ref u2.1, .ref u2.2.1, .ref u2.2.2.1, .ref u2.2.2.2, .int 0, .int 0, .int 0, .int 0])), (u2.1, .inl (ev_J V, (600, .inr (.inl z_64)))), (u2.2.1, .inl (ev_I V, (300, .inl z_32))), (u2.2.2.1, .inl (ev_Z V, (300, .inl z_32))), (u2.2.2.2, .inl (ev_I V, (4096, .inl z_32))), (q3, .inr (2, [.ref u3.1, .int 0])), (u3.1, .inr (1, [.ref u3.2.1, .ref u3.2.2.1, .ref u3.2.2.2.1, .ref u3.2.2.2.2, .int 0, .int 0, .int 0, .int 0])), (u3.2.1, .inl (ev_J V, (600, .inr (.inl z_64)))), (u3.2.2.1, .inl (ev_I V, (300, .inl z_32))), (u3.2.2.2.1, .inl (ev_Z V, (300, .inl z_32))), (u3.2.2.2.2, .inl (ev_I V, (4096, .inl z_32))), (q4, .inr (3, [.int 0, .int 0, .int 0, .int 0]))]) rfl ?_
  exact wk_vretC X7 Z.up.up.up.up.up.up.up.up (by show wx_k x + 1 + 3 + 1 + 4 + 1 + 5 + 1 + 0 = 16; omega) (by show wx_n x + 7 + 48 + 8 + 5296 + 2 + 5304 + 4 + 0 = 10669; omega) dX_init_48 (ad_17 b q1 u1.1.1 u1.1.2.1 u1.1.2.2 q2 u2.1 u2.2.1 u2.2.2.1 u2.2.2.2 q3 u3.1 u3.2.1 u3.2.2.1 u3.2.2.2.1 u3.2.2.2.2 q4, u1.2) ⟨rfl, hu1⟩ (cX_of b q1 u1.1.1 u1.1.2.1 u1.1.2.2 q2 u2.1 u2.2.1 u2.2.2.1 u2.2.2.2 q3 u3.1 u3.2.1 u3.2.2.1 u3.2.2.2.1 u3.2.2.2.2 q4 _)

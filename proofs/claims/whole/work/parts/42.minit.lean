/-! constructor of the tape machine -/
set_option maxRecDepth 100000 in
set_option maxHeartbeats 4000000 in
theorem mM_init {V : ee_V} (b : Nat) (sz : Nat) : Met (we_l (ee V)) yM_init ts_M_init ⟨2, 3, 48, 40⟩ (va_Pc [.ref b] (wk_PreC (ee V) [(b, (.inr (0, [.null, .null, .null, .int 0, .int 0, .int 0, .int 0]) : va_E))] sz)) (va_Qv (fun u : (Nat × Nat × Nat) × (Nat → Int32) => ∀ r, r < 16 → u.2 r = -1) (wk_BC (ee V) [(b, (.inr (0, [.null, .null, .null, .int 0, .int 0, .int 0, .int 0]) : va_E))] sz (fun u : (Nat × Nat × Nat) × (Nat → Int32) => [(b, .inr (0, [.ref u.1.1, .ref u.1.2.1, .ref u.1.2.2, .int 1, .int 0, .int 0, .int 0])), (u.1.1, .inl (ev_I V, (16, .inl z_32))), (u.1.2.1, .inl (ev_I V, (16, .inl z_32))), (u.1.2.2, .inl (ev_I V, (16, .inl u.2)))])) (wk_fr [(b, (.inr (0, [.null, .null, .null, .int 0, .int 0, .int 0, .int 0]) : va_E))] sz)) 3 48 (wk_fr [(b, (.inr (0, [.null, .null, .null, .int 0, .int 0, .int 0, .int 0]) : va_E))] sz) := by
  refine wk_ofC2 (ee_ok V) (by decide +kernel) rfl (Nat.le_of_ble_eq_true rfl) ?_
  intro x X Z hk hn hsz hnm
  have hA : ∀ q, (wx_H x).size ≤ q → wx_A x q := fun q h => by rw [Z.2.1]; exact Or.inr (by rw [← hsz]; exact h)
  refine wk_lq (lv' := [(0, .ref b)]) rfl ?_
  refine wk_aload_n X 0 dM_init_0 rfl rfl ?_
  refine wk_callCN X (fun sz => mK_init b _ sz) rfl (gd tw_26) 0 rfl hA (am_nM_3 X.am) (tl tw_25) (tl tw_2) rfl pd_K_init ⟨rfl, rfl⟩ ⟨(Nat.le_of_ble_eq_true rfl), (Nat.le_of_ble_eq_true rfl)⟩ rfl (Nat.le_of_ble_eq_true rfl) dM_init_1 ⟨by show wx_k x + 0 ≤ 3; omega, by show wx_n x + 0 ≤ 48; omega⟩ ?_
  intro _ _
  refine ⟨_, [], rfl, rfl, ?_⟩
  refine wk_ws (ws' := [(b, .inr (0, [.null, .null, .null, .int 0, .int 0, .int 0, .int 0]))]) rfl ?_
  have X0 := X.up (dk := 0) (dn := 0) (by show wx_k x + 0 ≤ 3; omega) (by show wx_n x + 0 ≤ 48; omega)
  refine wk_aload_n X0 0 dM_init_4 rfl rfl ?_
  refine wk_bipush X0 dM_init_5 (v := (16 : Int32)) (by decide) ?_
  refine wk_newa X0 (atype := .int) 0 rfl (tl tw_58) (N' := 16) (a0 := (16, .inl z_32)) (ha_I 16) (by decide) (by decide) (by decide) hA (by show wx_k x + 0 + 1 ≤ 3; omega) (by show wx_n x + 0 + 16 ≤ 48; omega) dM_init_7 ?_
  intro q0
  refine wk_ws (ws' := [(b, .inr (0, [.null, .null, .null, .int 0, .int 0, .int 0, .int 0])), (q0, .inl (ev_I V, (16, .inl z_32)))]) rfl ?_
  have X1 := X0.up (dk := 1) (dn := 16) (by show wx_k x + 0 + 1 ≤ 3; omega) (by show wx_n x + 0 + 16 ≤ 48; omega)
  refine wk_putF X1 uw_M 0 rfl rfl 0 (Nat.le_of_ble_eq_true rfl) ft_M ft_M_ok fn_M (tl tw_28) rfl rfl hnm rfl rfl rfl (Nat.le_of_ble_eq_true rfl) dM_init_9 (ws' := [(b, .inr (0, [.ref q0, .null, .null, .int 0, .int 0, .int 0, .int 0])), (q0, .inl (ev_I V, (16, .inl z_32)))]) rfl ?_
  refine wk_aload_n X1 0 dM_init_12 rfl rfl ?_
  refine wk_bipush X1 dM_init_13 (v := (16 : Int32)) (by decide) ?_
  refine wk_newa X1 (atype := .int) 0 rfl (tl tw_58) (N' := 16) (a0 := (16, .inl z_32)) (ha_I 16) (by decide) (by decide) (by decide) hA (by show wx_k x + 0 + 1 + 1 ≤ 3; omega) (by show wx_n x + 0 + 16 + 16 ≤ 48; omega) dM_init_15 ?_
  intro q1
  refine wk_ws (ws' := [(b, .inr (0, [.ref q0, .null, .null, .int 0, .int 0, .int 0, .int 0])), (q0, .inl (ev_I V, (16, .inl z_32))), (q1, .inl (ev_I V, (16, .inl z_32)))]) rfl ?_
  have X2 := X1.up (dk := 1) (dn := 16) (by show wx_k x + 0 + 1 + 1 ≤ 3; omega) (by show wx_n x + 0 + 16 + 16 ≤ 48; omega)
  refine wk_putF X2 uw_M 0 rfl rfl 1 (Nat.le_of_ble_eq_true rfl) ft_M ft_M_ok fn_M (tl tw_29) rfl rfl hnm rfl rfl rfl (Nat.le_of_ble_eq_true rfl) dM_init_17 (ws' := [(b, .inr (0, [.ref q0, .ref q1, .null, .int 0, .int 0, .int 0, .int 0])), (q0, .inl (ev_I V, (16, .inl z_32))), (q1, .inl (ev_I V, (16, .inl z_32)))]) rfl ?_
  refine wk_aload_n X2 0 dM_init_20 rfl rfl ?_
  refine wk_bipush X2 dM_init_21 (v := (16 : Int32)) (by decide) ?_
  refine wk_newa X2 (atype := .int) 0 rfl (tl tw_58) (N' := 16) (a0 := (16, .inl z_32)) (ha_I 16) (by decide) (by decide) (by decide) hA (by show wx_k x + 0 + 1 + 1 + 1 ≤ 3; omega) (by show wx_n x + 0 + 16 + 16 + 16 ≤ 48; omega) dM_init_23 ?_
  intro q2
  refine wk_ws (ws' := [(b, .inr (0, [.ref q0, .ref q1, .null, .int 0, .int 0, .int 0, .int 0])), (q0, .inl (ev_I V, (16, .inl z_32))), (q1, .inl (ev_I V, (16, .inl z_32))), (q2, .inl (ev_I V, (16, .inl z_32)))]) rfl ?_
  have X3 := X2.up (dk := 1) (dn := 16) (by show wx_k x + 0 + 1 + 1 + 1 ≤ 3; omega) (by show wx_n x + 0 + 16 + 16 + 16 ≤ 48; omega)
  refine wk_putF X3 uw_M 0 rfl rfl 2 (Nat.le_of_ble_eq_true rfl) ft_M ft_M_ok fn_M (tl tw_30) rfl rfl hnm rfl rfl rfl (Nat.le_of_ble_eq_true rfl) dM_init_25 (ws' := [(b, .inr (0, [.ref q0, .ref q1, .ref q2, .int 0, .int 0, .int 0, .int 0])), (q0, .inl (ev_I V, (16, .inl z_32))), (q1, .inl (ev_I V, (16, .inl z_32))), (q2, .inl (ev_I V, (16, .inl z_32)))]) rfl ?_
  refine wk_aload_n X3 0 dM_init_28 rfl rfl ?_
  refine wk_iconst X3 dM_init_29 (v := (1 : Int32)) (by decide) ?_
  refine wk_put X3 uw_M 0 rfl rfl 3 (Nat.le_of_ble_eq_true rfl) ft_M ft_M_ok fn_M (tl tw_31) rfl rfl rfl rfl (Nat.le_of_ble_eq_true rfl) dM_init_30 (ws' := [(b, .inr (0, [.ref q0, .ref q1, .ref q2, .int 1, .int 0, .int 0, .int 0])), (q0, .inl (ev_I V, (16, .inl z_32))), (q1, .inl (ev_I V, (16, .inl z_32))), (q2, .inl (ev_I V, (16, .inl z_32)))]) rfl ?_
  refine wk_aload_n X3 0 dM_init_33 rfl rfl ?_
  refine wk_iconst X3 dM_init_34 (v := (0 : Int32)) (by decide) ?_
  refine wk_put X3 uw_M 0 rfl rfl 4 (Nat.le_of_ble_eq_true rfl) ft_M ft_M_ok fn_M (tl tw_34) rfl rfl rfl rfl (Nat.le_of_ble_eq_true rfl) dM_init_35 (ws' := [(b, .inr (0, [.ref q0, .ref q1, .ref q2, .int 1, .int 0, .int 0, .int 0])), (q0, .inl (ev_I V, (16, .inl z_32))), (q1, .inl (ev_I V, (16, .inl z_32))), (q2, .inl (ev_I V, (16, .inl z_32)))]) rfl ?_
  refine wk_aload_n X3 0 dM_init_38 rfl rfl ?_
  refine wk_iconst X3 dM_init_39 (v := (0 : Int32)) (by decide) ?_
  refine wk_put X3 uw_M 0 rfl rfl 5 (Nat.le_of_ble_eq_true rfl) ft_M ft_M_ok fn_M (tl tw_37) rfl rfl rfl rfl (Nat.le_of_ble_eq_true rfl) dM_init_40 (ws' := [(b, .inr (0, [.ref q0, .ref q1, .ref q2, .int 1, .int 0, .int 0, .int 0])), (q0, .inl (ev_I V, (16, .inl z_32))), (q1, .inl (ev_I V, (16, .inl z_32))), (q2, .inl (ev_I V, (16, .inl z_32)))]) rfl ?_
  refine wk_aload_n X3 0 dM_init_43 rfl rfl ?_
  refine wk_iconst X3 dM_init_44 (v := (0 : Int32)) (by decide) ?_
  refine wk_put X3 uw_M 0 rfl rfl 6 (Nat.le_of_ble_eq_true rfl) ft_M ft_M_ok fn_M (tl tw_40) rfl rfl rfl rfl (Nat.le_of_ble_eq_true rfl) dM_init_45 (ws' := [(b, .inr (0, [.ref q0, .ref q1, .ref q2, .int 1, .int 0, .int 0, .int 0])), (q0, .inl (ev_I V, (16, .inl z_32))), (q1, .inl (ev_I V, (16, .inl z_32))), (q2, .inl (ev_I V, (16, .inl z_32)))]) rfl ?_
  have lp : ∀ (n i : Nat) (f : Nat → Int32), i + n = 16 → (∀ r, r < i → f r = -1) → wk_G (ee V) (wx_up (wx_up (wx_up (wx_up x 0 0) 1 16) 1 16) 1 16) 2 [(b, .inr (0, [.ref q0, .ref q1, .ref q2, .int 1, .int 0, .int 0, .int 0])), (q0, .inl (ev_I V, (16, .inl z_32))), (q1, .inl (ev_I V, (16, .inl z_32))), (q2, .inl (ev_I V, (16, .inl f)))] 50 [(1, .int (nI i)), (0, .ref b)] [] := by
    intro n
    induction n with
    | zero =>
      intro i f hi hf
      refine wk_iload_n X3 0 dM_init_50 rfl rfl ?_
      refine wk_aload_n X3 1 dM_init_51 rfl rfl ?_
      refine wk_get X3 uw_M 0 rfl rfl 2 (Nat.le_of_ble_eq_true rfl) (tl tw_30) rfl rfl dM_init_52 ?_
      refine wk_alen X3 3 0 rfl rfl (v := nI 16) rfl dM_init_55 ?_
      refine wk_icmp_ge X3 dM_init_56 (tgt := 72) rfl (fun _ => ?_) (fun h => absurd (nI_le (by omega) (by omega)) h)
      exact wk_vretC X3 Z (by show wx_k x + 0 + 1 + 1 + 1 = 3; omega) (by show wx_n x + 0 + 16 + 16 + 16 = 48; omega) dM_init_72 ((q0, q1, q2), f) (fun r hr => hf r (by omega)) rfl
    | succ n ih =>
      intro i f hi hf
      refine wk_iload_n X3 0 dM_init_50 rfl rfl ?_
      refine wk_aload_n X3 1 dM_init_51 rfl rfl ?_
      refine wk_get X3 uw_M 0 rfl rfl 2 (Nat.le_of_ble_eq_true rfl) (tl tw_30) rfl rfl dM_init_52 ?_
      refine wk_alen X3 3 0 rfl rfl (v := nI 16) rfl dM_init_55 ?_
      refine wk_icmp_ge X3 dM_init_56 (tgt := 72) rfl (fun h => absurd h (nI_ge (by omega) (by omega))) (fun _ => ?_)
      refine wk_aload_n X3 1 dM_init_59 rfl rfl ?_
      refine wk_get X3 uw_M 0 rfl rfl 2 (Nat.le_of_ble_eq_true rfl) (tl tw_30) rfl rfl dM_init_60 ?_
      refine wk_iload_n X3 0 dM_init_63 rfl rfl ?_
      refine wk_iconst X3 dM_init_64 (v := (-1 : Int32)) (by decide) ?_
      refine wk_iast X3 3 0 rfl rfl (nI_in (by omega) (by omega)) (g := upd f i (-1)) (by rw [nI_clamp (by omega)]) dM_init_65 (ws' := [(b, .inr (0, [.ref q0, .ref q1, .ref q2, .int 1, .int 0, .int 0, .int 0])), (q0, .inl (ev_I V, (16, .inl z_32))), (q1, .inl (ev_I V, (16, .inl z_32))), (q2, .inl (ev_I V, (16, .inl (upd f i (-1)))))]) rfl ?_
      refine wk_iinc X3 0 dM_init_66 rfl (v := nI (i + 1)) (nI_1 i) (Nat.le_of_ble_eq_true rfl) (lv' := [(1, .int (nI (i + 1))), (0, .ref b)]) rfl ?_
      refine wk_goto X3 dM_init_69 (tgt := 50) rfl ?_
      exact ih (i + 1) _ (by omega) (fun r hr => by
        unfold upd
        by_cases z : r = i
        · rw [if_pos z]
        · rw [if_neg z]; exact hf r (by omega))
  refine wk_iconst X3 dM_init_48 (v := nI 0) (by decide) ?_
  refine wk_istore_n X3 dM_init_49 rfl (Nat.le_of_ble_eq_true rfl) (lv' := [(1, .int (nI 0)), (0, .ref b)]) rfl ?_
  exact lp 16 0 z_32 rfl (fun r hr => absurd hr (Nat.not_lt_zero _))

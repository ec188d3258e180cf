/-! constructors of the code and of the tag system -/
theorem mC_init {V : ee_V} (b : Nat) (sz : Nat) : Met (we_l (ee V)) yC_init ts_C_init ⟨1, 0, 0, 20⟩ (va_Pc [.ref b] (wk_PreC (ee V) [(b, .inr (3, [.int 0, .int 0, .int 0, .int 0]))] sz)) (va_Qv (fun _ : Unit => True) (wk_BC (ee V) [(b, .inr (3, [.int 0, .int 0, .int 0, .int 0]))] sz (fun _ => [(b, .inr (3, [.int 0, .int 0, .int 0, .int 0]))])) (wk_fr [(b, .inr (3, [.int 0, .int 0, .int 0, .int 0]))] sz)) 0 0 (wk_fr [(b, .inr (3, [.int 0, .int 0, .int 0, .int 0]))] sz) := by
  refine wk_ofC2 (ee_ok V) (by decide +kernel) rfl (Nat.le_of_ble_eq_true rfl) ?_
  intro x X Z hk hn hsz hnm
  refine wk_lq (lv' := [(0, .ref b)]) rfl ?_
  refine wk_aload_n X 0 dC_init_0 rfl rfl ?_
  refine wk_objInit X (tl tw_120) (tl tw_17) (tl tw_18) dC_init_1 (Nat.le_of_ble_eq_true rfl) (Nat.le_of_ble_eq_true rfl) ?_
  refine wk_aload_n X 0 dC_init_4 rfl rfl ?_
  refine wk_iconst X dC_init_5 (v := (0 : Int32)) (by decide) ?_
  refine wk_put X uw_C 0 rfl rfl 0 (Nat.le_of_ble_eq_true rfl) ft_C ft_C_ok fn_C (tl tw_121) rfl rfl rfl rfl (Nat.le_of_ble_eq_true rfl) dC_init_6 (ws' := [(b, .inr (3, [.int 0, .int 0, .int 0, .int 0]))]) rfl ?_
  refine wk_aload_n X 0 dC_init_9 rfl rfl ?_
  refine wk_iconst X dC_init_10 (v := (0 : Int32)) (by decide) ?_
  refine wk_put X uw_C 0 rfl rfl 1 (Nat.le_of_ble_eq_true rfl) ft_C ft_C_ok fn_C (tl tw_123) rfl rfl rfl rfl (Nat.le_of_ble_eq_true rfl) dC_init_11 (ws' := [(b, .inr (3, [.int 0, .int 0, .int 0, .int 0]))]) rfl ?_
  refine wk_aload_n X 0 dC_init_14 rfl rfl ?_
  refine wk_iconst X dC_init_15 (v := (0 : Int32)) (by decide) ?_
  refine wk_put X uw_C 0 rfl rfl 2 (Nat.le_of_ble_eq_true rfl) ft_C ft_C_ok fn_C (tl tw_125) rfl rfl rfl rfl (Nat.le_of_ble_eq_true rfl) dC_init_16 (ws' := [(b, .inr (3, [.int 0, .int 0, .int 0, .int 0]))]) rfl ?_
  refine wk_aload_n X 0 dC_init_19 rfl rfl ?_
  refine wk_iconst X dC_init_20 (v := (0 : Int32)) (by decide) ?_
  refine wk_put X uw_C 0 rfl rfl 3 (Nat.le_of_ble_eq_true rfl) ft_C ft_C_ok fn_C (tl tw_127) rfl rfl rfl rfl (Nat.le_of_ble_eq_true rfl) dC_init_21 (ws' := [(b, .inr (3, [.int 0, .int 0, .int 0, .int 0]))]) rfl ?_
  exact wk_vretC X Z hk hn dC_init_24 () trivial rfl

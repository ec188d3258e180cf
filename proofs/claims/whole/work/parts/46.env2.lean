/-! the environment, out of the words of the start -/
def tb_t (k : Nat) : Term := .static "TagWorkshop$TagMaker" (tb_s k) "[I"
set_option maxRecDepth 20000 in
theorem nw_arr : ∀ k, k < 4 → Cond.arrayOf (tb_t k) .int ∈ flatC (Jvm.Cond.and given_1 narrow_1) := by decide +kernel
set_option maxRecDepth 20000 in
theorem nw_len : ∀ k, k < 4 → Cond.eq (.length (tb_t k)) (.int (Int32.ofNat (tb_n k))) ∈ flatC (Jvm.Cond.and given_1 narrow_1) := by decide +kernel
set_option maxRecDepth 20000 in
theorem nw_el : ∀ k, k < 4 → ∀ j, j < tb_n k → Cond.eq (.elem (tb_t k) (.int (Int32.ofNat j))) (.int (tb_f k j)) ∈ flatC (Jvm.Cond.and given_1 narrow_1) := by decide +kernel
set_option maxRecDepth 20000 in
theorem lw_lay : ∀ k, k < 4 → Cond.laysStatic "TagWorkshop$TagMaker" (tb_s k) "[I" ∈ lw_tbl := by decide +kernel
theorem tb_n31 : ∀ k, k < 4 → tb_n k < 2 ^ 31 := by decide
set_option maxRecDepth 20000 in
theorem lw_n0 : (.methodLinkNest "TagWorkshop$TapeMachine" 3 yK_init "TagWorkshop" : Cond) ∈ lw_tbl := by decide +kernel
set_option maxRecDepth 20000 in
theorem lw_n1 : (.methodLinkNest "TagWorkshop" 18 yT_init "TagWorkshop" : Cond) ∈ lw_tbl := by decide +kernel
set_option maxRecDepth 20000 in
theorem lw_n2 : (.methodLinkNest "TagWorkshop$TagSystem" 5 yK_init "TagWorkshop" : Cond) ∈ lw_tbl := by decide +kernel
set_option maxRecDepth 20000 in
theorem lw_n3 : (.methodLinkNest "TagWorkshop" 25 yY_init "TagWorkshop" : Cond) ∈ lw_tbl := by decide +kernel
set_option maxRecDepth 20000 in
theorem lw_n4 : (.methodLinkNest "TagWorkshop$CyclicSystem" 3 yK_init "TagWorkshop" : Cond) ∈ lw_tbl := by decide +kernel
set_option maxRecDepth 20000 in
theorem lw_n5 : (.methodLinkNest "TagWorkshop$CyclicSystem" 11 yT_init "TagWorkshop" : Cond) ∈ lw_tbl := by decide +kernel
set_option maxRecDepth 20000 in
theorem lw_n6 : (.methodLinkNest "TagWorkshop" 32 yC_init "TagWorkshop" : Cond) ∈ lw_tbl := by decide +kernel
set_option maxRecDepth 20000 in
theorem lw_n7 : (.methodLinkNest "TagWorkshop$Machine" 9 yX_within "TagWorkshop" : Cond) ∈ lw_tbl := by decide +kernel
set_option maxRecDepth 20000 in
theorem lw_n8 : (.declares yK_makeSteps : Cond) ∈ lw_tbl := by decide +kernel
set_option maxRecDepth 20000 in
theorem lw_n9 : (.declares yK_canGoOn : Cond) ∈ lw_tbl := by decide +kernel
set_option maxRecDepth 20000 in
theorem lw_n10 : (.declares yK_step : Cond) ∈ lw_tbl := by decide +kernel
section EEO
variable {s : State} {b : Nat}
theorem ts_of (hts : ∀ w ∈ lw_tbl, w.before #[Value.ref b] s = true) : ∀ w ∈ ts_L_law, w.before #[Value.ref b] s = true := fun w h => (List.mem_cons.mp h).elim (fun e => e ▸ hts _ (List.mem_filter.mp tw_0).1) (fun h => hts _ (List.mem_filter.mp h).1)
theorem am_of (hts : ∀ w ∈ lw_tbl, w.before #[Value.ref b] s = true) : am_N s := ⟨va_Nw.of rfl (hts _ lw_n0), va_Nw.of rfl (hts _ lw_n1), va_Nw.of rfl (hts _ lw_n2), va_Nw.of rfl (hts _ lw_n3), va_Nw.of rfl (hts _ lw_n4), va_Nw.of rfl (hts _ lw_n5), va_Nw.of rfl (hts _ lw_n6), va_Nw.of rfl (hts _ lw_n7), va_Nw.of rfl (hts _ lw_n8), va_Nw.of rfl (hts _ lw_n9), va_Nw.of rfl (hts _ lw_n10)⟩
theorem ar_of {t : FieldType} (ht : (Cond.arrayClass t).before #[Value.ref b] s = true) : ∃ cA : ClassId, ArrOfT s cA t ∧ s.vm.findClass ("[" ++ t.toString) = some cA := by
  obtain ⟨cA, kA, comp, h1, h2, h3⟩ := Cond.arrayClass_spec ht
  exact ⟨cA, fun n z => ⟨fun k h => (by cases h), kA, h2, comp, h3⟩, h1⟩
theorem tb_of (hgv : (Jvm.Cond.and given_1 narrow_1).before #[Value.ref b] s = true) : ∃ tt : Nat → Nat, ∀ k, k < 4 → (tb_t k).eval #[Value.ref b] s none [] s = some (.ref (tt k)) ∧ va_T .int (tt k) (tb_n k) (fun j => .int (tb_f k j)) (fun q => s.heap.size ≤ q) s s.heap := by
  have hs := flat_of_before _ hgv
  have h0 : ∀ k : Nat, ∃ t : Nat, k < 4 → (tb_t k).eval #[Value.ref b] s none [] s = some (.ref t) ∧ va_T .int t (tb_n k) (fun j => .int (tb_f k j)) (fun q => s.heap.size ≤ q) s s.heap := by
    intro k
    by_cases hk : k < 4
    · obtain ⟨t, h1, h2⟩ := va_Tof (tm := tb_t k) (ty := .int) (f := fun j => .int (tb_f k j)) (N := tb_n k) (A := fun q => s.heap.size ≤ q) (tb_n31 k hk) (hs _ (nw_arr k hk)) (va_eqt (hs _ (nw_len k hk))) (fun j hj => va_eqt (hs _ (nw_el k hk j hj))) (fun a h9 => Nat.not_le.mpr h9)
      exact ⟨t, fun _ => ⟨h1, h2⟩⟩
    · exact ⟨0, fun h => absurd h hk⟩
  exact ⟨fun k => Classical.choose (h0 k), fun k hk => Classical.choose_spec (h0 k) hk⟩
theorem ee_of (l : Launch) (hts : ∀ w ∈ lw_tbl, w.before #[Value.ref b] s = true) (hgv : (Jvm.Cond.and given_1 narrow_1).before #[Value.ref b] s = true) : ∃ (D : va_G) (cI cZ cJ : ClassId) (tt : Nat → Nat), va_K D vcl [(cI, .int), (cZ, .boolean), (cJ, .long)] s ∧ am (l, D, cI, cZ, cJ, tt, s.heap.size) s s.heap := by
  have ht := ts_of hts
  obtain ⟨c0, i0, k0⟩ := u_known (C := "TagWorkshop$TapeMachine") (T := fd_M) (N := 7) (n := 7) ht uw_M (ht _ (tl tw_20))
  obtain ⟨c1, i1, k1⟩ := u_known (C := "TagWorkshop$TagSystem") (T := fd_T) (N := 8) (n := 8) ht uw_T (ht _ (tl tw_60))
  obtain ⟨c2, i2, k2⟩ := u_known (C := "TagWorkshop$CyclicSystem") (T := fd_Y) (N := 2) (n := 2) ht uw_Y (ht _ (tl tw_100))
  obtain ⟨c3, i3, k3⟩ := u_known (C := "TagWorkshop$Code") (T := fd_C) (N := 4) (n := 4) ht uw_C (ht _ (tl tw_116))
  obtain ⟨c4, i4, k4⟩ := u_known (C := "TagWorkshop") (T := fd_X) (N := 4) (n := 4) ht uw_X (ht _ (tl tw_12))
  obtain ⟨c5, i5, k5⟩ := u_known (C := "TagWorkshopModel") (T := fd_R) (N := 29) (n := 29) ht uw_R (ht _ (tl tw_532))
  obtain ⟨cI, aI, n_I⟩ := ar_of (t := .int) (ht _ (tl tw_58))
  obtain ⟨cZ, aZ, n_Z⟩ := ar_of (t := .boolean) (ht _ (tl tw_98))
  obtain ⟨cJ, aJ, n_J⟩ := ar_of (t := .long) (ht _ (tl tw_97))
  obtain ⟨tt, htt⟩ := tb_of hgv
  refine ⟨(fun k => match k with | 0 => c0 | 1 => c1 | 2 => c2 | 3 => c3 | 4 => c4 | _ => c5, fun k => match k with | 0 => i0 | 1 => i1 | 2 => i2 | 3 => i3 | 4 => i4 | _ => i5), cI, cZ, cJ, tt, ⟨fun k q hq => ?_, fun k q hq => ?_⟩, am_of hts, fun k hk => ?_, fun k hk => (htt k hk).2⟩
  · match k, hq with
    | 0, hq => cases hq; exact k0
    | 1, hq => cases hq; exact k1
    | 2, hq => cases hq; exact k2
    | 3, hq => cases hq; exact k3
    | 4, hq => cases hq; exact k4
    | 5, hq => cases hq; exact k5
    | k + 6, hq => simp [vcl] at hq
  · match k, hq with
    | 0, hq => cases hq; exact ⟨aI, n_I⟩
    | 1, hq => cases hq; exact ⟨aZ, n_Z⟩
    | 2, hq => cases hq; exact ⟨aJ, n_J⟩
    | k + 3, hq => simp at hq
  · exact va_Zref (hts _ (lw_lay k hk)) (hts _ (List.mem_filter.mp tw_8).1) (htt k hk).1 (fun a h9 => Nat.not_le.mpr h9)
end EEO

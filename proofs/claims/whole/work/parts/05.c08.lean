-- Y_bits: room (0, 0), Int32
def fY_bits (S : pY) : Int32 :=
  ((S.1.2.2.2.2.2.1 * S.1.2.2.2.2.2.2.1) - S.2)
set_option maxRecDepth 100000 in
set_option maxHeartbeats 4000000 in
theorem mY_bits {V : ee_V} (a : Nat → Nat) (S : pY) (R : Int32) (hf : fY_bits S = R) : wk_I (ee V) yY_bits ts_Y_bits ⟨0, 0, 0, 0⟩ [.ref (a 0)] (cY V a S) (fun (r : Int32) (_ : Unit) => R = r) (fun _ : Unit => cY V a S) := by
  refine wk_of (ee_ok V) (by decide +kernel) rfl (Nat.le_of_ble_eq_true rfl) ?_
  intro x X Z
  unfold fY_bits at hf
  refine wk_lq (lv' := [(0, .ref (a 0))]) rfl ?_
  refine wk_aload_n X 0 dY_bits_0 rfl rfl ?_
  refine wk_get X uw_Y 0 rfl rfl 0 (Nat.le_of_ble_eq_true rfl) (tl tw_107) rfl rfl dY_bits_1 ?_
  refine wk_get X uw_T 1 rfl rfl 5 (Nat.le_of_ble_eq_true rfl) (tl tw_72) rfl rfl dY_bits_4 ?_
  refine wk_aload_n X 0 dY_bits_7 rfl rfl ?_
  refine wk_get X uw_Y 0 rfl rfl 0 (Nat.le_of_ble_eq_true rfl) (tl tw_107) rfl rfl dY_bits_8 ?_
  refine wk_get X uw_T 1 rfl rfl 6 (Nat.le_of_ble_eq_true rfl) (tl tw_75) rfl rfl dY_bits_11 ?_
  refine wk_imul X dY_bits_14 ?_
  refine wk_aload_n X 0 dY_bits_15 rfl rfl ?_
  refine wk_get X uw_Y 0 rfl rfl 1 (Nat.le_of_ble_eq_true rfl) (tl tw_108) rfl rfl dY_bits_16 ?_
  refine wk_isub X dY_bits_19 ?_
  exact wk_iret X Z rfl dY_bits_20 () (Eq.symm hf) rfl rfl
-- X_cyclicNow: room (2, 40), Option (Int32)
def fX_cyclicNow (S : pX) (v1 : Int32) : Option (Int32) :=
  if v1 = (0 : Int32) then (
    some (fY_appendants S.2.2.1)
  ) else (
  if v1 = (1 : Int32) then (
    some (fY_bits S.2.2.1)
  ) else (
  if v1 = (2 : Int32) then (
    (fY_canGoOn S.2.2.1).bind fun q4 =>
    some q4
  ) else (
  if v1 = (3 : Int32) then (
    some S.2.2.1.2
  ) else (
    some (-1 : Int32)
  ))))
set_option maxRecDepth 100000 in
set_option maxHeartbeats 4000000 in
theorem mX_cyclicNow {V : ee_V} (a : Nat → Nat) (S : pX) (v1 : Int32) (R : Int32) (hf : fX_cyclicNow S v1 = some R) : wk_I (ee V) yX_cyclicNow ts_X_cyclicNow ⟨2, 0, 0, 40⟩ [.ref (a 0), .int v1] (cX V a S) (fun (r : Int32) (_ : Unit) => R = r) (fun _ : Unit => cX V a S) := by
  refine wk_of (ee_ok V) (by decide +kernel) rfl (Nat.le_of_ble_eq_true rfl) ?_
  intro x X Z
  unfold fX_cyclicNow at hf
  refine wk_lq (lv' := [(0, .ref (a 0)), (1, .int v1)]) rfl ?_
  refine wk_iload_n X 1 dX_cyclicNow_0 rfl rfl ?_
  by_cases h1 : v1 = (0 : Int32)
  · replace hf := p_it h1 hf
    refine wk_swIn X dX_cyclicNow_1 (off := 31) (tgt := 32) (by rw [h1]; decide) (by rw [h1]; decide) (by rw [h1]; rfl) rfl ?_
    refine wk_aload_n X 0 dX_cyclicNow_32 rfl rfl ?_
    refine wk_get X uw_X 0 rfl rfl 2 (Nat.le_of_ble_eq_true rfl) (tl tw_140) rfl rfl dX_cyclicNow_33 ?_
    refine wk_goI [10, 11, 12, 13, 14, 15] (wk_rV X (mY_appendants (V := V) (fun i => a (i + 10)) S.2.2.1 (fY_appendants S.2.2.1) rfl) rfl (gd (tw_347)) [10, 11, 12, 13, 14, 15] rfl rfl 10 rfl rfl (tl tw_344) (tl tw_345) (tl tw_346) (tl tw_5) 0 pd_Y_appendants rfl ⟨rfl, rfl⟩ ⟨Nat.le_of_ble_eq_true rfl, Nat.le_of_ble_eq_true rfl⟩ rfl (Nat.le_of_ble_eq_true rfl) dX_cyclicNow_36) rfl ?_
    rintro r ⟨⟩ rfl
    refine wk_ws (ws' := cX V a S) rfl ?_
    have hf := Option.some.inj hf
    exact wk_iret X Z rfl dX_cyclicNow_39 () (Eq.symm hf) rfl rfl
  · replace hf := p_ie h1 hf
    by_cases h2 : v1 = (1 : Int32)
    · replace hf := p_it h2 hf
      refine wk_swIn X dX_cyclicNow_1 (off := 39) (tgt := 40) (by rw [h2]; decide) (by rw [h2]; decide) (by rw [h2]; rfl) rfl ?_
      refine wk_aload_n X 0 dX_cyclicNow_40 rfl rfl ?_
      refine wk_get X uw_X 0 rfl rfl 2 (Nat.le_of_ble_eq_true rfl) (tl tw_140) rfl rfl dX_cyclicNow_41 ?_
      refine wk_goI [10, 11, 12, 13, 14, 15] (wk_rV X (mY_bits (V := V) (fun i => a (i + 10)) S.2.2.1 (fY_bits S.2.2.1) rfl) rfl (gd (tw_454)) [10, 11, 12, 13, 14, 15] rfl rfl 10 rfl rfl (tl tw_451) (tl tw_452) (tl tw_453) (tl tw_5) 0 pd_Y_bits rfl ⟨rfl, rfl⟩ ⟨Nat.le_of_ble_eq_true rfl, Nat.le_of_ble_eq_true rfl⟩ rfl (Nat.le_of_ble_eq_true rfl) dX_cyclicNow_44) rfl ?_
      rintro r ⟨⟩ rfl
      refine wk_ws (ws' := cX V a S) rfl ?_
      have hf := Option.some.inj hf
      exact wk_iret X Z rfl dX_cyclicNow_47 () (Eq.symm hf) rfl rfl
    · replace hf := p_ie h2 hf
      by_cases h3 : v1 = (2 : Int32)
      · replace hf := p_it h3 hf
        refine wk_swIn X dX_cyclicNow_1 (off := 47) (tgt := 48) (by rw [h3]; decide) (by rw [h3]; decide) (by rw [h3]; rfl) rfl ?_
        refine wk_aload_n X 0 dX_cyclicNow_48 rfl rfl ?_
        refine wk_get X uw_X 0 rfl rfl 2 (Nat.le_of_ble_eq_true rfl) (tl tw_140) rfl rfl dX_cyclicNow_49 ?_
        obtain ⟨q4, h5, hf⟩ := p_ob hf
        refine wk_goI [10, 11, 12, 13, 14, 15] (wk_rV X (mY_canGoOn (V := V) (fun i => a (i + 10)) S.2.2.1 q4 h5) rfl (gd (tw_383)) [10, 11, 12, 13, 14, 15] rfl rfl 10 rfl rfl (tl tw_455) (tl tw_382) (tl tw_830) (tl tw_5) 0 pd_Y_canGoOn rfl ⟨rfl, rfl⟩ ⟨Nat.le_of_ble_eq_true rfl, Nat.le_of_ble_eq_true rfl⟩ rfl (Nat.le_of_ble_eq_true rfl) dX_cyclicNow_52) rfl ?_
        rintro r ⟨⟩ rfl
        refine wk_ws (ws' := cX V a S) rfl ?_
        have hf := Option.some.inj hf
        exact wk_iret X Z rfl dX_cyclicNow_55 () (Eq.symm hf) rfl rfl
      · replace hf := p_ie h3 hf
        by_cases h6 : v1 = (3 : Int32)
        · replace hf := p_it h6 hf
          refine wk_swIn X dX_cyclicNow_1 (off := 55) (tgt := 56) (by rw [h6]; decide) (by rw [h6]; decide) (by rw [h6]; rfl) rfl ?_
          refine wk_aload_n X 0 dX_cyclicNow_56 rfl rfl ?_
          refine wk_get X uw_X 0 rfl rfl 2 (Nat.le_of_ble_eq_true rfl) (tl tw_140) rfl rfl dX_cyclicNow_57 ?_
          refine wk_get X uw_Y 10 rfl rfl 1 (Nat.le_of_ble_eq_true rfl) (tl tw_109) rfl rfl dX_cyclicNow_60 ?_
          have hf := Option.some.inj hf
          exact wk_iret X Z rfl dX_cyclicNow_63 () (Eq.symm hf) rfl rfl
        · replace hf := p_ie h6 hf
          have h1n : ¬ (v1).toInt = 0 := p_sw (0 : Int32) h1
          have h2n : ¬ (v1).toInt = 1 := p_sw (1 : Int32) h2
          have h3n : ¬ (v1).toInt = 2 := p_sw (2 : Int32) h3
          have h6n : ¬ (v1).toInt = 3 := p_sw (3 : Int32) h6
          refine wk_swOut X dX_cyclicNow_1 (tgt := 64) (by omega) rfl ?_
          refine wk_iconst X dX_cyclicNow_64 (v := (-1 : Int32)) (by decide) ?_
          have hf := Option.some.inj hf
          exact wk_iret X Z rfl dX_cyclicNow_65 () (Eq.symm hf) rfl rfl
-- X_tagLetter: room (1, 21), Option (Int32)
def fX_tagLetter (S : pX) (v1 : Int32) : Option (Int32) :=
  (fT_wordLetter S.2.1 v1).bind fun q1 =>
  some q1
set_option maxRecDepth 100000 in
set_option maxHeartbeats 4000000 in
theorem mX_tagLetter {V : ee_V} (a : Nat → Nat) (S : pX) (v1 : Int32) (R : Int32) (hf : fX_tagLetter S v1 = some R) : wk_I (ee V) yX_tagLetter ts_X_tagLetter ⟨1, 0, 0, 21⟩ [.ref (a 0), .int v1] (cX V a S) (fun (r : Int32) (_ : Unit) => R = r) (fun _ : Unit => cX V a S) := by
  refine wk_of (ee_ok V) (by decide +kernel) rfl (Nat.le_of_ble_eq_true rfl) ?_
  intro x X Z
  unfold fX_tagLetter at hf
  refine wk_lq (lv' := [(0, .ref (a 0)), (1, .int v1)]) rfl ?_
  refine wk_aload_n X 0 dX_tagLetter_0 rfl rfl ?_
  refine wk_get X uw_X 0 rfl rfl 1 (Nat.le_of_ble_eq_true rfl) (tl tw_139) rfl rfl dX_tagLetter_1 ?_
  refine wk_iload_n X 1 dX_tagLetter_4 rfl rfl ?_
  obtain ⟨q1, h2, hf⟩ := p_ob hf
  refine wk_goI [5, 6, 7, 8, 9] (wk_rV X (mT_wordLetter (V := V) (fun i => a (i + 5)) S.2.1 v1 q1 h2) rfl (gd (tw_404)) [5, 6, 7, 8, 9] rfl rfl 5 rfl rfl (tl tw_460) (tl tw_402) (tl tw_403) (tl tw_4) 1 pd_T_wordLetter rfl ⟨rfl, rfl⟩ ⟨Nat.le_of_ble_eq_true rfl, Nat.le_of_ble_eq_true rfl⟩ rfl (Nat.le_of_ble_eq_true rfl) dX_tagLetter_5) rfl ?_
  rintro r ⟨⟩ rfl
  refine wk_ws (ws' := cX V a S) rfl ?_
  have hf := Option.some.inj hf
  exact wk_iret X Z rfl dX_tagLetter_8 () (Eq.symm hf) rfl rfl
-- Y_wordBit: room (1, 21), Option (Int32)
def fY_wordBit (S : pY) (v1 : Int32) : Option (Int32) :=
  if S.1.2.2.2.2.2.2.1 = 0 then (
    some (-1 : Int32)
  ) else (
    if v1 < 0 then (
      some (-1 : Int32)
    ) else (
      if v1 < (fY_bits S) then (
        (p_dv (S.2 + v1) S.1.2.2.2.2.2.2.1).bind fun q4 =>
        (fT_wordLetter S.1 q4).bind fun q6 =>
        (p_rm (S.2 + v1) S.1.2.2.2.2.2.2.1).bind fun q8 =>
        some (fY_bitOf q6 q8)
      ) else (
        some (-1 : Int32)
      )
    )
  )
set_option maxRecDepth 100000 in
set_option maxHeartbeats 4000000 in
theorem mY_wordBit {V : ee_V} (a : Nat → Nat) (S : pY) (v1 : Int32) (R : Int32) (hf : fY_wordBit S v1 = some R) : wk_I (ee V) yY_wordBit ts_Y_wordBit ⟨1, 0, 0, 21⟩ [.ref (a 0), .int v1] (cY V a S) (fun (r : Int32) (_ : Unit) => R = r) (fun _ : Unit => cY V a S) := by
  refine wk_of (ee_ok V) (by decide +kernel) rfl (Nat.le_of_ble_eq_true rfl) ?_
  intro x X Z
  unfold fY_wordBit at hf
  refine wk_lq (lv' := [(0, .ref (a 0)), (1, .int v1)]) rfl ?_
  refine wk_aload_n X 0 dY_wordBit_0 rfl rfl ?_
  refine wk_get X uw_Y 0 rfl rfl 0 (Nat.le_of_ble_eq_true rfl) (tl tw_107) rfl rfl dY_wordBit_1 ?_
  refine wk_get X uw_T 1 rfl rfl 6 (Nat.le_of_ble_eq_true rfl) (tl tw_75) rfl rfl dY_wordBit_4 ?_
  refine wk_istore_n X dY_wordBit_7 rfl (Nat.le_of_ble_eq_true rfl) (lv' := [(2, .int S.1.2.2.2.2.2.2.1), (0, .ref (a 0)), (1, .int v1)]) rfl ?_
  refine wk_iload_n X 0 dY_wordBit_8 rfl rfl ?_
  refine wk_if_eq X dY_wordBit_9 (tgt := 24) rfl (fun h1 => ?_) (fun h1 => ?_)
  · replace hf := p_it h1 hf
    refine wk_iconst X dY_wordBit_24 (v := (-1 : Int32)) (by decide) ?_
    have hf := Option.some.inj hf
    exact wk_iret X Z rfl dY_wordBit_25 () (Eq.symm hf) rfl rfl
  · replace hf := p_ie h1 hf
    refine wk_iload_n X 2 dY_wordBit_12 rfl rfl ?_
    refine wk_if_lt X dY_wordBit_13 (tgt := 24) rfl (fun h2 => ?_) (fun h2 => ?_)
    · replace hf := p_it h2 hf
      refine wk_iconst X dY_wordBit_24 (v := (-1 : Int32)) (by decide) ?_
      have hf := Option.some.inj hf
      exact wk_iret X Z rfl dY_wordBit_25 () (Eq.symm hf) rfl rfl
    · replace hf := p_ie h2 hf
      refine wk_iload_n X 2 dY_wordBit_16 rfl rfl ?_
      refine wk_aload_n X 1 dY_wordBit_17 rfl rfl ?_
      refine wk_goI [0, 1, 2, 3, 4, 5] (wk_rV X (mY_bits (V := V) a S (fY_bits S) rfl) rfl (gd (tw_454)) [0, 1, 2, 3, 4, 5] rfl rfl 0 rfl rfl (tl tw_469) (tl tw_452) (tl tw_453) (tl tw_5) 0 pd_Y_bits rfl ⟨rfl, rfl⟩ ⟨Nat.le_of_ble_eq_true rfl, Nat.le_of_ble_eq_true rfl⟩ rfl (Nat.le_of_ble_eq_true rfl) dY_wordBit_18) rfl ?_
      rintro r ⟨⟩ rfl
      refine wk_ws (ws' := cY V a S) rfl ?_
      refine wk_icmp_lt X dY_wordBit_21 (tgt := 26) rfl (fun h3 => ?_) (fun h3 => ?_)
      · replace hf := p_it h3 hf
        refine wk_aload_n X 1 dY_wordBit_26 rfl rfl ?_
        refine wk_get X uw_Y 0 rfl rfl 1 (Nat.le_of_ble_eq_true rfl) (tl tw_108) rfl rfl dY_wordBit_27 ?_
        refine wk_iload_n X 2 dY_wordBit_30 rfl rfl ?_
        refine wk_iadd X dY_wordBit_31 ?_
        refine wk_istore_n X dY_wordBit_32 rfl (Nat.le_of_ble_eq_true rfl) (lv' := [(3, .int (S.2 + v1)), (2, .int S.1.2.2.2.2.2.2.1), (0, .ref (a 0)), (1, .int v1)]) rfl ?_
        refine wk_aload_n X 2 dY_wordBit_33 rfl rfl ?_
        refine wk_get X uw_Y 0 rfl rfl 0 (Nat.le_of_ble_eq_true rfl) (tl tw_107) rfl rfl dY_wordBit_34 ?_
        refine wk_iload_n X 0 dY_wordBit_37 rfl rfl ?_
        refine wk_iload_n X 1 dY_wordBit_38 rfl rfl ?_
        obtain ⟨q4, h5, hf⟩ := p_ob hf
        obtain ⟨h5z, h5e⟩ := p_dv_some h5
        refine wk_idiv X dY_wordBit_39 h5z ?_
        refine wk_top h5e ?_
        obtain ⟨q6, h7, hf⟩ := p_ob hf
        refine wk_goI [1, 2, 3, 4, 5] (wk_rV X (mT_wordLetter (V := V) (fun i => a (i + 1)) S.1 q4 q6 h7) rfl (gd (tw_404)) [1, 2, 3, 4, 5] rfl rfl 1 rfl rfl (tl tw_401) (tl tw_402) (tl tw_403) (tl tw_4) 1 pd_T_wordLetter rfl ⟨rfl, rfl⟩ ⟨Nat.le_of_ble_eq_true rfl, Nat.le_of_ble_eq_true rfl⟩ rfl (Nat.le_of_ble_eq_true rfl) dY_wordBit_40) rfl ?_
        rintro r ⟨⟩ rfl
        refine wk_ws (ws' := cY V a S) rfl ?_
        refine wk_iload_n X 0 dY_wordBit_43 rfl rfl ?_
        refine wk_iload_n X 1 dY_wordBit_44 rfl rfl ?_
        obtain ⟨q8, h9, hf⟩ := p_ob hf
        obtain ⟨h9z, h9e⟩ := p_rm_some h9
        refine wk_irem X dY_wordBit_45 h9z ?_
        refine wk_top h9e ?_
        refine wk_goI [] (wk_rS X (mY_bitOf (V := V) q6 q8 (fY_bitOf q6 q8) rfl) rfl (gd (tw_360)) [] rfl rfl (tl tw_358) (tl tw_359) (tl tw_5) 2 pd_Y_bitOf rfl ⟨rfl, rfl⟩ ⟨Nat.le_of_ble_eq_true rfl, Nat.le_of_ble_eq_true rfl⟩ rfl (Nat.le_of_ble_eq_true rfl) dY_wordBit_46) rfl ?_
        rintro r ⟨⟩ rfl
        refine wk_ws (ws' := cY V a S) rfl ?_
        have hf := Option.some.inj hf
        exact wk_iret X Z rfl dY_wordBit_49 () (Eq.symm hf) rfl rfl
      · replace hf := p_ie h3 hf
        refine wk_iconst X dY_wordBit_24 (v := (-1 : Int32)) (by decide) ?_
        have hf := Option.some.inj hf
        exact wk_iret X Z rfl dY_wordBit_25 () (Eq.symm hf) rfl rfl
-- X_cyclicBit: room (2, 44), Option (Int32)
def fX_cyclicBit (S : pX) (v1 : Int32) : Option (Int32) :=
  (fY_wordBit S.2.2.1 v1).bind fun q1 =>
  some q1
set_option maxRecDepth 100000 in
set_option maxHeartbeats 4000000 in
theorem mX_cyclicBit {V : ee_V} (a : Nat → Nat) (S : pX) (v1 : Int32) (R : Int32) (hf : fX_cyclicBit S v1 = some R) : wk_I (ee V) yX_cyclicBit ts_X_cyclicBit ⟨2, 0, 0, 44⟩ [.ref (a 0), .int v1] (cX V a S) (fun (r : Int32) (_ : Unit) => R = r) (fun _ : Unit => cX V a S) := by
  refine wk_of (ee_ok V) (by decide +kernel) rfl (Nat.le_of_ble_eq_true rfl) ?_
  intro x X Z
  unfold fX_cyclicBit at hf
  refine wk_lq (lv' := [(0, .ref (a 0)), (1, .int v1)]) rfl ?_
  refine wk_aload_n X 0 dX_cyclicBit_0 rfl rfl ?_
  refine wk_get X uw_X 0 rfl rfl 2 (Nat.le_of_ble_eq_true rfl) (tl tw_140) rfl rfl dX_cyclicBit_1 ?_
  refine wk_iload_n X 1 dX_cyclicBit_4 rfl rfl ?_
  obtain ⟨q1, h2, hf⟩ := p_ob hf
  refine wk_goI [10, 11, 12, 13, 14, 15] (wk_rV X (mY_wordBit (V := V) (fun i => a (i + 10)) S.2.2.1 v1 q1 h2) rfl (gd (tw_468)) [10, 11, 12, 13, 14, 15] rfl rfl 10 rfl rfl (tl tw_465) (tl tw_466) (tl tw_467) (tl tw_5) 1 pd_Y_wordBit rfl ⟨rfl, rfl⟩ ⟨Nat.le_of_ble_eq_true rfl, Nat.le_of_ble_eq_true rfl⟩ rfl (Nat.le_of_ble_eq_true rfl) dX_cyclicBit_5) rfl ?_
  rintro r ⟨⟩ rfl
  refine wk_ws (ws' := cX V a S) rfl ?_
  have hf := Option.some.inj hf
  exact wk_iret X Z rfl dX_cyclicBit_8 () (Eq.symm hf) rfl rfl
-- G_isBase: room (1, 21), Bool
def fG_isBase (v0 : Int32) (v1 : Int32) : Bool :=
  if v0 < (1 : Int32) then (
    false
  ) else (
    if (fG_base (v1 + (1 : Int32)) (0 : Int32)) ≤ v0 then (
      false
    ) else (
      if ((v0 - (1 : Int32)) - (v0 - (1 : Int32)) / (18 : Int32) * (18 : Int32)) = 0 then (
        true
      ) else (
        false
      )
    )
  )
set_option maxRecDepth 100000 in
set_option maxHeartbeats 4000000 in
theorem mG_isBase {V : ee_V} (v0 : Int32) (v1 : Int32) (R : Bool) (hf : fG_isBase v0 v1 = R) : wk_I (ee V) yG_isBase ts_G_isBase ⟨1, 0, 0, 21⟩ [.int v0, .int v1] (([] : va_W)) (fun (r : Int32) (_ : Unit) => p_b (R) = r) (fun _ : Unit => ([] : va_W)) := by
  refine wk_of (ee_ok V) (by decide +kernel) rfl (Nat.le_of_ble_eq_true rfl) ?_
  intro x X Z
  unfold fG_isBase at hf
  refine wk_lq (lv' := [(0, .int v0), (1, .int v1)]) rfl ?_
  refine wk_iload_n X 0 dG_isBase_0 rfl rfl ?_
  refine wk_iconst X dG_isBase_1 (v := (1 : Int32)) (by decide) ?_
  refine wk_icmp_lt X dG_isBase_2 (tgt := 29) rfl (fun h1 => ?_) (fun h1 => ?_)
  · replace hf := p_it h1 hf
    refine wk_iconst X dG_isBase_29 (v := (0 : Int32)) (by decide) ?_
    exact wk_iret X Z rfl dG_isBase_30 () (Eq.symm (congrArg p_b hf)) rfl rfl
  · replace hf := p_ie h1 hf
    refine wk_iload_n X 0 dG_isBase_5 rfl rfl ?_
    refine wk_iload_n X 1 dG_isBase_6 rfl rfl ?_
    refine wk_iconst X dG_isBase_7 (v := (1 : Int32)) (by decide) ?_
    refine wk_iadd X dG_isBase_8 ?_
    refine wk_iconst X dG_isBase_9 (v := (0 : Int32)) (by decide) ?_
    refine wk_goI [] (wk_rS X (mG_base (V := V) (v1 + (1 : Int32)) (0 : Int32) (fG_base (v1 + (1 : Int32)) (0 : Int32)) rfl) rfl (gd (tw_206)) [] rfl rfl (tl tw_204) (tl tw_205) (tl tw_8) 2 pd_G_base rfl ⟨rfl, rfl⟩ ⟨Nat.le_of_ble_eq_true rfl, Nat.le_of_ble_eq_true rfl⟩ rfl (Nat.le_of_ble_eq_true rfl) dG_isBase_10) rfl ?_
    rintro r ⟨⟩ rfl
    refine wk_ws (ws' := ([] : va_W)) rfl ?_
    refine wk_icmp_ge X dG_isBase_13 (tgt := 29) rfl (fun h2 => ?_) (fun h2 => ?_)
    · replace hf := p_it h2 hf
      refine wk_iconst X dG_isBase_29 (v := (0 : Int32)) (by decide) ?_
      exact wk_iret X Z rfl dG_isBase_30 () (Eq.symm (congrArg p_b hf)) rfl rfl
    · replace hf := p_ie h2 hf
      refine wk_iload_n X 0 dG_isBase_16 rfl rfl ?_
      refine wk_iconst X dG_isBase_17 (v := (1 : Int32)) (by decide) ?_
      refine wk_isub X dG_isBase_18 ?_
      refine wk_bipush X dG_isBase_19 (v := (18 : Int32)) (by decide) ?_
      refine wk_irem X dG_isBase_21 (by decide) ?_
      refine wk_if_ne X dG_isBase_22 (tgt := 29) rfl (fun h3 => ?_) (fun h3 => ?_)
      · replace hf := p_ie h3 hf
        refine wk_iconst X dG_isBase_29 (v := (0 : Int32)) (by decide) ?_
        exact wk_iret X Z rfl dG_isBase_30 () (Eq.symm (congrArg p_b hf)) rfl rfl
      · replace hf := p_it h3 hf
        refine wk_iconst X dG_isBase_25 (v := (1 : Int32)) (by decide) ?_
        refine wk_goto X dG_isBase_26 (tgt := 30) rfl ?_
        exact wk_iret X Z rfl dG_isBase_30 () (Eq.symm (congrArg p_b hf)) rfl rfl
-- C_isPair: room (1, 21), Option (Bool)
def fC_isPair (S : pT) (v1 : Int32) (v2 : Int32) : Option (Bool) :=
  (fT_wordLetter S ((2 : Int32) * v1)).bind fun q1 =>
  if q1 = v2 then (
    (fT_wordLetter S (((2 : Int32) * v1) + (1 : Int32))).bind fun q4 =>
    if q4 = 0 then (
      some true
    ) else (
      some false
    )
  ) else (
    some false
  )
set_option maxRecDepth 100000 in
set_option maxHeartbeats 4000000 in
theorem mC_isPair {V : ee_V} (a : Nat → Nat) (S : pT) (v1 : Int32) (v2 : Int32) (R : Bool) (hf : fC_isPair S v1 v2 = some R) : wk_I (ee V) yC_isPair ts_C_isPair ⟨1, 0, 0, 21⟩ [.ref (a 0), .int v1, .int v2] (cT V a S) (fun (r : Int32) (_ : Unit) => p_b (R) = r) (fun _ : Unit => cT V a S) := by
  refine wk_of (ee_ok V) (by decide +kernel) rfl (Nat.le_of_ble_eq_true rfl) ?_
  intro x X Z
  unfold fC_isPair at hf
  refine wk_lq (lv' := [(0, .ref (a 0)), (1, .int v1), (2, .int v2)]) rfl ?_
  refine wk_aload_n X 0 dC_isPair_0 rfl rfl ?_
  refine wk_iconst X dC_isPair_1 (v := (2 : Int32)) (by decide) ?_
  refine wk_iload_n X 1 dC_isPair_2 rfl rfl ?_
  refine wk_imul X dC_isPair_3 ?_
  obtain ⟨q1, h2, hf⟩ := p_ob hf
  refine wk_goI [0, 1, 2, 3, 4] (wk_rV X (mT_wordLetter (V := V) a S ((2 : Int32) * v1) q1 h2) rfl (gd (tw_404)) [0, 1, 2, 3, 4] rfl rfl 0 rfl rfl (tl tw_478) (tl tw_402) (tl tw_403) (tl tw_4) 1 pd_T_wordLetter rfl ⟨rfl, rfl⟩ ⟨Nat.le_of_ble_eq_true rfl, Nat.le_of_ble_eq_true rfl⟩ rfl (Nat.le_of_ble_eq_true rfl) dC_isPair_4) rfl ?_
  rintro r ⟨⟩ rfl
  refine wk_ws (ws' := cT V a S) rfl ?_
  refine wk_iload_n X 2 dC_isPair_7 rfl rfl ?_
  refine wk_icmp_ne X dC_isPair_8 (tgt := 27) rfl (fun h3 => ?_) (fun h3 => ?_)
  · replace hf := p_ie h3 hf
    refine wk_iconst X dC_isPair_27 (v := (0 : Int32)) (by decide) ?_
    have hf := Option.some.inj hf
    exact wk_iret X Z rfl dC_isPair_28 () (Eq.symm (congrArg p_b hf)) rfl rfl
  · replace hf := p_it h3 hf
    refine wk_aload_n X 0 dC_isPair_11 rfl rfl ?_
    refine wk_iconst X dC_isPair_12 (v := (2 : Int32)) (by decide) ?_
    refine wk_iload_n X 1 dC_isPair_13 rfl rfl ?_
    refine wk_imul X dC_isPair_14 ?_
    refine wk_iconst X dC_isPair_15 (v := (1 : Int32)) (by decide) ?_
    refine wk_iadd X dC_isPair_16 ?_
    obtain ⟨q4, h5, hf⟩ := p_ob hf
    refine wk_goI [0, 1, 2, 3, 4] (wk_rV X (mT_wordLetter (V := V) a S (((2 : Int32) * v1) + (1 : Int32)) q4 h5) rfl (gd (tw_404)) [0, 1, 2, 3, 4] rfl rfl 0 rfl rfl (tl tw_478) (tl tw_402) (tl tw_403) (tl tw_4) 1 pd_T_wordLetter rfl ⟨rfl, rfl⟩ ⟨Nat.le_of_ble_eq_true rfl, Nat.le_of_ble_eq_true rfl⟩ rfl (Nat.le_of_ble_eq_true rfl) dC_isPair_17) rfl ?_
    rintro r ⟨⟩ rfl
    refine wk_ws (ws' := cT V a S) rfl ?_
    refine wk_if_ne X dC_isPair_20 (tgt := 27) rfl (fun h6 => ?_) (fun h6 => ?_)
    · replace hf := p_ie h6 hf
      refine wk_iconst X dC_isPair_27 (v := (0 : Int32)) (by decide) ?_
      have hf := Option.some.inj hf
      exact wk_iret X Z rfl dC_isPair_28 () (Eq.symm (congrArg p_b hf)) rfl rfl
    · replace hf := p_it h6 hf
      refine wk_iconst X dC_isPair_23 (v := (1 : Int32)) (by decide) ?_
      refine wk_goto X dC_isPair_24 (tgt := 28) rfl ?_
      have hf := Option.some.inj hf
      exact wk_iret X Z rfl dC_isPair_28 () (Eq.symm (congrArg p_b hf)) rfl rfl
-- C_pairsEnd: room (2, 43), Option (Int32)
def fC_pairsEnd_L10 (S : pT) : Nat → Int32 → Int32 → Int32 → Int32 → Option (Int32)
  | 0, _, _, _, _ => none
  | n + 1, v1, v2, v3, v4 =>
    if v3 ≤ v4 then (
      some v3
    ) else (
      (fC_isPair S v4 v2).bind fun q2 =>
      if q2 = true then (
        fC_pairsEnd_L10 S n v1 v2 v3 (v4 + (1 : Int32))
      ) else (
        some v4
      )
    )
def fC_pairsEnd (S : pT) (v1 : Int32) (v2 : Int32) : Option (Int32) :=
  fC_pairsEnd_L10 S 100000 v1 v2 (S.2.2.2.2.2.1 / (2 : Int32)) v1
set_option maxRecDepth 100000 in
set_option maxHeartbeats 4000000 in
theorem wC_pairsEnd_L10 {V : ee_V} (a : Nat → Nat) (S : pT) {x : wk_C} (X : wk_K (ee V) x cC_pairsEnd 5 "TagWorkshop$Code" ts_C_pairsEnd ⟨2, 0, 0, 43⟩) (R : Int32) (Z : wk_N x (some .int) (va_Qi (fun (r : Int32) (_ : Unit) => R = r) (wk_B (ee V) (cT V a S) (fun _ : Unit => cT V a S)) (wk_in (cT V a S))) (cT V a S)) : ∀ (n : Nat) (v1 : Int32) (v2 : Int32) (v3 : Int32) (v4 : Int32), fC_pairsEnd_L10 S n v1 v2 v3 v4 = some R → wk_G (ee V) x 5 (cT V a S) 10 [(0, .ref (a 0)), (1, .int v1), (2, .int v2), (3, .int v3), (4, .int v4)] [] := by
  intro n
  induction n with
  | zero => intro v1 v2 v3 v4 hf; exact absurd hf (by rw [fC_pairsEnd_L10]; exact fun h => by cases h)
  | succ n ih =>
    intro v1 v2 v3 v4 hf
    rw [fC_pairsEnd_L10] at hf
    refine wk_iload X 4 dC_pairsEnd_10 rfl ?_
    refine wk_iload_n X 3 dC_pairsEnd_12 rfl rfl ?_
    refine wk_icmp_ge X dC_pairsEnd_13 (tgt := 35) rfl (fun h1 => ?_) (fun h1 => ?_)
    · replace hf := p_it h1 hf
      refine wk_iload_n X 3 dC_pairsEnd_35 rfl rfl ?_
      have hf := Option.some.inj hf
      exact wk_iret X Z rfl dC_pairsEnd_36 () (Eq.symm hf) rfl rfl
    · replace hf := p_ie h1 hf
      refine wk_aload_n X 0 dC_pairsEnd_16 rfl rfl ?_
      refine wk_iload X 4 dC_pairsEnd_17 rfl ?_
      refine wk_iload_n X 2 dC_pairsEnd_19 rfl rfl ?_
      obtain ⟨q2, h3, hf⟩ := p_ob hf
      refine wk_goI [0, 1, 2, 3, 4] (wk_rS X (mC_isPair (V := V) a S v4 v2 q2 h3) rfl (gd (tw_484)) [0, 1, 2, 3, 4] rfl rfl (tl tw_482) (tl tw_483) (tl tw_6) 3 pd_C_isPair rfl ⟨rfl, rfl⟩ ⟨Nat.le_of_ble_eq_true rfl, Nat.le_of_ble_eq_true rfl⟩ rfl (Nat.le_of_ble_eq_true rfl) dC_pairsEnd_20) rfl ?_
      rintro r ⟨⟩ rfl
      refine wk_ws (ws' := cT V a S) rfl ?_
      refine wk_bz_ne X dC_pairsEnd_23 (tgt := 29) rfl (fun h4 => ?_) (fun h4 => ?_)
      · replace hf := p_it h4 hf
        refine wk_iinc X 4 dC_pairsEnd_29 (v := (v4 + (1 : Int32))) rfl rfl (Nat.le_of_ble_eq_true rfl) (lv' := [(4, .int (v4 + (1 : Int32))), (0, .ref (a 0)), (1, .int v1), (2, .int v2), (3, .int v3)]) rfl ?_
        refine wk_goto X dC_pairsEnd_32 (tgt := 10) rfl ?_
        refine wk_lv [1, 2, 3, 4, 0] (lv' := [(0, .ref (a 0)), (1, .int v1), (2, .int v2), (3, .int v3), (4, .int (v4 + (1 : Int32)))]) rfl ?_
        exact ih v1 v2 v3 (v4 + (1 : Int32)) hf
      · replace hf := p_ie h4 hf
        refine wk_iload X 4 dC_pairsEnd_26 rfl ?_
        have hf := Option.some.inj hf
        exact wk_iret X Z rfl dC_pairsEnd_28 () (Eq.symm hf) rfl rfl
set_option maxRecDepth 100000 in
set_option maxHeartbeats 4000000 in
theorem mC_pairsEnd {V : ee_V} (a : Nat → Nat) (S : pT) (v1 : Int32) (v2 : Int32) (R : Int32) (hf : fC_pairsEnd S v1 v2 = some R) : wk_I (ee V) yC_pairsEnd ts_C_pairsEnd ⟨2, 0, 0, 43⟩ [.ref (a 0), .int v1, .int v2] (cT V a S) (fun (r : Int32) (_ : Unit) => R = r) (fun _ : Unit => cT V a S) := by
  refine wk_of (ee_ok V) (by decide +kernel) rfl (Nat.le_of_ble_eq_true rfl) ?_
  intro x X Z
  unfold fC_pairsEnd at hf
  refine wk_lq (lv' := [(0, .ref (a 0)), (1, .int v1), (2, .int v2)]) rfl ?_
  refine wk_aload_n X 0 dC_pairsEnd_0 rfl rfl ?_
  refine wk_get X uw_T 0 rfl rfl 5 (Nat.le_of_ble_eq_true rfl) (tl tw_71) rfl rfl dC_pairsEnd_1 ?_
  refine wk_iconst X dC_pairsEnd_4 (v := (2 : Int32)) (by decide) ?_
  refine wk_idiv X dC_pairsEnd_5 (by decide) ?_
  refine wk_istore_n X dC_pairsEnd_6 rfl (Nat.le_of_ble_eq_true rfl) (lv' := [(3, .int (S.2.2.2.2.2.1 / (2 : Int32))), (0, .ref (a 0)), (1, .int v1), (2, .int v2)]) rfl ?_
  refine wk_iload_n X 2 dC_pairsEnd_7 rfl rfl ?_
  refine wk_istore X dC_pairsEnd_8 (Nat.le_of_ble_eq_true rfl) (lv' := [(4, .int v1), (3, .int (S.2.2.2.2.2.1 / (2 : Int32))), (0, .ref (a 0)), (1, .int v1), (2, .int v2)]) rfl ?_
  refine wk_lv [2, 3, 4, 1, 0] (lv' := [(0, .ref (a 0)), (1, .int v1), (2, .int v2), (3, .int (S.2.2.2.2.2.1 / (2 : Int32))), (4, .int v1)]) rfl ?_
  exact wC_pairsEnd_L10 a S X R Z 100000 v1 v2 (S.2.2.2.2.2.1 / (2 : Int32)) v1 hf
-- G_stateOf: room (0, 0), Int32
def fG_stateOf (v0 : Int32) : Int32 :=
  ((((v0 - (1 : Int32)) / (18 : Int32)) / (2 : Int32)) + (1 : Int32))
set_option maxRecDepth 100000 in
set_option maxHeartbeats 4000000 in
theorem mG_stateOf {V : ee_V} (v0 : Int32) (R : Int32) (hf : fG_stateOf v0 = R) : wk_I (ee V) yG_stateOf ts_G_stateOf ⟨0, 0, 0, 0⟩ [.int v0] (([] : va_W)) (fun (r : Int32) (_ : Unit) => R = r) (fun _ : Unit => ([] : va_W)) := by
  refine wk_of (ee_ok V) (by decide +kernel) rfl (Nat.le_of_ble_eq_true rfl) ?_
  intro x X Z
  unfold fG_stateOf at hf
  refine wk_lq (lv' := [(0, .int v0)]) rfl ?_
  refine wk_iload_n X 0 dG_stateOf_0 rfl rfl ?_
  refine wk_iconst X dG_stateOf_1 (v := (1 : Int32)) (by decide) ?_
  refine wk_isub X dG_stateOf_2 ?_
  refine wk_bipush X dG_stateOf_3 (v := (18 : Int32)) (by decide) ?_
  refine wk_idiv X dG_stateOf_5 (by decide) ?_
  refine wk_iconst X dG_stateOf_6 (v := (2 : Int32)) (by decide) ?_
  refine wk_idiv X dG_stateOf_7 (by decide) ?_
  refine wk_iconst X dG_stateOf_8 (v := (1 : Int32)) (by decide) ?_
  refine wk_iadd X dG_stateOf_9 ?_
  exact wk_iret X Z rfl dG_stateOf_10 () (Eq.symm hf) rfl rfl
-- G_symbolOf: room (0, 0), Int32
def fG_symbolOf (v0 : Int32) : Int32 :=
  (((v0 - (1 : Int32)) / (18 : Int32)) - ((v0 - (1 : Int32)) / (18 : Int32)) / (2 : Int32) * (2 : Int32))
set_option maxRecDepth 100000 in
set_option maxHeartbeats 4000000 in
theorem mG_symbolOf {V : ee_V} (v0 : Int32) (R : Int32) (hf : fG_symbolOf v0 = R) : wk_I (ee V) yG_symbolOf ts_G_symbolOf ⟨0, 0, 0, 0⟩ [.int v0] (([] : va_W)) (fun (r : Int32) (_ : Unit) => R = r) (fun _ : Unit => ([] : va_W)) := by
  refine wk_of (ee_ok V) (by decide +kernel) rfl (Nat.le_of_ble_eq_true rfl) ?_
  intro x X Z
  unfold fG_symbolOf at hf
  refine wk_lq (lv' := [(0, .int v0)]) rfl ?_
  refine wk_iload_n X 0 dG_symbolOf_0 rfl rfl ?_
  refine wk_iconst X dG_symbolOf_1 (v := (1 : Int32)) (by decide) ?_
  refine wk_isub X dG_symbolOf_2 ?_
  refine wk_bipush X dG_symbolOf_3 (v := (18 : Int32)) (by decide) ?_
  refine wk_idiv X dG_symbolOf_5 (by decide) ?_
  refine wk_iconst X dG_symbolOf_6 (v := (2 : Int32)) (by decide) ?_
  refine wk_irem X dG_symbolOf_7 (by decide) ?_
  exact wk_iret X Z rfl dG_symbolOf_8 () (Eq.symm hf) rfl rfl

/-! rule, tape, tapeNow, roundCost: both sides answer alike and keep the same machine -/
theorem isS_eq (v : Int32) : fR_isState v = fM_isState v := rfl
theorem isB_eq (v : Int32) : fR_isBit v = fM_isBit v := rfl
theorem isC_eq (v : Int32) : fR_isNumber v = fM_isCells v := rfl
theorem isS_of {v : Int32} (h : fM_isState v = true) : ∃ n : Nat, 1 ≤ n ∧ n ≤ 8 ∧ v = nI n := by
  unfold fM_isState at h
  by_cases h1 : v < 1
  · rw [if_pos h1] at h; cases h
  · rw [if_neg h1] at h
    by_cases h2 : 8 < v
    · rw [if_pos h2] at h; cases h
    · have h0 : ¬ v < 0 := by
        intro e
        apply h1
        have a := Int32.lt_iff_toInt_lt.mp e
        apply Int32.lt_iff_toInt_lt.mpr
        have b : (0 : Int32).toInt = 0 := by decide
        have c : (1 : Int32).toInt = 1 := by decide
        omega
      obtain ⟨j, hj, rfl⟩ := nI_of h0
      simp (disch := omega) only [q_lit, nI_ltI] at h1 h2
      exact ⟨j, by omega, by omega, rfl⟩
theorem isB_of {v : Int32} (h : fM_isBit v = true) : ∃ n : Nat, n < 2 ∧ v = nI n := by
  unfold fM_isBit at h
  by_cases h1 : v = 0
  · exact ⟨0, by omega, h1⟩
  · rw [if_neg h1] at h
    by_cases h2 : v = 1
    · exact ⟨1, by omega, h2⟩
    · rw [if_neg h2] at h; cases h
theorem isC_of {v : Int32} (h : fM_isCells v = true) : ∃ n : Nat, n ≤ 255 ∧ v = nI n := by
  unfold fM_isCells at h
  by_cases h1 : v < 0
  · rw [if_pos h1] at h; cases h
  · rw [if_neg h1] at h
    obtain ⟨j, hj, rfl⟩ := nI_of h1
    simp (disch := omega) only [q_lit, nI_ltI] at h
    by_cases h2 : 255 < j
    · rw [if_pos h2] at h; cases h
    · exact ⟨j, by omega, rfl⟩
/-- one rule told anew -/
def tp_set (t : sp_T) (i w m n : Nat) : sp_T := (fun r => if r = i then some (w, m, n) else t.1 r, t.2)
theorem okT_set {t : sp_T} (ok : okT t) {i w m n : Nat} (hw : w < 2) (hm : m < 2) (hn : n ≤ 8) : okT (tp_set t i w m n) := by
  refine ⟨ok.1, ok.2.1, ok.2.2.1, ok.2.2.2.1, ok.2.2.2.2.1, fun r a b c h => ?_⟩
  simp only [tp_set] at h
  by_cases e : r = i
  · rw [if_pos e] at h
    cases h
    exact ⟨hw, hm, hn⟩
  · rw [if_neg e] at h
    exact ok.2.2.2.2.2 r a b c h
theorem rpM_set {S : pM} {t : sp_T} (h : rpM S t) {i w m n : Nat} : rpM (upd S.1 i (nI w), upd S.2.1 i (nI m), upd S.2.2.1 i (nI n), S.2.2.2) (tp_set t i w m n) := by
  refine ⟨h.1, h.2.1, h.2.2.1, h.2.2.2.1, fun r hr => ?_⟩
  simp only [tp_set]
  by_cases e : r = i
  · subst e
    rw [if_pos rfl, pk_us, pk_us, pk_us]
    exact ⟨(fun z => by cases z), (fun a b c z => by cases z; exact ⟨rfl, rfl, rfl⟩)⟩
  · rw [if_neg e, pk_un e, pk_un e, pk_un e]
    exact h.2.2.2.2 r hr
theorem rpRa_set {S : pRa} {t : sp_T} (h : rpRa S t) {i w m n : Nat} : rpRa (upd S.1 i 1, upd S.2.1 i (nI w), upd S.2.2.1 i (nI m), upd S.2.2.2.1 i (nI n), S.2.2.2.2) (tp_set t i w m n) := by
  refine ⟨h.1, h.2.1, h.2.2.1, h.2.2.2.1, fun r hr => ?_⟩
  simp only [tp_set]
  by_cases e : r = i
  · subst e
    rw [if_pos rfl, pk_us, pk_us, pk_us, pk_us]
    exact ⟨(fun z => by cases z), (fun a b c z => by cases z; exact ⟨rfl, rfl, rfl, rfl⟩)⟩
  · rw [if_neg e, pk_un e, pk_un e, pk_un e, pk_un e]
    exact h.2.2.2.2 r hr
theorem place_eq (v w : Int32) : ((2 : Int32) * (v - 1)) + w = fM_place v w := rfl
theorem sim_rule {S : pX} {S2 : pR} {t : sp_T} (hM : rpM S.1 t) (hR : rpRa S2.1 t) (ok : okT t) (v1 v2 v3 v4 v5 : Int32) :
    ∃ b M A t', fX_rule S v1 v2 v3 v4 v5 = some (b, (M, S.2)) ∧ fR_rule S2 v1 v2 v3 v4 v5 = some (b, (A, S2.2)) ∧ rpM M t' ∧ rpRa A t' ∧ okT t' := by
  unfold fX_rule fM_setRule fR_rule
  simp only [isS_eq, isB_eq, place_eq]
  by_cases h1 : fM_isState v1 = true
  · by_cases h2 : fM_isBit v2 = true
    · by_cases h3 : fM_isBit v3 = true
      · by_cases h4 : fM_isBit v4 = true
        · simp only [h1, h2, h3, h4, if_true]
          obtain ⟨q, a1, a2, rfl⟩ := isS_of h1
          obtain ⟨s, b1, rfl⟩ := isB_of h2
          obtain ⟨w, c1, rfl⟩ := isB_of h3
          obtain ⟨m, d1, rfl⟩ := isB_of h4
          have hi : sp_ix q s < 16 := by unfold sp_ix; omega
          simp (disch := omega) only [tM_place, q_wr, Option.bind_some]
          by_cases h5 : v5 < 0
          · have e5 : ¬ v5 = 0 := by
              intro e
              subst e
              exact absurd h5 (by decide)
            have e6 : ¬ fM_isState v5 = true := by
              intro e
              obtain ⟨n, n1, n2, rfl⟩ := isS_of e
              exact absurd h5 (nI_pos (by omega))
            simp only [h5, e5, e6, if_true, if_false]
            exact ⟨false, _, _, t, rfl, rfl, hM, hR, ok⟩
          · rw [if_neg h5]
            obtain ⟨n, hn, rfl⟩ := nI_of h5
            by_cases h6 : n ≤ 8
            · have key : (if nI n = 0 then some (true, upd S.1.1 (sp_ix q s) (nI w), upd S.1.2.1 (sp_ix q s) (nI m), upd S.1.2.2.1 (sp_ix q s) (nI n), S.1.2.2.2.1, S.1.2.2.2.2.1, S.1.2.2.2.2.2.1, S.1.2.2.2.2.2.2) else if fM_isState (nI n) = true then some (true, upd S.1.1 (sp_ix q s) (nI w), upd S.1.2.1 (sp_ix q s) (nI m), upd S.1.2.2.1 (sp_ix q s) (nI n), S.1.2.2.2.1, S.1.2.2.2.2.1, S.1.2.2.2.2.2.1, S.1.2.2.2.2.2.2) else some (false, S.1)) = some (true, upd S.1.1 (sp_ix q s) (nI w), upd S.1.2.1 (sp_ix q s) (nI m), upd S.1.2.2.1 (sp_ix q s) (nI n), S.1.2.2.2) := by
                by_cases e : nI n = 0
                · rw [if_pos e]
                · have hz : ¬ n = 0 := fun z => e (by rw [z]; rfl)
                  rw [if_neg e, tM_state hn, if_pos (by simp; omega)]
              rw [key]
              have h7 : nI n ≤ (8 : Int32) := nI_le (b := 8) h6 (by decide)
              rw [if_pos h7]
              exact ⟨true, _, _, _, rfl, rfl, rpM_set hM, rpRa_set hR, okT_set ok c1 d1 h6⟩
            · have e5 : ¬ nI n = 0 := nI_ne0 (by omega) hn
              have e6 : ¬ fM_isState (nI n) = true := by
                rw [tM_state hn]
                simp
                omega
              have e7 : ¬ nI n ≤ (8 : Int32) := nI_ge (a := 8) (by omega) hn
              simp only [e5, e6, e7, if_false]
              exact ⟨false, _, _, t, rfl, rfl, hM, hR, ok⟩
        · simp only [h1, h2, h3, h4, if_true, if_false]
          exact ⟨false, _, _, t, rfl, rfl, hM, hR, ok⟩
      · simp only [h1, h2, h3, if_true, if_false]
        exact ⟨false, _, _, t, rfl, rfl, hM, hR, ok⟩
    · simp only [h1, h2, if_true, if_false]
      exact ⟨false, _, _, t, rfl, rfl, hM, hR, ok⟩
  · simp only [h1, if_false]
    exact ⟨false, _, _, t, rfl, rfl, hM, hR, ok⟩
theorem sim_tape {S : pX} {S2 : pR} {t : sp_T} (hM : rpM S.1 t) (hR : rpRa S2.1 t) (ok : okT t) (v1 v2 v3 v4 : Int32) :
    ∃ b M A t', fX_tape S v1 v2 v3 v4 = (b, (M, S.2)) ∧ fR_tape S2 v1 v2 v3 v4 = (b, (A, S2.2)) ∧ rpM M t' ∧ rpRa A t' ∧ okT t' := by
  unfold fX_tape fM_setConfiguration fM_isConfiguration fR_tape
  simp only [isS_eq, isB_eq, isC_eq]
  by_cases h1 : fM_isState v1 = true
  · by_cases h2 : fM_isBit v2 = true
    · by_cases h3 : fM_isCells v3 = true
      · by_cases h4 : fM_isCells v4 = true
        · simp only [h1, h2, h3, h4, if_true]
          obtain ⟨q, a1, a2, rfl⟩ := isS_of h1
          obtain ⟨s, b1, rfl⟩ := isB_of h2
          obtain ⟨l, c1, rfl⟩ := isC_of h3
          obtain ⟨r, d1, rfl⟩ := isC_of h4
          exact ⟨true, _, _, (t.1, q, s, l, r), rfl, rfl, ⟨rfl, rfl, rfl, rfl, hM.2.2.2.2⟩, ⟨rfl, rfl, rfl, rfl, hR.2.2.2.2⟩, a1, a2, b1, c1, d1, ok.2.2.2.2.2⟩
        · simp only [h1, h2, h3, h4, if_true, if_false]
          exact ⟨false, _, _, t, rfl, rfl, hM, hR, ok⟩
      · simp only [h1, h2, h3, if_true, if_false]
        exact ⟨false, _, _, t, rfl, rfl, hM, hR, ok⟩
    · simp only [h1, h2, if_true, if_false]
      exact ⟨false, _, _, t, rfl, rfl, hM, hR, ok⟩
  · simp only [h1, if_false]
    exact ⟨false, _, _, t, rfl, rfl, hM, hR, ok⟩
theorem sim_stepTape {S : pX} {S2 : pR} {t : sp_T} (hM : rpM S.1 t) (hR : rpRa S2.1 t) (ok : okT t) (v : Int32) :
    ∃ b M A t', fX_stepTape S v = some (b, (M, S.2)) ∧ fR_stepTape S2 v = some (b, (A, S2.2)) ∧ rpM M t' ∧ rpRa A t' ∧ okT t' := by
  obtain ⟨M, e1, r1, o1⟩ := sX_stepTape hM ok v
  obtain ⟨A, e2, r2⟩ := sR_stepTape hR ok v
  exact ⟨_, M, A, _, e1, e2, r1, r2, o1⟩
theorem sim_tapeNow {S : pX} {S2 : pR} {t : sp_T} (hM : rpM S.1 t) (hR : rpRa S2.1 t) (ok : okT t) (v : Int32) : ∃ b, fX_tapeNow S v = some b ∧ fR_tapeNow S2 v = some b := by
  unfold fX_tapeNow fR_tapeNow
  rw [sM_can hM ok, sR_can hR ok, hM.1, hM.2.1, hM.2.2.1, hM.2.2.2.1, hR.1, hR.2.1, hR.2.2.1, hR.2.2.2.1]
  suffices h : ∃ b, _ = some b from h.elim fun b e => ⟨b, e, e⟩
  iterate 5 (split; · exact ⟨_, rfl⟩)
  exact ⟨_, rfl⟩
theorem sim_roundCost {S : pX} {S2 : pR} {t : sp_T} (hM : rpM S.1 t) (hR : rpRa S2.1 t) (ok : okT t) (v1 v2 v3 v4 : Int32) : ∃ b, fX_roundCost S v1 v2 v3 v4 = some b ∧ fR_roundCost S2 v1 v2 v3 v4 = some b := by
  unfold fX_roundCost fM_isConfiguration fR_roundCost
  simp only [isS_eq, isB_eq, isC_eq]
  by_cases h1 : fM_isState v1 = true
  · by_cases h2 : fM_isBit v2 = true
    · by_cases h3 : fM_isCells v3 = true
      · by_cases h4 : fM_isCells v4 = true
        · simp only [h1, h2, h3, h4, if_true]
          obtain ⟨q, a1, a2, rfl⟩ := isS_of h1
          obtain ⟨s, b1, rfl⟩ := isB_of h2
          have hi : sp_ix q s < 16 := by unfold sp_ix; omega
          obtain ⟨g6, g7⟩ := hM.2.2.2.2 _ hi
          obtain ⟨k6, k7⟩ := hR.2.2.2.2 _ hi
          unfold fM_tagStepsOf fM_hasStep fM_moveOf fM_writeOf
          simp (disch := omega) only [tM_place, tR_place, q_rd, Option.bind_some, sR_goes hR ok hi]
          cases hr : t.1 (sp_ix q s) with
          | none =>
            rw [g6 hr, tM_state0]
            exact ⟨_, rfl, rfl⟩
          | some a =>
            obtain ⟨w, m, n⟩ := a
            obtain ⟨e1, e2, e3⟩ := g7 w m n hr
            obtain ⟨f0, f1, f2, f3⟩ := k7 w m n hr
            obtain ⟨p1, p2, p3⟩ := ok.2.2.2.2.2 _ w m n hr
            rw [e1, e2, e3, f1, f2, tM_state (by omega)]
            by_cases hn : n = 0
            · subst hn
              exact ⟨_, rfl, rfl⟩
            · simp only [show decide (1 ≤ n ∧ n ≤ 8) = true by simp; omega, show decide (0 < n) = true by simp; omega, if_true]
              by_cases hm : nI m = 1
              · simp only [hm, if_true, Option.bind_some]
                exact ⟨_, rfl, rfl⟩
              · simp only [hm, if_false, Option.bind_some]
                exact ⟨_, rfl, rfl⟩
        · simp only [h1, h2, h3, h4, if_true, if_false]
          exact ⟨_, rfl, rfl⟩
      · simp only [h1, h2, h3, if_true, if_false]
        exact ⟨_, rfl, rfl⟩
    · simp only [h1, h2, if_true, if_false]
      exact ⟨_, rfl, rfl⟩
  · simp only [h1, if_false]
    exact ⟨_, rfl, rfl⟩

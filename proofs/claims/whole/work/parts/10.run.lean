/-! at most n steps: the loops of both sides -/
/-- how many steps were made, and where it then is -/
def sp_run {σ : Type} (can : σ → Int32) (step : σ → σ) : Nat → σ → Nat × σ
  | 0, t => (0, t)
  | n + 1, t => if can t = 1 then ((sp_run can step n (step t)).1 + 1, (sp_run can step n (step t)).2) else (0, t)
def sp_lim (n : Int32) (M : Nat) : Nat := if n < 0 then 0 else if M ≤ n.toNatClampNeg then M else n.toNatClampNeg
theorem sp_lim_le (n : Int32) (M : Nat) : sp_lim n M ≤ M := by
  unfold sp_lim
  split
  · omega
  · split <;> omega
theorem lim_c (v : Int32) {M : Nat} (hM : M < 2 ^ 31) : fX_within v (nI M) = nI (sp_lim v M) := by
  unfold fX_within p_mx p_mn sp_lim
  by_cases h0 : v < 0
  · rw [if_pos h0]
    by_cases h1 : nI M < v
    · exfalso
      have := nI_toInt hM
      have a := Int32.lt_iff_toInt_lt.mp h1
      have b := Int32.lt_iff_toInt_lt.mp h0
      have c : (0 : Int32).toInt = 0 := by decide
      omega
    · rw [if_neg h1, if_neg]
      · rfl
      · intro h
        have a := Int32.lt_iff_toInt_lt.mp h
        have b := Int32.lt_iff_toInt_lt.mp h0
        omega
  · rw [if_neg h0]
    obtain ⟨j, hj, rfl⟩ := nI_of h0
    rw [nI_clamp hj]
    simp (disch := omega) only [q_lit, nI_ltI]
    by_cases h1 : M ≤ j
    · rw [if_pos h1]
      by_cases h2 : M < j
      · rw [if_pos h2]
        simp (disch := omega) only [nI_ltI]
        by_cases h3 : 0 < M
        · rw [if_pos h3]
        · rw [if_neg h3, show M = 0 by omega]
      · rw [if_neg h2]
        simp (disch := omega) only [nI_ltI]
        by_cases h3 : 0 < j
        · rw [if_pos h3, show j = M by omega]
        · rw [if_neg h3, show M = 0 by omega]
    · rw [if_neg h1, if_neg (show ¬ M < j by omega)]
      simp (disch := omega) only [nI_ltI]
      by_cases h3 : 0 < j
      · rw [if_pos h3]
      · rw [if_neg h3, show j = 0 by omega]
theorem lim_r (v : Int32) : fR_steps v = nI (sp_lim v 20000) := by
  unfold fR_steps sp_lim
  by_cases h0 : v < 0
  · rw [if_pos h0, if_neg (by
      intro h
      have a := Int32.le_iff_toInt_le.mp h
      have b := Int32.lt_iff_toInt_lt.mp h0
      omega)]
    rfl
  · rw [if_neg h0]
    obtain ⟨j, hj, rfl⟩ := nI_of h0
    rw [nI_clamp hj]
    simp (disch := omega) only [q_lit, nI_leI]
    rw [if_pos (by omega)]
    by_cases h1 : 20000 ≤ j
    · rw [if_pos h1, if_pos h1]
    · rw [if_neg h1, if_neg h1]
theorem run_c {σ τ : Type} {F : Nat → σ → Int32 → Int32 → Int32 → Option (Int32 × σ)} {C : σ → Option Int32} {T : σ → Option σ} {can : τ → Int32} {step : τ → τ} {rp : σ → τ → Prop}
    (hF : ∀ n S v1 v2 v3, F (n + 1) S v1 v2 v3 = if v2 ≤ v3 then some (v2, S) else (C S).bind fun q2 => if q2 = 1 then (T S).bind fun q5 => F n q5 v1 v2 (v3 + 1) else some (v3, S))
    (hC : ∀ S t, rp S t → C S = some (can t)) (hT : ∀ S t, rp S t → can t = 1 → ∃ S', T S = some S' ∧ rp S' (step t)) :
    ∀ (k n d M : Nat) (S : σ) (t : τ) (v1 : Int32), M - d = k → d ≤ M → M < 2 ^ 30 → k < n → rp S t → ∃ S', F n S v1 (nI M) (nI d) = some (nI (d + (sp_run can step k t).1), S') ∧ rp S' (sp_run can step k t).2 := by
  intro k
  induction k with
  | zero =>
    intro n d M S t v1 h1 h2 h3 h4 h
    obtain ⟨n', rfl⟩ : ∃ n', n = n' + 1 := ⟨n - 1, by omega⟩
    rw [hF, if_pos (nI_le (by omega) (by omega))]
    have e : M = d := by omega
    subst e
    exact ⟨S, rfl, h⟩
  | succ k ih =>
    intro n d M S t v1 h1 h2 h3 h4 h
    obtain ⟨n', rfl⟩ : ∃ n', n = n' + 1 := ⟨n - 1, by omega⟩
    rw [hF, if_neg (nI_ge (by omega) (by omega)), hC S t h]
    simp only [Option.bind_some, sp_run]
    by_cases hc : can t = 1
    · obtain ⟨S1, e1, r1⟩ := hT S t h hc
      rw [if_pos hc, if_pos hc, e1]
      obtain ⟨S', e2, r2⟩ := ih n' (d + 1) M S1 (step t) v1 (by omega) (by omega) h3 (by omega) r1
      refine ⟨S', ?_, r2⟩
      simp only [Option.bind_some]
      rw [nI_1, e2]
      congr 3
      omega
    · rw [if_neg hc, if_neg hc]
      exact ⟨S, rfl, h⟩
theorem run_r {σ τ : Type} {F : Nat → σ → Int32 → Int32 → Option (Int32 × σ)} {C : σ → Option Int32} {T : σ → Option σ} {can : τ → Int32} {step : τ → τ} {rp : σ → τ → Prop}
    (hF : ∀ n S v1 v3, F (n + 1) S v1 v3 = if fR_steps v1 ≤ v3 then some (v3, S) else (C S).bind fun q2 => if q2 = 1 then (T S).bind fun q5 => F n q5 v1 (v3 + 1) else some (v3, S))
    (hC : ∀ S t, rp S t → C S = some (can t)) (hT : ∀ S t, rp S t → can t = 1 → ∃ S', T S = some S' ∧ rp S' (step t)) :
    ∀ (k n d : Nat) (S : σ) (t : τ) (v1 : Int32), sp_lim v1 20000 - d = k → d ≤ sp_lim v1 20000 → k < n → rp S t → ∃ S', F n S v1 (nI d) = some (nI (d + (sp_run can step k t).1), S') ∧ rp S' (sp_run can step k t).2 := by
  intro k
  induction k with
  | zero =>
    intro n d S t v1 h1 h2 h4 h
    have hM := sp_lim_le v1 20000
    obtain ⟨n', rfl⟩ : ∃ n', n = n' + 1 := ⟨n - 1, by omega⟩
    rw [hF, lim_r, if_pos (nI_le (by omega) (by omega))]
    exact ⟨S, rfl, h⟩
  | succ k ih =>
    intro n d S t v1 h1 h2 h4 h
    have hM := sp_lim_le v1 20000
    obtain ⟨n', rfl⟩ : ∃ n', n = n' + 1 := ⟨n - 1, by omega⟩
    rw [hF, lim_r, if_neg (nI_ge (by omega) (by omega)), hC S t h]
    simp only [Option.bind_some, sp_run]
    by_cases hc : can t = 1
    · obtain ⟨S1, e1, r1⟩ := hT S t h hc
      rw [if_pos hc, if_pos hc, e1]
      obtain ⟨S', e2, r2⟩ := ih n' (d + 1) S1 (step t) v1 (by omega) (by omega) (by omega) r1
      refine ⟨S', ?_, r2⟩
      simp only [Option.bind_some]
      rw [nI_1, e2]
      congr 3
      omega
    · rw [if_neg hc, if_neg hc]
      exact ⟨S, rfl, h⟩
theorem okT_step {t : sp_T} (ok : okT t) (hc : tp_can t = 1) : okT (tp_step t) := by
  obtain ⟨rl, q, s, l, r⟩ := t
  obtain ⟨o1, o2, o3, o4, o5, o6⟩ := ok
  simp only at o1 o2 o3 o4 o5 o6
  unfold tp_can at hc
  unfold tp_step
  cases hr : rl (sp_ix q s) with
  | none => simp only [hr] at hc; exact absurd hc (by decide)
  | some a =>
    obtain ⟨w, m, n⟩ := a
    obtain ⟨p1, p2, p3⟩ := o6 _ w m n hr
    simp only [hr] at hc
    have hn : ¬ n = 0 := by
      intro e
      rw [if_pos e] at hc
      exact absurd hc (by decide)
    rw [if_neg hn] at hc
    have hl : 2 * (if m = 1 then l else r) + w ≤ 255 := by
      by_cases e : 2 * (if m = 1 then l else r) + w ≤ 255
      · exact e
      · rw [if_neg e] at hc
        exact absurd hc (by decide)
    simp only [hr]
    by_cases hm : m = 1
    · simp only [hm, if_true] at hl ⊢
      exact ⟨(by omega : 1 ≤ n), p3, Nat.mod_lt _ (by decide), hl, (by omega : r / 2 ≤ 255), o6⟩
    · simp only [hm, if_false] at hl ⊢
      exact ⟨(by omega : 1 ≤ n), p3, Nat.mod_lt _ (by decide), (by omega : l / 2 ≤ 255), hl, o6⟩
/-- stepTape -/
theorem sX_stepTape {S : pX} {t : sp_T} (h : rpM S.1 t) (ok : okT t) (v : Int32) : ∃ M, fX_stepTape S v = some (nI (sp_run tp_can tp_step (sp_lim v 20000) t).1, (M, S.2)) ∧ rpM M (sp_run tp_can tp_step (sp_lim v 20000) t).2 ∧ okT (sp_run tp_can tp_step (sp_lim v 20000) t).2 := by
  have hM := sp_lim_le v 20000
  obtain ⟨M, e, r⟩ := run_c (F := fM_makeSteps_L10) (C := fM_canGoOn) (T := fM_step) (can := tp_can) (step := tp_step) (rp := fun S t => rpM S t ∧ okT t) (fun n S v1 v2 v3 => by rw [fM_makeSteps_L10]) (fun S t h => sM_can h.1 h.2) (fun S t h hc => sM_step h.1 h.2 hc)
    (sp_lim v 20000) 100000 0 (sp_lim v 20000) S.1 t v (by omega) (by omega) (by omega) (by omega) ⟨h, ok⟩
  refine ⟨M, ?_, r.1, r.2⟩
  unfold fX_stepTape fM_makeSteps
  rw [show fX_within v (20000 : Int32) = nI (sp_lim v 20000) from lim_c v (M := 20000) (by decide), show (0 : Int32) = nI 0 from rfl, e, Nat.zero_add]
  rfl
theorem sR_stepTape {S : pR} {t : sp_T} (h : rpRa S.1 t) (ok : okT t) (v : Int32) : ∃ A, fR_stepTape S v = some (nI (sp_run tp_can tp_step (sp_lim v 20000) t).1, (A, S.2)) ∧ rpRa A (sp_run tp_can tp_step (sp_lim v 20000) t).2 := by
  have hM := sp_lim_le v 20000
  obtain ⟨Q, e, r⟩ := run_r (F := fR_stepTape_L2) (C := fR_tapeCan) (T := fR_tapeStep) (can := tp_can) (step := tp_step) (rp := fun (Q : pR) t => Q.2 = S.2 ∧ rpRa Q.1 t ∧ okT t) (fun n S v1 v3 => by rw [fR_stepTape_L2]) (fun S t h => sR_can h.2.1 h.2.2)
    (fun Q t h hc => by
      obtain ⟨A, e, r⟩ := sR_step h.2.1 h.2.2 hc
      exact ⟨(A, Q.2), e, h.1, r, okT_step h.2.2 hc⟩)
    (sp_lim v 20000) 100000 0 S t v (by omega) (by omega) (by omega) ⟨rfl, h, ok⟩
  refine ⟨Q.1, ?_, r.2.1⟩
  unfold fR_stepTape
  rw [show (0 : Int32) = nI 0 from rfl, e, Nat.zero_add, ← r.1]

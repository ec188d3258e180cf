/-! the tape machine: what the document says, and both sides -/
/-- rules (16 places: 2 * (state - 1) + symbol; write, move, next), state, symbol, LEFT, RIGHT -/
abbrev sp_T : Type := (Nat → Option (Nat × Nat × Nat)) × Nat × Nat × Nat × Nat
def sp_ix (q s : Nat) : Nat := 2 * (q - 1) + s
def tp_can (t : sp_T) : Int32 := match t.1 (sp_ix t.2.1 t.2.2.1) with
  | some (w, m, n) => if n = 0 then 0 else if 2 * (if m = 1 then t.2.2.2.1 else t.2.2.2.2) + w ≤ 255 then 1 else -2
  | none => 0
def tp_step (t : sp_T) : sp_T := match t.1 (sp_ix t.2.1 t.2.2.1) with
  | some (w, m, n) => if m = 1 then (t.1, n, t.2.2.2.2 % 2, 2 * t.2.2.2.1 + w, t.2.2.2.2 / 2) else (t.1, n, t.2.2.2.1 % 2, t.2.2.2.1 / 2, 2 * t.2.2.2.2 + w)
  | none => t
/-- the class's tape machine -/
def rpM (S : pM) (t : sp_T) : Prop := S.2.2.2.1 = nI t.2.1 ∧ S.2.2.2.2.1 = nI t.2.2.1 ∧ S.2.2.2.2.2.1 = nI t.2.2.2.1 ∧ S.2.2.2.2.2.2 = nI t.2.2.2.2 ∧
  (∀ r, r < 16 → (t.1 r = none → S.2.2.1 r = -1) ∧ ∀ w m n, t.1 r = some (w, m, n) → S.1 r = nI w ∧ S.2.1 r = nI m ∧ S.2.2.1 r = nI n)
/-- the reference's -/
def rpRa (S : pRa) (t : sp_T) : Prop := S.2.2.2.2.1 = nI t.2.1 ∧ S.2.2.2.2.2.1 = nI t.2.2.1 ∧ S.2.2.2.2.2.2.1 = nI t.2.2.2.1 ∧ S.2.2.2.2.2.2.2 = nI t.2.2.2.2 ∧
  (∀ r, r < 16 → (t.1 r = none → S.1 r = 0) ∧ ∀ w m n, t.1 r = some (w, m, n) → S.1 r = 1 ∧ S.2.1 r = nI w ∧ S.2.2.1 r = nI m ∧ S.2.2.2.1 r = nI n)
def okT (t : sp_T) : Prop := 1 ≤ t.2.1 ∧ t.2.1 ≤ 8 ∧ t.2.2.1 < 2 ∧ t.2.2.2.1 ≤ 255 ∧ t.2.2.2.2 ≤ 255 ∧ ∀ r w m n, t.1 r = some (w, m, n) → w < 2 ∧ m < 2 ∧ n ≤ 8
theorem q_rem {a d : Nat} : nI a - nI (a / d * d) = nI (a % d) := by
  rw [pk_sub (Nat.div_mul_le_self a d), Nat.mod_def, Nat.mul_comm]
theorem q_m1n {k : Nat} (h : k < 2 ^ 31) : (nI k = -nI 1) = False := eq_false (q_m1 k h)
theorem tM_state {n : Nat} (h : n < 2 ^ 31) : fM_isState (nI n) = decide (1 ≤ n ∧ n ≤ 8) := by
  unfold fM_isState
  simp (disch := omega) only [q_lit, nI_ltI]
  by_cases h1 : n < 1
  · simp [h1]; omega
  · by_cases h2 : 8 < n
    · simp [h1, h2]
    · simp [h1, h2]; omega
theorem tM_state0 : fM_isState (-1) = false := by decide
theorem tM_place {q s : Nat} (h : 1 ≤ q) : fM_place (nI q) (nI s) = nI (sp_ix q s) := by
  unfold fM_place sp_ix
  simp (disch := omega) only [q_lit, nI_add, pk_mul, pk_sub]
theorem tR_place {q s : Nat} (h : 1 ≤ q) : fR_ruleOf (nI q) (nI s) = nI (sp_ix q s) := by
  unfold fR_ruleOf sp_ix
  simp (disch := omega) only [q_lit, nI_add, pk_mul, pk_sub]
theorem sM_can {S : pM} {t : sp_T} (h : rpM S t) (ok : okT t) : fM_canGoOn S = some (tp_can t) := by
  obtain ⟨wr, mv, nx, st, sy, lf, rt⟩ := S
  obtain ⟨rl, q, s, l, r⟩ := t
  obtain ⟨h1, h2, h3, h4, h5⟩ := h
  obtain ⟨o1, o2, o3, o4, o5, o6⟩ := ok
  simp only at h1 h2 h3 h4 h5 o1 o2 o3 o4 o5 o6
  subst h1 h2 h3 h4
  have hi : sp_ix q s < 16 := by unfold sp_ix; omega
  obtain ⟨h6, h7⟩ := h5 _ hi
  unfold fM_canGoOn fM_hasStep fM_moveOf fM_writeOf tp_can
  simp (disch := omega) only [tM_place, q_rd, Option.bind_some]
  cases hr : rl (sp_ix q s) with
  | none =>
    rw [h6 hr, tM_state0]
    simp
  | some a =>
    obtain ⟨w, m, n⟩ := a
    obtain ⟨e1, e2, e3⟩ := h7 w m n hr
    obtain ⟨p1, p2, p3⟩ := o6 _ w m n hr
    rw [e1, e2, e3]
    simp (disch := omega) only [tM_state, q_lit, nI_add, pk_mul, nI_eq, nI_leI]
    by_cases hn : n = 0
    · simp [hn]
    · by_cases hm : m = 1
      · simp [hn, hm]
        rw [if_pos (by omega)]
        split <;> rfl
      · simp [hn, hm]
        rw [if_pos (by omega)]
        split <;> rfl
theorem sM_step {S : pM} {t : sp_T} (h : rpM S t) (ok : okT t) (hc : tp_can t = 1) : ∃ S', fM_step S = some S' ∧ rpM S' (tp_step t) ∧ okT (tp_step t) := by
  obtain ⟨wr, mv, nx, st, sy, lf, rt⟩ := S
  obtain ⟨rl, q, s, l, r⟩ := t
  obtain ⟨h1, h2, h3, h4, h5⟩ := h
  obtain ⟨o1, o2, o3, o4, o5, o6⟩ := ok
  simp only at h1 h2 h3 h4 h5 o1 o2 o3 o4 o5 o6
  subst h1 h2 h3 h4
  have hi : sp_ix q s < 16 := by unfold sp_ix; omega
  obtain ⟨h6, h7⟩ := h5 _ hi
  unfold tp_can at hc
  cases hr : rl (sp_ix q s) with
  | none => simp only [hr] at hc; exact absurd hc (by decide)
  | some a =>
    obtain ⟨w, m, n⟩ := a
    obtain ⟨e1, e2, e3⟩ := h7 w m n hr
    obtain ⟨p1, p2, p3⟩ := o6 _ w m n hr
    simp only [hr] at hc
    have hn : ¬ n = 0 := by
      intro e
      rw [if_pos e] at hc
      exact absurd hc (by decide)
    rw [if_neg hn] at hc
    have hl : 2 * (if m = 1 then l else r) + w ≤ 255 := by
      by_cases e : 2 * (if m = 1 then l else r) + w ≤ 255
      · exact e
      · rw [if_neg e] at hc
        exact absurd hc (by decide)
    unfold fM_step tp_step
    simp (disch := omega) only [tM_place, q_rd, Option.bind_some, hr]
    rw [e1, e2, e3]
    simp (disch := omega) only [q_lit, nI_add, pk_mul, nI_eq, pk_div, q_rem]
    by_cases hm : m = 1
    · simp only [hm, if_true] at hl ⊢
      exact ⟨_, rfl, ⟨rfl, rfl, rfl, rfl, h5⟩, (by omega : 1 ≤ n), p3, Nat.mod_lt _ (by decide), hl, (by omega : r / 2 ≤ 255), o6⟩
    · simp only [hm, if_false] at hl ⊢
      exact ⟨_, rfl, ⟨rfl, rfl, rfl, rfl, h5⟩, (by omega : 1 ≤ n), p3, Nat.mod_lt _ (by decide), (by omega : l / 2 ≤ 255), hl, o6⟩
theorem sR_goes {S : pR} {t : sp_T} (h : rpRa S.1 t) (ok : okT t) {i : Nat} (hi : i < 16) : fR_goesOn S (nI i) = some (match t.1 i with
    | some (_, _, n) => decide (0 < n)
    | none => false) := by
  obtain ⟨h6, h7⟩ := h.2.2.2.2 _ hi
  unfold fR_goesOn
  simp (disch := omega) only [q_rd, Option.bind_some]
  cases hr : t.1 i with
  | none => rw [h6 hr, if_pos rfl]
  | some a =>
    obtain ⟨w, m, n⟩ := a
    obtain ⟨e0, e1, e2, e3⟩ := h7 w m n hr
    obtain ⟨p1, p2, p3⟩ := ok.2.2.2.2.2 _ w m n hr
    rw [e0, e3, if_neg (by decide)]
    simp (disch := omega) only [q_lit, nI_leI]
    by_cases hn : n ≤ 0
    · rw [if_pos hn]; simp; omega
    · rw [if_neg hn]; simp; omega
theorem sR_can {S : pR} {t : sp_T} (h : rpRa S.1 t) (ok : okT t) : fR_tapeCan S = some (tp_can t) := by
  have hg := fun i hi => sR_goes h ok (i := i) hi
  obtain ⟨⟨td, wr, mv, nx, st, sy, lf, rt⟩, SS⟩ := S
  obtain ⟨rl, q, s, l, r⟩ := t
  obtain ⟨h1, h2, h3, h4, h5⟩ := h
  obtain ⟨o1, o2, o3, o4, o5, o6⟩ := ok
  simp only at h1 h2 h3 h4 h5 o1 o2 o3 o4 o5 o6 hg
  subst h1 h2 h3 h4
  have hi : sp_ix q s < 16 := by unfold sp_ix; omega
  obtain ⟨h6, h7⟩ := h5 _ hi
  unfold fR_tapeCan tp_can
  simp (disch := omega) only [tR_place, q_rd, Option.bind_some, hg _ hi]
  cases hr : rl (sp_ix q s) with
  | none => rfl
  | some a =>
    obtain ⟨w, m, n⟩ := a
    obtain ⟨e0, e1, e2, e3⟩ := h7 w m n hr
    obtain ⟨p1, p2, p3⟩ := o6 _ w m n hr
    rw [e1, e2]
    simp (disch := omega) only [q_lit, nI_add, pk_mul, nI_eq, nI_ltI]
    by_cases hn : n = 0
    · simp [hn]
    · by_cases hm : m = 1
      · simp only [hn, hm, if_false, if_true, show 0 < n by omega, decide_true]
        by_cases hl : 2 * l + w ≤ 255
        · rw [if_pos hl, if_pos (by omega)]
        · rw [if_neg hl, if_neg (by omega)]
      · simp only [hn, hm, if_false, if_true, show 0 < n by omega, decide_true]
        by_cases hl : 2 * r + w ≤ 255
        · rw [if_pos hl, if_pos (by omega)]
        · rw [if_neg hl, if_neg (by omega)]
theorem sR_step {S : pR} {t : sp_T} (h : rpRa S.1 t) (ok : okT t) (hc : tp_can t = 1) : ∃ A, fR_tapeStep S = some (A, S.2) ∧ rpRa A (tp_step t) := by
  obtain ⟨⟨td, wr, mv, nx, st, sy, lf, rt⟩, SS⟩ := S
  obtain ⟨rl, q, s, l, r⟩ := t
  obtain ⟨h1, h2, h3, h4, h5⟩ := h
  obtain ⟨o1, o2, o3, o4, o5, o6⟩ := ok
  simp only at h1 h2 h3 h4 h5 o1 o2 o3 o4 o5 o6
  subst h1 h2 h3 h4
  have hi : sp_ix q s < 16 := by unfold sp_ix; omega
  obtain ⟨h6, h7⟩ := h5 _ hi
  unfold tp_can at hc
  cases hr : rl (sp_ix q s) with
  | none => simp only [hr] at hc; exact absurd hc (by decide)
  | some a =>
    obtain ⟨w, m, n⟩ := a
    obtain ⟨e0, e1, e2, e3⟩ := h7 w m n hr
    obtain ⟨p1, p2, p3⟩ := o6 _ w m n hr
    unfold fR_tapeStep tp_step
    simp (disch := omega) only [tR_place, q_rd, Option.bind_some, hr]
    rw [e1, e2, e3]
    simp (disch := omega) only [q_lit, nI_add, pk_mul, nI_eq, pk_div, q_rem]
    by_cases hm : m = 1
    · simp only [hm, if_true]
      exact ⟨_, rfl, rfl, rfl, rfl, rfl, h5⟩
    · simp only [hm, if_false]
      exact ⟨_, rfl, rfl, rfl, rfl, rfl, h5⟩

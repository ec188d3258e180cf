/-! compileTag: which rules are told, how many states there are -/
def sp_both (t : sp_T) (q : Nat) : Bool := (t.1 (sp_ix q 0)).isSome && (t.1 (sp_ix q 1)).isSome
/-- of the rules from place i on: none sends to a state with a rule missing -/
def sp_fr (t : sp_T) : Nat → Nat → Bool
  | 0, _ => true
  | k + 1, i => (match t.1 i with
    | some (_, _, n) => n == 0 || sp_both t n
    | none => true) && sp_fr t k (i + 1)
def sp_all (t : sp_T) : Bool := sp_both t t.2.1 && sp_fr t 16 0
/-- the greatest state of the rules from place i on, and of m -/
def sp_mx (t : sp_T) : Nat → Nat → Nat → Nat
  | 0, _, m => m
  | k + 1, i, m => sp_mx t k (i + 1) (match t.1 i with
    | some (_, _, n) => max m (max (i / 2 + 1) n)
    | none => m)
def sp_N (t : sp_T) : Nat := sp_mx t 16 0 0
theorem mx_nI {a b : Nat} (ha : a < 2 ^ 31) (hb : b < 2 ^ 31) : p_mx (nI a) (nI b) = nI (max a b) := by
  unfold p_mx
  by_cases h : a < b
  · rw [if_pos (nI_lt h hb), Nat.max_eq_right (by omega)]
  · rw [if_neg (nI_nlt (by omega) ha), Nat.max_eq_left (by omega)]
theorem sM_both {S : pM} {t : sp_T} (h : rpM S t) (ok : okT t) {q : Nat} (h1 : 1 ≤ q) (h2 : q ≤ 8) : fM_hasBothRules S (nI q) = some (sp_both t q) := by
  have i0 : sp_ix q 0 < 16 := by unfold sp_ix; omega
  have i1 : sp_ix q 1 < 16 := by unfold sp_ix; omega
  obtain ⟨a0, b0⟩ := h.2.2.2.2 _ i0
  obtain ⟨a1, b1⟩ := h.2.2.2.2 _ i1
  unfold fM_hasBothRules sp_both
  rw [show (0 : Int32) = nI 0 from rfl, show (1 : Int32) = nI 1 from rfl, tM_place h1, tM_place h1, q_rd i0 (by decide), q_rd i1 (by decide)]
  simp only [Option.bind_some]
  cases r0 : t.1 (sp_ix q 0) with
  | none =>
    rw [a0 r0, if_pos (show (-1 : Int32) = -nI 1 from rfl)]
    rfl
  | some c =>
    obtain ⟨w, m, n⟩ := c
    have := (ok.2.2.2.2.2 _ w m n r0).2.2
    rw [(b0 w m n r0).2.2, if_neg (show ¬ nI n = -nI 1 from q_m1 n (by omega))]
    cases r1 : t.1 (sp_ix q 1) with
    | none =>
      rw [a1 r1, if_pos (show (-1 : Int32) = -nI 1 from rfl)]
      rfl
    | some c =>
      obtain ⟨w', m', n'⟩ := c
      have := (ok.2.2.2.2.2 _ w' m' n' r1).2.2
      rw [(b1 w' m' n' r1).2.2, if_neg (show ¬ nI n' = -nI 1 from q_m1 n' (by omega))]
      rfl
theorem sM_allL {S : pM} {t : sp_T} (h : rpM S t) (ok : okT t) : ∀ (k n i : Nat), 16 - i = k → i ≤ 16 → k < n → fM_hasAllRules_L15 S n (nI i) = some (sp_fr t k i) := by
  intro k
  induction k with
  | zero =>
    intro n i e1 e2 e3
    obtain ⟨n', rfl⟩ : ∃ n', n = n' + 1 := ⟨n - 1, by omega⟩
    rw [fM_hasAllRules_L15, if_pos (show (16 : Int32) ≤ nI i from nI_le (a := 16) (by omega) (by omega))]
    rfl
  | succ k ih =>
    intro n i e1 e2 e3
    obtain ⟨n', rfl⟩ : ∃ n', n = n' + 1 := ⟨n - 1, by omega⟩
    have hi : i < 16 := by omega
    obtain ⟨a0, b0⟩ := h.2.2.2.2 _ hi
    rw [fM_hasAllRules_L15, if_neg (show ¬ (16 : Int32) ≤ nI i from nI_ge (b := 16) (by omega) (by decide)), q_rd hi (by decide), nI_1]
    simp only [Option.bind_some, sp_fr]
    rw [ih n' (i + 1) (by omega) (by omega) (by omega)]
    cases r0 : t.1 i with
    | none =>
      rw [a0 r0, tM_state0]
      simp
    | some c =>
      obtain ⟨w, m, x⟩ := c
      have hx := (ok.2.2.2.2.2 _ w m x r0).2.2
      rw [(b0 w m x r0).2.2, tM_state (by omega)]
      by_cases hz : x = 0
      · subst hz
        simp
      · rw [sM_both h ok (by omega) hx]
        simp only [Option.bind_some]
        rw [if_pos (by simp; omega)]
        cases hb : sp_both t x with
        | false => simp [hz]
        | true => simp
theorem sM_all {S : pM} {t : sp_T} (h : rpM S t) (ok : okT t) : fM_hasAllRules S = some (sp_all t) := by
  unfold fM_hasAllRules sp_all
  rw [h.1, sM_both h ok ok.1 ok.2.1, show (0 : Int32) = nI 0 from rfl, sM_allL h ok 16 100000 0 (by omega) (by omega) (by omega)]
  simp only [Option.bind_some]
  cases sp_both t t.2.1 <;> simp
theorem sp_mx_le {t : sp_T} (ok : okT t) : ∀ (k i m : Nat), i + k ≤ 16 → m ≤ 8 → m ≤ sp_mx t k i m ∧ sp_mx t k i m ≤ 8
  | 0, i, m, _, h => ⟨Nat.le_refl _, h⟩
  | k + 1, i, m, h1, h2 => by
    unfold sp_mx
    cases r0 : t.1 i with
    | none => exact sp_mx_le ok k (i + 1) m (by omega) h2
    | some c =>
      obtain ⟨w, m', x⟩ := c
      have hx := (ok.2.2.2.2.2 _ w m' x r0).2.2
      have := sp_mx_le ok k (i + 1) (max m (max (i / 2 + 1) x)) (by omega) (by omega)
      simp only []
      omega
theorem sM_grL {S : pM} {t : sp_T} (h : rpM S t) (ok : okT t) : ∀ (k n i m : Nat), 16 - i = k → i ≤ 16 → k < n → m ≤ 8 → fM_greatestState_L4 S n (nI m) (nI i) = some (nI (sp_mx t k i m)) := by
  intro k
  induction k with
  | zero =>
    intro n i m e1 e2 e3 e4
    obtain ⟨n', rfl⟩ : ∃ n', n = n' + 1 := ⟨n - 1, by omega⟩
    rw [fM_greatestState_L4, if_pos (show (16 : Int32) ≤ nI i from nI_le (a := 16) (by omega) (by omega))]
    rfl
  | succ k ih =>
    intro n i m e1 e2 e3 e4
    obtain ⟨n', rfl⟩ : ∃ n', n = n' + 1 := ⟨n - 1, by omega⟩
    have hi : i < 16 := by omega
    obtain ⟨a0, b0⟩ := h.2.2.2.2 _ hi
    rw [fM_greatestState_L4, if_neg (show ¬ (16 : Int32) ≤ nI i from nI_ge (b := 16) (by omega) (by decide)), q_rd hi (by decide), nI_1]
    simp only [Option.bind_some, sp_mx]
    cases r0 : t.1 i with
    | none =>
      rw [a0 r0, if_pos rfl, ih n' (i + 1) m (by omega) (by omega) (by omega) e4]
    | some c =>
      obtain ⟨w, m', x⟩ := c
      have hx := (ok.2.2.2.2.2 _ w m' x r0).2.2
      rw [(b0 w m' x r0).2.2, if_neg (q_m1 x (by omega)), show (nI i / (2 : Int32)) + (1 : Int32) = nI (i / 2 + 1) from by rw [show (2 : Int32) = nI 2 from rfl, pk_div (by omega) (by decide) (by decide), nI_1], mx_nI (by omega) (by omega), mx_nI (by omega) (by omega), ih n' (i + 1) _ (by omega) (by omega) (by omega) (by omega)]
theorem sM_gr {S : pM} {t : sp_T} (h : rpM S t) (ok : okT t) : fM_greatestState S = some (nI (sp_N t)) := sM_grL h ok 16 100000 0 0 (by omega) (by omega) (by omega) (by omega)
theorem sR_both {S : pR} {t : sp_T} (h : rpRa S.1 t) {q : Nat} (h1 : 1 ≤ q) (h2 : q ≤ 8) : fR_bothTold S (nI q) = some (sp_both t q) := by
  have i0 : sp_ix q 0 < 16 := by unfold sp_ix; omega
  have i1 : sp_ix q 1 < 16 := by unfold sp_ix; omega
  obtain ⟨a0, b0⟩ := h.2.2.2.2 _ i0
  obtain ⟨a1, b1⟩ := h.2.2.2.2 _ i1
  unfold fR_bothTold sp_both
  rw [show (0 : Int32) = nI 0 from rfl, show (1 : Int32) = nI 1 from rfl, tR_place h1, tR_place h1, q_rd i0 (by decide), q_rd i1 (by decide)]
  simp only [Option.bind_some]
  cases r0 : t.1 (sp_ix q 0) with
  | none =>
    rw [a0 r0, if_pos (show (0 : Int32) = nI 0 from rfl)]
    rfl
  | some c =>
    obtain ⟨w, m, n⟩ := c
    rw [(b0 w m n r0).1, if_neg (show ¬ (1 : Int32) = nI 0 from by decide)]
    cases r1 : t.1 (sp_ix q 1) with
    | none =>
      rw [a1 r1, if_pos (show (0 : Int32) = nI 0 from rfl)]
      rfl
    | some c =>
      obtain ⟨w', m', n'⟩ := c
      rw [(b1 w' m' n' r1).1, if_neg (show ¬ (1 : Int32) = nI 0 from by decide)]
      rfl

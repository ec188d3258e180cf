/-! the reference's greatest state -/
def sp_fin (t : sp_T) (m : Nat) (miss : Bool) : Int32 := if m = 0 then 0 else if miss = false ∧ sp_both t t.2.1 = true then nI m else -1
theorem sR_grL {S : pR} {t : sp_T} (h : rpRa S.1 t) (ok : okT t) : ∀ (k n i m : Nat) (b : Bool), 16 - i = k → i ≤ 16 → k < n → m ≤ 8 → fR_greatest_L6 S n (nI m) (p_b b) (nI i) = some (sp_fin t (sp_mx t k i m) (b || !sp_fr t k i)) := by
  intro k
  induction k with
  | zero =>
    intro n i m b e1 e2 e3 e4
    obtain ⟨n', rfl⟩ : ∃ n', n = n' + 1 := ⟨n - 1, by omega⟩
    rw [fR_greatest_L6, if_pos (show (16 : Int32) ≤ nI i from nI_le (a := 16) (by omega) (by omega)), h.1, sR_both h ok.1 ok.2.1]
    unfold sp_fin sp_mx sp_fr
    by_cases hm : m = 0
    · subst hm
      rw [if_pos (show nI 0 ≤ (0 : Int32) from by decide)]
      simp
      rfl
    · rw [if_neg (show ¬ nI m ≤ (0 : Int32) from nI_nle (by omega) (by omega))]
      cases b with
      | false =>
        rw [if_pos (show p_b false = (0 : Int32) from rfl)]
        simp only [Option.bind_some]
        cases sp_both t t.2.1 <;> simp [hm]
      | true =>
        rw [if_neg (show ¬ p_b true = (0 : Int32) from by decide)]
        simp [hm]
  | succ k ih =>
    intro n i m b e1 e2 e3 e4
    obtain ⟨n', rfl⟩ : ∃ n', n = n' + 1 := ⟨n - 1, by omega⟩
    have hi : i < 16 := by omega
    obtain ⟨a0, b0⟩ := h.2.2.2.2 _ hi
    rw [fR_greatest_L6, if_neg (show ¬ (16 : Int32) ≤ nI i from nI_ge (b := 16) (by omega) (by decide)), q_rd hi (by decide), nI_1]
    simp only [Option.bind_some, sp_mx, sp_fr]
    cases r0 : t.1 i with
    | none =>
      rw [a0 r0, if_pos rfl, ih n' (i + 1) m b (by omega) (by omega) (by omega) e4]
      simp
    | some c =>
      obtain ⟨w, m', x⟩ := c
      have hx := (ok.2.2.2.2.2 _ w m' x r0).2.2
      rw [(b0 w m' x r0).1, if_neg (show ¬ (1 : Int32) = 0 by decide), show (nI i / (2 : Int32)) + (1 : Int32) = nI (i / 2 + 1) from by rw [show (2 : Int32) = nI 2 from rfl, pk_div (by omega) (by decide) (by decide), nI_1], q_rd hi (by decide), (b0 w m' x r0).2.2.2]
      simp only [Option.bind_some]
      have fin : ∀ m1 : Nat, m1 = max m (max (i / 2 + 1) x) → (if nI x ≤ (0 : Int32) then fR_greatest_L6 S n' (nI m1) (p_b b) (nI (i + 1)) else (fR_bothTold S (nI x)).bind fun q19 => if q19 = true then fR_greatest_L6 S n' (nI m1) (p_b b) (nI (i + 1)) else fR_greatest_L6 S n' (nI m1) (1 : Int32) (nI (i + 1))) = some (sp_fin t (sp_mx t k (i + 1) (max m (max (i / 2 + 1) x))) (b || !((x == 0 || sp_both t x) && sp_fr t k (i + 1)))) := by
        intro m1 hm1
        rw [← hm1]
        by_cases hz : x = 0
        · subst hz
          rw [if_pos (show nI 0 ≤ (0 : Int32) from by decide), ih n' (i + 1) m1 b (by omega) (by omega) (by omega) (by omega)]
          simp
        · rw [if_neg (show ¬ nI x ≤ (0 : Int32) from nI_nle (by omega) (by omega)), sR_both h (by omega) hx]
          simp only [Option.bind_some]
          cases hb : sp_both t x with
          | true =>
            rw [if_pos rfl, ih n' (i + 1) m1 b (by omega) (by omega) (by omega) (by omega)]
            simp
          | false =>
            rw [if_neg (by decide), show (1 : Int32) = p_b true from rfl, ih n' (i + 1) m1 true (by omega) (by omega) (by omega) (by omega)]
            have hz2 : (x == 0) = false := by simp [hz]
            rw [hz2]
            simp
      by_cases c1 : i / 2 + 1 ≤ m
      · rw [if_pos (nI_le c1 (by omega))]
        by_cases c2 : x ≤ m
        · rw [if_pos (nI_le c2 (by omega))]
          exact fin m (by omega)
        · rw [if_neg (nI_ge (by omega) (by omega))]
          exact fin x (by omega)
      · rw [if_neg (nI_ge (by omega) (by omega))]
        by_cases c2 : x ≤ i / 2 + 1
        · rw [if_pos (nI_le c2 (by omega))]
          exact fin (i / 2 + 1) (by omega)
        · rw [if_neg (nI_ge (by omega) (by omega))]
          exact fin x (by omega)
theorem sR_gr {S : pR} {t : sp_T} (h : rpRa S.1 t) (ok : okT t) : fR_greatest S = some (sp_fin t (sp_N t) (!sp_fr t 16 0)) := by
  have := sR_grL h ok 16 100000 0 0 false (by omega) (by omega) (by omega) (by omega)
  rw [Bool.false_or] at this
  exact this
/-- where no rule is missing there is a state -/
theorem sp_N_pos {t : sp_T} (ok : okT t) (h : sp_all t = true) : 1 ≤ sp_N t ∧ sp_N t ≤ 8 ∧ t.2.1 ≤ sp_N t := by
  have hb : sp_both t t.2.1 = true := by
    unfold sp_all at h
    exact (Bool.and_eq_true_iff.mp h).1
  have key : ∀ (k i m j : Nat), i + k ≤ 16 → m ≤ 8 → i ≤ j → j < i + k → (t.1 j).isSome = true → j / 2 + 1 ≤ sp_mx t k i m := by
    intro k
    induction k with
    | zero => intro i m j h1 h2 h3 h4 h5; omega
    | succ k ih =>
      intro i m j h1 h2 h3 h4 h5
      unfold sp_mx
      by_cases e : j = i
      · subst e
        cases r0 : t.1 j with
        | none => rw [r0] at h5; cases h5
        | some c =>
          obtain ⟨w, m', x⟩ := c
          have hx := (ok.2.2.2.2.2 _ w m' x r0).2.2
          have := sp_mx_le ok k (j + 1) (max m (max (j / 2 + 1) x)) (by omega) (by omega)
          simp only []
          omega
      · cases r0 : t.1 i with
        | none => exact ih (i + 1) m j (by omega) h2 (by omega) (by omega) h5
        | some c =>
          obtain ⟨w, m', x⟩ := c
          have hx := (ok.2.2.2.2.2 _ w m' x r0).2.2
          exact ih (i + 1) (max m (max (i / 2 + 1) x)) j (by omega) (by omega) (by omega) (by omega) h5
  have h1 := (Bool.and_eq_true_iff.mp hb).1
  have hq1 := ok.1
  have hq2 := ok.2.1
  have := key 16 0 0 (sp_ix t.2.1 0) (by omega) (by omega) (by omega) (by unfold sp_ix; omega) h1
  have h2 := sp_mx_le ok 16 0 0 (by omega) (by omega)
  unfold sp_N
  have e : sp_ix t.2.1 0 / 2 + 1 = t.2.1 := by unfold sp_ix; omega
  omega
theorem sR_gr1 {S : pR} {t : sp_T} (h : rpRa S.1 t) (ok : okT t) (ha : sp_all t = true) : fR_greatest S = some (nI (sp_N t)) := by
  have hp := sp_N_pos ok ha
  rw [sR_gr h ok]
  have hh := Bool.and_eq_true_iff.mp ha
  unfold sp_fin
  rw [if_neg (by omega), if_pos ⟨by rw [hh.2]; rfl, hh.1⟩]
theorem sR_gr0 {S : pR} {t : sp_T} (h : rpRa S.1 t) (ok : okT t) (ha : ¬ sp_all t = true) : ∃ r, fR_greatest S = some r ∧ ¬ (0 : Int32) < r := by
  rw [sR_gr h ok]
  refine ⟨_, rfl, ?_⟩
  unfold sp_fin
  by_cases h0 : sp_N t = 0
  · rw [if_pos h0]; decide
  · rw [if_neg h0, if_neg]
    · decide
    · rintro ⟨z1, z2⟩
      apply ha
      unfold sp_all
      rw [z2]
      cases hf : sp_fr t 16 0 with
      | true => rfl
      | false => rw [hf] at z1; cases z1

/-! writing a code (the reference); lockStep -/
theorem two_push {S : pR} {wd : List Nat} (h : rqW S.2.1.2.2.2.2.2.1 S.2.1.2.2.2.2.2.2.1 S.2.1.2.2.2.2.2.2.2 wd) (hl : wd.length ≤ 4000) (a : Nat) :
    ∃ w f z, (∀ {β : Type} (K : pR → Option β), ((fR_push S (nI a)).bind fun q1 => (fR_push q1 (0 : Int32)).bind K) = K (rW S w f z)) ∧ rqW w f z (wd ++ pp_w a 1) := by
  obtain ⟨w1, f1, z1, e1, r1⟩ := sR_push h (by omega) a
  obtain ⟨w2, f2, z2, e2, r2⟩ := sR_push (S := rW S w1 f1 z1) r1 (by simp; omega) 0
  refine ⟨w2, f2, z2, fun K => ?_, ?_⟩
  · rw [e1]
    simp only [Option.bind_some]
    rw [show fR_push (rW S w1 f1 z1) (0 : Int32) = some (rW S w2 f2 z2) from e2]
    rfl
  · rw [show wd ++ pp_w a 1 = wd ++ [a] ++ [0] from by simp [pp_w]]
    exact r2
theorem sR_pc77 {a r : Nat} (hr : r ≤ 255) : ∀ (k n d : Nat) (S : pR) (wd : List Nat), S.1.2.2.2.2.2.2.2 = nI r → r - d = k → d ≤ r → k < n → wd.length + 2 * k ≤ 4000 → rqW S.2.1.2.2.2.2.2.1 S.2.1.2.2.2.2.2.2.1 S.2.1.2.2.2.2.2.2.2 wd →
    ∃ w f z, fR_putCode_L77 n S (nI a) (nI d) = some (rW S w f z) ∧ rqW w f z (wd ++ pp_w (a + 3) k) := by
  intro k
  induction k with
  | zero =>
    intro n d S wd hS e1 e2 e4 e5 h
    obtain ⟨n', rfl⟩ : ∃ n', n = n' + 1 := ⟨n - 1, by omega⟩
    rw [fR_putCode_L77, hS, if_pos (nI_le (by omega) (by omega))]
    exact ⟨_, _, _, rfl, by rw [show pp_w (a + 3) 0 = [] from rfl, List.append_nil]; exact h⟩
  | succ k ih =>
    intro n d S wd hS e1 e2 e4 e5 h
    obtain ⟨n', rfl⟩ : ∃ n', n = n' + 1 := ⟨n - 1, by omega⟩
    rw [fR_putCode_L77, hS, if_neg (nI_ge (by omega) (by omega)), show nI a + (3 : Int32) = nI (a + 3) from by rw [show (3 : Int32) = nI 3 from rfl, nI_add]]
    obtain ⟨w, f, z, p1, p2⟩ := two_push h (by omega) (a + 3)
    rw [p1, nI_1]
    obtain ⟨w3, f3, z3, q1, q2⟩ := ih n' (d + 1) (rW S w f z) _ hS (by omega) (by omega) (by omega) (by rw [List.length_append, pp_len]; omega) p2
    refine ⟨w3, f3, z3, q1, ?_⟩
    rw [show wd ++ pp_w (a + 3) (k + 1) = wd ++ pp_w (a + 3) 1 ++ pp_w (a + 3) k from by simp [pp_w]]
    exact q2
theorem sR_pc37 {a l r : Nat} (hl : l ≤ 255) (hr : r ≤ 255) : ∀ (k n d : Nat) (S : pR) (wd : List Nat), S.1.2.2.2.2.2.2.1 = nI l → S.1.2.2.2.2.2.2.2 = nI r → l - d = k → d ≤ l → k < n → wd.length + 2 * k ≤ 3000 → rqW S.2.1.2.2.2.2.2.1 S.2.1.2.2.2.2.2.2.1 S.2.1.2.2.2.2.2.2.2 wd →
    ∃ w f z, fR_putCode_L37 n S (nI a) (nI d) = some (rW S w f z) ∧ rqW w f z (wd ++ pp_w (a + 1) k ++ pp_w (a + 2) 1 ++ pp_w (a + 3) r) := by
  intro k
  induction k with
  | zero =>
    intro n d S wd hS hS2 e1 e2 e4 e5 h
    obtain ⟨n', rfl⟩ : ∃ n', n = n' + 1 := ⟨n - 1, by omega⟩
    rw [fR_putCode_L37, hS, if_pos (nI_le (by omega) (by omega)), show nI a + (2 : Int32) = nI (a + 2) from by rw [show (2 : Int32) = nI 2 from rfl, nI_add]]
    obtain ⟨w, f, z, p1, p2⟩ := two_push h (by omega) (a + 2)
    rw [p1]
    obtain ⟨w3, f3, z3, q1, q2⟩ := sR_pc77 (a := a) hr r 100000 0 (rW S w f z) _ hS2 (by omega) (by omega) (by omega) (by rw [List.length_append, pp_len]; omega) p2
    refine ⟨w3, f3, z3, q1, ?_⟩
    rw [show pp_w (a + 1) 0 = [] from rfl, List.append_nil]
    exact q2
  | succ k ih =>
    intro n d S wd hS hS2 e1 e2 e4 e5 h
    obtain ⟨n', rfl⟩ : ∃ n', n = n' + 1 := ⟨n - 1, by omega⟩
    rw [fR_putCode_L37, hS, if_neg (nI_ge (by omega) (by omega)), show nI a + (1 : Int32) = nI (a + 1) from nI_1 a]
    obtain ⟨w, f, z, p1, p2⟩ := two_push h (by omega) (a + 1)
    rw [p1, nI_1]
    obtain ⟨w3, f3, z3, q1, q2⟩ := ih n' (d + 1) (rW S w f z) _ hS hS2 (by omega) (by omega) (by omega) (by rw [List.length_append, pp_len]; omega) p2
    refine ⟨w3, f3, z3, q1, ?_⟩
    rw [show wd ++ pp_w (a + 1) (k + 1) ++ pp_w (a + 2) 1 ++ pp_w (a + 3) r = wd ++ pp_w (a + 1) 1 ++ pp_w (a + 1) k ++ pp_w (a + 2) 1 ++ pp_w (a + 3) r from by simp [pp_w]]
    exact q2
theorem letterOf_nI {q s : Nat} (h : 1 ≤ q) : fR_letterOf (nI q) (nI s) (0 : Int32) = nI (1 + 18 * sp_ix q s) := by
  unfold fR_letterOf sp_ix
  simp (disch := omega) only [q_lit, nI_add, pk_mul, pk_sub]
  rfl
theorem sR_putCode {S : pR} {t : sp_T} (hA : rpRa S.1 t) (ok : okT t) : ∃ w f z, fR_putCode S = some (rW S w f z) ∧ rqW w f z (cd_w t) := by
  obtain ⟨o1, o2, o3, o4, o5, o6⟩ := ok
  unfold fR_putCode
  rw [hA.1, hA.2.1, letterOf_nI o1, show nI (1 + 18 * sp_ix t.2.1 t.2.2.1) + (0 : Int32) = nI (1 + 18 * sp_ix t.2.1 t.2.2.1) from by rw [show (0 : Int32) = nI 0 from rfl, nI_add, Nat.add_zero]]
  obtain ⟨w, f, z, p1, p2⟩ := two_push (S := rW S S.2.1.2.2.2.2.2.1 0 0) (wd := []) ⟨0, rfl, rfl, by simp, fun i w hi => by simp at hi⟩ (by simp) (1 + 18 * sp_ix t.2.1 t.2.2.1)
  have p1' := p1 (fun q3 => fR_putCode_L37 100000 q3 (nI (1 + 18 * sp_ix t.2.1 t.2.2.1)) (0 : Int32))
  rw [List.nil_append] at p2
  obtain ⟨w3, f3, z3, q1, q2⟩ := sR_pc37 (a := 1 + 18 * sp_ix t.2.1 t.2.2.1) o4 o5 t.2.2.2.1 100000 0 (rW S w f z) _ hA.2.2.1 hA.2.2.2.1 (by omega) (by omega) (by omega) (by rw [pp_len]; omega) p2
  exact ⟨w3, f3, z3, p1'.trans q1, q2⟩
/-- the loop's bound, read in two ways -/
theorem lim200 (v : Int32) {d : Nat} (hd : d ≤ 200) : (v ≤ nI d ∨ 200 ≤ d) ↔ sp_lim v 200 ≤ d := by
  unfold sp_lim
  by_cases h0 : v < 0
  · rw [if_pos h0]
    constructor
    · intro _; omega
    · intro _
      left
      apply Int32.le_iff_toInt_le.mpr
      have a := Int32.lt_iff_toInt_lt.mp h0
      have b := nI_toInt (n := d) (by omega)
      have c : (0 : Int32).toInt = 0 := by decide
      omega
  · rw [if_neg h0]
    obtain ⟨j, hj, rfl⟩ := nI_of h0
    rw [nI_clamp hj, nI_leI hj (by omega)]
    split <;> omega
def sameC (t : sp_T) (q s l r : Nat) : Prop := q = t.2.1 ∧ s = t.2.2.1 ∧ l = t.2.2.2.1 ∧ r = t.2.2.2.2
theorem rd_bd {N : Nat} {wd : List Nat} {q s l r : Nat} (hN : N ≤ 8) (hw : wd.length ≤ 4002) (h : rd_c N wd = some (q, s, l, r)) : q < 2 ^ 20 ∧ s < 2 ^ 20 ∧ l < 2 ^ 20 ∧ r < 2 ^ 20 := by
  unfold rd_c at h
  split at h
  · rename_i z
    cases h
    have h1 := np_le wd (wd.headD 0 + 1) 5000 2
    have h2 := np_le wd (wd.headD 0 + 3) 5000 (4 + 2 * np wd (wd.headD 0 + 1) 5000 2)
    refine ⟨by omega, by omega, by omega, by omega⟩
  · cases h

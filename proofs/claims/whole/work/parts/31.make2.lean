/-! compileTag: the class's loop; the reference's rows of letters -/
theorem two_b (S : pR) (a b c : Int32) (K : pR → Option pR) : (fR_two S a b c).bind K = (fR_add S a b).bind fun q => (fR_add q a c).bind K := by
  unfold fR_two
  cases fR_add S a b with
  | none => rfl
  | some q =>
    simp only [Option.bind_some]
    cases fR_add q a c <;> rfl
def nn (a : Nat × Nat) : Int32 × Int32 := (nI a.1, nI a.2)
set_option maxRecDepth 100000 in
theorem sR_right (S : pR) (own nxt : Nat) (one : Bool) : fR_toTheRight S (nI own) one (nI (nxt + 18)) (nI nxt) = rAdds (((cl_r true one).map (ad_f own nxt)).map nn) S := by
  unfold fR_toTheRight
  cases one with
  | false =>
    simp only [two_b, q_lit, nI_add, Bool.false_eq_true, if_false]
    rfl
  | true =>
    simp only [two_b, q_lit, nI_add, if_true]
    rfl
set_option maxRecDepth 100000 in
theorem sR_left (S : pR) (own nxt : Nat) (one : Bool) : fR_toTheLeft S (nI own) one (nI (nxt + 18)) (nI nxt) = rAdds (((cl_r false one).map (ad_f own nxt)).map nn) S := by
  unfold fR_toTheLeft
  cases one with
  | false =>
    simp only [two_b, q_lit, nI_add, Bool.false_eq_true, if_false]
    rfl
  | true =>
    simp only [two_b, q_lit, nI_add, if_true]
    rfl
def mk_st (t : sp_T) : Nat → (Nat → List Nat) × (Nat → Bool)
  | 0 => (fun _ => [], fun _ => false)
  | r + 1 => (st_pr t r (mk_st t r).1, st_hl t r (mk_st t r).2)
theorem mk_inv {t : sp_T} (ok : okT t) (hN : sp_N t ≤ 8) : ∀ r, r ≤ 2 * sp_N t → st_inv (sp_N t) r (mk_st t r).1
  | 0, _ => ⟨⟨by omega, fun v hv => ⟨by simp [mk_st], fun w hw => by simp [mk_st] at hw⟩⟩, fun u hu => rfl, fun u => by simp [mk_st]⟩
  | r + 1, h => st_inv_step (mk_inv ok hN r (by omega)) (by omega) (fun w m n hc => (rl_max ok (by omega) hc).1)
theorem sG_makeL {M : pM} {t : sp_T} (hM : rpM M t) (okt : okT t) (hN : sp_N t ≤ 8) : ∀ (k n q : Nat) (S : pT), sp_N t + 1 - q = k → 1 ≤ q → q ≤ sp_N t + 1 → k < n → S.2.2.2.2.2.2.1 = nI (1 + 36 * sp_N t) → rpP S.1 S.2.1 S.2.2.1 (1 + 36 * sp_N t) (mk_st t (2 * (q - 1))).1 (mk_st t (2 * (q - 1))).2 →
    ∃ P Z H, fG_make_L19 M n S (nI (sp_N t)) (nI q) = some (P, Z, H, S.2.2.2) ∧ rpP P Z H (1 + 36 * sp_N t) (mk_st t (2 * sp_N t)).1 (mk_st t (2 * sp_N t)).2 := by
  intro k
  induction k with
  | zero =>
    intro n q S e1 e2 e3 e4 hS hP
    obtain ⟨n', rfl⟩ : ∃ n', n = n' + 1 := ⟨n - 1, by omega⟩
    have e : q - 1 = sp_N t := by omega
    rw [e] at hP
    rw [fG_make_L19, if_pos (nI_lt (by omega) (by omega))]
    exact ⟨_, _, _, rfl, hP⟩
  | succ k ih =>
    intro n q S e1 e2 e3 e4 hS hP
    obtain ⟨n', rfl⟩ : ∃ n', n = n' + 1 := ⟨n - 1, by omega⟩
    have x0 : sp_ix q 0 = 2 * (q - 1) := rfl
    have x1 : sp_ix q 1 = 2 * (q - 1) + 1 := rfl
    rw [fG_make_L19, if_neg (nI_nlt (by omega) (by omega)), show (0 : Int32) = nI 0 from rfl, show (1 : Int32) = nI 1 from rfl]
    obtain ⟨P, Z, H, f1, r1⟩ := sG_makeFor (S := S) (s := 0) hM okt hN e2 (by omega) (by omega) (fun w m n hc => (rl_max okt (by omega) hc).1) hS (by rw [x0] at *; exact hP) (by rw [x0]; exact mk_inv okt hN _ (by omega))
    rw [f1]
    simp only [Option.bind_some]
    obtain ⟨P2, Z2, H2, f2, r2⟩ := sG_makeFor (S := (P, Z, H, S.2.2.2)) (s := 1) (pr := (mk_st t (2 * (q - 1) + 1)).1) (hl := (mk_st t (2 * (q - 1) + 1)).2) hM okt hN e2 (by omega) (by omega) (fun w m n hc => (rl_max okt (by omega) hc).1) hS (by rw [x0] at r1; exact r1) (by rw [x1]; exact mk_inv okt hN _ (by omega))
    rw [f2]
    simp only [Option.bind_some]
    rw [nI_add]
    rw [x1] at r2
    obtain ⟨P3, Z3, H3, f3, r3⟩ := ih n' (q + 1) (P2, Z2, H2, S.2.2.2) (by omega) (by omega) (by omega) (by omega) hS (by
      rw [show 2 * (q + 1 - 1) = 2 * (q - 1) + 1 + 1 by omega]
      exact r2)
    exact ⟨P3, Z3, H3, f3, r3⟩

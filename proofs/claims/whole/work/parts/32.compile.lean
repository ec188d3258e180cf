/-! compileTag: the reference's loops; both sides -/
abbrev rS (S : pR) (p l h : Nat → Int32) : pR := (S.1, (S.2.1.1, S.2.1.2.1, p, l, h, S.2.1.2.2.2.2.2), S.2.2)
theorem cl_r_c : ∀ right one : Bool, ∀ p ∈ cl_r right one, p.2 < 40 ∨ p.2 = 54 := by decide +kernel
theorem sR_stage {S : pR} {t : sp_T} {N q s : Nat} {pr : Nat → List Nat} {hl : Nat → Bool} {K : pR → Int32 → Int32 → Option (Int32 × pR)} {n : Nat} {v1 : Int32} (hA : rpRa S.1 t) (okt : okT t) (hN : N ≤ 8) (h1 : 1 ≤ q) (h2 : q ≤ N) (hs : s < 2) (hn : ∀ w m n, t.1 (sp_ix q s) = some (w, m, n) → n ≤ N)
    (hP : rqP S.2.1.2.2.1 S.2.1.2.2.2.1 S.2.1.2.2.2.2.1 (1 + 36 * N) pr hl) (inv : st_inv N (sp_ix q s) pr) :
    ∃ p l h, fR_compileTag_L35 K (n + 1) S v1 (nI q) (nI s) = fR_compileTag_L35 K n (rS S p l h) v1 (nI q) (nI (s + 1)) ∧ rqP p l h (1 + 36 * N) (st_pr t (sp_ix q s) pr) (st_hl t (sp_ix q s) hl) := by
  have hi : sp_ix q s < 16 := by unfold sp_ix; omega
  have hr : sp_ix q s < 2 * N := by unfold sp_ix; omega
  obtain ⟨a0, b0⟩ := hA.2.2.2.2 _ hi
  obtain ⟨i1, i2, i3⟩ := inv
  have hal : ∃ p l h, ((p_wr 300 S.2.1.2.2.2.2.1 ((fR_letterOf (nI q) (nI s) (0 : Int32)) + (0 : Int32)) (1 : Int32)).bind fun q46 => fR_compileTag_L35 K n (S.1, (S.2.1.1, S.2.1.2.1, S.2.1.2.2.1, S.2.1.2.2.2.1, q46, S.2.1.2.2.2.2.2.1, S.2.1.2.2.2.2.2.2.1, S.2.1.2.2.2.2.2.2.2), S.2.2.1, S.2.2.2) v1 (nI q) (nI (s + 1))) = fR_compileTag_L35 K n (rS S p l h) v1 (nI q) (nI (s + 1)) ∧ rqP p l h (1 + 36 * N) pr (fun u => if u = 1 + 18 * sp_ix q s then true else hl u) := by
    rw [letterOf_nI h1, show nI (1 + 18 * sp_ix q s) + (0 : Int32) = nI (1 + 18 * sp_ix q s) from by rw [show (0 : Int32) = nI 0 from rfl, nI_add, Nat.add_zero], q_wr (by omega) (by decide)]
    refine ⟨_, _, _, rfl, fun u hu => ?_⟩
    obtain ⟨k1, k2, k3⟩ := hP u hu
    refine ⟨k1, ?_, k3⟩
    by_cases e : u = 1 + 18 * sp_ix q s
    · subst e
      simp only [if_true]
      exact pk_us
    · simp only [e, if_false]
      rw [← k2]
      exact pk_un e
  rw [fR_compileTag_L35, if_neg (show ¬ (2 : Int32) ≤ nI s from nI_ge (b := 2) hs (by decide)), tR_place h1, sR_goes hA okt hi, nI_1]
  unfold st_pr st_hl
  simp only [Option.bind_some]
  cases hc : t.1 (sp_ix q s) with
  | none =>
    simp only []
    rw [if_neg (by decide)]
    exact hal
  | some c =>
    obtain ⟨w, m, x⟩ := c
    obtain ⟨e0, e1, e2, e3⟩ := b0 w m x hc
    obtain ⟨p1, p2, p3⟩ := okt.2.2.2.2.2 _ w m x hc
    have hnN := hn w m x hc
    simp only []
    by_cases hz : x = 0
    · subst hz
      rw [if_neg (by decide)]
      simp only [if_true]
      exact hal
    · rw [if_pos (by simp; omega)]
      simp only [hz, if_false]
      rw [q_rd hi (by decide), q_rd hi (by decide), q_rd hi (by decide), e1, e2, e3]
      simp only [Option.bind_some]
      rw [letterOf_nI h1, show fR_letterOf (nI x) (1 : Int32) (0 : Int32) = nI (1 + 36 * (x - 1) + 18) from by
        rw [show (1 : Int32) = nI 1 from rfl, letterOf_nI (by omega)]
        unfold sp_ix
        congr 1
        omega, show fR_letterOf (nI x) (0 : Int32) (0 : Int32) = nI (1 + 36 * (x - 1)) from by
        have := letterOf_nI (q := x) (s := 0) (by omega)
        refine Eq.trans this ?_
        unfold sp_ix
        congr 1
        omega]
      have go : ∀ right one : Bool, ∃ p l, rAdds (((cl_r right one).map (ad_f (1 + 18 * sp_ix q s) (1 + 36 * (x - 1)))).map nn) S = some (rP S p l) ∧ rqP p l S.2.1.2.2.2.2.1 (1 + 36 * N) (ad_l pr ((cl_c right one).map (ad_f (1 + 18 * sp_ix q s) (1 + 36 * (x - 1))))) hl := by
        intro right one
        rw [ad_same]
        refine sR_adds (by omega) _ S pr hP i1 (fun a ha => ?_) ?_
        · obtain ⟨p, hp, rfl⟩ := List.mem_map.mp ha
          have := (cl_r_ok _ _ p hp).1
          exact ⟨by show 1 + 18 * sp_ix q s + p.1 < _; omega, cd_lt hr (by omega) hnN (cl_r_c _ _ p hp)⟩
        · rw [← ad_same]
          exact ad_cap (fun j hj => i2 _ (by omega)) i3 right one
      by_cases hm : m = 1
      · subst hm
        rw [if_pos (show nI 1 = (1 : Int32) from rfl)]
        by_cases hw : w = 1
        · subst hw
          obtain ⟨p, l, f1, r1⟩ := go true true
          rw [if_pos (show nI 1 = (1 : Int32) from rfl), sR_right, f1]
          exact ⟨p, l, _, rfl, r1⟩
        · have : w = 0 := by omega
          subst this
          obtain ⟨p, l, f1, r1⟩ := go true false
          rw [if_neg (show ¬ nI 0 = (1 : Int32) by decide), sR_right, f1]
          exact ⟨p, l, _, rfl, r1⟩
      · have : m = 0 := by omega
        subst this
        rw [if_neg (show ¬ nI 0 = (1 : Int32) by decide)]
        by_cases hw : w = 1
        · subst hw
          obtain ⟨p, l, f1, r1⟩ := go false true
          rw [if_pos (show nI 1 = (1 : Int32) from rfl), sR_left, f1]
          exact ⟨p, l, _, rfl, r1⟩
        · have : w = 0 := by omega
          subst this
          obtain ⟨p, l, f1, r1⟩ := go false false
          rw [if_neg (show ¬ nI 0 = (1 : Int32) by decide), sR_left, f1]
          exact ⟨p, l, _, rfl, r1⟩
theorem sR_makeL {t : sp_T} (okt : okT t) (hN : sp_N t ≤ 8) : ∀ (k n q : Nat) (S : pR), rpRa S.1 t → sp_N t + 1 - q = k → 1 ≤ q → q ≤ sp_N t + 1 → k < n → rqP S.2.1.2.2.1 S.2.1.2.2.2.1 S.2.1.2.2.2.2.1 (1 + 36 * sp_N t) (mk_st t (2 * (q - 1))).1 (mk_st t (2 * (q - 1))).2 →
    ∃ p l h, fR_compileTag_L28 n S (nI (sp_N t)) (nI q) = ((fR_putCode (rS S p l h)).bind fun q7 => some (q7.2.1.1, q7)) ∧ rqP p l h (1 + 36 * sp_N t) (mk_st t (2 * sp_N t)).1 (mk_st t (2 * sp_N t)).2 := by
  intro k
  induction k with
  | zero =>
    intro n q S hA e1 e2 e3 e4 hP
    obtain ⟨n', rfl⟩ : ∃ n', n = n' + 1 := ⟨n - 1, by omega⟩
    have e : q - 1 = sp_N t := by omega
    rw [e] at hP
    rw [fR_compileTag_L28, if_pos (nI_lt (by omega) (by omega))]
    exact ⟨_, _, _, rfl, hP⟩
  | succ k ih =>
    intro n q S hA e1 e2 e3 e4 hP
    obtain ⟨n', rfl⟩ : ∃ n', n = n' + 1 := ⟨n - 1, by omega⟩
    have x0 : sp_ix q 0 = 2 * (q - 1) := rfl
    have x1 : sp_ix q 1 = 2 * (q - 1) + 1 := rfl
    rw [fR_compileTag_L28, if_neg (nI_nlt (by omega) (by omega)), show (0 : Int32) = nI 0 from rfl]
    obtain ⟨p, l, h, f1, r1⟩ := sR_stage (S := S) (s := 0) (K := fun S w1 w2 => fR_compileTag_L28 n' S w1 w2) (n := 99999) (v1 := nI (sp_N t)) hA okt hN e2 (by omega) (by omega) (fun w m n hc => (rl_max okt (by omega) hc).1) (by rw [x0] at *; exact hP) (by rw [x0]; exact mk_inv okt hN _ (by omega))
    rw [x0] at r1
    obtain ⟨p2, l2, h2, f2, r2⟩ := sR_stage (S := rS S p l h) (s := 1) (K := fun S w1 w2 => fR_compileTag_L28 n' S w1 w2) (n := 99998) (v1 := nI (sp_N t)) (pr := (mk_st t (2 * (q - 1) + 1)).1) (hl := (mk_st t (2 * (q - 1) + 1)).2) hA okt hN e2 (by omega) (by omega) (fun w m n hc => (rl_max okt (by omega) hc).1) r1 (by rw [x1]; exact mk_inv okt hN _ (by omega))
    rw [x1] at r2
    have f3 : fR_compileTag_L35 (fun S w1 w2 => fR_compileTag_L28 n' S w1 w2) 99998 (rS S p2 l2 h2) (nI (sp_N t)) (nI q) (nI 2) = fR_compileTag_L28 n' (rS S p2 l2 h2) (nI (sp_N t)) (nI (q + 1)) := by
      rw [show (99998 : Nat) = 99997 + 1 from rfl, fR_compileTag_L35, if_pos (show (2 : Int32) ≤ nI 2 from by decide), nI_1]
    obtain ⟨p3, l3, h3, f4, r3⟩ := ih n' (q + 1) (rS S p2 l2 h2) hA (by omega) (by omega) (by omega) (by omega) (by
      rw [show 2 * (q + 1 - 1) = 2 * (q - 1) + 1 + 1 by omega]
      exact r2)
    exact ⟨p3, l3, h3, f1.trans (f2.trans (f3.trans f4)), r3⟩

/-! the cyclic system of the reference -/
theorem rq_tail {w : Nat → Int32} {f z : Int32} {x : Nat} {l : List Nat} (h : rqW w f z (x :: l)) : rqW w (f + 1) z l := by
  obtain ⟨fr, h1, h2, h3, h4⟩ := h
  simp only [List.length_cons] at h2 h3
  refine ⟨fr + 1, by rw [h1, nI_1], by rw [h2]; congr 1; omega, by omega, fun i y hi => ?_⟩
  rw [show fr + 1 + i = fr + (i + 1) by omega]
  exact h4 (i + 1) y (by simpa using hi)
theorem rq_bits {S : pR} {g : sp_G} {t : Nat} (h : rqY S.2.2.1 g t) (ok : okY g t) : fR_bits S = nI (g.2.2.2.2.length * g.1 - t) ∧ t ≤ g.2.2.2.2.length * g.1 ∧ (0 < t → t < g.2.2.2.2.length * g.1) ∧ g.2.2.2.2.length * g.1 ≤ 1200600 := by
  obtain ⟨h1, h2, h3, k, hk, ⟨fr, a1, a2, a3, a4⟩, h5⟩ := h
  have hL3 := ok.1.1
  have hlen := okY_len ok
  have hP : g.2.2.2.2.length * g.1 ≤ 4002 * 300 := Nat.mul_le_mul hlen hL3
  have hT : t ≤ g.2.2.2.2.length * g.1 ∧ (0 < t → t < g.2.2.2.2.length * g.1) := by
    rcases ok.2.2 with ⟨p1, p2⟩ | ⟨p1, p2, p3, p4, p5⟩
    · exact ⟨by omega, fun z => by omega⟩
    · have := Nat.mul_le_mul_right g.1 p3
      exact ⟨by omega, fun z => by omega⟩
  refine ⟨?_, hT.1, hT.2, by omega⟩
  unfold fR_bits
  rw [a1, a2, h1, h5, pk_sub (by omega), show fr + (g.2.2.2.2.drop k).length - fr = (g.2.2.2.2.drop k).length by omega, List.length_drop, pk_mul]
  rcases hk with ⟨rfl, hk⟩ | ⟨rfl, hk1, hk2⟩
  · rw [Nat.zero_mul, Nat.sub_zero, Nat.sub_zero, pk_sub (by omega)]
  · have p3 : 2 ≤ g.2.2.2.2.length := by
      rcases ok.2.2 with h | h
      · omega
      · exact h.2.2.1
    have e : (g.2.2.2.2.length - 1) * g.1 = g.2.2.2.2.length * g.1 - g.1 := by rw [Nat.sub_mul, Nat.one_mul]
    have := Nat.mul_le_mul_right g.1 p3
    rw [e, pk_sub (by omega)]
    congr 1
    omega
theorem sR_cyCan {S : pR} {g : sp_G} {t : Nat} (h : rqY S.2.2.1 g t) (ok : okY g t) : fR_cyclicCan S = some (cy_can (g, t)) := by
  obtain ⟨b1, b2, b3, b4⟩ := rq_bits h ok
  obtain ⟨h1, h2, h3, k, hk, hw, h5⟩ := h
  unfold fR_cyclicCan cy_can
  rw [h3, b1]
  by_cases e : t = 0
  · subst e
    have hk0 : k = 0 := by omega
    subst hk0
    rw [if_pos (show nI 0 = (0 : Int32) from rfl)]
    simp only [if_true]
    -- the same row as tagCan reads
    have hq : rqG (nI g.1, decide (0 < g.2.1), S.2.2.1.2.1, S.2.2.1.2.2.1, S.2.2.1.2.2.2.1, S.2.2.1.2.2.2.2.1, S.2.2.1.2.2.2.2.2.1, S.2.2.1.2.2.2.2.2.2.1) g := ⟨rfl, rfl, h2, by simpa using hw⟩
    have := sR_tagCan (S := (S.1, (nI g.1, decide (0 < g.2.1), S.2.2.1.2.1, S.2.2.1.2.2.1, S.2.2.1.2.2.2.1, S.2.2.1.2.2.2.2.1, S.2.2.1.2.2.2.2.2.1, S.2.2.1.2.2.2.2.2.2.1), S.2.2)) hq ok.1 ⟨okY_len ok, ok.2.1⟩
    unfold fR_tagCan at this
    exact this
  · rw [if_neg (nI_ne0 (by omega) (by omega)), if_neg (show ¬ nI (g.2.2.2.2.length * g.1 - t) ≤ (0 : Int32) from nI_nle (by omega) (by omega))]
    simp [e]
abbrev rU (S : pR) (w : Nat → Int32) (f z u t : Int32) : pR := (S.1, S.2.1, (S.2.2.1.1, S.2.2.1.2.1, S.2.2.1.2.2.1, S.2.2.1.2.2.2.1, w, f, z, u, t), S.2.2.2)
theorem sR_cyL {S : pR} {g : sp_G} {t : Nat} (hc : S.2.2.1.1 = nI g.1) (h : rqP S.2.2.1.2.1 S.2.2.1.2.2.1 S.2.2.1.2.2.2.1 g.1 g.2.2.1 g.2.2.2.1) (okp : okP g.1 g.2.2.1) (ht : t < g.1) {u v1 : Int32} {wd : List Nat} (hlen : wd.length + (g.2.2.1 t).length ≤ 4096) :
    ∀ (m n i : Nat) (w : Nat → Int32) (f z : Int32), (g.2.2.1 t).length - i = m → i ≤ (g.2.2.1 t).length → m < n → rqW w f z (wd ++ (g.2.2.1 t).take i) →
      ∃ w' f' z', fR_cyclicStep_L75 n (rU S w f z u (nI t)) v1 (nI i) = some (rU S w' f' z' u (nI ((t + 1) % (2 * g.1)))) ∧ rqW w' f' z' (wd ++ g.2.2.1 t) := by
  have h12 := (okp.2 t ht).1
  have hL3 := okp.1
  intro m
  induction m with
  | zero =>
    intro n i w f z e1 e2 e3 r
    obtain ⟨n', rfl⟩ : ∃ n', n = n' + 1 := ⟨n - 1, by omega⟩
    rw [fR_cyclicStep_L75, q_rd (by omega) (by decide), (h t ht).1]
    simp only [Option.bind_some]
    rw [if_pos (nI_le (by omega) (by omega)), hc, nI_1, show (2 : Int32) * nI g.1 = nI (2 * g.1) from by rw [show (2 : Int32) = nI 2 from rfl, pk_mul], q_rm (by omega) (by omega) (by omega)]
    rw [List.take_of_length_le (by omega)] at r
    simp only [Option.bind_some]
    exact ⟨w, f, z, by rw [← hc], r⟩
  | succ m ih =>
    intro n i w f z e1 e2 e3 r
    obtain ⟨n', rfl⟩ : ∃ n', n = n' + 1 := ⟨n - 1, by omega⟩
    rw [fR_cyclicStep_L75, q_rd (by omega) (by decide), (h t ht).1]
    simp only [Option.bind_some]
    rw [if_neg (nI_ge (by omega) (by omega)), show ((12 : Int32) * nI t) + nI i = nI (12 * t + i) from by rw [show (12 : Int32) = nI 12 from rfl, pk_mul, nI_add], q_rd (by omega) (by decide)]
    obtain ⟨x, hx⟩ : ∃ x, (g.2.2.1 t)[i]? = some x := ⟨_, List.getElem?_eq_getElem (by omega)⟩
    rw [(h t ht).2.2 i x hx]
    simp only [Option.bind_some]
    obtain ⟨w1, f1, z1, e4, r1⟩ := sR_pushB (S := rU S w f z u (nI t)) r (by simp; omega) x
    rw [e4]
    simp only [Option.bind_some]
    rw [nI_1]
    refine ih n' (i + 1) w1 f1 z1 (by omega) (by omega) (by omega) ?_
    rw [List.take_succ, hx, ← List.append_assoc]
    exact r1
/-- what the row, its first block, and the turn are behind a step -/
theorem rqY_A0 {S : pRc} {g : sp_G} {t : Nat} (h1 : S.1 = nI g.1) (h2 : rqP S.2.1 S.2.2.1 S.2.2.2.1 g.1 g.2.2.1 g.2.2.2.1) (ht : t + 1 < g.1) {w : Nat → Int32} {f z : Int32} (hw : rqW w f z (cy_wd (g, t))) :
    rqY (S.1, S.2.1, S.2.2.1, S.2.2.2.1, w, f, z, nI (t + 1), nI ((t + 1) % (2 * g.1))) (cy_step (g, t)).1 (cy_step (g, t)).2 := by
  unfold cy_step
  simp only [show ¬ t + 1 = 2 * g.1 by omega, if_false]
  rw [Nat.mod_eq_of_lt (by omega)]
  exact ⟨h1, h2, rfl, 0, Or.inl ⟨rfl, Or.inl ht⟩, hw, by rw [Nat.zero_mul]; rfl⟩
theorem rqY_B0 {S : pRc} {g : sp_G} {t : Nat} (h1 : S.1 = nI g.1) (h2 : rqP S.2.1 S.2.2.1 S.2.2.2.1 g.1 g.2.2.1 g.2.2.2.1) (ht : t + 1 = g.1) {w : Nat → Int32} {f z : Int32} (hw : rqW w f z ((cy_wd (g, t)).drop 1)) :
    rqY (S.1, S.2.1, S.2.2.1, S.2.2.2.1, w, f, z, 0, nI ((t + 1) % (2 * g.1))) (cy_step (g, t)).1 (cy_step (g, t)).2 := by
  unfold cy_step
  simp only [show ¬ t + 1 = 2 * g.1 by omega, if_false]
  rw [Nat.mod_eq_of_lt (by omega)]
  exact ⟨h1, h2, rfl, 1, Or.inr ⟨rfl, by show g.1 ≤ t + 1; omega, by omega⟩, hw, by rw [show t + 1 - 1 * g.1 = 0 by omega]; rfl⟩
theorem rqY_A1 {S : pRc} {g : sp_G} {t : Nat} (h1 : S.1 = nI g.1) (h2 : rqP S.2.1 S.2.2.1 S.2.2.2.1 g.1 g.2.2.1 g.2.2.2.1) (h0 : g.1 ≤ t) (ht : t + 1 < 2 * g.1) {w : Nat → Int32} {f z : Int32} (hw : rqW w f z ((cy_wd (g, t)).drop 1)) :
    rqY (S.1, S.2.1, S.2.2.1, S.2.2.2.1, w, f, z, nI (t - g.1 + 1), nI ((t + 1) % (2 * g.1))) (cy_step (g, t)).1 (cy_step (g, t)).2 := by
  unfold cy_step
  simp only [show ¬ t + 1 = 2 * g.1 by omega, if_false]
  rw [Nat.mod_eq_of_lt ht]
  exact ⟨h1, h2, rfl, 1, Or.inr ⟨rfl, by show g.1 ≤ t + 1; omega, by omega⟩, hw, by rw [show t - g.1 + 1 = t + 1 - 1 * g.1 by omega]⟩
theorem rqY_B1 {S : pRc} {g : sp_G} {t : Nat} (h1 : S.1 = nI g.1) (h2 : rqP S.2.1 S.2.2.1 S.2.2.2.1 g.1 g.2.2.1 g.2.2.2.1) (ht : t + 1 = 2 * g.1) {w : Nat → Int32} {f z : Int32} (hw : rqW w f z ((cy_wd (g, t)).drop 2)) :
    rqY (S.1, S.2.1, S.2.2.1, S.2.2.2.1, w, f, z, 0, nI ((t + 1) % (2 * g.1))) (cy_step (g, t)).1 (cy_step (g, t)).2 := by
  unfold cy_step
  simp only [ht, if_true, Nat.mod_self]
  exact ⟨h1, h2, rfl, 0, Or.inl ⟨rfl, Or.inr rfl⟩, hw, by rw [Nat.zero_mul]; rfl⟩
theorem sR_cyStep {S : pR} {g : sp_G} {t : Nat} (h : rqY S.2.2.1 g t) (ok : okY g t) (hc : cy_can (g, t) = 1) : ∃ C, fR_cyclicStep S = some (S.1, S.2.1, C, S.2.2.2) ∧ rqY C (cy_step (g, t)).1 (cy_step (g, t)).2 := by
  obtain ⟨a, b, l, hw, ha, hb, ht, p1, p2⟩ := cy_two ok hc
  obtain ⟨h1, h2, h3, k, hk, hq, h5⟩ := h
  have hL3 := ok.1.1
  have hl : cy_wd (g, t) = if t = a then g.2.2.2.2 ++ g.2.2.1 a else g.2.2.2.2 := by
    unfold cy_wd
    simp only [hw, List.headD_cons]
    by_cases e : t = a
    · rw [if_pos e, if_pos e, e]
    · rw [if_neg e, if_neg e]
  have hlw : g.2.2.2.2.length = l.length + 2 := by rw [hw]; rfl
  have hm2 : (2 : Int32) * nI g.1 = nI (2 * g.1) := by rw [show (2 : Int32) = nI 2 from rfl, pk_mul]
  have hk' : k = 0 ∧ t < g.1 ∨ k = 1 ∧ g.1 ≤ t := by omega
  rcases hk' with ⟨rfl, hk0⟩ | ⟨rfl, hk1⟩
  · rw [List.drop_zero] at hq
    rw [Nat.zero_mul, Nat.sub_zero] at h5
    obtain ⟨fr, a1, a2, a3, a4⟩ := id hq
    have e0 : S.2.2.1.2.2.2.2.1 fr = nI a := a4 0 a (by rw [hw]; rfl)
    have hq1 : rqW S.2.2.1.2.2.2.2.1 (nI (fr + 1)) S.2.2.1.2.2.2.2.2.2.1 (g.2.2.2.2.drop 1) := by
      rw [hw] at hq ⊢
      rw [a1] at hq
      have := rq_tail hq
      rw [nI_1] at this
      exact this
    unfold fR_cyclicStep
    rw [a1, q_rd (by omega) (by decide), e0, h5, h3]
    simp only [Option.bind_some]
    by_cases e : t = a
    · subst e
      have p3 := p1 (Nat.le_refl _)
      rw [if_pos rfl, nI_1, h1]
      by_cases e2 : t + 1 = g.1
      · rw [if_pos (by rw [e2]), if_neg (nI_ge hk0 (by omega)), nI_1, ← h1]
        obtain ⟨w, f, z, e3, r3⟩ := sR_cyL (S := S) h1 h2 ok.1 hk0 (u := 0) (v1 := 1) (wd := g.2.2.2.2.drop 1) (by rw [List.length_drop]; omega) _ 100000 0 S.2.2.1.2.2.2.2.1 (nI (fr + 1)) S.2.2.1.2.2.2.2.2.2.1 rfl (by omega) (by omega) (by rw [List.take_zero, List.append_nil]; exact hq1)
        refine ⟨_, e3, rqY_B0 h1 h2 e2 ?_⟩
        rw [hl, if_pos rfl, List.drop_append_of_le_length (by omega)]
        exact r3
      · rw [if_neg (by rw [nI_eq (by omega) (by omega)]; exact e2), if_neg (nI_ge hk0 (by omega)), ← h1]
        obtain ⟨w, f, z, e3, r3⟩ := sR_cyL (S := S) h1 h2 ok.1 hk0 (u := nI (t + 1)) (v1 := 1) (wd := g.2.2.2.2) (by omega) _ 100000 0 S.2.2.1.2.2.2.2.1 (nI fr) S.2.2.1.2.2.2.2.2.2.1 rfl (by omega) (by omega) (by rw [List.take_zero, List.append_nil, ← a1]; exact hq)
        refine ⟨_, e3, rqY_A0 h1 h2 (by omega) ?_⟩
        rw [hl, if_pos rfl]
        exact r3
    · rw [if_neg (by rw [nI_eq (by omega) (by omega)]; exact fun z => e z.symm), nI_1, h1, hm2, q_rm (by omega) (by omega) (by omega)]
      simp only [Option.bind_some]
      by_cases e2 : t + 1 = g.1
      · rw [if_pos (by rw [e2]), nI_1, ← h1]
        exact ⟨_, rfl, rqY_B0 h1 h2 e2 (by rw [hl, if_neg e]; exact hq1)⟩
      · rw [if_neg (by rw [nI_eq (by omega) (by omega)]; exact e2), ← h1]
        exact ⟨_, rfl, rqY_A0 h1 h2 (by omega) (by rw [hl, if_neg e, ← a1]; exact hq)⟩
  · rw [Nat.one_mul] at h5
    have e : ¬ t = a := by omega
    obtain ⟨fr, a1, a2, a3, a4⟩ := id hq
    have hx : g.2.2.2.2.drop 1 = b :: l := by rw [hw]; rfl
    have e0 : S.2.2.1.2.2.2.2.1 fr = nI b := a4 0 b (by rw [hx]; rfl)
    have hxl : (g.2.2.2.2.drop 1).length = l.length + 1 := by rw [hx]; rfl
    have hq1 : rqW S.2.2.1.2.2.2.2.1 (nI (fr + 1)) S.2.2.1.2.2.2.2.2.2.1 (g.2.2.2.2.drop 2) := by
      have e9 : g.2.2.2.2.drop 2 = l := by rw [hw]; rfl
      rw [e9]
      rw [hx, a1] at hq
      have := rq_tail hq
      rw [nI_1] at this
      exact this
    unfold fR_cyclicStep
    rw [a1, q_rd (by omega) (by decide), e0, h5, h3]
    simp only [Option.bind_some]
    have fin : ∃ C, (if nI (t - g.1) + 1 = nI g.1 then some (S.1, S.2.1, (nI g.1, S.2.2.1.2.1, S.2.2.1.2.2.1, S.2.2.1.2.2.2.1, S.2.2.1.2.2.2.2.1, nI fr + 1, S.2.2.1.2.2.2.2.2.2.1, (0 : Int32), nI ((t + 1) % (2 * g.1))), S.2.2.2) else some (S.1, S.2.1, (nI g.1, S.2.2.1.2.1, S.2.2.1.2.2.1, S.2.2.1.2.2.2.1, S.2.2.1.2.2.2.2.1, nI fr, S.2.2.1.2.2.2.2.2.2.1, nI (t - g.1) + 1, nI ((t + 1) % (2 * g.1))), S.2.2.2)) = some (S.1, S.2.1, C, S.2.2.2) ∧ rqY C (cy_step (g, t)).1 (cy_step (g, t)).2 := by
      rw [nI_1, nI_1]
      by_cases e2 : t - g.1 + 1 = g.1
      · rw [if_pos (by rw [e2]), ← h1]
        exact ⟨_, rfl, rqY_B1 h1 h2 (by omega) (by rw [hl, if_neg e]; exact hq1)⟩
      · rw [if_neg (by rw [nI_eq (by omega) (by omega)]; exact e2), ← h1]
        exact ⟨_, rfl, rqY_A1 h1 h2 hk1 (by omega) (by rw [hl, if_neg e, ← a1]; exact hq)⟩
    rw [h1, nI_1 t, hm2, q_rm (by omega) (by omega) (by omega), if_pos (nI_le hk1 (by omega)), if_pos (nI_le hk1 (by omega))]
    simp only [Option.bind_some]
    by_cases e3 : nI b = nI (t - g.1)
    · rw [if_pos e3]; exact fin
    · rw [if_neg e3]; exact fin

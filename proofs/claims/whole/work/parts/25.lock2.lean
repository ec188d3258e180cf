/-! lockStep: both sides in step -/
theorem tp_vals (t : sp_T) : tp_can t = 0 ∨ tp_can t = 1 ∨ tp_can t = -2 := by
  unfold tp_can
  (repeat' split) <;> first | exact Or.inl rfl | exact Or.inr (Or.inl rfl) | exact Or.inr (Or.inr rfl)
theorem sR_agrees {S : pR} {t : sp_T} {g : sp_G} (hA : rpRa S.1 t) (hR : rqG S.2.1 g) (ok : okG g) {q s l r : Nat} (hr : rd_c g.2.1 g.2.2.2.2 = some (q, s, l, r)) {C : pC} {M : pM} (hM : rpM M t) (hC : C = (nI q, nI s, nI l, nI r)) :
    ∃ D, fR_agrees S = some (fC_isOf C M, (S.1, S.2.1, S.2.2.1, D)) := by
  obtain ⟨D, e2, r2⟩ := sR_isCode hR ok
  unfold fR_agrees fC_isOf
  rw [e2, hr, hC, hM.1, hM.2.1, hM.2.2.1, hM.2.2.2.1]
  simp only [Option.bind_some, Option.isSome_some, if_true]
  rw [r2 q s l r hr, hA.1, hA.2.1, hA.2.2.1, hA.2.2.2.1]
  simp only []
  by_cases h1 : nI q = nI t.2.1
  · by_cases h2 : nI s = nI t.2.2.1
    · by_cases h3 : nI l = nI t.2.2.2.1
      · by_cases h4 : nI r = nI t.2.2.2.2
        · simp only [h1, h2, h3, h4, if_true]; exact ⟨_, rfl⟩
        · simp only [h1, h2, h3, h4, if_true, if_false]; exact ⟨_, rfl⟩
      · simp only [h1, h2, h3, if_true, if_false]; exact ⟨_, rfl⟩
    · simp only [h1, h2, if_true, if_false]; exact ⟨_, rfl⟩
  · simp only [h1, if_false]; exact ⟨_, rfl⟩
theorem sim_lockL (v1 : Int32) : ∀ (k n d : Nat) (S : pX) (S2 : pR) (t : sp_T) (g : sp_G), sp_lim v1 200 - d = k → d ≤ sp_lim v1 200 → k < n → rpM S.1 t → rpRa S2.1 t → okT t → rpG S.2.1 g → rqG S2.2.1 g → okG g →
    ∃ (b : Int32) (M : pM) (T : pT) (C : pC) (A : pRa) (B : pRb) (D : pRd) (t' : sp_T) (g' : sp_G), fX_lockStep_L40 n S v1 (nI (sp_lim v1 200)) (nI d) = some (b, (M, T, S.2.2.1, C)) ∧ fR_lockStep_L29 n S2 v1 (nI d) = some (b, (A, B, S2.2.2.1, D)) ∧ rpM M t' ∧ rpRa A t' ∧ okT t' ∧ rpG T g' ∧ rqG B g' ∧ okG g' := by
  have hlim := sp_lim_le v1 200
  intro k
  induction k with
  | zero =>
    intro n d S S2 t g e1 e2 e3 hM hA okt hT hR ok
    obtain ⟨n', rfl⟩ : ∃ n', n = n' + 1 := ⟨n - 1, by omega⟩
    have e : d = sp_lim v1 200 := by omega
    rw [fX_lockStep_L40, fR_lockStep_L29, if_pos (nI_le (by omega) (by omega))]
    have hx : fR_lockStep_L29 (n' + 1) S2 v1 (nI d) = some (0, S2) := by
      rw [fR_lockStep_L29]
      rcases (lim200 v1 (by omega : d ≤ 200)).mpr (by omega) with h | h
      · rw [if_pos h]
      · by_cases h2 : v1 ≤ nI d
        · rw [if_pos h2]
        · rw [if_neg h2, if_pos (show (200 : Int32) ≤ nI d from nI_le (a := 200) h (by omega))]
    rw [fR_lockStep_L29] at hx
    exact ⟨0, _, _, _, _, _, _, t, g, rfl, hx, hM, hA, okt, hT, hR, ok⟩
  | succ k ih =>
    intro n d S S2 t g e1 e2 e3 hM hA okt hT hR ok
    obtain ⟨n', rfl⟩ : ∃ n', n = n' + 1 := ⟨n - 1, by omega⟩
    have hnot : ¬ (v1 ≤ nI d ∨ 200 ≤ d) := fun z => by
      have := (lim200 v1 (by omega : d ≤ 200)).mp z
      omega
    rw [fX_lockStep_L40, fR_lockStep_L29, if_neg (nI_ge (by omega) (by omega)), if_neg (fun z => hnot (Or.inl z)), if_neg (show ¬ (200 : Int32) ≤ nI d from nI_ge (b := 200) (by omega) (by decide)), sM_can hM okt, sR_can hA okt]
    simp only [Option.bind_some]
    rcases tp_vals t with hc | hc | hc
    · rw [hc, if_neg (show ¬ (0 : Int32) = -2 by decide), if_pos (show (0 : Int32) = 0 from rfl), if_neg (show ¬ (0 : Int32) = -2 by decide), if_pos (show (0 : Int32) = 0 from rfl), sT_can hT ok.1 (okW_of ok), sR_tagCan hR ok.1 (okW_of ok)]
      simp only [Option.bind_some]
      by_cases hz : tg_can g = 0
      · rw [if_pos hz, if_pos hz]
        exact ⟨_, _, _, _, _, _, _, t, g, rfl, rfl, hM, hA, okt, hT, hR, ok⟩
      · rw [if_neg hz, if_neg hz]
        exact ⟨_, _, _, _, _, _, _, t, g, rfl, rfl, hM, hA, okt, hT, hR, ok⟩
    · rw [hc, if_neg (show ¬ (1 : Int32) = -2 by decide), if_neg (show ¬ (1 : Int32) = 0 by decide), if_neg (show ¬ (1 : Int32) = -2 by decide), if_neg (show ¬ (1 : Int32) = 0 by decide)]
      obtain ⟨M1, f1, r1, ok1⟩ := sM_step hM okt hc
      obtain ⟨A1, f2, r2⟩ := sR_step hA okt hc
      rw [f1, f2]
      simp only [Option.bind_some]
      unfold fX_tagFollowsTape
      obtain ⟨b, T, C, B, D, g', q1, q2, q3, q4, q5, q6, q7, q8, q9⟩ := sim_border (S := (M1, S.2.1, S.2.2.1, S.2.2.2)) (S2 := (A1, S2.2)) hT hR ok
      rw [q1, q2]
      simp only [Option.bind_some]
      by_cases hb : b = 0
      · subst hb
        rw [if_pos (show nI 0 ≤ (0 : Int32) from by decide), if_pos (show nI 0 = (0 : Int32) from rfl)]
        simp only [Option.bind_some]
        rw [if_neg (by decide)]
        exact ⟨_, _, _, _, _, _, _, _, g', rfl, rfl, r1, r2, ok1, q3, q4, q5⟩
      · rw [if_neg (show ¬ nI b ≤ (0 : Int32) from nI_nle (by omega) (by omega)), if_neg (show ¬ nI b = (0 : Int32) from nI_ne0 (by omega) (by omega))]
        obtain ⟨q, s, l, r, hr, hC, hD⟩ := q9 (by omega)
        obtain ⟨D2, f3⟩ := sR_agrees (S := (A1, B, S2.2.2.1, D)) r2 q4 q5 hr r1 hC
        rw [f3]
        simp only [Option.bind_some]
        by_cases hz : fC_isOf C M1 = true
        · rw [if_pos hz, if_pos hz]
          simp only [Option.bind_some, if_true]
          rw [nI_1]
          obtain ⟨b', M', T', C', A', B', D', t', g2, p1, p2, p3⟩ := ih n' (d + 1) (M1, T, S.2.2.1, C) (A1, B, S2.2.2.1, D2) (tp_step t) g' (by omega) (by omega) (by omega) r1 r2 ok1 q3 q4 q5
          exact ⟨b', M', T', C', A', B', D', t', g2, p1, p2, p3⟩
        · rw [if_neg hz, if_neg hz]
          simp only [Option.bind_some]
          rw [if_neg (by decide)]
          exact ⟨_, _, _, _, _, _, _, _, g', rfl, rfl, r1, r2, ok1, q3, q4, q5⟩
    · rw [hc, if_pos (show (-2 : Int32) = -2 from rfl), if_pos (show (-2 : Int32) = -2 from rfl)]
      exact ⟨_, _, _, _, _, _, _, t, g, rfl, rfl, hM, hA, okt, hT, hR, ok⟩
theorem okG_code {g : sp_G} {t : sp_T} (ok : okG g) (okt : okT t) (h : t.2.1 ≤ g.2.1) : okG (g.1, g.2.1, g.2.2.1, g.2.2.2.1, cd_w t) := by
  obtain ⟨o1, o2, o3, o4, o5, o6⟩ := okt
  have hN : 0 < g.2.1 := by omega
  have hL := ok.2.2.2.2 hN
  refine ⟨ok.1, ?_, cd_mem ?_, ok.2.2.2.1, ok.2.2.2.2⟩
  · show (cd_w t).length ≤ 4000
    rw [cd_len]; omega
  · unfold sp_ix
    omega
theorem sim_lockStep {S : pX} {S2 : pR} {t : sp_T} {g : sp_G} (hM : rpM S.1 t) (hA : rpRa S2.1 t) (okt : okT t) (hT : rpG S.2.1 g) (hR : rqG S2.2.1 g) (ok : okG g) (v : Int32) :
    ∃ (b : Int32) (M : pM) (T : pT) (C : pC) (A : pRa) (B : pRb) (D : pRd) (t' : sp_T) (g' : sp_G), fX_lockStep S v = some (b, (M, T, S.2.2.1, C)) ∧ fR_lockStep S2 v = some (b, (A, B, S2.2.2.1, D)) ∧ rpM M t' ∧ rpRa A t' ∧ okT t' ∧ rpG T g' ∧ rqG B g' ∧ okG g' := by
  have hlim := sp_lim_le v 200
  have o := okt
  unfold fX_lockStep fR_lockStep
  rw [hM.1, hT.2.1, hR.2.1, hA.1, hR.1]
  by_cases h : t.2.1 ≤ g.2.1
  · have hN : 0 < g.2.1 := by have := o.1; omega
    have hL := ok.2.2.2.2 hN
    rw [if_pos (nI_le h (by have := ok.2.2.2.1; omega)), if_pos (by simp [hN]), if_pos (show (36 : Int32) * nI t.2.1 < nI g.1 from by rw [show (36 : Int32) = nI 36 from rfl, pk_mul]; exact nI_lt (by omega) (by have := ok.1.1; omega))]
    obtain ⟨w, f, z, e1, r1⟩ := sC_write (S := S.2.1) hM okt
    obtain ⟨w2, f2, z2, e2, r2⟩ := sR_putCode hA okt
    rw [e1, e2]
    simp only [Option.bind_some]
    have ok2 := okG_code ok okt h
    obtain ⟨b, M, T, C, A, B, D, t', g', p1, p2, p3⟩ := sim_lockL v (sp_lim v 200) 100000 0 (S.1, tW S.2.1 w f z, S.2.2.1, S.2.2.2) (rW S2 w2 f2 z2) t (g.1, g.2.1, g.2.2.1, g.2.2.2.1, cd_w t) (by omega) (by omega) (by omega) hM hA okt ⟨hT.1, hT.2.1, hT.2.2.1, r1⟩ ⟨hR.1, hR.2.1, hR.2.2.1, r2⟩ ok2
    refine ⟨b, M, T, C, A, B, D, t', g', ?_, p2, p3⟩
    rw [show fX_within v (200 : Int32) = nI (sp_lim v 200) from lim_c v (M := 200) (by decide)]
    exact p1
  · rw [if_neg (nI_ge (by omega) (by have := o.2.1; omega))]
    by_cases hN : 0 < g.2.1
    · have hL := ok.2.2.2.2 hN
      rw [if_pos (by simp [hN]), if_neg (show ¬ (36 : Int32) * nI t.2.1 < nI g.1 from by rw [show (36 : Int32) = nI 36 from rfl, pk_mul]; exact nI_nlt (by omega) (by have := o.2.1; omega))]
      exact ⟨_, _, _, _, _, _, _, t, g, rfl, rfl, hM, hA, okt, hT, hR, ok⟩
    · rw [if_neg (by simp; omega)]
      exact ⟨_, _, _, _, _, _, _, t, g, rfl, rfl, hM, hA, okt, hT, hR, ok⟩

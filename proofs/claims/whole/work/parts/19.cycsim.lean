/-! stepCyclic, cyclicNow, cyclicBit, decodeCyclic, appendant -/
theorem okY_t {g : sp_G} {t : Nat} (ok : okY g t) : t < 2 * g.1 ∨ t = 0 := by
  rcases ok.2.2 with h | h <;> omega
theorem sim_stepCyclic {S : pX} {S2 : pR} {g : sp_G} {t : Nat} (hY : rpY S.2.2.1 g t) (hR : rqY S2.2.2.1 g t) (ok : okY g t) (v : Int32) :
    ∃ b Y C g' t', fX_stepCyclic S v = some (b, (S.1, S.2.1, Y, S.2.2.2)) ∧ fR_stepCyclic S2 v = some (b, (S2.1, S2.2.1, C, S2.2.2.2)) ∧ rpY Y g' t' ∧ rqY C g' t' ∧ okY g' t' := by
  have hM := sp_lim_le v 20000
  obtain ⟨T, e, r⟩ := run_c (F := fY_makeSteps_L10) (C := fY_canGoOn) (T := fY_step) (can := cy_can) (step := cy_step) (rp := fun S (y : sp_G × Nat) => rpY S y.1 y.2 ∧ okY y.1 y.2) (fun n S v1 v2 v3 => by rw [fY_makeSteps_L10])
    (fun S y h => sY_can h.1 h.2 (by have := h.2.1.1; have := okY_t h.2; omega))
    (fun S y h hc => by
      obtain ⟨S', e, r⟩ := sY_step h.1 h.2 hc
      exact ⟨S', e, r, okY_step h.2 hc⟩)
    (sp_lim v 20000) 100000 0 (sp_lim v 20000) S.2.2.1 (g, t) v (by omega) (by omega) (by omega) (by omega) ⟨hY, ok⟩
  obtain ⟨Q, e2, r2⟩ := run_r (F := fR_stepCyclic_L2) (C := fR_cyclicCan) (T := fR_cyclicStep) (can := cy_can) (step := cy_step) (rp := fun (Q : pR) (y : sp_G × Nat) => Q.1 = S2.1 ∧ Q.2.1 = S2.2.1 ∧ Q.2.2.2 = S2.2.2.2 ∧ rqY Q.2.2.1 y.1 y.2 ∧ okY y.1 y.2) (fun n S v1 v3 => by rw [fR_stepCyclic_L2]) (fun S y h => sR_cyCan h.2.2.2.1 h.2.2.2.2)
    (fun Q y h hc => by
      obtain ⟨A, e, r⟩ := sR_cyStep h.2.2.2.1 h.2.2.2.2 hc
      exact ⟨_, e, h.1, h.2.1, h.2.2.1, r, okY_step h.2.2.2.2 hc⟩)
    (sp_lim v 20000) 100000 0 S2 (g, t) v (by omega) (by omega) (by omega) ⟨rfl, rfl, rfl, hR, ok⟩
  refine ⟨nI (sp_run cy_can cy_step (sp_lim v 20000) (g, t)).1, T, Q.2.2.1, _, _, ?_, ?_, r.1, r2.2.2.2.1, r.2⟩
  · unfold fX_stepCyclic fY_makeSteps
    rw [show fX_within v (20000 : Int32) = nI (sp_lim v 20000) from lim_c v (M := 20000) (by decide), show (0 : Int32) = nI 0 from rfl, e, Nat.zero_add]
    rfl
  · unfold fR_stepCyclic
    rw [show (0 : Int32) = nI 0 from rfl, e2, Nat.zero_add, ← r2.1, ← r2.2.1, ← r2.2.2.1]
theorem y_bits {S : pY} {g : sp_G} {t : Nat} (h : rpY S g t) (ht : t ≤ g.2.2.2.2.length * g.1) : fY_bits S = nI (g.2.2.2.2.length * g.1 - t) := by
  obtain ⟨fr, a1, a2, a3, a4⟩ := id h.1.2.2.2
  unfold fY_bits
  rw [h.1.1, a3, h.2.2, pk_mul, pk_sub ht]
theorem sim_cyclicNow {S : pX} {S2 : pR} {g : sp_G} {t : Nat} (hY : rpY S.2.2.1 g t) (hR : rqY S2.2.2.1 g t) (ok : okY g t) (v : Int32) : ∃ b, fX_cyclicNow S v = some b ∧ fR_cyclicNow S2 v = some b := by
  obtain ⟨b1, b2, b3, b4⟩ := rq_bits hR ok
  have hL3 := ok.1.1
  unfold fX_cyclicNow fR_cyclicNow
  rw [sY_can hY ok (by have := okY_t ok; omega), sR_cyCan hR ok, b1, y_bits hY b2, hR.1, hR.2.2.1, hY.2.2]
  unfold fY_appendants
  rw [hY.1.1]
  suffices h : ∃ b, _ = some b from h.elim fun b e => ⟨b, e, e⟩
  iterate 4 (split; · exact ⟨_, rfl⟩)
  exact ⟨_, rfl⟩
theorem sim_decodeCyclic {S : pX} {S2 : pR} {g : sp_G} {t : Nat} (hY : rpY S.2.2.1 g t) (hR : rqY S2.2.2.1 g t) (ok : okY g t) (v : Int32) : ∃ b, fX_decodeCyclic S v = some b ∧ fR_decodeCyclic S2 v = some b := by
  have hlen := okY_len ok
  unfold fX_decodeCyclic fY_borderLetter fR_decodeCyclic
  rw [hY.2.2, hR.2.2.1]
  by_cases e : nI t = 0
  · rw [if_pos e, if_pos e, sT_wordLetter hY.1.2.2.2 (by omega)]
    have ht : t = 0 := by
      have := okY_t ok
      have := ok.1.1
      rw [show (0 : Int32) = nI 0 from rfl, nI_eq (by omega) (by decide)] at e
      exact e
    subst ht
    obtain ⟨k, hk, hw, h5⟩ := hR.2.2.2
    have hk0 : k = 0 := by omega
    subst hk0
    have := sR_tagLetter (S := (S2.1, (S2.2.1.1, S2.2.1.2.1, S2.2.1.2.2.1, S2.2.1.2.2.2.1, S2.2.1.2.2.2.2.1, S2.2.2.1.2.2.2.2.1, S2.2.2.1.2.2.2.2.2.1, S2.2.2.1.2.2.2.2.2.2.1), S2.2.2)) hw v
    unfold fR_tagLetter at this
    refine ⟨_, rfl, ?_⟩
    exact this
  · rw [if_neg e, if_neg e]
    exact ⟨_, rfl, rfl⟩
theorem div_le_of {n L len : Nat} (hL : 0 < L) (h : n < len * L) : n / L < len := (Nat.div_lt_iff_lt_mul hL).mpr h
theorem sim_cyclicBit {S : pX} {S2 : pR} {g : sp_G} {t : Nat} (hY : rpY S.2.2.1 g t) (hR : rqY S2.2.2.1 g t) (ok : okY g t) (v : Int32) : ∃ b, fX_cyclicBit S v = some b ∧ fR_cyclicBit S2 v = some b := by
  obtain ⟨b1, b2, b3, b4⟩ := rq_bits hR ok
  obtain ⟨h1, h2, h3, k, hk, hq, h5⟩ := hR
  have hL3 := ok.1.1
  have hlen := okY_len ok
  unfold fX_cyclicBit fY_wordBit fR_cyclicBit
  rw [hY.1.1, b1, y_bits hY b2, hY.2.2]
  by_cases h0 : v < 0
  · rw [if_pos h0, if_pos h0]
    by_cases e : nI g.1 = 0
    · rw [if_pos e]; exact ⟨_, rfl, rfl⟩
    · rw [if_neg e]; exact ⟨_, rfl, rfl⟩
  · rw [if_neg h0, if_neg h0]
    obtain ⟨j, hj, rfl⟩ := nI_of h0
    by_cases hlt : j < g.2.2.2.2.length * g.1 - t
    · have hLp : 0 < g.1 := by
        apply Nat.pos_of_ne_zero
        intro z
        rw [z, Nat.mul_zero] at hlt
        omega
      rw [if_pos (nI_lt hlt (by omega)), if_pos (nI_lt hlt (by omega)), if_neg (nI_ne0 hLp (by omega)), nI_add, q_dv (by omega) hLp (by omega), q_rm (by omega) hLp (by omega)]
      simp only [Option.bind_some]
      have hd : (t + j) / g.1 < g.2.2.2.2.length := div_le_of hLp (by omega)
      obtain ⟨x, hx⟩ : ∃ x, g.2.2.2.2[(t + j) / g.1]? = some x := ⟨_, List.getElem?_eq_getElem hd⟩
      rw [sT_wordLetter hY.1.2.2.2 (by omega), wl_nI (by omega), hx]
      simp only [Option.bind_some]
      obtain ⟨fr, a1, a2, a3, a4⟩ := hq
      have hkt : k * g.1 ≤ t ∧ (t + j - k * g.1) / g.1 = (t + j) / g.1 - k ∧ (t + j - k * g.1) % g.1 = (t + j) % g.1 ∧ k ≤ (t + j) / g.1 := by
        rcases hk with ⟨rfl, _⟩ | ⟨rfl, hk1, hk2⟩
        · simp
        · rw [Nat.one_mul]
          refine ⟨hk1, ?_, ?_, ?_⟩
          · have := Nat.div_eq_sub_div hLp (show g.1 ≤ t + j by omega)
            rw [this, Nat.add_sub_cancel]
          · exact (Nat.mod_eq_sub_mod (by omega)).symm
          · exact (Nat.le_div_iff_mul_le hLp).mpr (by omega)
      obtain ⟨m1, m2, m3, m4⟩ := hkt
      rw [h5, h1, nI_add, show t - k * g.1 + j = t + j - k * g.1 by omega, q_dv (by omega) hLp (by omega), q_rm (by omega) hLp (by omega), m2, m3]
      simp only [Option.bind_some]
      have hxk : (g.2.2.2.2.drop k)[(t + j) / g.1 - k]? = some x := by
        rw [List.getElem?_drop, show k + ((t + j) / g.1 - k) = (t + j) / g.1 by omega]
        exact hx
      have hin := (List.getElem?_eq_some_iff.mp hxk).1
      rw [a1, nI_add, q_rd (by omega) (by decide), a4 _ x hxk]
      simp only [Option.bind_some]
      unfold fY_bitOf
      by_cases e : nI x = nI ((t + j) % g.1)
      · rw [if_pos e, if_pos e]; exact ⟨_, rfl, rfl⟩
      · rw [if_neg e, if_neg e]; exact ⟨_, rfl, rfl⟩
    · rw [if_neg (nI_nlt (by omega) hj), if_neg (nI_nlt (by omega) hj)]
      by_cases e : nI g.1 = 0
      · rw [if_pos e]; exact ⟨_, rfl, rfl⟩
      · rw [if_neg e]; exact ⟨_, rfl, rfl⟩
theorem sim_appendant {S : pX} {S2 : pR} {g : sp_G} {t : Nat} (hY : rpY S.2.2.1 g t) (hR : rqY S2.2.2.1 g t) (ok : okY g t) (v1 v2 : Int32) : ∃ b, fX_appendant S v1 v2 = some b ∧ fR_appendant S2 v1 v2 = some b := by
  obtain ⟨h1, h2, h3, -⟩ := hR
  have hL3 := ok.1.1
  unfold fX_appendant fY_appendantBit fR_appendant
  rw [hY.1.1, h1]
  by_cases hv : fT_hasLetter S.2.2.1.1 v1 = true
  · have hv2 := (hasL_iff hY.1.1 v1).mp hv
    rw [if_neg (show ¬ v1 < 0 from fun z => hv2 (Or.inl z)), if_neg (show ¬ nI g.1 ≤ v1 from fun z => hv2 (Or.inr z))]
    obtain ⟨n, hn, rfl⟩ := hasL_of hY.1.1 ok.1.1 hv
    have h12 := (ok.1.2 n hn).1
    rw [if_neg (nI_ne0 (by omega) (by omega)), sT_prodSize hY.1 ok.1 hn, q_rd (by omega) (by decide), (h2 n hn).1]
    simp only [Option.bind_some]
    by_cases h0 : v2 < 0
    · rw [if_pos h0, if_pos h0]
      exact ⟨_, rfl, rfl⟩
    · rw [if_neg h0, if_neg h0]
      obtain ⟨j, hj, rfl⟩ := nI_of h0
      have hP : (g.2.2.1 n).length * g.1 ≤ 12 * 300 := Nat.mul_le_mul h12 hL3
      rw [pk_mul]
      by_cases hlt : j < (g.2.2.1 n).length * g.1
      · rw [if_pos (nI_lt hlt (by omega)), if_pos (nI_lt hlt (by omega)), q_dv (by omega) (by omega) (by omega), q_rm (by omega) (by omega) (by omega)]
        simp only [Option.bind_some]
        have hd : j / g.1 < (g.2.2.1 n).length := div_le_of (by omega) hlt
        obtain ⟨x, hx⟩ : ∃ x, (g.2.2.1 n)[j / g.1]? = some x := ⟨_, List.getElem?_eq_getElem hd⟩
        rw [sT_prodLetter hY.1 ok.1, show ((12 : Int32) * nI n) + nI (j / g.1) = nI (12 * n + j / g.1) from by rw [show (12 : Int32) = nI 12 from rfl, pk_mul, nI_add], q_rd (by omega) (by decide), (h2 n hn).2.2 _ x hx]
        have hpl : pl g (nI n) (nI (j / g.1)) = nI x := by
          unfold pl
          rw [if_neg hv2, nI_clamp (by omega), wl_nI (by omega), hx]
        rw [hpl]
        simp only [Option.bind_some]
        unfold fY_bitOf
        by_cases e : nI x = nI (j % g.1)
        · rw [if_pos e, if_pos e]; exact ⟨_, rfl, rfl⟩
        · rw [if_neg e, if_neg e]; exact ⟨_, rfl, rfl⟩
      · rw [if_neg (nI_nlt (by omega) hj), if_neg (nI_nlt (by omega) hj)]
        exact ⟨_, rfl, rfl⟩
  · have hv2 : v1 < 0 ∨ nI g.1 ≤ v1 := Classical.not_not.mp (fun z => hv ((hasL_iff hY.1.1 v1).mpr z))
    rw [sT_prodSize0 hv]
    have eR : (if v1 < 0 then some (-1 : Int32) else if nI g.1 ≤ v1 then some (-1 : Int32) else if v2 < 0 then some (-1 : Int32) else (p_rd 300 S2.2.2.1.2.2.1 v1).bind fun q4 => if v2 < (q4 * nI g.1) then (p_dv v2 (nI g.1)).bind fun q7 => (p_rd 3600 S2.2.2.1.2.1 (((12 : Int32) * v1) + q7)).bind fun q9 => (p_rm v2 (nI g.1)).bind fun q11 => if q9 = q11 then some (1 : Int32) else some (0 : Int32) else some (-1 : Int32)) = some (-1 : Int32) := by
      by_cases z : v1 < 0
      · rw [if_pos z]
      · rw [if_neg z, if_pos (hv2.resolve_left z)]
    rw [eR]
    by_cases e : nI g.1 = 0
    · rw [if_pos e]; exact ⟨_, rfl, rfl⟩
    · rw [if_neg e]
      by_cases h0 : v2 < 0
      · rw [if_pos h0]; exact ⟨_, rfl, rfl⟩
      · rw [if_neg h0]
        simp only [Option.bind_some]
        have e0 : (0 : Int32) * nI g.1 = 0 := by rw [show (0 : Int32) = nI 0 from rfl, pk_mul, Nat.zero_mul]
        rw [e0, if_neg h0]
        exact ⟨_, rfl, rfl⟩

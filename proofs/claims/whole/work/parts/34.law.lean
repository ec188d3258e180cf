/-! the law's loop: each call answers alike, and what both sides hold stays the same -/
def JJ (S : pX) (S2 : pR) : Prop := ∃ (t : sp_T) (g y : sp_G) (u : Nat), rpM S.1 t ∧ rpRa S2.1 t ∧ okT t ∧ rpG S.2.1 g ∧ rqG S2.2.1 g ∧ okG g ∧ rpY S.2.2.1 y u ∧ rqY S2.2.2.1 y u ∧ okY y u
theorem nI_k (i : Nat) : nI i + (2 : Int32) = nI (i + 2) ∧ nI i + (3 : Int32) = nI (i + 3) ∧ nI i + (4 : Int32) = nI (i + 4) ∧ nI i + (5 : Int32) = nI (i + 5) ∧ nI i + (6 : Int32) = nI (i + 6) := ⟨nI_add i 2, nI_add i 3, nI_add i 4, nI_add i 5, nI_add i 6⟩
theorem cs_144 {ln i : Nat} {xs : Nat → Int32} {K : pX → pR → Int32 → Option Bool} {S : pX} {S2 : pR} (hl : ln ≤ 3072) (hi : i + 6 ≤ ln) (hJ : JJ S S2) (hK : ∀ (Q : pX) (Q2 : pR), JJ Q Q2 → K Q Q2 (nI (i + 6)) = some true) : fL_law_L144 ln xs K S S2 (nI i) = some true := by
  obtain ⟨t, g, y, u, hM, hA, okt, hT, hR, ok, hY, hQ, oky⟩ := hJ
  obtain ⟨k2, k3, k4, k5, k6⟩ := nI_k i
  unfold fL_law_L144
  simp only [nI_1, k2, k3, k4, k5, k6]
  rw [q_rd (k := i + 1) (by omega) (by omega)]
  rw [q_rd (k := i + 2) (by omega) (by omega)]
  rw [q_rd (k := i + 3) (by omega) (by omega)]
  rw [q_rd (k := i + 4) (by omega) (by omega)]
  rw [q_rd (k := i + 5) (by omega) (by omega)]
  simp only [Option.bind_some]
  obtain ⟨b, M, A, t2, e1, e2, r1, r2, o1⟩ := sim_rule (S := S) (S2 := S2) hM hA okt (xs (i + 1)) (xs (i + 2)) (xs (i + 3)) (xs (i + 4)) (xs (i + 5))
  rw [e1, e2]
  simp only [Option.bind_some, if_true]
  exact hK _ _ ⟨t2, g, y, u, r1, r2, o1, hT, hR, ok, hY, hQ, oky⟩
theorem cs_207 {ln i : Nat} {xs : Nat → Int32} {K : pX → pR → Int32 → Option Bool} {S : pX} {S2 : pR} (hl : ln ≤ 3072) (hi : i + 6 ≤ ln) (hJ : JJ S S2) (hK : ∀ (Q : pX) (Q2 : pR), JJ Q Q2 → K Q Q2 (nI (i + 6)) = some true) : fL_law_L207 ln xs K S S2 (nI i) = some true := by
  obtain ⟨t, g, y, u, hM, hA, okt, hT, hR, ok, hY, hQ, oky⟩ := hJ
  obtain ⟨k2, k3, k4, k5, k6⟩ := nI_k i
  unfold fL_law_L207
  simp only [nI_1, k2, k3, k4, k5, k6]
  rw [q_rd (k := i + 1) (by omega) (by omega)]
  rw [q_rd (k := i + 2) (by omega) (by omega)]
  rw [q_rd (k := i + 3) (by omega) (by omega)]
  rw [q_rd (k := i + 4) (by omega) (by omega)]
  simp only [Option.bind_some]
  obtain ⟨b, M, A, t2, e1, e2, r1, r2, o1⟩ := sim_tape (S := S) (S2 := S2) hM hA okt (xs (i + 1)) (xs (i + 2)) (xs (i + 3)) (xs (i + 4))
  rw [e1, e2]
  simp only [if_true]
  exact hK _ _ ⟨t2, g, y, u, r1, r2, o1, hT, hR, ok, hY, hQ, oky⟩
theorem cs_260 {ln i : Nat} {xs : Nat → Int32} {K : pX → pR → Int32 → Option Bool} {S : pX} {S2 : pR} (hl : ln ≤ 3072) (hi : i + 6 ≤ ln) (hJ : JJ S S2) (hK : ∀ (Q : pX) (Q2 : pR), JJ Q Q2 → K Q Q2 (nI (i + 6)) = some true) : fL_law_L260 ln xs K S S2 (nI i) = some true := by
  obtain ⟨t, g, y, u, hM, hA, okt, hT, hR, ok, hY, hQ, oky⟩ := hJ
  obtain ⟨k2, k3, k4, k5, k6⟩ := nI_k i
  unfold fL_law_L260
  simp only [nI_1, k2, k3, k4, k5, k6]
  obtain ⟨b, T, B, g2, Y, C, y2, u2, e1, e2, r1, r2, o1, r3, r4, o2⟩ := sim_compileTag (S := S) (S2 := S2) hM hA okt hT hR ok hY hQ oky 
  rw [e1, e2]
  simp only [Option.bind_some, if_true]
  exact hK _ _ ⟨t, g2, y2, u2, hM, hA, okt, r1, r2, o1, r3, r4, o2⟩
theorem cs_273 {ln i : Nat} {xs : Nat → Int32} {K : pX → pR → Int32 → Option Bool} {S : pX} {S2 : pR} (hl : ln ≤ 3072) (hi : i + 6 ≤ ln) (hJ : JJ S S2) (hK : ∀ (Q : pX) (Q2 : pR), JJ Q Q2 → K Q Q2 (nI (i + 6)) = some true) : fL_law_L273 ln xs K S S2 (nI i) = some true := by
  obtain ⟨t, g, y, u, hM, hA, okt, hT, hR, ok, hY, hQ, oky⟩ := hJ
  obtain ⟨k2, k3, k4, k5, k6⟩ := nI_k i
  unfold fL_law_L273
  simp only [nI_1, k2, k3, k4, k5, k6]
  rw [q_rd (k := i + 1) (by omega) (by omega)]
  simp only [Option.bind_some]
  obtain ⟨b, T, B, g2, Y, C, y2, u2, e1, e2, r1, r2, o1, r3, r4, o2⟩ := sim_ownTag (S := S) (S2 := S2) hT hR ok hY hQ oky (xs (i + 1))
  rw [e1, e2]
  simp only [Option.bind_some, if_true]
  exact hK _ _ ⟨t, g2, y2, u2, hM, hA, okt, r1, r2, o1, r3, r4, o2⟩
theorem cs_296 {ln i : Nat} {xs : Nat → Int32} {K : pX → pR → Int32 → Option Bool} {S : pX} {S2 : pR} (hl : ln ≤ 3072) (hi : i + 6 ≤ ln) (hJ : JJ S S2) (hK : ∀ (Q : pX) (Q2 : pR), JJ Q Q2 → K Q Q2 (nI (i + 6)) = some true) : fL_law_L296 ln xs K S S2 (nI i) = some true := by
  obtain ⟨t, g, y, u, hM, hA, okt, hT, hR, ok, hY, hQ, oky⟩ := hJ
  obtain ⟨k2, k3, k4, k5, k6⟩ := nI_k i
  unfold fL_law_L296
  simp only [nI_1, k2, k3, k4, k5, k6]
  rw [q_rd (k := i + 1) (by omega) (by omega)]
  rw [q_rd (k := i + 2) (by omega) (by omega)]
  simp only [Option.bind_some]
  obtain ⟨b, T, B, g2, e1, e2, r1, r2, o1⟩ := sim_extend (S := S) (S2 := S2) hT hR ok (xs (i + 1)) (xs (i + 2))
  rw [e1, e2]
  simp only [Option.bind_some, if_true]
  exact hK _ _ ⟨t, g2, y, u, hM, hA, okt, r1, r2, o1, hY, hQ, oky⟩
theorem cs_329 {ln i : Nat} {xs : Nat → Int32} {K : pX → pR → Int32 → Option Bool} {S : pX} {S2 : pR} (hl : ln ≤ 3072) (hi : i + 6 ≤ ln) (hJ : JJ S S2) (hK : ∀ (Q : pX) (Q2 : pR), JJ Q Q2 → K Q Q2 (nI (i + 6)) = some true) : fL_law_L329 ln xs K S S2 (nI i) = some true := by
  obtain ⟨t, g, y, u, hM, hA, okt, hT, hR, ok, hY, hQ, oky⟩ := hJ
  obtain ⟨k2, k3, k4, k5, k6⟩ := nI_k i
  unfold fL_law_L329
  simp only [nI_1, k2, k3, k4, k5, k6]
  rw [q_rd (k := i + 1) (by omega) (by omega)]
  rw [q_rd (k := i + 2) (by omega) (by omega)]
  rw [q_rd (k := i + 3) (by omega) (by omega)]
  simp only [Option.bind_some]
  obtain ⟨b, T, B, g2, e1, e2, r1, r2, o1⟩ := sim_spoil (S := S) (S2 := S2) hT hR ok (xs (i + 1)) (xs (i + 2)) (xs (i + 3))
  rw [e1, e2]
  simp only [Option.bind_some, if_true]
  exact hK _ _ ⟨t, g2, y, u, hM, hA, okt, r1, r2, o1, hY, hQ, oky⟩
theorem cs_372 {ln i : Nat} {xs : Nat → Int32} {K : pX → pR → Int32 → Option Bool} {S : pX} {S2 : pR} (hl : ln ≤ 3072) (hi : i + 6 ≤ ln) (hJ : JJ S S2) (hK : ∀ (Q : pX) (Q2 : pR), JJ Q Q2 → K Q Q2 (nI (i + 6)) = some true) : fL_law_L372 ln xs K S S2 (nI i) = some true := by
  obtain ⟨t, g, y, u, hM, hA, okt, hT, hR, ok, hY, hQ, oky⟩ := hJ
  obtain ⟨k2, k3, k4, k5, k6⟩ := nI_k i
  unfold fL_law_L372
  simp only [nI_1, k2, k3, k4, k5, k6]
  rw [q_rd (k := i + 1) (by omega) (by omega)]
  rw [q_rd (k := i + 2) (by omega) (by omega)]
  simp only [Option.bind_some]
  have go : ∀ on : Bool, ((fX_halts S (xs (i + 1)) on).bind fun q1 => (fR_halts S2 (xs (i + 1)) on).bind fun q2 => if p_b q1.1 = p_b q2.1 then K q1.2 q2.2 (nI (i + 6)) else some false) = some true := by
    intro on
    obtain ⟨b, T, B, g2, e1, e2, r1, r2, o1⟩ := sim_halts (S := S) (S2 := S2) hT hR ok (xs (i + 1)) on
    rw [e1, e2]
    simp only [Option.bind_some, if_true]
    exact hK _ _ ⟨t, g2, y, u, hM, hA, okt, r1, r2, o1, hY, hQ, oky⟩
  split
  · exact go false
  · exact go true
theorem cs_421 {ln i : Nat} {xs : Nat → Int32} {K : pX → pR → Int32 → Option Bool} {S : pX} {S2 : pR} (hl : ln ≤ 3072) (hi : i + 6 ≤ ln) (hJ : JJ S S2) (hK : ∀ (Q : pX) (Q2 : pR), JJ Q Q2 → K Q Q2 (nI (i + 6)) = some true) : fL_law_L421 ln xs K S S2 (nI i) = some true := by
  obtain ⟨t, g, y, u, hM, hA, okt, hT, hR, ok, hY, hQ, oky⟩ := hJ
  obtain ⟨k2, k3, k4, k5, k6⟩ := nI_k i
  unfold fL_law_L421
  simp only [nI_1, k2, k3, k4, k5, k6]
  rw [q_rd (k := i + 1) (by omega) (by omega)]
  simp only [Option.bind_some]
  obtain ⟨b, T, B, g2, e1, e2, r1, r2, o1⟩ := sim_put (S := S) (S2 := S2) hT hR ok (xs (i + 1))
  rw [e1, e2]
  simp only [Option.bind_some, if_true]
  exact hK _ _ ⟨t, g2, y, u, hM, hA, okt, r1, r2, o1, hY, hQ, oky⟩
theorem cs_444 {ln i : Nat} {xs : Nat → Int32} {K : pX → pR → Int32 → Option Bool} {S : pX} {S2 : pR} (hl : ln ≤ 3072) (hi : i + 6 ≤ ln) (hJ : JJ S S2) (hK : ∀ (Q : pX) (Q2 : pR), JJ Q Q2 → K Q Q2 (nI (i + 6)) = some true) : fL_law_L444 ln xs K S S2 (nI i) = some true := by
  obtain ⟨t, g, y, u, hM, hA, okt, hT, hR, ok, hY, hQ, oky⟩ := hJ
  obtain ⟨k2, k3, k4, k5, k6⟩ := nI_k i
  unfold fL_law_L444
  simp only [nI_1, k2, k3, k4, k5, k6]
  rw [q_rd (k := i + 1) (by omega) (by omega)]
  rw [q_rd (k := i + 2) (by omega) (by omega)]
  simp only [Option.bind_some]
  obtain ⟨b, e1, e2⟩ := sim_production (S := S) (S2 := S2) hT hR ok (xs (i + 1)) (xs (i + 2))
  rw [e1, e2]
  simp only [Option.bind_some, if_true]
  exact hK _ _ ⟨t, g, y, u, hM, hA, okt, hT, hR, ok, hY, hQ, oky⟩
theorem cs_477 {ln i : Nat} {xs : Nat → Int32} {K : pX → pR → Int32 → Option Bool} {S : pX} {S2 : pR} (hl : ln ≤ 3072) (hi : i + 6 ≤ ln) (hJ : JJ S S2) (hK : ∀ (Q : pX) (Q2 : pR), JJ Q Q2 → K Q Q2 (nI (i + 6)) = some true) : fL_law_L477 ln xs K S S2 (nI i) = some true := by
  obtain ⟨t, g, y, u, hM, hA, okt, hT, hR, ok, hY, hQ, oky⟩ := hJ
  obtain ⟨k2, k3, k4, k5, k6⟩ := nI_k i
  unfold fL_law_L477
  simp only [nI_1, k2, k3, k4, k5, k6]
  obtain ⟨b, Y, C, y2, u2, e1, e2, r1, r2, o1⟩ := sim_compileCyclic (S := S) (S2 := S2) hT hR ok hY hQ oky 
  rw [e1, e2]
  simp only [Option.bind_some, if_true]
  exact hK _ _ ⟨t, g, y2, u2, hM, hA, okt, hT, hR, ok, r1, r2, o1⟩
theorem cs_490 {ln i : Nat} {xs : Nat → Int32} {K : pX → pR → Int32 → Option Bool} {S : pX} {S2 : pR} (hl : ln ≤ 3072) (hi : i + 6 ≤ ln) (hJ : JJ S S2) (hK : ∀ (Q : pX) (Q2 : pR), JJ Q Q2 → K Q Q2 (nI (i + 6)) = some true) : fL_law_L490 ln xs K S S2 (nI i) = some true := by
  obtain ⟨t, g, y, u, hM, hA, okt, hT, hR, ok, hY, hQ, oky⟩ := hJ
  obtain ⟨k2, k3, k4, k5, k6⟩ := nI_k i
  unfold fL_law_L490
  simp only [nI_1, k2, k3, k4, k5, k6]
  rw [q_rd (k := i + 1) (by omega) (by omega)]
  rw [q_rd (k := i + 2) (by omega) (by omega)]
  simp only [Option.bind_some]
  obtain ⟨b, e1, e2⟩ := sim_appendant (S := S) (S2 := S2) hY hQ oky (xs (i + 1)) (xs (i + 2))
  rw [e1, e2]
  simp only [Option.bind_some, if_true]
  exact hK _ _ ⟨t, g, y, u, hM, hA, okt, hT, hR, ok, hY, hQ, oky⟩
theorem cs_523 {ln i : Nat} {xs : Nat → Int32} {K : pX → pR → Int32 → Option Bool} {S : pX} {S2 : pR} (hl : ln ≤ 3072) (hi : i + 6 ≤ ln) (hJ : JJ S S2) (hK : ∀ (Q : pX) (Q2 : pR), JJ Q Q2 → K Q Q2 (nI (i + 6)) = some true) : fL_law_L523 ln xs K S S2 (nI i) = some true := by
  obtain ⟨t, g, y, u, hM, hA, okt, hT, hR, ok, hY, hQ, oky⟩ := hJ
  obtain ⟨k2, k3, k4, k5, k6⟩ := nI_k i
  unfold fL_law_L523
  simp only [nI_1, k2, k3, k4, k5, k6]
  rw [q_rd (k := i + 1) (by omega) (by omega)]
  simp only [Option.bind_some]
  obtain ⟨b, M, A, t2, e1, e2, r1, r2, o1⟩ := sim_stepTape (S := S) (S2 := S2) hM hA okt (xs (i + 1))
  rw [e1, e2]
  simp only [Option.bind_some, if_true]
  exact hK _ _ ⟨t2, g, y, u, r1, r2, o1, hT, hR, ok, hY, hQ, oky⟩
theorem cs_546 {ln i : Nat} {xs : Nat → Int32} {K : pX → pR → Int32 → Option Bool} {S : pX} {S2 : pR} (hl : ln ≤ 3072) (hi : i + 6 ≤ ln) (hJ : JJ S S2) (hK : ∀ (Q : pX) (Q2 : pR), JJ Q Q2 → K Q Q2 (nI (i + 6)) = some true) : fL_law_L546 ln xs K S S2 (nI i) = some true := by
  obtain ⟨t, g, y, u, hM, hA, okt, hT, hR, ok, hY, hQ, oky⟩ := hJ
  obtain ⟨k2, k3, k4, k5, k6⟩ := nI_k i
  unfold fL_law_L546
  simp only [nI_1, k2, k3, k4, k5, k6]
  rw [q_rd (k := i + 1) (by omega) (by omega)]
  simp only [Option.bind_some]
  obtain ⟨b, T, B, g2, e1, e2, r1, r2, o1⟩ := sim_stepTag (S := S) (S2 := S2) hT hR ok (xs (i + 1))
  rw [e1, e2]
  simp only [Option.bind_some, if_true]
  exact hK _ _ ⟨t, g2, y, u, hM, hA, okt, r1, r2, o1, hY, hQ, oky⟩
theorem cs_569 {ln i : Nat} {xs : Nat → Int32} {K : pX → pR → Int32 → Option Bool} {S : pX} {S2 : pR} (hl : ln ≤ 3072) (hi : i + 6 ≤ ln) (hJ : JJ S S2) (hK : ∀ (Q : pX) (Q2 : pR), JJ Q Q2 → K Q Q2 (nI (i + 6)) = some true) : fL_law_L569 ln xs K S S2 (nI i) = some true := by
  obtain ⟨t, g, y, u, hM, hA, okt, hT, hR, ok, hY, hQ, oky⟩ := hJ
  obtain ⟨k2, k3, k4, k5, k6⟩ := nI_k i
  unfold fL_law_L569
  simp only [nI_1, k2, k3, k4, k5, k6]
  rw [q_rd (k := i + 1) (by omega) (by omega)]
  simp only [Option.bind_some]
  obtain ⟨b, Y, C, y2, u2, e1, e2, r1, r2, o1⟩ := sim_stepCyclic (S := S) (S2 := S2) hY hQ oky (xs (i + 1))
  rw [e1, e2]
  simp only [Option.bind_some, if_true]
  exact hK _ _ ⟨t, g, y2, u2, hM, hA, okt, hT, hR, ok, r1, r2, o1⟩
theorem cs_592 {ln i : Nat} {xs : Nat → Int32} {K : pX → pR → Int32 → Option Bool} {S : pX} {S2 : pR} (hl : ln ≤ 3072) (hi : i + 6 ≤ ln) (hJ : JJ S S2) (hK : ∀ (Q : pX) (Q2 : pR), JJ Q Q2 → K Q Q2 (nI (i + 6)) = some true) : fL_law_L592 ln xs K S S2 (nI i) = some true := by
  obtain ⟨t, g, y, u, hM, hA, okt, hT, hR, ok, hY, hQ, oky⟩ := hJ
  obtain ⟨k2, k3, k4, k5, k6⟩ := nI_k i
  unfold fL_law_L592
  simp only [nI_1, k2, k3, k4, k5, k6]
  rw [q_rd (k := i + 1) (by omega) (by omega)]
  simp only [Option.bind_some]
  obtain ⟨b, e1, e2⟩ := sim_tapeNow (S := S) (S2 := S2) hM hA okt (xs (i + 1))
  rw [e1, e2]
  simp only [Option.bind_some, if_true]
  exact hK _ _ ⟨t, g, y, u, hM, hA, okt, hT, hR, ok, hY, hQ, oky⟩
theorem cs_615 {ln i : Nat} {xs : Nat → Int32} {K : pX → pR → Int32 → Option Bool} {S : pX} {S2 : pR} (hl : ln ≤ 3072) (hi : i + 6 ≤ ln) (hJ : JJ S S2) (hK : ∀ (Q : pX) (Q2 : pR), JJ Q Q2 → K Q Q2 (nI (i + 6)) = some true) : fL_law_L615 ln xs K S S2 (nI i) = some true := by
  obtain ⟨t, g, y, u, hM, hA, okt, hT, hR, ok, hY, hQ, oky⟩ := hJ
  obtain ⟨k2, k3, k4, k5, k6⟩ := nI_k i
  unfold fL_law_L615
  simp only [nI_1, k2, k3, k4, k5, k6]
  rw [q_rd (k := i + 1) (by omega) (by omega)]
  simp only [Option.bind_some]
  obtain ⟨b, e1, e2⟩ := sim_tagNow (S := S) (S2 := S2) hT hR ok (xs (i + 1))
  rw [e1, e2]
  simp only [Option.bind_some, if_true]
  exact hK _ _ ⟨t, g, y, u, hM, hA, okt, hT, hR, ok, hY, hQ, oky⟩
theorem cs_638 {ln i : Nat} {xs : Nat → Int32} {K : pX → pR → Int32 → Option Bool} {S : pX} {S2 : pR} (hl : ln ≤ 3072) (hi : i + 6 ≤ ln) (hJ : JJ S S2) (hK : ∀ (Q : pX) (Q2 : pR), JJ Q Q2 → K Q Q2 (nI (i + 6)) = some true) : fL_law_L638 ln xs K S S2 (nI i) = some true := by
  obtain ⟨t, g, y, u, hM, hA, okt, hT, hR, ok, hY, hQ, oky⟩ := hJ
  obtain ⟨k2, k3, k4, k5, k6⟩ := nI_k i
  unfold fL_law_L638
  simp only [nI_1, k2, k3, k4, k5, k6]
  rw [q_rd (k := i + 1) (by omega) (by omega)]
  simp only [Option.bind_some]
  obtain ⟨b, e1, e2⟩ := sim_cyclicNow (S := S) (S2 := S2) hY hQ oky (xs (i + 1))
  rw [e1, e2]
  simp only [Option.bind_some, if_true]
  exact hK _ _ ⟨t, g, y, u, hM, hA, okt, hT, hR, ok, hY, hQ, oky⟩
theorem cs_661 {ln i : Nat} {xs : Nat → Int32} {K : pX → pR → Int32 → Option Bool} {S : pX} {S2 : pR} (hl : ln ≤ 3072) (hi : i + 6 ≤ ln) (hJ : JJ S S2) (hK : ∀ (Q : pX) (Q2 : pR), JJ Q Q2 → K Q Q2 (nI (i + 6)) = some true) : fL_law_L661 ln xs K S S2 (nI i) = some true := by
  obtain ⟨t, g, y, u, hM, hA, okt, hT, hR, ok, hY, hQ, oky⟩ := hJ
  obtain ⟨k2, k3, k4, k5, k6⟩ := nI_k i
  unfold fL_law_L661
  simp only [nI_1, k2, k3, k4, k5, k6]
  rw [q_rd (k := i + 1) (by omega) (by omega)]
  simp only [Option.bind_some]
  obtain ⟨b, e1, e2⟩ := sim_tagLetter (S := S) (S2 := S2) hT hR ok (xs (i + 1))
  rw [e1, e2]
  simp only [Option.bind_some, if_true]
  exact hK _ _ ⟨t, g, y, u, hM, hA, okt, hT, hR, ok, hY, hQ, oky⟩
theorem cs_684 {ln i : Nat} {xs : Nat → Int32} {K : pX → pR → Int32 → Option Bool} {S : pX} {S2 : pR} (hl : ln ≤ 3072) (hi : i + 6 ≤ ln) (hJ : JJ S S2) (hK : ∀ (Q : pX) (Q2 : pR), JJ Q Q2 → K Q Q2 (nI (i + 6)) = some true) : fL_law_L684 ln xs K S S2 (nI i) = some true := by
  obtain ⟨t, g, y, u, hM, hA, okt, hT, hR, ok, hY, hQ, oky⟩ := hJ
  obtain ⟨k2, k3, k4, k5, k6⟩ := nI_k i
  unfold fL_law_L684
  simp only [nI_1, k2, k3, k4, k5, k6]
  rw [q_rd (k := i + 1) (by omega) (by omega)]
  simp only [Option.bind_some]
  obtain ⟨b, e1, e2⟩ := sim_cyclicBit (S := S) (S2 := S2) hY hQ oky (xs (i + 1))
  rw [e1, e2]
  simp only [Option.bind_some, if_true]
  exact hK _ _ ⟨t, g, y, u, hM, hA, okt, hT, hR, ok, hY, hQ, oky⟩
theorem cs_707 {ln i : Nat} {xs : Nat → Int32} {K : pX → pR → Int32 → Option Bool} {S : pX} {S2 : pR} (hl : ln ≤ 3072) (hi : i + 6 ≤ ln) (hJ : JJ S S2) (hK : ∀ (Q : pX) (Q2 : pR), JJ Q Q2 → K Q Q2 (nI (i + 6)) = some true) : fL_law_L707 ln xs K S S2 (nI i) = some true := by
  obtain ⟨t, g, y, u, hM, hA, okt, hT, hR, ok, hY, hQ, oky⟩ := hJ
  obtain ⟨k2, k3, k4, k5, k6⟩ := nI_k i
  unfold fL_law_L707
  simp only [nI_1, k2, k3, k4, k5, k6]
  rw [q_rd (k := i + 1) (by omega) (by omega)]
  simp only [Option.bind_some]
  obtain ⟨b, C, D, e1, e2⟩ := sim_decodeTag (S := S) (S2 := S2) hT hR ok (xs (i + 1))
  rw [e1, e2]
  simp only [Option.bind_some, if_true]
  exact hK _ _ ⟨t, g, y, u, hM, hA, okt, hT, hR, ok, hY, hQ, oky⟩
theorem cs_730 {ln i : Nat} {xs : Nat → Int32} {K : pX → pR → Int32 → Option Bool} {S : pX} {S2 : pR} (hl : ln ≤ 3072) (hi : i + 6 ≤ ln) (hJ : JJ S S2) (hK : ∀ (Q : pX) (Q2 : pR), JJ Q Q2 → K Q Q2 (nI (i + 6)) = some true) : fL_law_L730 ln xs K S S2 (nI i) = some true := by
  obtain ⟨t, g, y, u, hM, hA, okt, hT, hR, ok, hY, hQ, oky⟩ := hJ
  obtain ⟨k2, k3, k4, k5, k6⟩ := nI_k i
  unfold fL_law_L730
  simp only [nI_1, k2, k3, k4, k5, k6]
  rw [q_rd (k := i + 1) (by omega) (by omega)]
  simp only [Option.bind_some]
  obtain ⟨b, e1, e2⟩ := sim_decodeCyclic (S := S) (S2 := S2) hY hQ oky (xs (i + 1))
  rw [e1, e2]
  simp only [Option.bind_some, if_true]
  exact hK _ _ ⟨t, g, y, u, hM, hA, okt, hT, hR, ok, hY, hQ, oky⟩
theorem cs_753 {ln i : Nat} {xs : Nat → Int32} {K : pX → pR → Int32 → Option Bool} {S : pX} {S2 : pR} (hl : ln ≤ 3072) (hi : i + 6 ≤ ln) (hJ : JJ S S2) (hK : ∀ (Q : pX) (Q2 : pR), JJ Q Q2 → K Q Q2 (nI (i + 6)) = some true) : fL_law_L753 ln xs K S S2 (nI i) = some true := by
  obtain ⟨t, g, y, u, hM, hA, okt, hT, hR, ok, hY, hQ, oky⟩ := hJ
  obtain ⟨k2, k3, k4, k5, k6⟩ := nI_k i
  unfold fL_law_L753
  simp only [nI_1, k2, k3, k4, k5, k6]
  obtain ⟨b, T, C, B, D, g2, e1, e2, r1, r2, o1, -⟩ := sim_border (S := S) (S2 := S2) hT hR ok
  rw [e1, e2]
  simp only [Option.bind_some, if_true]
  exact hK _ _ ⟨t, g2, y, u, hM, hA, okt, r1, r2, o1, hY, hQ, oky⟩
theorem cs_766 {ln i : Nat} {xs : Nat → Int32} {K : pX → pR → Int32 → Option Bool} {S : pX} {S2 : pR} (hl : ln ≤ 3072) (hi : i + 6 ≤ ln) (hJ : JJ S S2) (hK : ∀ (Q : pX) (Q2 : pR), JJ Q Q2 → K Q Q2 (nI (i + 6)) = some true) : fL_law_L766 ln xs K S S2 (nI i) = some true := by
  obtain ⟨t, g, y, u, hM, hA, okt, hT, hR, ok, hY, hQ, oky⟩ := hJ
  obtain ⟨k2, k3, k4, k5, k6⟩ := nI_k i
  unfold fL_law_L766
  simp only [nI_1, k2, k3, k4, k5, k6]
  rw [q_rd (k := i + 1) (by omega) (by omega)]
  rw [q_rd (k := i + 2) (by omega) (by omega)]
  rw [q_rd (k := i + 3) (by omega) (by omega)]
  rw [q_rd (k := i + 4) (by omega) (by omega)]
  simp only [Option.bind_some]
  obtain ⟨b, e1, e2⟩ := sim_roundCost (S := S) (S2 := S2) hM hA okt (xs (i + 1)) (xs (i + 2)) (xs (i + 3)) (xs (i + 4))
  rw [e1, e2]
  simp only [Option.bind_some, if_true]
  exact hK _ _ ⟨t, g, y, u, hM, hA, okt, hT, hR, ok, hY, hQ, oky⟩
theorem cs_819 {ln i : Nat} {xs : Nat → Int32} {K : pX → pR → Int32 → Option Bool} {S : pX} {S2 : pR} (hl : ln ≤ 3072) (hi : i + 6 ≤ ln) (hJ : JJ S S2) (hK : ∀ (Q : pX) (Q2 : pR), JJ Q Q2 → K Q Q2 (nI (i + 6)) = some true) : fL_law_L819 ln xs K S S2 (nI i) = some true := by
  obtain ⟨t, g, y, u, hM, hA, okt, hT, hR, ok, hY, hQ, oky⟩ := hJ
  obtain ⟨k2, k3, k4, k5, k6⟩ := nI_k i
  unfold fL_law_L819
  simp only [nI_1, k2, k3, k4, k5, k6]
  rw [q_rd (k := i + 1) (by omega) (by omega)]
  simp only [Option.bind_some]
  obtain ⟨b, M, T, C, A, B, D, t2, g2, e1, e2, r1, r2, o1, r3, r4, o2⟩ := sim_lockStep (S := S) (S2 := S2) hM hA okt hT hR ok (xs (i + 1))
  rw [e1, e2]
  simp only [Option.bind_some, if_true]
  exact hK _ _ ⟨t2, g2, y, u, r1, r2, o1, r3, r4, o2, hY, hQ, oky⟩
theorem law_loop {ln : Nat} {xs : Nat → Int32} (hl : ln ≤ 3072) : ∀ (n i : Nat) (S : pX) (S2 : pR), ln < i + 6 * n → i ≤ ln → JJ S S2 → fL_law_L18 ln xs n S S2 (nI i) = some true := by
  intro n
  induction n with
  | zero => intro i S S2 h1 h2 hJ; omega
  | succ n ih =>
    intro i S S2 h1 h2 hJ
    rw [fL_law_L18]
    by_cases he : i + 6 ≤ ln
    · have e6 : ¬ nI ln - (6 : Int32) < nI i := by
        rw [show (6 : Int32) = nI 6 from rfl, pk_sub (by omega)]
        exact nI_nlt (by omega) (by omega)
      rw [if_neg e6, q_rd (by omega) (by omega)]
      simp only [Option.bind_some]
      have hK : ∀ (Q : pX) (Q2 : pR), JJ Q Q2 → fL_law_L18 ln xs n Q Q2 (nI (i + 6)) = some true := fun Q Q2 h => ih (i + 6) Q Q2 (by omega) (by omega) h
      by_cases c0 : (xs i &&& (31 : Int32)) = (0 : Int32)
      · rw [if_pos c0]
        exact cs_144 (K := fun S S2 w3 => fL_law_L18 ln xs n S S2 w3) hl he hJ hK
      rw [if_neg c0]
      by_cases c1 : (xs i &&& (31 : Int32)) = (1 : Int32)
      · rw [if_pos c1]
        exact cs_207 (K := fun S S2 w3 => fL_law_L18 ln xs n S S2 w3) hl he hJ hK
      rw [if_neg c1]
      by_cases c2 : (xs i &&& (31 : Int32)) = (2 : Int32)
      · rw [if_pos c2]
        exact cs_260 (K := fun S S2 w3 => fL_law_L18 ln xs n S S2 w3) hl he hJ hK
      rw [if_neg c2]
      by_cases c3 : (xs i &&& (31 : Int32)) = (3 : Int32)
      · rw [if_pos c3]
        exact cs_273 (K := fun S S2 w3 => fL_law_L18 ln xs n S S2 w3) hl he hJ hK
      rw [if_neg c3]
      by_cases c4 : (xs i &&& (31 : Int32)) = (4 : Int32)
      · rw [if_pos c4]
        exact cs_296 (K := fun S S2 w3 => fL_law_L18 ln xs n S S2 w3) hl he hJ hK
      rw [if_neg c4]
      by_cases c5 : (xs i &&& (31 : Int32)) = (5 : Int32)
      · rw [if_pos c5]
        exact cs_329 (K := fun S S2 w3 => fL_law_L18 ln xs n S S2 w3) hl he hJ hK
      rw [if_neg c5]
      by_cases c6 : (xs i &&& (31 : Int32)) = (6 : Int32)
      · rw [if_pos c6]
        exact cs_372 (K := fun S S2 w3 => fL_law_L18 ln xs n S S2 w3) hl he hJ hK
      rw [if_neg c6]
      by_cases c7 : (xs i &&& (31 : Int32)) = (7 : Int32)
      · rw [if_pos c7]
        exact cs_421 (K := fun S S2 w3 => fL_law_L18 ln xs n S S2 w3) hl he hJ hK
      rw [if_neg c7]
      by_cases c8 : (xs i &&& (31 : Int32)) = (8 : Int32)
      · rw [if_pos c8]
        exact cs_444 (K := fun S S2 w3 => fL_law_L18 ln xs n S S2 w3) hl he hJ hK
      rw [if_neg c8]
      by_cases c9 : (xs i &&& (31 : Int32)) = (9 : Int32)
      · rw [if_pos c9]
        exact cs_477 (K := fun S S2 w3 => fL_law_L18 ln xs n S S2 w3) hl he hJ hK
      rw [if_neg c9]
      by_cases c10 : (xs i &&& (31 : Int32)) = (10 : Int32)
      · rw [if_pos c10]
        exact cs_490 (K := fun S S2 w3 => fL_law_L18 ln xs n S S2 w3) hl he hJ hK
      rw [if_neg c10]
      by_cases c11 : (xs i &&& (31 : Int32)) = (11 : Int32)
      · rw [if_pos c11]
        exact cs_523 (K := fun S S2 w3 => fL_law_L18 ln xs n S S2 w3) hl he hJ hK
      rw [if_neg c11]
      by_cases c12 : (xs i &&& (31 : Int32)) = (12 : Int32)
      · rw [if_pos c12]
        exact cs_546 (K := fun S S2 w3 => fL_law_L18 ln xs n S S2 w3) hl he hJ hK
      rw [if_neg c12]
      by_cases c13 : (xs i &&& (31 : Int32)) = (13 : Int32)
      · rw [if_pos c13]
        exact cs_569 (K := fun S S2 w3 => fL_law_L18 ln xs n S S2 w3) hl he hJ hK
      rw [if_neg c13]
      by_cases c14 : (xs i &&& (31 : Int32)) = (14 : Int32)
      · rw [if_pos c14]
        exact cs_592 (K := fun S S2 w3 => fL_law_L18 ln xs n S S2 w3) hl he hJ hK
      rw [if_neg c14]
      by_cases c15 : (xs i &&& (31 : Int32)) = (15 : Int32)
      · rw [if_pos c15]
        exact cs_615 (K := fun S S2 w3 => fL_law_L18 ln xs n S S2 w3) hl he hJ hK
      rw [if_neg c15]
      by_cases c16 : (xs i &&& (31 : Int32)) = (16 : Int32)
      · rw [if_pos c16]
        exact cs_638 (K := fun S S2 w3 => fL_law_L18 ln xs n S S2 w3) hl he hJ hK
      rw [if_neg c16]
      by_cases c17 : (xs i &&& (31 : Int32)) = (17 : Int32)
      · rw [if_pos c17]
        exact cs_661 (K := fun S S2 w3 => fL_law_L18 ln xs n S S2 w3) hl he hJ hK
      rw [if_neg c17]
      by_cases c18 : (xs i &&& (31 : Int32)) = (18 : Int32)
      · rw [if_pos c18]
        exact cs_684 (K := fun S S2 w3 => fL_law_L18 ln xs n S S2 w3) hl he hJ hK
      rw [if_neg c18]
      by_cases c19 : (xs i &&& (31 : Int32)) = (19 : Int32)
      · rw [if_pos c19]
        exact cs_707 (K := fun S S2 w3 => fL_law_L18 ln xs n S S2 w3) hl he hJ hK
      rw [if_neg c19]
      by_cases c20 : (xs i &&& (31 : Int32)) = (20 : Int32)
      · rw [if_pos c20]
        exact cs_730 (K := fun S S2 w3 => fL_law_L18 ln xs n S S2 w3) hl he hJ hK
      rw [if_neg c20]
      by_cases c21 : (xs i &&& (31 : Int32)) = (21 : Int32)
      · rw [if_pos c21]
        exact cs_753 (K := fun S S2 w3 => fL_law_L18 ln xs n S S2 w3) hl he hJ hK
      rw [if_neg c21]
      by_cases c22 : (xs i &&& (31 : Int32)) = (22 : Int32)
      · rw [if_pos c22]
        exact cs_766 (K := fun S S2 w3 => fL_law_L18 ln xs n S S2 w3) hl he hJ hK
      rw [if_neg c22]
      by_cases c23 : (xs i &&& (31 : Int32)) = (23 : Int32)
      · rw [if_pos c23]
        exact cs_819 (K := fun S S2 w3 => fL_law_L18 ln xs n S S2 w3) hl he hJ hK
      rw [if_neg c23]
      rw [(nI_k i).2.2.2.2]
      exact hK S S2 hJ
    · by_cases h6 : 6 ≤ ln
      · rw [if_pos (by
          rw [show (6 : Int32) = nI 6 from rfl, pk_sub h6]
          exact nI_lt (by omega) (by omega))]
      · rw [if_pos (by
          apply Int32.lt_iff_toInt_lt.mpr
          have a := nI_toInt (n := i) (by omega)
          have b : (nI ln - (6 : Int32)).toInt = (ln : Int) - 6 := by
            rw [show (6 : Int32) = nI 6 from rfl, pk_sub_toInt (by omega) (by decide)]
            rfl
          omega)]


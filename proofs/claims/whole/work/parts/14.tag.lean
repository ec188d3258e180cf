/-! the tag system: L, N (states of a made one, 0 for the user's), productions, halting, word -/
abbrev sp_G : Type := Nat × Nat × (Nat → List Nat) × (Nat → Bool) × List Nat
def rpG (S : pT) (g : sp_G) : Prop := S.2.2.2.2.2.2.1 = nI g.1 ∧ S.2.2.2.2.2.2.2 = nI g.2.1 ∧ rpP S.1 S.2.1 S.2.2.1 g.1 g.2.2.1 g.2.2.2.1 ∧ rpW S.2.2.2.1 S.2.2.2.2.1 S.2.2.2.2.2.1 g.2.2.2.2
def rqG (S : pRb) (g : sp_G) : Prop := S.1 = nI g.1 ∧ S.2.1 = decide (0 < g.2.1) ∧ rqP S.2.2.1 S.2.2.2.1 S.2.2.2.2.1 g.1 g.2.2.1 g.2.2.2.1 ∧ rqW S.2.2.2.2.2.1 S.2.2.2.2.2.2.1 S.2.2.2.2.2.2.2 g.2.2.2.2
def okG (g : sp_G) : Prop := okP g.1 g.2.2.1 ∧ g.2.2.2.2.length ≤ 4000 ∧ (∀ w ∈ g.2.2.2.2, w < g.1) ∧ g.2.1 ≤ 8 ∧ (0 < g.2.1 → g.1 = 1 + 36 * g.2.1)
theorem sim_extend {S : pX} {S2 : pR} {g : sp_G} (hT : rpG S.2.1 g) (hR : rqG S2.2.1 g) (ok : okG g) (v1 v2 : Int32) :
    ∃ b T B g', fX_extend S v1 v2 = some (b, (S.1, T, S.2.2)) ∧ fR_extend S2 v1 v2 = some (b, (S2.1, B, S2.2.2)) ∧ rpG T g' ∧ rqG B g' ∧ okG g' := by
  have hLe : S.2.1.2.2.2.2.2.2.1 = S2.2.1.1 := by rw [hT.1, hR.1]
  have hL3 := ok.1.1
  unfold fX_extend fR_extend
  rw [isL_eq hLe, isL_eq hLe]
  by_cases h1 : fT_hasLetter S.2.1 v1 = true
  · by_cases h2 : fT_hasLetter S.2.1 v2 = true
    · obtain ⟨v, hv, rfl⟩ := hasL_of hT.1 ok.1.1 h1
      obtain ⟨w, hw, rfl⟩ := hasL_of hT.1 ok.1.1 h2
      have h12 := (ok.1.2 v hv).1
      rw [if_pos h1, if_pos h2, q_rd (by omega) (by decide), (hR.2.2.1 v hv).1]
      simp only [Option.bind_some]
      have ha := sT_add hT.1 hT.2.2.1 ok.1 hv hw
      by_cases hlt : (g.2.2.1 v).length < 12
      · rw [if_pos hlt] at ha
        obtain ⟨P, Z, e, r⟩ := ha
        obtain ⟨p, l, e2, r2⟩ := sR_add (w := w) hR.2.2.1 ok.1 hv hlt
        rw [e, if_neg (show ¬ nI (g.2.2.1 v).length = (12 : Int32) from fun z => by
          rw [show (12 : Int32) = nI 12 from rfl, nI_eq (by omega) (by decide)] at z
          omega), e2]
        exact ⟨true, _, _, (g.1, g.2.1, pr_set g.2.2.1 v (g.2.2.1 v ++ [w]), g.2.2.2), rfl, rfl, ⟨hT.1, hT.2.1, r, hT.2.2.2⟩, ⟨hR.1, hR.2.1, r2, hR.2.2.2⟩, okP_add ok.1 hv hw hlt, ok.2.1, ok.2.2.1, ok.2.2.2⟩
      · rw [if_neg hlt] at ha
        rw [ha, if_pos (show nI (g.2.2.1 v).length = (12 : Int32) from by rw [show (g.2.2.1 v).length = 12 by omega]; rfl)]
        exact ⟨false, _, _, g, rfl, rfl, hT, hR, ok⟩
    · rw [if_pos h1, if_neg h2]
      unfold fT_addToProduction
      rw [if_pos h1, if_neg h2]
      exact ⟨false, _, _, g, rfl, rfl, hT, hR, ok⟩
  · rw [if_neg h1]
    unfold fT_addToProduction
    rw [if_neg h1]
    exact ⟨false, _, _, g, rfl, rfl, hT, hR, ok⟩
/-- what stands at a place of a production: -1 where there is none -/
def pl (g : sp_G) (v i : Int32) : Int32 := if v < 0 ∨ nI g.1 ≤ v then -1 else wl (g.2.2.1 v.toNatClampNeg) i
theorem sT_prodSize {S : pT} {g : sp_G} (hT : rpG S g) (ok : okP g.1 g.2.2.1) {v : Nat} (hv : v < g.1) : fT_productionSize S (nI v) = some (nI (g.2.2.1 v).length) := by
  have hL3 := ok.1
  unfold fT_productionSize
  rw [hasL_nI hT.1 ok.1 hv, if_pos rfl, q_rd (by omega) (by decide), (hT.2.2.1 v hv).1]
  rfl
theorem sT_prodSize0 {S : pT} {v : Int32} (h : ¬ fT_hasLetter S v = true) : fT_productionSize S v = some 0 := by
  unfold fT_productionSize
  rw [if_neg h]
theorem hasL_iff {S : pT} {L : Nat} (h : S.2.2.2.2.2.2.1 = nI L) (v : Int32) : fT_hasLetter S v = true ↔ ¬ (v < 0 ∨ nI L ≤ v) := by
  unfold fT_hasLetter
  rw [h]
  by_cases h1 : v < 0
  · simp [h1]
  · by_cases h2 : nI L ≤ v
    · simp [h1, h2]
    · simp [h1, h2]
theorem sT_unp {S : pT} {g : sp_G} (hT : rpG S g) (ok : okP g.1 g.2.2.1) {v i w : Nat} (hv : v < g.1) (hi : (g.2.2.1 v)[i]? = some w) : fT_unpack S (nI v) (nI i) = some (nI w) := by
  have hL3 := ok.1
  have h12 := (ok.2 v hv).1
  have hlt := (List.getElem?_eq_some_iff.mp hi).1
  rw [sT_unpack (by omega) (by omega), (hT.2.2.1 v hv).2.2 i w hi]
theorem sT_prodLetter {S : pT} {g : sp_G} (hT : rpG S g) (ok : okP g.1 g.2.2.1) (v i : Int32) : fT_productionLetter S v i = some (pl g v i) := by
  unfold fT_productionLetter pl
  by_cases h1 : fT_hasLetter S v = true
  · rw [if_neg ((hasL_iff hT.1 v).mp h1)]
    obtain ⟨n, hn, rfl⟩ := hasL_of hT.1 ok.1 h1
    have hL3 := ok.1
    have h12 := (ok.2 n hn).1
    rw [nI_clamp (by omega), sT_prodSize hT ok hn]
    by_cases h0 : i < 0
    · rw [if_pos h0]
      unfold wl
      rw [if_pos h0]
    · rw [if_neg h0]
      obtain ⟨j, hj, rfl⟩ := nI_of h0
      rw [wl_nI hj]
      simp only [Option.bind_some]
      by_cases hi : (g.2.2.1 n).length ≤ j
      · rw [if_pos (nI_le hi hj), List.getElem?_eq_none hi]
      · rw [if_neg (nI_ge (by omega) (by omega))]
        obtain ⟨w, hw⟩ : ∃ w, (g.2.2.1 n)[j]? = some w := ⟨_, List.getElem?_eq_getElem (by omega)⟩
        rw [sT_unp hT ok hn hw, hw]
        rfl
  · rw [if_pos (Classical.not_not.mp (fun z => h1 ((hasL_iff hT.1 v).mpr z))), sT_prodSize0 h1]
    by_cases h0 : i < 0
    · rw [if_pos h0]
    · rw [if_neg h0]
      obtain ⟨j, hj, rfl⟩ := nI_of h0
      simp only [Option.bind_some]
      rw [if_pos (show (0 : Int32) ≤ nI j from nI_pos' hj)]
theorem sR_production {S : pR} {g : sp_G} (hR : rqG S.2.1 g) (ok : okP g.1 g.2.2.1) (v i : Int32) : fR_production S v i = some (pl g v i) := by
  unfold fR_production pl
  have hi : fR_isLetter S v = true ↔ ¬ (v < 0 ∨ nI g.1 ≤ v) := by
    unfold fR_isLetter
    rw [hR.1]
    by_cases h1 : v < 0
    · simp [h1]
    · by_cases h2 : nI g.1 ≤ v
      · simp [h1, h2]
      · simp [h1, h2]
  have hL3 := ok.1
  by_cases h1 : v < 0 ∨ nI g.1 ≤ v
  · rw [if_pos h1, if_neg (fun z => hi.mp z h1)]
  · rw [if_neg h1, if_pos (hi.mpr h1)]
    obtain ⟨n, hn, rfl⟩ := nI_of (fun z => h1 (Or.inl z))
    have hn2 : n < g.1 := by
      apply Nat.lt_of_not_le
      intro z
      exact h1 (Or.inr (nI_le z hn))
    have h12 := (ok.2 n hn2).1
    rw [nI_clamp hn]
    by_cases h0 : i < 0
    · rw [if_pos h0]
      unfold wl
      rw [if_pos h0]
    · rw [if_neg h0]
      obtain ⟨j, hj, rfl⟩ := nI_of h0
      rw [wl_nI hj, q_rd (by omega) (by decide), (hR.2.2.1 n hn2).1]
      simp only [Option.bind_some]
      by_cases hij : (g.2.2.1 n).length ≤ j
      · rw [if_neg (nI_nlt hij hj), List.getElem?_eq_none hij]
      · rw [if_pos (nI_lt (by omega) (by omega)), show ((12 : Int32) * nI n) + nI j = nI (12 * n + j) from by rw [show (12 : Int32) = nI 12 from rfl, pk_mul, nI_add], q_rd (by omega) (by decide)]
        obtain ⟨w, hw⟩ : ∃ w, (g.2.2.1 n)[j]? = some w := ⟨_, List.getElem?_eq_getElem (by omega)⟩
        rw [hw, (hR.2.2.1 n hn2).2.2 j w hw]
        rfl
theorem sim_production {S : pX} {S2 : pR} {g : sp_G} (hT : rpG S.2.1 g) (hR : rqG S2.2.1 g) (ok : okG g) (v1 v2 : Int32) : ∃ b, fX_production S v1 v2 = some b ∧ fR_production S2 v1 v2 = some b := by
  unfold fX_production
  rw [sT_prodLetter hT ok.1, sR_production hR ok.1]
  exact ⟨_, rfl, rfl⟩
theorem sim_tagLetter {S : pX} {S2 : pR} {g : sp_G} (hT : rpG S.2.1 g) (hR : rqG S2.2.1 g) (ok : okG g) (v : Int32) : ∃ b, fX_tagLetter S v = some b ∧ fR_tagLetter S2 v = some b := by
  unfold fX_tagLetter
  rw [sT_wordLetter hT.2.2.2 (by have := ok.2.1; omega), sR_tagLetter hR.2.2.2]
  exact ⟨_, rfl, rfl⟩
theorem sim_put {S : pX} {S2 : pR} {g : sp_G} (hT : rpG S.2.1 g) (hR : rqG S2.2.1 g) (ok : okG g) (v : Int32) :
    ∃ b T B g', fX_put S v = some (b, (S.1, T, S.2.2)) ∧ fR_put S2 v = some (b, (S2.1, B, S2.2.2)) ∧ rpG T g' ∧ rqG B g' ∧ okG g' := by
  have hLe : S.2.1.2.2.2.2.2.2.1 = S2.2.1.1 := by rw [hT.1, hR.1]
  have hw := ok.2.1
  obtain ⟨fr, a1, a2, a3, a4⟩ := id hT.2.2.2
  obtain ⟨fq, b1, b2, b3, b4⟩ := id hR.2.2.2
  unfold fX_put fR_put
  rw [isL_eq hLe, a3, b1, b2, pk_sub (by omega), show fq + g.2.2.2.2.length - fq = g.2.2.2.2.length by omega]
  by_cases h1 : fT_hasLetter S.2.1 v = true
  · rw [if_pos h1, if_pos h1]
    obtain ⟨n, hn, rfl⟩ := hasL_of hT.1 ok.1.1 h1
    by_cases h2 : g.2.2.2.2.length < 4000
    · rw [if_pos (show nI g.2.2.2.2.length < (4000 : Int32) from nI_lt (b := 4000) h2 (by decide)), if_neg (show ¬ nI g.2.2.2.2.length = (4000 : Int32) from fun z => by
        rw [show (4000 : Int32) = nI 4000 from rfl, nI_eq (by omega) (by decide)] at z
        omega)]
      obtain ⟨w, z, e, r⟩ := sT_append hT.2.2.2 (by omega) n
      obtain ⟨w2, f2, z2, e2, r2⟩ := sR_push hR.2.2.2 (by omega) n
      rw [e, e2]
      refine ⟨true, _, _, (g.1, g.2.1, g.2.2.1, g.2.2.2.1, g.2.2.2.2 ++ [n]), rfl, rfl, ⟨hT.1, hT.2.1, hT.2.2.1, r⟩, ⟨hR.1, hR.2.1, hR.2.2.1, r2⟩, ok.1, by simp; omega, fun x hx => ?_, ok.2.2.2⟩
      rcases List.mem_append.mp hx with hx | hx
      · exact ok.2.2.1 x hx
      · rw [List.mem_singleton.mp hx]; exact hn
    · rw [if_neg (show ¬ nI g.2.2.2.2.length < (4000 : Int32) from nI_nlt (b := 4000) (by omega) (by omega)), if_pos (show nI g.2.2.2.2.length = (4000 : Int32) from by rw [show g.2.2.2.2.length = 4000 by omega]; rfl)]
      exact ⟨false, _, _, g, rfl, rfl, hT, hR, ok⟩
  · rw [if_neg h1, if_neg h1]
    exact ⟨false, _, _, g, rfl, rfl, hT, hR, ok⟩
theorem sim_halts {S : pX} {S2 : pR} {g : sp_G} (hT : rpG S.2.1 g) (hR : rqG S2.2.1 g) (ok : okG g) (v : Int32) (on : Bool) :
    ∃ b T B g', fX_halts S v on = some (b, (S.1, T, S.2.2)) ∧ fR_halts S2 v on = some (b, (S2.1, B, S2.2.2)) ∧ rpG T g' ∧ rqG B g' ∧ okG g' := by
  have hLe : S.2.1.2.2.2.2.2.2.1 = S2.2.1.1 := by rw [hT.1, hR.1]
  have hL3 := ok.1.1
  unfold fX_halts fT_setHalting fR_halts
  rw [isL_eq hLe]
  by_cases h1 : fT_hasLetter S.2.1 v = true
  · rw [if_pos h1, if_pos h1]
    obtain ⟨n, hn, rfl⟩ := hasL_of hT.1 ok.1.1 h1
    rw [q_wr (by omega) (by decide), q_wr (by omega) (by decide)]
    refine ⟨true, _, _, (g.1, g.2.1, g.2.2.1, fun u => if u = n then on else g.2.2.2.1 u, g.2.2.2.2), rfl, rfl, ⟨hT.1, hT.2.1, fun u hu => ?_, hT.2.2.2⟩, ⟨hR.1, hR.2.1, fun u hu => ?_, hR.2.2.2⟩, ok⟩
    · obtain ⟨k1, k2, k3⟩ := hT.2.2.1 u hu
      refine ⟨k1, ?_, k3⟩
      by_cases e : u = n
      · subst e
        simp only [if_true]
        exact pk_us
      · simp only [e, if_false]
        rw [← k2]
        exact pk_un e
    · obtain ⟨k1, k2, k3⟩ := hR.2.2.1 u hu
      refine ⟨k1, ?_, k3⟩
      by_cases e : u = n
      · subst e
        simp only [if_true]
        exact pk_us
      · simp only [e, if_false]
        rw [← k2]
        exact pk_un e
  · rw [if_neg h1, if_neg h1]
    exact ⟨false, _, _, g, rfl, rfl, hT, hR, ok⟩

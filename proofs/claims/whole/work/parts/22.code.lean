/-! reading a code, both sides -/
theorem base_nI {q s : Nat} (h : 1 ≤ q) : fG_base (nI q) (nI s) = nI (1 + 18 * sp_ix q s) := by
  unfold fG_base sp_ix
  simp (disch := omega) only [q_lit, nI_add, pk_mul, pk_sub]
theorem isBase_nI {k N : Nat} (hk : k < 300) (hN : N ≤ 8) : fG_isBase (nI k) (nI N) = decide (1 ≤ k ∧ k < 1 + 36 * N ∧ (k - 1) % 18 = 0) := by
  unfold fG_isBase
  rw [nI_1, show fG_base (nI (N + 1)) (0 : Int32) = nI (1 + 36 * N) from by
    rw [show (0 : Int32) = nI 0 from rfl, base_nI (by omega)]
    unfold sp_ix
    congr 1
    omega]
  by_cases h1 : k < 1
  · rw [if_pos (show nI k < (1 : Int32) from nI_lt (b := 1) h1 (by decide))]
    simp; omega
  · rw [if_neg (show ¬ nI k < (1 : Int32) from nI_nlt (b := 1) (by omega) (by omega))]
    by_cases h2 : 1 + 36 * N ≤ k
    · rw [if_pos (nI_le h2 (by omega))]
      simp; omega
    · rw [if_neg (nI_ge (by omega) (by omega))]
      have e : ((nI k - (1 : Int32)) - (nI k - (1 : Int32)) / (18 : Int32) * (18 : Int32)) = nI ((k - 1) % 18) := by
        rw [show (1 : Int32) = nI 1 from rfl, pk_sub (by omega), show (18 : Int32) = nI 18 from rfl, pk_rem (by omega) (by decide) (by decide)]
      rw [e]
      by_cases h3 : (k - 1) % 18 = 0
      · rw [if_pos (by rw [h3]; rfl)]
        simp [h3]; omega
      · rw [if_neg (show ¬ nI ((k - 1) % 18) = 0 from nI_ne0 (by omega) (by omega))]
        simp [h3]
theorem sC_read {C : pC} {S : pT} {g : sp_G} (h : rpG S g) (ok : okG g) : ∃ C', fC_read C S = some ((rd_c g.2.1 g.2.2.2.2).isSome, C') ∧ ∀ q s l r, rd_c g.2.1 g.2.2.2.2 = some (q, s, l, r) → C' = (nI q, nI s, nI l, nI r) := by
  obtain ⟨L, N, pr, hl, wd⟩ := g
  obtain ⟨h1, h2, h3, h4⟩ := h
  obtain ⟨o1, o2, o3, o4, o5⟩ := ok
  simp only at h1 h2 h3 h4 o1 o2 o3 o4 o5 ⊢
  have hL3 := o1.1
  obtain ⟨fr, a1, a2, a3, a4⟩ := id h4
  have fal : ∀ b : Bool, rd_c N wd = none → b = false → ∃ C', some (b, C) = some ((rd_c N wd).isSome, C') ∧ ∀ q s l r, rd_c N wd = some (q, s, l, r) → C' = (nI q, nI s, nI l, nI r) := by
    intro b e eb
    rw [e, eb]
    exact ⟨C, rfl, fun q s l r z => by cases z⟩
  unfold fC_read
  rw [show (0 : Int32) = nI 0 from rfl, sT_wordLetter h4 (by omega), wl_nI (by decide), h2, a3]
  cases hwd : wd with
  | nil =>
    subst hwd
    simp only [List.getElem?_nil, Option.bind_some]
    rw [if_neg (by
      unfold fG_isBase
      rw [if_pos (by decide)]
      decide)]
    exact fal false (by unfold rd_c; rw [if_neg (by simp)]) rfl
  | cons k rest =>
    rw [← hwd]
    have hk0 : wd[0]? = some k := by rw [hwd]; rfl
    have hh : wd.headD 0 = k := by rw [hwd]; rfl
    have hk : k < L := o3 k (List.mem_of_getElem? hk0)
    rw [hk0]
    simp only [Option.bind_some]
    rw [isBase_nI (by omega) o4]
    simp only [decide_eq_true_eq]
    by_cases hb : 1 ≤ k ∧ k < 1 + 36 * N ∧ (k - 1) % 18 = 0
    · rw [if_pos hb, show (nI wd.length - nI wd.length / (2 : Int32) * (2 : Int32)) = nI (wd.length % 2) from by rw [show (2 : Int32) = nI 2 from rfl, pk_rem (by omega) (by decide) (by decide)]]
      by_cases hpar : wd.length % 2 = 0
      · rw [if_pos (by rw [hpar]), nI_add, Nat.add_zero, sC_isPair h4 (by omega) o3 hL3 (by decide) (by omega)]
        simp only [Option.bind_some, decide_eq_true_eq, Nat.mul_zero, Nat.zero_add]
        by_cases hp : wd[0]? = some k ∧ wd[1]? = some 0
        · have hlen1 := (List.getElem?_eq_some_iff.mp hp.2).1
          rw [if_pos hp]
          unfold fC_pairsEnd
          rw [a3, show nI wd.length / (2 : Int32) = nI (wd.length / 2) from by rw [show (2 : Int32) = nI 2 from rfl, pk_div (by omega) (by decide) (by decide)], show nI k + (1 : Int32) = nI (k + 1) from nI_1 k, show (1 : Int32) = nI 1 from rfl,
            sC_pairsL h4 (by omega) o3 hL3 (by omega) (nI 1) 5000 100000 1 (by omega) (by omega) (by decide)]
          simp only [Option.bind_some, Nat.mul_one]
          have hnp := np_le wd (k + 1) 5000 2
          rw [show nI k + (2 : Int32) = nI (k + 2) from by rw [show (2 : Int32) = nI 2 from rfl, nI_add], sC_isPair h4 (by omega) o3 hL3 (by omega) (by omega)]
          simp only [Option.bind_some, decide_eq_true_eq]
          rw [show 2 * (1 + np wd (k + 1) 5000 2) = 2 + 2 * np wd (k + 1) 5000 2 by omega, show 2 + 2 * np wd (k + 1) 5000 2 + 1 = 3 + 2 * np wd (k + 1) 5000 2 by omega]
          by_cases hq : wd[2 + 2 * np wd (k + 1) 5000 2]? = some (k + 2) ∧ wd[3 + 2 * np wd (k + 1) 5000 2]? = some 0
          · have hlen2 := (List.getElem?_eq_some_iff.mp hq.2).1
            rw [if_pos hq, show nI k + (3 : Int32) = nI (k + 3) from by rw [show (3 : Int32) = nI 3 from rfl, nI_add], nI_add,
              sC_pairsL h4 (by omega) o3 hL3 (by omega) _ 5000 100000 (1 + np wd (k + 1) 5000 2 + 1) (by omega) (by omega) (by decide)]
            simp only [Option.bind_some]
            rw [show 2 * (1 + np wd (k + 1) 5000 2 + 1) = 4 + 2 * np wd (k + 1) 5000 2 by omega]
            have hnp2 := np_le wd (k + 3) 5000 (4 + 2 * np wd (k + 1) 5000 2)
            rw [show (2 : Int32) = nI 2 from rfl, pk_mul]
            by_cases hf : 4 + 2 * np wd (k + 1) 5000 2 + 2 * np wd (k + 3) 5000 (4 + 2 * np wd (k + 1) 5000 2) = wd.length
            · rw [if_pos (congrArg nI (by omega))]
              have er : rd_c N wd = some ((k - 1) / 36 + 1, (k - 1) / 18 % 2, np wd (k + 1) 5000 2, np wd (k + 3) 5000 (4 + 2 * np wd (k + 1) 5000 2)) := by
                unfold rd_c
                rw [hh, if_pos ⟨hb.1, hb.2.1, hb.2.2, hp.2, hq.1, hq.2, hf⟩]
              rw [er]
              refine ⟨_, rfl, fun q s l r z => ?_⟩
              cases z
              unfold fG_stateOf fG_symbolOf
              rw [show (18 : Int32) = nI 18 from rfl, show (2 : Int32) = nI 2 from rfl, show (1 : Int32) = nI 1 from rfl, pk_sub hb.1, pk_div (by omega) (by decide) (by decide), pk_rem (by omega) (by decide) (by decide), pk_div (by omega) (by decide) (by decide), nI_add, pk_sub (by omega), pk_sub (by omega), pk_sub (by omega), Nat.div_div_eq_div_mul]
              congr 4 <;> omega
            · rw [if_neg (by rw [nI_eq (by omega) (by omega)]; omega)]
              exact fal false (by unfold rd_c; rw [hh, if_neg (fun z => hf z.2.2.2.2.2.2)]) rfl
          · rw [if_neg hq]
            exact fal false (by unfold rd_c; rw [hh, if_neg (fun z => hq ⟨z.2.2.2.2.1, z.2.2.2.2.2.1⟩)]) rfl
        · rw [if_neg hp]
          exact fal false (by unfold rd_c; rw [hh, if_neg (fun z => hp ⟨hk0, z.2.2.2.1⟩)]) rfl
      · rw [if_neg (by rw [nI_eq (by omega) (by decide)]; exact hpar)]
        exact fal false (by unfold rd_c; rw [hh, if_neg (fun z => by omega)]) rfl
    · rw [if_neg hb]
      exact fal false (by unfold rd_c; rw [hh, if_neg (fun z => hb ⟨z.1, z.2.1, z.2.2.1⟩)]) rfl
theorem np_one {wd : List Nat} {a i : Nat} (f : Nat) : np wd a (f + 2) i = 1 ↔ (wd[i]? = some a ∧ wd[i + 1]? = some 0) ∧ ¬ (wd[i + 2]? = some a ∧ wd[i + 3]? = some 0) := by
  rw [np_s, np_s]
  by_cases h1 : wd[i]? = some a ∧ wd[i + 1]? = some 0
  · rw [if_pos h1]
    by_cases h2 : wd[i + 2]? = some a ∧ wd[i + 2 + 1]? = some 0
    · rw [if_pos h2]
      constructor
      · intro z; omega
      · intro z; exact absurd h2 z.2
    · rw [if_neg h2]
      exact ⟨fun _ => ⟨h1, h2⟩, fun _ => rfl⟩
  · rw [if_neg h1]
    constructor
    · intro z; omega
    · intro z; exact absurd z.1 h1
/-- the first pair behind k's own one is no other such pair, and so on: 'just one' of the reference -/
theorem one_A {wd : List Nat} {k : Nat} (h : ¬ np wd k 5000 0 = 1) (h0 : wd[0]? = some k) : ¬ (wd[1]? = some 0 ∧ wd[2 + 2 * np wd (k + 1) 5000 2]? = some (k + 2)) := by
  rintro ⟨h1, h2⟩
  apply h
  rw [show (5000 : Nat) = 4998 + 2 from rfl, np_one]
  refine ⟨⟨h0, h1⟩, fun z => ?_⟩
  have e : np wd (k + 1) 5000 2 = 0 := by
    rw [show (5000 : Nat) = 4999 + 1 from rfl, np_s, if_neg]
    intro y
    rw [z.1] at y
    have := Option.some.inj y.1
    omega
  rw [e] at h2
  rw [z.1] at h2
  have := Option.some.inj h2
  omega
theorem one_B {wd : List Nat} {k m : Nat} (h : ¬ np wd (k + 2) 5000 m = 1) : ¬ (wd[m]? = some (k + 2) ∧ wd[m + 1]? = some 0 ∧ m + 2 + 2 * np wd (k + 3) 5000 (m + 2) = wd.length) := by
  rintro ⟨h1, h2, h3⟩
  apply h
  rw [show (5000 : Nat) = 4998 + 2 from rfl, np_one]
  refine ⟨⟨h1, h2⟩, fun z => ?_⟩
  have e : np wd (k + 3) 5000 (m + 2) = 0 := by
    rw [show (5000 : Nat) = 4999 + 1 from rfl, np_s, if_neg]
    intro y
    rw [z.1] at y
    have := Option.some.inj y.1
    omega
  rw [e] at h3
  have := (List.getElem?_eq_some_iff.mp z.1).1
  omega
theorem sR_isCode {S : pR} {g : sp_G} (h : rqG S.2.1 g) (ok : okG g) : ∃ D, fR_isCode S = some ((rd_c g.2.1 g.2.2.2.2).isSome, (S.1, S.2.1, S.2.2.1, D)) ∧ ∀ q s l r, rd_c g.2.1 g.2.2.2.2 = some (q, s, l, r) → D = (nI q, nI s, nI l, nI r) := by
  obtain ⟨L, N, pr, hl, wd⟩ := g
  obtain ⟨h1, h2, h3, h4⟩ := h
  obtain ⟨o1, o2, o3, o4, o5⟩ := ok
  simp only at h1 h2 h3 h4 o1 o2 o3 o4 o5 ⊢
  have hL3 := o1.1
  obtain ⟨fr, a1, a2, a3, a4⟩ := id h4
  have fal : ∀ D : pRd, rd_c N wd = none → ∃ D', some (false, (S.1, S.2.1, S.2.2.1, D)) = some ((rd_c N wd).isSome, (S.1, S.2.1, S.2.2.1, D')) ∧ ∀ q s l r, rd_c N wd = some (q, s, l, r) → D' = (nI q, nI s, nI l, nI r) := by
    intro D e
    rw [e]
    exact ⟨D, rfl, fun q s l r z => by cases z⟩
  unfold fR_isCode
  rw [h2, a1, a2]
  by_cases hN : 0 < N
  · rw [if_pos (by simp [hN])]
    cases hwd : wd with
    | nil =>
      subst hwd
      rw [if_pos (show nI (fr + ([] : List Nat).length) = nI fr from rfl)]
      exact fal _ (by unfold rd_c; rw [if_neg (by simp)])
    | cons k rest =>
      rw [← hwd]
      have hk0 : wd[0]? = some k := by rw [hwd]; rfl
      have hh : wd.headD 0 = k := by rw [hwd]; rfl
      have hk : k < L := o3 k (List.mem_of_getElem? hk0)
      have hlen0 : 0 < wd.length := by rw [hwd]; simp
      have hkN : k < 1 + 36 * N := by have := o5 hN; omega
      have e0 : S.2.1.2.2.2.2.2.1 fr = nI k := a4 0 k hk0
      rw [if_neg (by rw [nI_eq (by omega) (by omega)]; omega), q_rd (by omega) (by decide), e0]
      simp only [Option.bind_some]
      by_cases hz : k = 0
      · rw [if_pos (show nI k = 0 from by rw [hz]; rfl)]
        exact fal _ (by unfold rd_c; rw [hh, if_neg (fun z => by omega)])
      · rw [if_neg (show ¬ nI k = 0 from nI_ne0 (by omega) (by omega)), show ((nI k - (1 : Int32)) - (nI k - (1 : Int32)) / (18 : Int32) * (18 : Int32)) = nI ((k - 1) % 18) from by
          rw [show (1 : Int32) = nI 1 from rfl, pk_sub (by omega), show (18 : Int32) = nI 18 from rfl, pk_rem (by omega) (by decide) (by decide)]]
        by_cases hm : (k - 1) % 18 = 0
        · rw [if_pos (show nI ((k - 1) % 18) = 0 from by rw [hm]; rfl)]
          have P : ∀ (D : pRd) (p a : Nat), a < 2 ^ 20 → p ≤ wd.length → fR_pairs (S.1, S.2.1, S.2.2.1, D) (nI (fr + p)) (nI a) = some (nI (np wd a 5000 p)) := by
            intro D p a ha hp
            unfold fR_pairs
            have := sR_pairsL (S := (S.1, S.2.1, S.2.2.1, D)) a2 a3 a4 o3 hL3 ha hp 5000 100000 0 (by omega) (by omega) (by decide)
            rw [Nat.zero_add, Nat.mul_zero, Nat.add_zero] at this
            exact this
          have P0 := P S.2.2.2 0 k (by omega) (by omega)
          rw [show fR_pairs S (nI fr) (nI k) = some (nI (np wd k 5000 0)) from P0]
          simp only [Option.bind_some]
          have hnp0 := np_le wd k 5000 0
          by_cases hA : np wd k 5000 0 = 1
          · rw [if_pos (show nI (np wd k 5000 0) = (1 : Int32) from by rw [hA]; rfl)]
            have hA2 := hA
            rw [show (5000 : Nat) = 4998 + 2 from rfl, np_one] at hA2
            have hlen1 := (List.getElem?_eq_some_iff.mp hA2.1.2).1
            rw [show nI fr + (2 : Int32) = nI (fr + 2) from by rw [show (2 : Int32) = nI 2 from rfl, nI_add], show nI k + (1 : Int32) = nI (k + 1) from nI_1 k, show fR_pairs S (nI (fr + 2)) (nI (k + 1)) = some (nI (np wd (k + 1) 5000 2)) from P S.2.2.2 2 (k + 1) (by omega) (by omega)]
            simp only [Option.bind_some]
            have hnp := np_le wd (k + 1) 5000 2
            rw [show nI (fr + 2) + (2 : Int32) * nI (np wd (k + 1) 5000 2) = nI (fr + (2 + 2 * np wd (k + 1) 5000 2)) from by rw [show (2 : Int32) = nI 2 from rfl, pk_mul, nI_add]; congr 1; omega, show nI k + (2 : Int32) = nI (k + 2) from by rw [show (2 : Int32) = nI 2 from rfl, nI_add], P _ _ (k + 2) (by omega) (by omega)]
            simp only [Option.bind_some]
            have hnp3 := np_le wd (k + 2) 5000 (2 + 2 * np wd (k + 1) 5000 2)
            by_cases hB : np wd (k + 2) 5000 (2 + 2 * np wd (k + 1) 5000 2) = 1
            · rw [if_pos (show nI _ = (1 : Int32) from by rw [hB]; rfl)]
              have hB2 := hB
              rw [show (5000 : Nat) = 4998 + 2 from rfl, np_one] at hB2
              have hlen2 := (List.getElem?_eq_some_iff.mp hB2.1.2).1
              rw [show nI (fr + (2 + 2 * np wd (k + 1) 5000 2)) + (2 : Int32) = nI (fr + (4 + 2 * np wd (k + 1) 5000 2)) from by rw [show (2 : Int32) = nI 2 from rfl, nI_add]; congr 1; omega, show nI k + (3 : Int32) = nI (k + 3) from by rw [show (3 : Int32) = nI 3 from rfl, nI_add], P _ _ (k + 3) (by omega) (by omega)]
              simp only [Option.bind_some]
              have hnp4 := np_le wd (k + 3) 5000 (4 + 2 * np wd (k + 1) 5000 2)
              rw [show nI (fr + (4 + 2 * np wd (k + 1) 5000 2)) + (2 : Int32) * nI (np wd (k + 3) 5000 (4 + 2 * np wd (k + 1) 5000 2)) = nI (fr + (4 + 2 * np wd (k + 1) 5000 2 + 2 * np wd (k + 3) 5000 (4 + 2 * np wd (k + 1) 5000 2))) from by rw [show (2 : Int32) = nI 2 from rfl, pk_mul, nI_add]; congr 1; omega]
              by_cases hf : 4 + 2 * np wd (k + 1) 5000 2 + 2 * np wd (k + 3) 5000 (4 + 2 * np wd (k + 1) 5000 2) = wd.length
              · rw [if_pos (congrArg nI (by omega))]
                have er : rd_c N wd = some ((k - 1) / 36 + 1, (k - 1) / 18 % 2, np wd (k + 1) 5000 2, np wd (k + 3) 5000 (4 + 2 * np wd (k + 1) 5000 2)) := by
                  unfold rd_c
                  rw [hh, if_pos ⟨by omega, hkN, hm, hA2.1.2, hB2.1.1, by rw [show 3 + 2 * np wd (k + 1) 5000 2 = 2 + 2 * np wd (k + 1) 5000 2 + 1 by omega]; exact hB2.1.2, hf⟩]
                rw [er]
                refine ⟨_, rfl, fun q s l r z => ?_⟩
                cases z
                rw [show (18 : Int32) = nI 18 from rfl, show (36 : Int32) = nI 36 from rfl, show (2 : Int32) = nI 2 from rfl, show (1 : Int32) = nI 1 from rfl, pk_sub (by omega), pk_div (by omega) (by decide) (by decide), pk_div (a := k - 1) (d := 18) (by omega) (by decide) (by decide), pk_rem (by omega) (by decide) (by decide), nI_add]
              · rw [if_neg (by rw [nI_eq (by omega) (by omega)]; omega)]
                exact fal _ (by unfold rd_c; rw [hh, if_neg (fun z => hf z.2.2.2.2.2.2)])
            · rw [if_neg (show ¬ nI _ = (1 : Int32) from fun z => hB (by
                rw [show (1 : Int32) = nI 1 from rfl, nI_eq (by omega) (by decide)] at z
                exact z))]
              exact fal _ (by
                unfold rd_c
                rw [hh, if_neg (fun z => one_B hB ⟨z.2.2.2.2.1, by rw [show 2 + 2 * np wd (k + 1) 5000 2 + 1 = 3 + 2 * np wd (k + 1) 5000 2 by omega]; exact z.2.2.2.2.2.1, by
                  rw [show 2 + 2 * np wd (k + 1) 5000 2 + 2 = 4 + 2 * np wd (k + 1) 5000 2 by omega]
                  exact z.2.2.2.2.2.2⟩)])
          · rw [if_neg (show ¬ nI _ = (1 : Int32) from fun z => hA (by
              rw [show (1 : Int32) = nI 1 from rfl, nI_eq (by omega) (by decide)] at z
              exact z))]
            exact fal _ (by unfold rd_c; rw [hh, if_neg (fun z => one_A hA hk0 ⟨z.2.2.2.1, z.2.2.2.2.1⟩)])
        · rw [if_neg (show ¬ nI ((k - 1) % 18) = 0 from nI_ne0 (by omega) (by omega))]
          exact fal _ (by unfold rd_c; rw [hh, if_neg (fun z => hm z.2.2.1)])
  · rw [if_neg (by simp; omega)]
    have hN0 : N = 0 := by omega
    exact fal _ (by unfold rd_c; rw [hN0, if_neg (fun z => by omega)])

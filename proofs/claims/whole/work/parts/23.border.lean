/-! decodeTag, nextBorder -/
theorem sim_decodeTag {S : pX} {S2 : pR} {g : sp_G} (hT : rpG S.2.1 g) (hR : rqG S2.2.1 g) (ok : okG g) (v : Int32) :
    ∃ b C D, fX_decodeTag S v = some (b, (S.1, S.2.1, S.2.2.1, C)) ∧ fR_decodeTag S2 v = some (b, (S2.1, S2.2.1, S2.2.2.1, D)) := by
  obtain ⟨C, e1, r1⟩ := sC_read (C := S.2.2.2) hT ok
  obtain ⟨D, e2, r2⟩ := sR_isCode hR ok
  unfold fX_decodeTag fR_decodeTag
  rw [e1, e2]
  simp only [Option.bind_some]
  cases hr : rd_c g.2.1 g.2.2.2.2 with
  | none =>
    simp only [Option.isSome_none]
    rw [if_neg (by decide), if_neg (by decide)]
    exact ⟨_, _, _, rfl, rfl⟩
  | some a =>
    obtain ⟨q, s, l, r⟩ := a
    rw [r1 q s l r hr, r2 q s l r hr]
    simp only [Option.isSome_some, if_true]
    by_cases h0 : v = 0
    · rw [if_pos h0, if_pos h0]; exact ⟨_, _, _, rfl, rfl⟩
    · rw [if_neg h0, if_neg h0]
      by_cases h1 : v = 1
      · rw [if_pos h1, if_pos h1]; exact ⟨_, _, _, rfl, rfl⟩
      · rw [if_neg h1, if_neg h1]
        by_cases h2 : v = 2
        · rw [if_pos h2, if_pos h2]; exact ⟨_, _, _, rfl, rfl⟩
        · rw [if_neg h2, if_neg h2]
          by_cases h3 : v = 3
          · rw [if_pos h3, if_pos h3]; exact ⟨_, _, _, rfl, rfl⟩
          · rw [if_neg h3, if_neg h3]; exact ⟨_, _, _, rfl, rfl⟩
theorem sim_borderL : ∀ (k n d : Nat) (S : pX) (S2 : pR) (g : sp_G), 20001 - d = k → 1 ≤ d → d ≤ 20001 → k < n → rpG S.2.1 g → rqG S2.2.1 g → okG g →
    ∃ (b : Nat) (T : pT) (C : pC) (B : pRb) (D : pRd) (g' : sp_G), fX_nextBorder_L2 n S (nI d) = some (nI b, (S.1, T, S.2.2.1, C)) ∧ fR_nextBorder_L2 n S2 (nI d) = some (nI b, (S2.1, B, S2.2.2.1, D)) ∧ rpG T g' ∧ rqG B g' ∧ okG g' ∧ b ≤ 20000 ∧ g'.1 = g.1 ∧ g'.2.1 = g.2.1 ∧
      (0 < b → ∃ q s l r : Nat, rd_c g'.2.1 g'.2.2.2.2 = some (q, s, l, r) ∧ C = (nI q, nI s, nI l, nI r) ∧ D = (nI q, nI s, nI l, nI r)) := by
  intro k
  induction k with
  | zero =>
    intro n d S S2 g e1 e2 e3 e4 hT hR ok
    obtain ⟨n', rfl⟩ : ∃ n', n = n' + 1 := ⟨n - 1, by omega⟩
    rw [fX_nextBorder_L2, fR_nextBorder_L2, if_pos (show (20000 : Int32) < nI d from nI_lt (a := 20000) (by omega) (by omega)), if_pos (show (20000 : Int32) < nI d from nI_lt (a := 20000) (by omega) (by omega))]
    exact ⟨0, _, _, _, _, g, rfl, rfl, hT, hR, ok, by omega, rfl, rfl, fun z => absurd z (by omega)⟩
  | succ k ih =>
    intro n d S S2 g e1 e2 e3 e4 hT hR ok
    obtain ⟨n', rfl⟩ : ∃ n', n = n' + 1 := ⟨n - 1, by omega⟩
    rw [fX_nextBorder_L2, fR_nextBorder_L2, if_neg (show ¬ (20000 : Int32) < nI d from nI_nlt (a := 20000) (by omega) (by decide)), if_neg (show ¬ (20000 : Int32) < nI d from nI_nlt (a := 20000) (by omega) (by decide)), sT_can hT ok.1 (okW_of ok), sR_tagCan hR ok.1 (okW_of ok)]
    simp only [Option.bind_some]
    by_cases hc : tg_can g = 1
    · rw [if_pos hc, if_pos hc]
      obtain ⟨T, f1, r1⟩ := sT_step hT ok hc
      obtain ⟨B, f2, r2⟩ := sR_tagStep hR ok hc
      have ok1 := okG_step ok hc
      rw [f1, f2]
      simp only [Option.bind_some]
      obtain ⟨C, f3, r3⟩ := sC_read (C := S.2.2.2) r1 ok1
      obtain ⟨D, f4, r4⟩ := sR_isCode (S := (S2.1, B, S2.2.2)) r2 ok1
      rw [f3, f4]
      simp only [Option.bind_some]
      cases hr : rd_c (tg_step g).2.1 (tg_step g).2.2.2.2 with
      | none =>
        simp only [Option.isSome_none]
        rw [if_neg (by decide), if_neg (by decide), nI_1]
        obtain ⟨b, T', C', B', D', g', q1, q2, q3, q4, q5, q6, q7, q8, q9⟩ := ih n' (d + 1) (S.1, T, S.2.2.1, C) (S2.1, B, S2.2.2.1, D) (tg_step g) (by omega) (by omega) (by omega) (by omega) r1 r2 ok1
        exact ⟨b, T', C', B', D', g', q1, q2, q3, q4, q5, q6, q7, q8, q9⟩
      | some a =>
        obtain ⟨q, s, l, r⟩ := a
        simp only [Option.isSome_some, if_true]
        exact ⟨d, T, C, B, D, tg_step g, rfl, rfl, r1, r2, ok1, by omega, rfl, rfl, fun _ => ⟨q, s, l, r, hr, r3 q s l r hr, r4 q s l r hr⟩⟩
    · rw [if_neg hc, if_neg hc]
      exact ⟨0, _, _, _, _, g, rfl, rfl, hT, hR, ok, by omega, rfl, rfl, fun z => absurd z (by omega)⟩
theorem sim_border {S : pX} {S2 : pR} {g : sp_G} (hT : rpG S.2.1 g) (hR : rqG S2.2.1 g) (ok : okG g) :
    ∃ (b : Nat) (T : pT) (C : pC) (B : pRb) (D : pRd) (g' : sp_G), fX_nextBorder S = some (nI b, (S.1, T, S.2.2.1, C)) ∧ fR_nextBorder S2 = some (nI b, (S2.1, B, S2.2.2.1, D)) ∧ rpG T g' ∧ rqG B g' ∧ okG g' ∧ b ≤ 20000 ∧ g'.1 = g.1 ∧ g'.2.1 = g.2.1 ∧
      (0 < b → ∃ q s l r : Nat, rd_c g'.2.1 g'.2.2.2.2 = some (q, s, l, r) ∧ C = (nI q, nI s, nI l, nI r) ∧ D = (nI q, nI s, nI l, nI r)) :=
  sim_borderL 20000 100000 1 S S2 g (by omega) (by omega) (by omega) (by omega) hT hR ok
/-! the code of a configuration -/
def pp_w (a : Nat) : Nat → List Nat
  | 0 => []
  | n + 1 => a :: 0 :: pp_w a n
theorem pp_len (a : Nat) : ∀ n, (pp_w a n).length = 2 * n
  | 0 => rfl
  | n + 1 => by simp [pp_w, pp_len a n]; omega
theorem pp_mem {a L : Nat} (ha : a < L) : ∀ n, ∀ w ∈ pp_w a n, w < L
  | 0, w, h => by cases h
  | n + 1, w, h => by
    rcases List.mem_cons.mp h with h | h
    · omega
    · rcases List.mem_cons.mp h with h | h
      · omega
      · exact pp_mem ha n w h
theorem sC_pairs {a : Nat} : ∀ (k n d c : Nat) (S : pT) (wd : List Nat), c - d = k → d ≤ c → c < 2 ^ 20 → k < n → wd.length + 2 * k ≤ 4000 → rpW S.2.2.2.1 S.2.2.2.2.1 S.2.2.2.2.2.1 wd →
    ∃ w z, fC_writePairs_L2 n S (nI a) (nI c) (nI d) = some (tW S w S.2.2.2.2.1 z) ∧ rpW w S.2.2.2.2.1 z (wd ++ pp_w a k) := by
  intro k
  induction k with
  | zero =>
    intro n d c S wd e1 e2 e3 e4 e5 r
    obtain ⟨n', rfl⟩ : ∃ n', n = n' + 1 := ⟨n - 1, by omega⟩
    rw [fC_writePairs_L2, if_pos (nI_le (by omega) (by omega))]
    exact ⟨_, _, rfl, by rw [show pp_w a 0 = [] from rfl, List.append_nil]; exact r⟩
  | succ k ih =>
    intro n d c S wd e1 e2 e3 e4 e5 r
    obtain ⟨n', rfl⟩ : ∃ n', n = n' + 1 := ⟨n - 1, by omega⟩
    rw [fC_writePairs_L2, if_neg (nI_ge (by omega) (by omega))]
    obtain ⟨w1, z1, f1, r1⟩ := sT_append r (by omega) a
    rw [f1]
    simp only [Option.bind_some]
    obtain ⟨w2, z2, f2, r2⟩ := sT_append (S := tW S w1 S.2.2.2.2.1 z1) r1 (by simp; omega) 0
    rw [show fT_append (tW S w1 S.2.2.2.2.1 z1) (0 : Int32) = some (tW S w2 S.2.2.2.2.1 z2) from f2]
    simp only [Option.bind_some]
    rw [nI_1]
    obtain ⟨w3, z3, f3, r3⟩ := ih n' (d + 1) c (tW S w2 S.2.2.2.2.1 z2) (wd ++ [a] ++ [0]) (by omega) (by omega) e3 (by omega) (by simp; omega) r2
    refine ⟨w3, z3, f3, ?_⟩
    rw [show wd ++ pp_w a (k + 1) = wd ++ [a] ++ [0] ++ pp_w a k from by simp [pp_w]]
    exact r3
def cd_w (t : sp_T) : List Nat := pp_w (1 + 18 * sp_ix t.2.1 t.2.2.1) 1 ++ pp_w (1 + 18 * sp_ix t.2.1 t.2.2.1 + 1) t.2.2.2.1 ++ pp_w (1 + 18 * sp_ix t.2.1 t.2.2.1 + 2) 1 ++ pp_w (1 + 18 * sp_ix t.2.1 t.2.2.1 + 3) t.2.2.2.2
theorem cd_len (t : sp_T) : (cd_w t).length = 4 + 2 * t.2.2.2.1 + 2 * t.2.2.2.2 := by
  unfold cd_w
  simp only [List.length_append, pp_len]
  omega
theorem cd_mem {t : sp_T} {L : Nat} (h : 1 + 18 * sp_ix t.2.1 t.2.2.1 + 3 < L) : ∀ w ∈ cd_w t, w < L := by
  intro w hw
  unfold cd_w at hw
  rcases List.mem_append.mp hw with hw | hw
  · rcases List.mem_append.mp hw with hw | hw
    · rcases List.mem_append.mp hw with hw | hw
      · exact pp_mem (by omega) _ w hw
      · exact pp_mem (by omega) _ w hw
    · exact pp_mem (by omega) _ w hw
  · exact pp_mem h _ w hw
theorem sC_write {S : pT} {M : pM} {t : sp_T} (hM : rpM M t) (ok : okT t) : ∃ w f z, fC_write S M = some (tW S w f z) ∧ rpW w f z (cd_w t) := by
  obtain ⟨o1, o2, o3, o4, o5, o6⟩ := ok
  unfold fC_write fC_writePairs
  rw [hM.1, hM.2.1, hM.2.2.1, hM.2.2.2.1, base_nI o1]
  have r0 : rpW (fT_clearWord S).2.2.2.1 (fT_clearWord S).2.2.2.2.1 (fT_clearWord S).2.2.2.2.2.1 [] := ⟨0, by decide, rfl, rfl, fun i w hi => by simp at hi⟩
  obtain ⟨w1, z1, f1, r1⟩ := sC_pairs (a := 1 + 18 * sp_ix t.2.1 t.2.2.1) 1 100000 0 1 _ [] rfl (by omega) (by decide) (by decide) (by simp) r0
  rw [show nI (1 + 18 * sp_ix t.2.1 t.2.2.1) + (0 : Int32) = nI (1 + 18 * sp_ix t.2.1 t.2.2.1) from by rw [show (0 : Int32) = nI 0 from rfl, nI_add, Nat.add_zero], show fC_writePairs_L2 100000 (fT_clearWord S) (nI (1 + 18 * sp_ix t.2.1 t.2.2.1)) (1 : Int32) (0 : Int32) = _ from f1]
  simp only [Option.bind_some]
  rw [List.nil_append] at r1
  obtain ⟨w2, z2, f2, r2⟩ := sC_pairs (a := 1 + 18 * sp_ix t.2.1 t.2.2.1 + 1) t.2.2.2.1 100000 0 t.2.2.2.1 (tW (fT_clearWord S) w1 0 z1) _ (by omega) (by omega) (by omega) (by omega) (by rw [pp_len]; omega) r1
  rw [nI_1, show fC_writePairs_L2 100000 (tW (fT_clearWord S) w1 (fT_clearWord S).2.2.2.2.1 z1) (nI (1 + 18 * sp_ix t.2.1 t.2.2.1 + 1)) (nI t.2.2.2.1) (0 : Int32) = _ from f2]
  simp only [Option.bind_some]
  obtain ⟨w3, z3, f3, r3⟩ := sC_pairs (a := 1 + 18 * sp_ix t.2.1 t.2.2.1 + 2) 1 100000 0 1 (tW (fT_clearWord S) w2 0 z2) _ rfl (by omega) (by decide) (by decide) (by simp only [List.length_append, pp_len]; omega) r2
  rw [show nI (1 + 18 * sp_ix t.2.1 t.2.2.1) + (2 : Int32) = nI (1 + 18 * sp_ix t.2.1 t.2.2.1 + 2) from by rw [show (2 : Int32) = nI 2 from rfl, nI_add], show fC_writePairs_L2 100000 (tW (fT_clearWord S) w2 0 z2) (nI (1 + 18 * sp_ix t.2.1 t.2.2.1 + 2)) (1 : Int32) (0 : Int32) = _ from f3]
  simp only [Option.bind_some]
  obtain ⟨w4, z4, f4, r4⟩ := sC_pairs (a := 1 + 18 * sp_ix t.2.1 t.2.2.1 + 3) t.2.2.2.2 100000 0 t.2.2.2.2 (tW (fT_clearWord S) w3 0 z3) _ (by omega) (by omega) (by omega) (by omega) (by simp only [List.length_append, pp_len]; omega) r3
  rw [show nI (1 + 18 * sp_ix t.2.1 t.2.2.1) + (3 : Int32) = nI (1 + 18 * sp_ix t.2.1 t.2.2.1 + 3) from by rw [show (3 : Int32) = nI 3 from rfl, nI_add], show fC_writePairs_L2 100000 (tW (fT_clearWord S) w3 0 z3) (nI (1 + 18 * sp_ix t.2.1 t.2.2.1 + 3)) (nI t.2.2.2.2) (0 : Int32) = _ from f4]
  exact ⟨w4, 0, z4, rfl, r4⟩

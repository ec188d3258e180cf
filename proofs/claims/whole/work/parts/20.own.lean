/-! ownTag; the cyclic system removed, and made -/
def g_0 : sp_G := (0, 0, fun _ => [], fun _ => false, [])
theorem okY_0 : okY g_0 0 := ⟨⟨by decide, fun v hv => absurd hv (Nat.not_lt_zero _)⟩, (fun w h => by cases h), Or.inl ⟨rfl, by decide⟩⟩
theorem sY_remove (S : pY) : ∃ Y, fY_remove S = some Y ∧ rpY Y g_0 0 := by
  unfold fY_remove
  obtain ⟨T, e, r⟩ := sT_begin (S := S.1) (L := 0) (N := 0) (by decide)
  rw [show (0 : Int32) = nI 0 from rfl, e]
  exact ⟨_, rfl, r, rfl, rfl⟩
theorem sR_empty (S : pR) {L : Nat} (hL : L ≤ 300) : ∃ l h C, fR_emptySystem S (nI L) = some (S.1, (nI L, S.2.1.2.1, S.2.1.2.2.1, l, h, S.2.1.2.2.2.2.2.1, 0, 0), C, S.2.2.2) ∧ rqY C g_0 0 ∧ ∀ v, v < 300 → l v = 0 ∧ h v = 0 := by
  unfold fR_emptySystem
  obtain ⟨l, h, e, r⟩ := sR_emptyL (nI L) 300 100000 0 (S.1, (nI L, S.2.1.2.1, S.2.1.2.2.1, S.2.1.2.2.2.1, S.2.1.2.2.2.2.1, S.2.1.2.2.2.2.2.1, (0 : Int32), (0 : Int32)), ((0 : Int32), S.2.2.1.2.1, S.2.2.1.2.2.1, S.2.2.1.2.2.2.1, S.2.2.1.2.2.2.2.1, S.2.2.1.2.2.2.2.2.1, S.2.2.1.2.2.2.2.2.2.1, S.2.2.1.2.2.2.2.2.2.2.1, S.2.2.1.2.2.2.2.2.2.2.2), S.2.2.2) (by omega) (by omega) (by omega) (fun v hv => by omega)
  rw [show nI 0 = (0 : Int32) from rfl] at e
  rw [e]
  refine ⟨l, h, _, rfl, ⟨rfl, fun v hv => absurd hv (Nat.not_lt_zero _), rfl, 0, Or.inl ⟨rfl, Or.inr rfl⟩, ⟨0, rfl, rfl, by decide, fun i w hi => by simp [g_0] at hi⟩, rfl⟩, r⟩
theorem sim_ownTag {S : pX} {S2 : pR} {g : sp_G} {y : sp_G} {t : Nat} (hT : rpG S.2.1 g) (hR : rqG S2.2.1 g) (ok : okG g) (hY : rpY S.2.2.1 y t) (hQ : rqY S2.2.2.1 y t) (oky : okY y t) (v : Int32) :
    ∃ b T B g' Y C y' t', fX_ownTag S v = some (b, (S.1, T, Y, S.2.2.2)) ∧ fR_ownTag S2 v = some (b, (S2.1, B, C, S2.2.2.2)) ∧ rpG T g' ∧ rqG B g' ∧ okG g' ∧ rpY Y y' t' ∧ rqY C y' t' ∧ okY y' t' := by
  unfold fX_ownTag fR_ownTag
  by_cases h1 : v < 1
  · rw [if_pos h1, if_pos h1]
    exact ⟨false, _, _, g, _, _, y, t, rfl, rfl, hT, hR, ok, hY, hQ, oky⟩
  · rw [if_neg h1, if_neg h1]
    by_cases h2 : v ≤ 300
    · rw [if_pos h2, if_pos h2]
      have h0 : ¬ v < 0 := by
        intro e
        apply h1
        have a := Int32.lt_iff_toInt_lt.mp e
        apply Int32.lt_iff_toInt_lt.mpr
        have b : (0 : Int32).toInt = 0 := by decide
        have c : (1 : Int32).toInt = 1 := by decide
        omega
      obtain ⟨L, hL, rfl⟩ := nI_of h0
      rw [show (300 : Int32) = nI 300 from rfl, nI_leI hL (by decide)] at h2
      obtain ⟨T, e1, r1⟩ := sT_begin (S := S.2.1) (L := L) (N := 0) h2
      obtain ⟨Y, e2, r2⟩ := sY_remove S.2.2.1
      obtain ⟨l, h, C, e3, r3, r4⟩ := sR_empty S2 h2
      rw [show fT_begin S.2.1 (nI L) (0 : Int32) = some T from e1, e2, e3]
      refine ⟨true, T, _, _, Y, C, g_0, 0, rfl, rfl, r1, ⟨rfl, rfl, fun u hu => ?_, 0, rfl, rfl, by simp, fun i w hi => by simp at hi⟩, ⟨⟨h2, fun u hu => ⟨by simp, fun w hw => by simp at hw⟩⟩, by simp, fun w hw => by simp at hw, by simp, by simp⟩, r2, r3, okY_0⟩
      exact ⟨(r4 u (Nat.lt_of_lt_of_le hu h2)).1, (r4 u (Nat.lt_of_lt_of_le hu h2)).2, fun i w hi => by simp at hi⟩
    · rw [if_neg h2, if_neg h2]
      exact ⟨false, _, _, g, _, _, y, t, rfl, rfl, hT, hR, ok, hY, hQ, oky⟩
theorem sT_copyL {S2 : pT} {g : sp_G} (h2 : rpG S2 g) (hL : g.1 ≤ 300) : ∀ (k n d : Nat) (S : pT), S.2.2.2.2.2.2.1 = nI g.1 → g.1 - d = k → d ≤ g.1 → k < n → (∀ v, v < d → S.2.1 v = S2.2.1 v ∧ S.2.2.1 v = S2.2.2.1 v) →
    ∃ Z H, fT_copyFrom_L10 S2 n S (nI d) = some ((va_cpy S2.1 S.1 0 0 600), Z, H, (va_cpy S2.2.2.2.1 S.2.2.2.1 0 0 4096), S2.2.2.2.2.1, S2.2.2.2.2.2.1, nI g.1, S.2.2.2.2.2.2.2) ∧ ∀ v, v < g.1 → Z v = S2.2.1 v ∧ H v = S2.2.2.1 v := by
  intro k
  induction k with
  | zero =>
    intro n d S hS e1 e2 e3 e4
    obtain ⟨n', rfl⟩ : ∃ n', n = n' + 1 := ⟨n - 1, by omega⟩
    rw [fT_copyFrom_L10, hS, if_pos (nI_le (by omega) (by omega))]
    exact ⟨_, _, rfl, fun v hv => e4 v (by omega)⟩
  | succ k ih =>
    intro n d S hS e1 e2 e3 e4
    obtain ⟨n', rfl⟩ : ∃ n', n = n' + 1 := ⟨n - 1, by omega⟩
    rw [fT_copyFrom_L10, hS, if_neg (nI_ge (by omega) (by omega)), q_rd (by omega) (by decide)]
    simp only [Option.bind_some]
    rw [q_wr (by omega) (by decide)]
    simp only [Option.bind_some]
    rw [q_rd (by omega) (by decide), (h2.2.2.1 d (by omega)).2.1]
    simp only [Option.bind_some]
    rw [p_vnar, q_wr (by omega) (by decide)]
    simp only [Option.bind_some]
    rw [nI_1]
    refine ih n' (d + 1) (S.1, upd S.2.1 d (S2.2.1 d), upd S.2.2.1 d (p_b (g.2.2.2.1 d)), S.2.2.2.1, S.2.2.2.2.1, S.2.2.2.2.2.1, nI g.1, S.2.2.2.2.2.2.2) rfl (by omega) (by omega) (by omega) (fun v hv => ?_)
    by_cases e : v = d
    · subst e
      exact ⟨pk_us, pk_us.trans (h2.2.2.1 v (by omega)).2.1.symm⟩
    · exact ⟨(pk_un e).trans (e4 v (by omega)).1, (pk_un e).trans (e4 v (by omega)).2⟩
theorem sT_copy {S S2 : pT} {g : sp_G} (h2 : rpG S2 g) (ok : okP g.1 g.2.2.1) (hS : S.2.2.2.2.2.2.2 = nI 0) : ∃ T, fT_copyFrom S S2 = some T ∧ rpG T (g.1, 0, g.2.2) := by
  have hL := ok.1
  unfold fT_copyFrom
  obtain ⟨Z, H, e, r⟩ := sT_copyL h2 hL g.1 100000 0 (S.1, S.2.1, S.2.2.1, S.2.2.2.1, S.2.2.2.2.1, S.2.2.2.2.2.1, S2.2.2.2.2.2.2.1, S.2.2.2.2.2.2.2) h2.1 (by omega) (by omega) (by omega) (fun v hv => by omega)
  rw [show nI 0 = (0 : Int32) from rfl] at e
  rw [e]
  obtain ⟨fr, a1, a2, a3, a4⟩ := id h2.2.2.2
  refine ⟨_, rfl, rfl, hS, fun v hv => ⟨(r v hv).1.trans (h2.2.2.1 v hv).1, (r v hv).2.trans (h2.2.2.1 v hv).2.1, fun i w hi => ?_⟩, fr, a1, a2, a3, fun i w hi => ?_⟩
  · have h12 := (ok.2 v hv).1
    have hi2 := (List.getElem?_eq_some_iff.mp hi).1
    have hv' : v < g.1 := hv
    show sp_pk (va_cpy S2.1 S.1 0 0 600 (2 * v + i / 6)) (i % 6) = w
    rw [pk_cpy_in (by omega) (by have : i < 12 := Nat.lt_of_lt_of_le hi2 h12; omega), Nat.zero_add, Nat.sub_zero]
    exact (h2.2.2.1 v hv).2.2 i w hi
  · show va_cpy S2.2.2.2.1 S.2.2.2.1 0 0 4096 ((fr + i) % 4096) = nI w
    rw [pk_cpy_in (by omega) (by have := Nat.mod_lt (fr + i) (show 0 < 4096 by decide); omega), Nat.zero_add, Nat.sub_zero]
    exact a4 i w hi
abbrev rC (S : pR) (b l s : Nat → Int32) : pR := (S.1, S.2.1, (S.2.2.1.1, b, l, s, S.2.2.1.2.2.2.2), S.2.2.2)
theorem sR_cc53 {S : pR} {g : sp_G} (h : rqG S.2.1 g) (okp : okP g.1 g.2.2.1) {v : Nat} (hv : v < g.1) {K : pR → Int32 → Option (Int32 × pR)} {l s : Nat → Int32} :
    ∀ (m n i : Nat) (b : Nat → Int32), (g.2.2.1 v).length - i = m → i ≤ (g.2.2.1 v).length → m < n → (∀ j x, (g.2.2.1 v)[j]? = some x → j < i → b (12 * v + j) = nI x) →
      ∃ b', fR_compileCyclic_L53 K n (rC S b l s) (nI v) (nI i) = K (rC S b' l s) (nI (v + 1)) ∧ (∀ j x, (g.2.2.1 v)[j]? = some x → b' (12 * v + j) = nI x) ∧ ∀ p, p < 12 * v ∨ 12 * v + 12 ≤ p → b' p = b p := by
  have h12 := (okp.2 v hv).1
  have hL3 := okp.1
  intro m
  induction m with
  | zero =>
    intro n i b e1 e2 e3 e4
    obtain ⟨n', rfl⟩ : ∃ n', n = n' + 1 := ⟨n - 1, by omega⟩
    rw [fR_compileCyclic_L53, q_rd (by omega) (by decide), (h.2.2.1 v hv).1]
    simp only [Option.bind_some]
    rw [if_pos (nI_le (by omega) (by omega)), nI_1]
    exact ⟨b, rfl, fun j x hj => e4 j x hj (by have := (List.getElem?_eq_some_iff.mp hj).1; omega), fun p _ => rfl⟩
  | succ m ih =>
    intro n i b e1 e2 e3 e4
    obtain ⟨n', rfl⟩ : ∃ n', n = n' + 1 := ⟨n - 1, by omega⟩
    rw [fR_compileCyclic_L53, q_rd (by omega) (by decide), (h.2.2.1 v hv).1]
    simp only [Option.bind_some]
    rw [if_neg (nI_ge (by omega) (by omega)), show ((12 : Int32) * nI v) + nI i = nI (12 * v + i) from by rw [show (12 : Int32) = nI 12 from rfl, pk_mul, nI_add], q_rd (by omega) (by decide)]
    obtain ⟨x, hx⟩ : ∃ x, (g.2.2.1 v)[i]? = some x := ⟨_, List.getElem?_eq_getElem (by omega)⟩
    rw [(h.2.2.1 v hv).2.2 i x hx]
    simp only [Option.bind_some]
    rw [q_wr (by omega) (by decide)]
    simp only [Option.bind_some]
    rw [nI_1]
    obtain ⟨b', e5, r5, r6⟩ := ih n' (i + 1) (upd b (12 * v + i) (nI x)) (by omega) (by omega) (by omega) (fun j y hj hji => by
      by_cases e : j = i
      · subst e
        rw [pk_us]
        rw [hx] at hj
        cases hj
        rfl
      · rw [pk_un (by omega)]
        exact e4 j y hj (by omega))
    exact ⟨b', e5, r5, fun p hp => (r6 p hp).trans (pk_un (by omega))⟩
theorem sR_cc19 {S : pR} {g : sp_G} (h : rqG S.2.1 g) (okp : okP g.1 g.2.2.1) :
    ∀ (m n d : Nat) (b l s : Nat → Int32), g.1 - d = m → d ≤ g.1 → m < n → rqP b l s d g.2.2.1 g.2.2.2.1 →
      ∃ b' l' s', fR_compileCyclic_L19 n (rC S b l s) (nI d) = fR_compileCyclic_L112 100000 (S.1, S.2.1, (S.2.2.1.1, b', l', s', S.2.2.1.2.2.2.2.1, (0 : Int32), (0 : Int32), S.2.2.1.2.2.2.2.2.2.2), S.2.2.2) S.2.1.2.2.2.2.2.2.1 ∧ rqP b' l' s' g.1 g.2.2.1 g.2.2.2.1 := by
  have hL3 := okp.1
  intro m
  induction m with
  | zero =>
    intro n d b l s e1 e2 e3 e4
    obtain ⟨n', rfl⟩ : ∃ n', n = n' + 1 := ⟨n - 1, by omega⟩
    have e : d = g.1 := by omega
    subst e
    rw [fR_compileCyclic_L19, h.1, if_pos (nI_le (by omega) (by omega))]
    exact ⟨b, l, s, rfl, e4⟩
  | succ m ih =>
    intro n d b l s e1 e2 e3 e4
    obtain ⟨n', rfl⟩ : ∃ n', n = n' + 1 := ⟨n - 1, by omega⟩
    have hd : d < g.1 := by omega
    have h12 := (okp.2 d hd).1
    rw [fR_compileCyclic_L19, h.1, if_neg (nI_ge (by omega) (by omega)), q_rd (by omega) (by decide), (h.2.2.1 d hd).1]
    simp only [Option.bind_some]
    rw [q_wr (by omega) (by decide)]
    simp only [Option.bind_some]
    rw [q_rd (by omega) (by decide), (h.2.2.1 d hd).2.1]
    simp only [Option.bind_some]
    rw [p_vnar, q_wr (by omega) (by decide)]
    simp only [Option.bind_some]
    obtain ⟨b', e5, r5, r6⟩ := sR_cc53 (S := S) h okp hd (K := fun S w1 => fR_compileCyclic_L19 n' S w1) (l := upd l d (nI (g.2.2.1 d).length)) (s := upd s d (p_b (g.2.2.2.1 d))) _ 100000 0 b rfl (by omega) (by omega) (fun j x hj hji => by omega)
    obtain ⟨b2, l2, s2, e7, r7⟩ := ih n' (d + 1) b' (upd l d (nI (g.2.2.1 d).length)) (upd s d (p_b (g.2.2.2.1 d))) (by omega) (by omega) (by omega) (fun u hu => by
      by_cases e : u = d
      · subst e
        exact ⟨pk_us, pk_us, r5⟩
      · obtain ⟨m1, m2, m3⟩ := e4 u (by omega)
        refine ⟨(pk_un e).trans m1, (pk_un e).trans m2, fun i x hi => ?_⟩
        have := (List.getElem?_eq_some_iff.mp hi).1
        have := (okp.2 u (by omega)).1
        rw [r6 _ (by omega)]
        exact m3 i x hi)
    exact ⟨b2, l2, s2, e5.trans e7, r7⟩
theorem sR_cc112 {S : pR} {wd : List Nat} (h : rqW S.2.1.2.2.2.2.2.1 S.2.1.2.2.2.2.2.2.1 S.2.1.2.2.2.2.2.2.2 wd) (hl : wd.length ≤ 4000) {fr : Nat} (hfr : S.2.1.2.2.2.2.2.2.1 = nI fr) (hf2 : fr + wd.length ≤ 12000) :
    ∀ (m n d : Nat) (w : Nat → Int32) (f z : Int32), wd.length - d = m → d ≤ wd.length → m < n → rqW w f z (wd.take d) →
      ∃ w' f' z', fR_compileCyclic_L112 n (rB S w f z) (nI (fr + d)) = some (((2 : Int32) * S.2.2.1.1), (rU S w' f' z' 0 0)) ∧ rqW w' f' z' wd := by
  obtain ⟨fq, a1, a2, a3, a4⟩ := h
  have hfq : fq = fr := by
    rw [a1, nI_eq (by omega) (by omega)] at hfr
    exact hfr
  subst hfq
  intro m
  induction m with
  | zero =>
    intro n d w f z e1 e2 e3 r
    obtain ⟨n', rfl⟩ : ∃ n', n = n' + 1 := ⟨n - 1, by omega⟩
    rw [fR_compileCyclic_L112]
    simp only []
    rw [a2, if_pos (nI_le (by omega) (by omega))]
    rw [List.take_of_length_le (by omega)] at r
    exact ⟨w, f, z, rfl, r⟩
  | succ m ih =>
    intro n d w f z e1 e2 e3 r
    obtain ⟨n', rfl⟩ : ∃ n', n = n' + 1 := ⟨n - 1, by omega⟩
    rw [fR_compileCyclic_L112]
    simp only []
    rw [a2, if_neg (nI_ge (by omega) (by omega)), q_rd (by omega) (by decide)]
    obtain ⟨x, hx⟩ : ∃ x, wd[d]? = some x := ⟨_, List.getElem?_eq_getElem (by omega)⟩
    rw [a4 d x hx]
    simp only [Option.bind_some]
    obtain ⟨w1, f1, z1, e4, r1⟩ := sR_pushB (S := rB S w f z) r (by simp; omega) x
    rw [e4]
    simp only [Option.bind_some]
    rw [nI_1]
    refine ih n' (d + 1) w1 f1 z1 (by omega) (by omega) (by omega) ?_
    rw [List.take_succ, hx]
    exact r1
theorem sim_compileCyclic {S : pX} {S2 : pR} {g : sp_G} {y : sp_G} {t : Nat} (hT : rpG S.2.1 g) (hR : rqG S2.2.1 g) (ok : okG g) (hY : rpY S.2.2.1 y t) (hQ : rqY S2.2.2.1 y t) (oky : okY y t) :
    ∃ b Y C y' t', fX_compileCyclic S = some (b, (S.1, S.2.1, Y, S.2.2.2)) ∧ fR_compileCyclic S2 = some (b, (S2.1, S2.2.1, C, S2.2.2.2)) ∧ rpY Y y' t' ∧ rqY C y' t' ∧ okY y' t' := by
  have hL3 := ok.1.1
  unfold fX_compileCyclic fR_compileCyclic
  rw [hT.1, hR.1]
  by_cases e : nI g.1 = 0
  · rw [if_pos e, if_pos e]
    exact ⟨0, _, _, y, t, rfl, rfl, hY, hQ, oky⟩
  · rw [if_neg e, if_neg e]
    unfold fY_makeOf
    obtain ⟨T, e1, r1⟩ := sT_copy (S := S.2.2.1.1) hT ok.1 (by rw [hY.1.2.1, hY.2.1])
    rw [e1]
    obtain ⟨fr, a1, a2, a3, a4⟩ := id hR.2.2.2
    obtain ⟨b', l', s', e2, r2⟩ := sR_cc19 (S := (S2.1, S2.2.1, (nI g.1, S2.2.2.1.2), S2.2.2.2)) hR ok.1 g.1 100000 0 S2.2.2.1.2.1 S2.2.2.1.2.2.1 S2.2.2.1.2.2.2.1 (by omega) (by omega) (by omega) (fun v hv => absurd hv (Nat.not_lt_zero _))
    obtain ⟨w, f, z, e3, r3⟩ := sR_cc112 (S := (S2.1, S2.2.1, (nI g.1, b', l', s', S2.2.2.1.2.2.2.2), S2.2.2.2)) hR.2.2.2 ok.2.1 a1 a3 g.2.2.2.2.length 100000 0 S2.2.2.1.2.2.2.2.1 0 0 (by omega) (by omega) (by omega) ⟨0, rfl, rfl, by simp, fun i w hi => by simp at hi⟩
    refine ⟨(2 : Int32) * nI g.1, (T, 0), (nI g.1, b', l', s', w, f, z, 0, 0), (g.1, 0, g.2.2), 0, ?_, ?_, ⟨r1, rfl, rfl⟩, ⟨rfl, r2, rfl, 0, Or.inl ⟨rfl, Or.inr rfl⟩, r3, ?_⟩, ⟨ok.1, ok.2.2.1, Or.inl ⟨rfl, ok.2.1⟩⟩⟩
    · simp only [Option.bind_some]
      unfold fY_appendants
      rw [r1.1]
    · rw [show nI 0 = (0 : Int32) from rfl] at e2
      refine Eq.trans e2 ?_
      rw [Nat.add_zero, ← a1] at e3
      exact e3
    · rw [Nat.zero_mul]; rfl

/-! spoil, the tag system's steps -/
theorem pl_ne {g : sp_G} (hL : g.1 ≤ 300) {v i : Int32} (h : ¬ pl g v i = -1) : ∃ n j w : Nat, n < g.1 ∧ v = nI n ∧ i = nI j ∧ (g.2.2.1 n)[j]? = some w := by
  unfold pl at h
  by_cases h1 : v < 0 ∨ nI g.1 ≤ v
  · rw [if_pos h1] at h
    exact absurd rfl h
  · rw [if_neg h1] at h
    obtain ⟨n, hn, rfl⟩ := nI_of (fun z => h1 (Or.inl z))
    have hn2 : n < g.1 := by
      apply Nat.lt_of_not_le
      intro z
      exact h1 (Or.inr (nI_le z hn))
    rw [nI_clamp hn] at h
    unfold wl at h
    by_cases h0 : i < 0
    · rw [if_pos h0] at h
      exact absurd rfl h
    · rw [if_neg h0] at h
      obtain ⟨j, hj, rfl⟩ := nI_of h0
      rw [nI_clamp hj] at h
      cases hw : (g.2.2.1 n)[j]? with
      | none => rw [hw] at h; exact absurd rfl h
      | some w => exact ⟨n, j, w, hn2, rfl, rfl, hw⟩
theorem set_get {l : List Nat} {j w i x : Nat} (hj : j < l.length) (h : (l.set j w)[i]? = some x) : (i = j ∧ x = w) ∨ (i ≠ j ∧ l[i]? = some x) := by
  by_cases e : i = j
  · subst e
    rw [List.getElem?_set_self hj] at h
    cases h
    exact Or.inl ⟨rfl, rfl⟩
  · rw [List.getElem?_set_ne (fun z => e z.symm)] at h
    exact Or.inr ⟨e, h⟩
theorem sim_spoil {S : pX} {S2 : pR} {g : sp_G} (hT : rpG S.2.1 g) (hR : rqG S2.2.1 g) (ok : okG g) (v1 v2 v3 : Int32) :
    ∃ b T B g', fX_spoil S v1 v2 v3 = some (b, (S.1, T, S.2.2)) ∧ fR_spoil S2 v1 v2 v3 = some (b, (S2.1, B, S2.2.2)) ∧ rpG T g' ∧ rqG B g' ∧ okG g' := by
  have hLe : S.2.1.2.2.2.2.2.2.1 = S2.2.1.1 := by rw [hT.1, hR.1]
  have hL3 := ok.1.1
  unfold fX_spoil fT_replaceInProduction fR_spoil
  rw [sT_prodLetter hT ok.1, sR_production hR ok.1, isL_eq hLe]
  simp only [Option.bind_some]
  by_cases h1 : pl g v1 v2 = -1
  · rw [if_pos h1, if_pos h1]
    exact ⟨-1, _, _, g, rfl, rfl, hT, hR, ok⟩
  · rw [if_neg h1, if_neg h1]
    obtain ⟨n, j, x, hn, rfl, rfl, hx⟩ := pl_ne ok.1.1 h1
    have h12 := (ok.1.2 n hn).1
    have hj := (List.getElem?_eq_some_iff.mp hx).1
    by_cases h2 : fT_hasLetter S.2.1 v3 = true
    · rw [if_pos h2, if_pos h2]
      obtain ⟨w, hw, rfl⟩ := hasL_of hT.1 ok.1.1 h2
      obtain ⟨P, e, hP⟩ := sT_pack (S := S.2.1) (v := n) (i := j) (w := w) (by omega) (by omega) (by omega)
      rw [e, show ((12 : Int32) * nI n) + nI j = nI (12 * n + j) from by rw [show (12 : Int32) = nI 12 from rfl, pk_mul, nI_add], q_wr (by omega) (by decide)]
      obtain ⟨k1, k2⟩ := rpP_pack hT.2.2.1 ok.1 hn (by omega) hP
      obtain ⟨l1, l2⟩ := rqP_put (len' := S2.2.1.2.2.2.1) (w := w) hR.2.2.1 ok.1 (i := j) (by omega) (v := n) rfl
      refine ⟨_, _, _, (g.1, g.2.1, pr_set g.2.2.1 n ((g.2.2.1 n).set j w), g.2.2.2), rfl, rfl, ⟨hT.1, hT.2.1, fun u hu => ?_, hT.2.2.2⟩, ⟨hR.1, hR.2.1, fun u hu => ?_, hR.2.2.2⟩, okP_spoil ok.1 hn hw, ok.2.1, ok.2.2.1, ok.2.2.2⟩
      · obtain ⟨m1, m2, m3⟩ := hT.2.2.1 u hu
        simp only [pr_set]
        by_cases e2 : u = n
        · subst e2
          rw [if_pos rfl, List.length_set]
          refine ⟨m1, m2, fun i y hi => ?_⟩
          rcases set_get hj hi with ⟨a, b⟩ | ⟨a, b⟩
          · rw [a, b]; exact k2
          · exact k1 u hu i y b (fun z => a z.2)
        · rw [if_neg e2]
          exact ⟨m1, m2, fun i y hi => k1 u hu i y hi (fun z => e2 z.1)⟩
      · obtain ⟨m1, m2, m3⟩ := hR.2.2.1 u hu
        simp only [pr_set]
        by_cases e2 : u = n
        · subst e2
          rw [if_pos rfl, List.length_set]
          refine ⟨m1, m2, fun i y hi => ?_⟩
          rcases set_get hj hi with ⟨a, b⟩ | ⟨a, b⟩
          · rw [a, b]; exact l2
          · exact l1 u hu i y b (fun z => a z.2)
        · rw [if_neg e2]
          exact ⟨m1, m2, fun i y hi => l1 u hu i y hi (fun z => e2 z.1)⟩
    · rw [if_neg h2, if_neg h2]
      exact ⟨-1, _, _, g, rfl, rfl, hT, hR, ok⟩
/-- whether a tag system can go on -/
def tg_can (g : sp_G) : Int32 := match g.2.2.2.2 with
  | a :: _ :: _ => if g.2.2.2.1 a = true then 0 else if g.2.2.2.2.length - 2 + (g.2.2.1 a).length ≤ 4000 then 1 else -2
  | _ => 0
def tg_step (g : sp_G) : sp_G := (g.1, g.2.1, g.2.2.1, g.2.2.2.1, g.2.2.2.2.drop 2 ++ g.2.2.1 (g.2.2.2.2.headD 0))
theorem p_b0 (b : Bool) : (p_b b = 0) ↔ ¬ b = true := by cases b <;> simp [p_b]
theorem sT_can {S : pT} {g : sp_G} (h : rpG S g) (okp : okP g.1 g.2.2.1) (okw : okW g.1 g.2.2.2.2) : fT_canGoOn S = some (tg_can g) := by
  obtain ⟨L, N, pr, hl, wd⟩ := g
  obtain ⟨h1, h2, h3, fr, a1, a2, a3, a4⟩ := h
  simp only at h1 h2 h3 a1 a2 a3 a4 okp okw
  have hL3 := okp.1
  have hw2 := okw.1
  unfold fT_canGoOn tg_can
  rw [a2, a3]
  match wd, a3, a4, okw, hw2 with
  | [], _, _, _, _ => rfl
  | [x], _, _, _, _ => rfl
  | x :: y :: l, _, a4, okw, hw2 =>
    have hx : x < L := okw.2 x List.mem_cons_self
    have e0 : S.2.2.2.1 fr = nI x := by
      have := a4 0 x rfl
      rwa [Nat.add_zero, Nat.mod_eq_of_lt a1] at this
    have h12 := (okp.2 x hx).1
    simp only [List.length_cons] at hw2 ⊢
    rw [if_neg (show ¬ nI (l.length + 1 + 1) < (2 : Int32) from nI_nlt (b := 2) (by omega) (by omega)), q_rd a1 (by decide), e0]
    simp only [Option.bind_some]
    rw [q_rd (by omega) (by decide), (h3 x hx).2.1]
    simp only [Option.bind_some]
    by_cases hh : hl x = true
    · rw [if_pos hh, if_neg (fun z => (p_b0 _).mp z hh)]
    · rw [if_neg hh, if_pos ((p_b0 _).mpr hh), q_rd (by omega) (by decide), (h3 x hx).1]
      simp only [Option.bind_some]
      have e : (nI (l.length + 1 + 1) - (2 : Int32)) + nI (pr x).length = nI (l.length + 1 + 1 - 2 + (pr x).length) := by rw [show (2 : Int32) = nI 2 from rfl, pk_sub (by omega), nI_add]
      by_cases hc : l.length + 1 + 1 - 2 + (pr x).length ≤ 4000
      · rw [if_pos (by rw [e]; exact nI_le (b := 4000) hc (by decide)), if_pos hc]
      · rw [if_neg (by rw [e]; exact nI_ge (a := 4000) (by omega) (by omega)), if_neg hc]
theorem sR_tagCan {S : pR} {g : sp_G} (h : rqG S.2.1 g) (okp : okP g.1 g.2.2.1) (okw : okW g.1 g.2.2.2.2) : fR_tagCan S = some (tg_can g) := by
  obtain ⟨L, N, pr, hl, wd⟩ := g
  obtain ⟨h1, h2, h3, fr, a1, a2, a3, a4⟩ := h
  simp only at h1 h2 h3 a1 a2 a3 a4 okp okw
  have hL3 := okp.1
  have hw2 := okw.1
  unfold fR_tagCan tg_can
  rw [a1, a2, pk_sub (by omega), show fr + wd.length - fr = wd.length by omega]
  match wd, a3, a4, okw, hw2 with
  | [], _, _, _, _ => rfl
  | [x], _, _, _, _ => rfl
  | x :: y :: l, a3, a4, okw, hw2 =>
    have hx : x < L := okw.2 x List.mem_cons_self
    have e0 : S.2.1.2.2.2.2.2.1 fr = nI x := a4 0 x rfl
    have h12 := (okp.2 x hx).1
    simp only [List.length_cons] at hw2 a3 ⊢
    rw [if_neg (show ¬ nI (l.length + 1 + 1) < (2 : Int32) from nI_nlt (b := 2) (by omega) (by omega)), q_rd (by omega) (by decide), e0]
    simp only [Option.bind_some]
    rw [q_rd (by omega) (by decide), (h3 x hx).2.1]
    simp only [Option.bind_some]
    by_cases hh : hl x = true
    · rw [if_pos hh, if_neg (fun z => (p_b0 _).mp z hh)]
    · rw [if_neg hh, if_pos ((p_b0 _).mpr hh), q_rd (by omega) (by decide), (h3 x hx).1]
      simp only [Option.bind_some]
      have e : (nI (l.length + 1 + 1) - (2 : Int32)) + nI (pr x).length = nI (l.length + 1 + 1 - 2 + (pr x).length) := by rw [show (2 : Int32) = nI 2 from rfl, pk_sub (by omega), nI_add]
      by_cases hc : l.length + 1 + 1 - 2 + (pr x).length ≤ 4000
      · rw [if_pos (by rw [e]; exact nI_le (b := 4000) hc (by decide)), if_pos hc]
      · rw [if_neg (by rw [e]; exact nI_ge (a := 4000) (by omega) (by omega)), if_neg hc]
/-- the class: a production put to the word's end -/
theorem sT_appendL {S : pT} {g : sp_G} (h : rpG S g) (okp : okP g.1 g.2.2.1) {v : Nat} (hv : v < g.1) {f : Int32} {wd : List Nat} (hlen : wd.length + (g.2.2.1 v).length ≤ 4096) :
    ∀ (m n i : Nat) (w : Nat → Int32) (z : Int32), (g.2.2.1 v).length - i = m → i ≤ (g.2.2.1 v).length → m < n → rpW w f z (wd ++ (g.2.2.1 v).take i) →
      ∃ w' z', fT_appendProduction_L8 n (tW S w f z) (nI v) (nI (g.2.2.1 v).length) (nI i) = some (tW S w' f z') ∧ rpW w' f z' (wd ++ g.2.2.1 v) := by
  have h12 := (okp.2 v hv).1
  intro m
  induction m with
  | zero =>
    intro n i w z e1 e2 e3 r
    obtain ⟨n', rfl⟩ : ∃ n', n = n' + 1 := ⟨n - 1, by omega⟩
    rw [fT_appendProduction_L8, if_pos (nI_le (by omega) (by omega))]
    rw [List.take_of_length_le (by omega)] at r
    exact ⟨w, z, rfl, r⟩
  | succ m ih =>
    intro n i w z e1 e2 e3 r
    obtain ⟨n', rfl⟩ : ∃ n', n = n' + 1 := ⟨n - 1, by omega⟩
    rw [fT_appendProduction_L8, if_neg (nI_ge (by omega) (by omega))]
    obtain ⟨x, hx⟩ : ∃ x, (g.2.2.1 v)[i]? = some x := ⟨_, List.getElem?_eq_getElem (by omega)⟩
    have hu : fT_unpack (tW S w f z) (nI v) (nI i) = some (nI x) := by
      have := sT_unp h okp hv hx
      unfold fT_unpack at this ⊢
      exact this
    rw [hu]
    simp only [Option.bind_some]
    obtain ⟨w1, z1, e4, r1⟩ := sT_append (S := tW S w f z) r (by simp; omega) x
    rw [e4]
    simp only [Option.bind_some]
    rw [nI_1]
    refine ih n' (i + 1) w1 z1 (by omega) (by omega) (by omega) ?_
    rw [List.take_succ, hx, ← List.append_assoc]
    exact r1
theorem sT_appendProd {S : pT} {g : sp_G} (h : rpG S g) (okp : okP g.1 g.2.2.1) {v : Nat} (hv : v < g.1) (hlen : g.2.2.2.2.length + (g.2.2.1 v).length ≤ 4096) :
    ∃ w z, fT_appendProduction S (nI v) = some (tW S w S.2.2.2.2.1 z) ∧ rpW w S.2.2.2.2.1 z (g.2.2.2.2 ++ g.2.2.1 v) := by
  have h12 := (okp.2 v hv).1
  unfold fT_appendProduction
  rw [sT_prodSize h okp hv]
  simp only [Option.bind_some]
  obtain ⟨w, z, e, r⟩ := sT_appendL h okp hv hlen _ 100000 0 S.2.2.2.1 S.2.2.2.2.2.1 rfl (by omega) (by omega) (by simpa using h.2.2.2)
  have e0 : S = tW S S.2.2.2.1 S.2.2.2.2.1 S.2.2.2.2.2.1 := rfl
  refine ⟨w, z, ?_, r⟩
  exact Eq.trans (congrArg (fun Q => fT_appendProduction_L8 100000 Q (nI v) (nI (g.2.2.1 v).length) (nI 0)) e0) e
theorem tg_go {g : sp_G} (hc : tg_can g = 1) : ∃ a b l, g.2.2.2.2 = a :: b :: l ∧ ¬ g.2.2.2.1 a = true ∧ l.length + (g.2.2.1 a).length ≤ 4000 := by
  unfold tg_can at hc
  match hw : g.2.2.2.2, hc with
  | [], hc => exact absurd (show (0 : Int32) = 1 from hc) (by decide)
  | [x], hc => exact absurd (show (0 : Int32) = 1 from hc) (by decide)
  | x :: y :: l, hc =>
    simp only [List.length_cons] at hc
    by_cases h1 : g.2.2.2.1 x = true
    · rw [if_pos h1] at hc
      exact absurd hc (by decide)
    · rw [if_neg h1] at hc
      by_cases h2 : l.length + 1 + 1 - 2 + (g.2.2.1 x).length ≤ 4000
      · exact ⟨x, y, l, rfl, h1, by omega⟩
      · rw [if_neg h2] at hc
        exact absurd hc (by decide)
theorem okG_step {g : sp_G} (ok : okG g) (hc : tg_can g = 1) : okG (tg_step g) := by
  obtain ⟨a, b, l, hw, h1, h2⟩ := tg_go hc
  have ha : a < g.1 := ok.2.2.1 a (by rw [hw]; exact List.mem_cons_self)
  unfold tg_step
  refine ⟨ok.1, ?_, fun x hx => ?_, ok.2.2.2⟩
  · simp only [hw, List.drop_succ_cons, List.drop_zero, List.headD_cons, List.length_append]
    exact h2
  · simp only [hw, List.drop_succ_cons, List.drop_zero, List.headD_cons] at hx
    rcases List.mem_append.mp hx with hx | hx
    · exact ok.2.2.1 x (by rw [hw]; exact List.mem_cons_of_mem _ (List.mem_cons_of_mem _ hx))
    · exact (ok.1.2 a ha).2 x hx
theorem sT_step {S : pT} {g : sp_G} (h : rpG S g) (ok : okG g) (hc : tg_can g = 1) : ∃ S', fT_step S = some S' ∧ rpG S' (tg_step g) := by
  obtain ⟨a, b, l, hw, h1, h2⟩ := tg_go hc
  have ha : a < g.1 := ok.2.2.1 a (by rw [hw]; exact List.mem_cons_self)
  have hlen := ok.2.1
  obtain ⟨f, z, e1, r1⟩ := sT_takeTwo h.2.2.2 (by rw [hw]; simp) (by omega)
  obtain ⟨fr, a1, a2, a3, a4⟩ := id h.2.2.2
  have e0 : S.2.2.2.1 fr = nI a := by
    have := a4 0 a (by rw [hw]; rfl)
    rwa [Nat.add_zero, Nat.mod_eq_of_lt a1] at this
  unfold fT_step
  rw [a2, q_rd a1 (by decide), e0, e1]
  simp only [Option.bind_some]
  have hg : rpG (tW S S.2.2.2.1 f z) (g.1, g.2.1, g.2.2.1, g.2.2.2.1, g.2.2.2.2.drop 2) := ⟨h.1, h.2.1, h.2.2.1, r1⟩
  have hl2 : (g.2.2.2.2.drop 2).length = l.length := by rw [hw]; rfl
  obtain ⟨w, z', e2, r2⟩ := sT_appendProd hg ok.1 (v := a) ha (by
    show (g.2.2.2.2.drop 2).length + (g.2.2.1 a).length ≤ 4096
    omega)
  rw [e2]
  refine ⟨_, rfl, h.1, h.2.1, h.2.2.1, ?_⟩
  have eh : g.2.2.2.2.headD 0 = a := by rw [hw]; rfl
  unfold tg_step
  simp only [eh]
  exact r2
theorem sR_stepL {S : pR} {g : sp_G} (h : rqG S.2.1 g) (okp : okP g.1 g.2.2.1) {v : Nat} (hv : v < g.1) {wd : List Nat} (hlen : wd.length + (g.2.2.1 v).length ≤ 4096) :
    ∀ (m n i : Nat) (w : Nat → Int32) (f z : Int32), (g.2.2.1 v).length - i = m → i ≤ (g.2.2.1 v).length → m < n → rqW w f z (wd ++ (g.2.2.1 v).take i) →
      ∃ w' f' z', fR_tagStep_L22 n (rW S w f z) (nI v) (nI i) = some (rW S w' f' z') ∧ rqW w' f' z' (wd ++ g.2.2.1 v) := by
  have h12 := (okp.2 v hv).1
  have hL3 := okp.1
  intro m
  induction m with
  | zero =>
    intro n i w f z e1 e2 e3 r
    obtain ⟨n', rfl⟩ : ∃ n', n = n' + 1 := ⟨n - 1, by omega⟩
    rw [fR_tagStep_L22, q_rd (by omega) (by decide), (h.2.2.1 v hv).1]
    simp only [Option.bind_some]
    rw [if_pos (nI_le (by omega) (by omega))]
    rw [List.take_of_length_le (by omega)] at r
    exact ⟨w, f, z, rfl, r⟩
  | succ m ih =>
    intro n i w f z e1 e2 e3 r
    obtain ⟨n', rfl⟩ : ∃ n', n = n' + 1 := ⟨n - 1, by omega⟩
    rw [fR_tagStep_L22, q_rd (by omega) (by decide), (h.2.2.1 v hv).1]
    simp only [Option.bind_some]
    rw [if_neg (nI_ge (by omega) (by omega)), show ((12 : Int32) * nI v) + nI i = nI (12 * v + i) from by rw [show (12 : Int32) = nI 12 from rfl, pk_mul, nI_add], q_rd (by omega) (by decide)]
    obtain ⟨x, hx⟩ : ∃ x, (g.2.2.1 v)[i]? = some x := ⟨_, List.getElem?_eq_getElem (by omega)⟩
    rw [(h.2.2.1 v hv).2.2 i x hx]
    simp only [Option.bind_some]
    obtain ⟨w1, f1, z1, e4, r1⟩ := sR_push (S := rW S w f z) r (by simp; omega) x
    rw [e4]
    simp only [Option.bind_some]
    rw [nI_1]
    refine ih n' (i + 1) w1 f1 z1 (by omega) (by omega) (by omega) ?_
    rw [List.take_succ, hx, ← List.append_assoc]
    exact r1
theorem sR_tagStep {S : pR} {g : sp_G} (h : rqG S.2.1 g) (ok : okG g) (hc : tg_can g = 1) : ∃ B, fR_tagStep S = some (S.1, B, S.2.2) ∧ rqG B (tg_step g) := by
  obtain ⟨a, b, l, hw, h1, h2⟩ := tg_go hc
  have ha : a < g.1 := ok.2.2.1 a (by rw [hw]; exact List.mem_cons_self)
  have hlen := ok.2.1
  have h12 := (ok.1.2 a ha).1
  obtain ⟨fr, a1, a2, a3, a4⟩ := id h.2.2.2
  have e0 : S.2.1.2.2.2.2.2.1 fr = nI a := a4 0 a (by rw [hw]; rfl)
  have hl : g.2.2.2.2.length = l.length + 2 := by rw [hw]; rfl
  unfold fR_tagStep
  rw [a1, q_rd (by omega) (by decide), e0]
  simp only [Option.bind_some]
  have hl2 : (g.2.2.2.2.drop 2).length = l.length := by rw [hw]; rfl
  have r1 : rqW S.2.1.2.2.2.2.2.1 (nI fr + 2) S.2.1.2.2.2.2.2.2.2 (g.2.2.2.2.drop 2 ++ (g.2.2.1 a).take 0) := by
    rw [List.take_zero, List.append_nil]
    refine ⟨fr + 2, by rw [show (2 : Int32) = nI 2 from rfl, nI_add], by rw [a2, hl2]; congr 1; omega, by omega, fun i x hi => ?_⟩
    rw [List.getElem?_drop] at hi
    rw [show fr + 2 + i = fr + (2 + i) by omega]
    exact a4 (2 + i) x hi
  obtain ⟨w, f, z, e2, r2⟩ := sR_stepL (S := S) h ok.1 ha (wd := g.2.2.2.2.drop 2) (by omega) _ 100000 0 S.2.1.2.2.2.2.2.1 (nI fr + 2) S.2.1.2.2.2.2.2.2.2 rfl (by omega) (by omega) r1
  refine ⟨_, e2, h.1, h.2.1, h.2.2.1, ?_⟩
  have eh : g.2.2.2.2.headD 0 = a := by rw [hw]; rfl
  unfold tg_step
  simp only [eh]
  exact r2

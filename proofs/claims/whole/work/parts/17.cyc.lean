/-! the cyclic system: a tag system's blocks, and the turn -/
abbrev rB (S : pR) (w : Nat → Int32) (f z : Int32) : pR := (S.1, S.2.1, (S.2.2.1.1, S.2.2.1.2.1, S.2.2.1.2.2.1, S.2.2.1.2.2.2.1, w, f, z, S.2.2.1.2.2.2.2.2.2.2), S.2.2.2)
/-- the reference's row of blocks, moved down where its row is full -/
theorem sR_pushB_L {S : pR} {fr v : Nat} {wd : List Nat} (h1 : S.2.2.1.2.2.2.2.2.1 = nI fr) (h2 : S.2.2.1.2.2.2.2.2.2.1 = nI (fr + wd.length)) (h3 : fr + wd.length ≤ 12000) (h0 : wd.length < fr) :
    ∀ (k n d : Nat) (w : Nat → Int32), wd.length - d = k → d ≤ wd.length → k < n → (∀ i x, wd[i]? = some x → d ≤ i → w (fr + i) = nI x) → (∀ i x, wd[i]? = some x → i < d → w i = nI x) →
      ∃ w', fR_pushBlock_L15 n (rB S w (nI fr) (nI (fr + wd.length))) (nI v) (nI (fr + d)) = some (rB S w' (nI 0) (nI (wd.length + 1))) ∧ ∀ i x, (wd ++ [v])[i]? = some x → w' i = nI x := by
  intro k
  induction k with
  | zero =>
    intro n d w e1 e2 e3 e4 e5
    obtain ⟨n', rfl⟩ : ∃ n', n = n' + 1 := ⟨n - 1, by omega⟩
    have e : d = wd.length := by omega
    subst e
    rw [fR_pushBlock_L15]
    simp only []
    rw [if_pos (nI_le (by omega) (by omega)), pk_sub (by omega), show fr + wd.length - fr = wd.length by omega, q_wr (by omega) (by decide)]
    refine ⟨upd w wd.length (nI v), ?_, fun i x hi => ?_⟩
    · simp only [Option.bind_some]
      rw [nI_1]
      rfl
    · rcases ap_get hi with ⟨a, b⟩ | ⟨a, b⟩
      · rw [pk_un (by omega)]
        exact e5 i x b a
      · rw [a, b, pk_us]
  | succ k ih =>
    intro n d w e1 e2 e3 e4 e5
    obtain ⟨n', rfl⟩ : ∃ n', n = n' + 1 := ⟨n - 1, by omega⟩
    rw [fR_pushBlock_L15]
    simp only []
    rw [if_neg (nI_ge (by omega) (by omega)), q_rd (by omega) (by decide)]
    simp only [Option.bind_some]
    rw [pk_sub (by omega), show fr + d - fr = d by omega, q_wr (by omega) (by decide)]
    simp only [Option.bind_some]
    rw [nI_1]
    obtain ⟨x, hx⟩ : ∃ x, wd[d]? = some x := ⟨_, List.getElem?_eq_getElem (by omega)⟩
    refine ih n' (d + 1) (upd w d (w (fr + d))) (by omega) (by omega) (by omega) (fun i y hi hd => ?_) (fun i y hi hd => ?_)
    · rw [pk_un (by omega)]
      exact e4 i y hi (by omega)
    · by_cases e : i = d
      · subst e
        rw [pk_us]
        exact e4 i y hi (Nat.le_refl _)
      · rw [pk_un e]
        exact e5 i y hi (by omega)
theorem sR_pushB {S : pR} {wd : List Nat} (h : rqW S.2.2.1.2.2.2.2.1 S.2.2.1.2.2.2.2.2.1 S.2.2.1.2.2.2.2.2.2.1 wd) (hl : wd.length ≤ 4096) (v : Nat) :
    ∃ w f z, fR_pushBlock S (nI v) = some (rB S w f z) ∧ rqW w f z (wd ++ [v]) := by
  obtain ⟨fr, h1, h2, h3, h4⟩ := h
  unfold fR_pushBlock
  by_cases he : fr + wd.length = 12000
  · obtain ⟨w', e, r⟩ := sR_pushB_L (S := S) (v := v) h1 h2 h3 (by omega) (wd.length - 0) 100000 0 S.2.2.1.2.2.2.2.1 (by omega) (by omega) (by omega) (fun i x hi _ => h4 i x hi) (fun i x hi hd => by omega)
    refine ⟨w', nI 0, nI (wd.length + 1), ?_, 0, rfl, by simp, by simp; omega, fun i w hi => by rw [Nat.zero_add]; exact r i w hi⟩
    rw [h1, h2, he, if_pos (show nI 12000 = (12000 : Int32) from rfl)]
    have e0 : S = rB S S.2.2.1.2.2.2.2.1 (nI fr) (nI (fr + wd.length)) := by rw [← h1, ← h2]
    rw [e0]
    exact e
  · refine ⟨upd S.2.2.1.2.2.2.2.1 (fr + wd.length) (nI v), nI fr, nI (fr + wd.length + 1), ?_, fr, rfl, by simp; rfl, by simp; omega, fun i w hi => ?_⟩
    · rw [h1, h2, if_neg (by
        rw [show (12000 : Int32) = nI 12000 from rfl, nI_eq (by omega) (by decide)]
        exact he), q_wr (by omega) (by decide)]
      simp only [Option.bind_some]
      rw [nI_1]
    · rcases ap_get hi with ⟨a, b⟩ | ⟨a, b⟩
      · rw [pk_un (by omega)]
        exact h4 i w b
      · rw [a, b, pk_us]
def rpY (S : pY) (g : sp_G) (t : Nat) : Prop := rpG S.1 g ∧ g.2.1 = 0 ∧ S.2 = nI t
/-- the reference drops the first block after L steps: k blocks are gone -/
def rqY (S : pRc) (g : sp_G) (t : Nat) : Prop := S.1 = nI g.1 ∧ rqP S.2.1 S.2.2.1 S.2.2.2.1 g.1 g.2.2.1 g.2.2.2.1 ∧ S.2.2.2.2.2.2.2.2 = nI t ∧
  ∃ k : Nat, (k = 0 ∧ (t < g.1 ∨ t = 0) ∨ k = 1 ∧ g.1 ≤ t ∧ 0 < t) ∧ rqW S.2.2.2.2.1 S.2.2.2.2.2.1 S.2.2.2.2.2.2.1 (g.2.2.2.2.drop k) ∧ S.2.2.2.2.2.2.2.1 = nI (t - k * g.1)
def okY (g : sp_G) (t : Nat) : Prop := okP g.1 g.2.2.1 ∧ (∀ w ∈ g.2.2.2.2, w < g.1) ∧
  (t = 0 ∧ g.2.2.2.2.length ≤ 4000 ∨ 0 < t ∧ t < 2 * g.1 ∧ 2 ≤ g.2.2.2.2.length ∧ g.2.2.2.2.length ≤ 4002 ∧ (t ≤ g.2.2.2.2.headD 0 → g.2.2.2.2.length + (g.2.2.1 (g.2.2.2.2.headD 0)).length ≤ 4002))
theorem okY_len {g : sp_G} {t : Nat} (ok : okY g t) : g.2.2.2.2.length ≤ 4002 := by
  rcases ok.2.2 with h | h
  · omega
  · omega
def cy_can (y : sp_G × Nat) : Int32 := if y.2 = 0 then tg_can y.1 else 1
def cy_wd (y : sp_G × Nat) : List Nat := if y.2 = y.1.2.2.2.2.headD 0 then y.1.2.2.2.2 ++ y.1.2.2.1 y.2 else y.1.2.2.2.2
def cy_step (y : sp_G × Nat) : sp_G × Nat := if y.2 + 1 = 2 * y.1.1 then ((y.1.1, y.1.2.1, y.1.2.2.1, y.1.2.2.2.1, (cy_wd y).drop 2), 0) else ((y.1.1, y.1.2.1, y.1.2.2.1, y.1.2.2.2.1, cy_wd y), y.2 + 1)
/-- within a round, and where one may begin, two blocks stand there -/
theorem cy_two {g : sp_G} {t : Nat} (ok : okY g t) (hc : cy_can (g, t) = 1) : ∃ a b l, g.2.2.2.2 = a :: b :: l ∧ a < g.1 ∧ b < g.1 ∧ t < 2 * g.1 ∧ (t ≤ a → l.length + 2 + (g.2.2.1 a).length ≤ 4002) ∧ l.length + 2 ≤ 4002 := by
  unfold cy_can at hc
  rcases ok.2.2 with ⟨h0, h1⟩ | ⟨h0, h1, h2, h3, h4⟩
  · simp only [h0, if_true] at hc
    obtain ⟨a, b, l, hw, p1, p2⟩ := tg_go hc
    have ha : a < g.1 := ok.2.1 a (by rw [hw]; exact List.mem_cons_self)
    have hb : b < g.1 := ok.2.1 b (by rw [hw]; exact List.mem_cons_of_mem _ List.mem_cons_self)
    rw [hw] at h1
    simp only [List.length_cons] at h1
    exact ⟨a, b, l, hw, ha, hb, by omega, fun _ => by omega, by omega⟩
  · match hw : g.2.2.2.2, h2, h3, h4 with
    | [], h2, _, _ => simp at h2
    | [x], h2, _, _ => simp at h2
    | a :: b :: l, h2, h3, h4 =>
      have ha : a < g.1 := ok.2.1 a (by rw [hw]; exact List.mem_cons_self)
      have hb : b < g.1 := ok.2.1 b (by rw [hw]; exact List.mem_cons_of_mem _ List.mem_cons_self)
      simp only [List.length_cons, List.headD_cons] at h3 h4
      exact ⟨a, b, l, rfl, ha, hb, h1, fun h => by have := h4 h; omega, by omega⟩
theorem okY_step {g : sp_G} {t : Nat} (ok : okY g t) (hc : cy_can (g, t) = 1) : okY (cy_step (g, t)).1 (cy_step (g, t)).2 := by
  obtain ⟨a, b, l, hw, ha, hb, ht, h1, h2⟩ := cy_two ok hc
  have hl : cy_wd (g, t) = if t = a then g.2.2.2.2 ++ g.2.2.1 a else g.2.2.2.2 := by
    unfold cy_wd
    simp only [hw, List.headD_cons]
    by_cases e : t = a
    · rw [if_pos e, if_pos e, e]
    · rw [if_neg e, if_neg e]
  have hm : ∀ w ∈ cy_wd (g, t), w < g.1 := by
    intro w h
    rw [hl] at h
    by_cases e : t = a
    · rw [if_pos e] at h
      rcases List.mem_append.mp h with h | h
      · exact ok.2.1 w h
      · exact (ok.1.2 a ha).2 w h
    · rw [if_neg e] at h
      exact ok.2.1 w h
  unfold cy_step
  by_cases e : t + 1 = 2 * g.1
  · simp only [e, if_true]
    refine ⟨ok.1, fun w h => hm w (List.mem_of_mem_drop h), Or.inl ⟨rfl, ?_⟩⟩
    rw [List.length_drop, hl]
    rw [if_neg (by omega), hw]
    simp only [List.length_cons]
    omega
  · simp only [e, if_false]
    have hhd : (cy_wd (g, t)).headD 0 = a := by
      rw [hl]
      split
      · rw [hw]; rfl
      · rw [hw]; rfl
    have hlen : (cy_wd (g, t)).length = if t = a then l.length + 2 + (g.2.2.1 a).length else l.length + 2 := by
      rw [hl]
      split
      · rw [List.length_append, hw]; rfl
      · rw [hw]; rfl
    refine ⟨ok.1, hm, Or.inr ⟨by omega, by omega, ?_, ?_, fun h => ?_⟩⟩
    · show 2 ≤ (cy_wd (g, t)).length
      rw [hlen]; split <;> omega
    · show (cy_wd (g, t)).length ≤ 4002
      rw [hlen]
      split
      · have := h1 (by omega); omega
      · omega
    · show (cy_wd (g, t)).length + (g.2.2.1 ((cy_wd (g, t)).headD 0)).length ≤ 4002
      have h' : t + 1 ≤ (cy_wd (g, t)).headD 0 := h
      rw [hhd] at h' ⊢
      rw [hlen, if_neg (by omega)]
      have := h1 (by omega)
      omega
theorem sY_can {S : pY} {g : sp_G} {t : Nat} (h : rpY S g t) (ok : okY g t) (ht : t < 2 ^ 20) : fY_canGoOn S = some (cy_can (g, t)) := by
  unfold fY_canGoOn cy_can
  rw [h.2.2, sT_can h.1 ok.1 ⟨okY_len ok, ok.2.1⟩]
  by_cases e : t = 0
  · subst e
    rw [if_pos (show nI 0 = (0 : Int32) from rfl)]
    simp
  · rw [if_neg (nI_ne0 (by omega) (by omega))]
    simp [e]
theorem sY_step {S : pY} {g : sp_G} {t : Nat} (h : rpY S g t) (ok : okY g t) (hc : cy_can (g, t) = 1) : ∃ S', fY_step S = some S' ∧ rpY S' (cy_step (g, t)).1 (cy_step (g, t)).2 := by
  obtain ⟨a, b, l, hw, ha, hb, ht, h1, h2⟩ := cy_two ok hc
  have hL3 := ok.1.1
  have hlen : g.2.2.2.2.length = l.length + 2 := by rw [hw]; rfl
  have e0 : fT_wordLetter S.1 (0 : Int32) = some (nI a) := by
    rw [show (0 : Int32) = nI 0 from rfl, sT_wordLetter h.1.2.2.2 (by omega), wl_nI (by decide), hw]
    rfl
  have hl : cy_wd (g, t) = if t = a then g.2.2.2.2 ++ g.2.2.1 a else g.2.2.2.2 := by
    unfold cy_wd
    simp only [hw, List.headD_cons]
    by_cases e : t = a
    · rw [if_pos e, if_pos e, e]
    · rw [if_neg e, if_neg e]
  have key : ∀ T : pT, rpG T (g.1, g.2.1, g.2.2.1, g.2.2.2.1, cy_wd (g, t)) → (cy_wd (g, t)).length ≤ 4096 → 2 ≤ (cy_wd (g, t)).length →
      ∃ S', (if (nI t + (1 : Int32)) = (fY_appendants (T, (nI t + (1 : Int32)))) then some ((fT_takeTwo T), (0 : Int32)) else some (T, (nI t + (1 : Int32)))) = some S' ∧ rpY S' (cy_step (g, t)).1 (cy_step (g, t)).2 := by
    intro T hT q1 q2
    unfold fY_appendants cy_step
    simp only []
    rw [hT.1, nI_1, show (2 : Int32) * nI g.1 = nI (2 * g.1) from by rw [show (2 : Int32) = nI 2 from rfl, pk_mul]]
    by_cases e : t + 1 = 2 * g.1
    · rw [if_pos (by rw [e])]
      simp only [e, if_true]
      obtain ⟨f, z, e1, r1⟩ := sT_takeTwo hT.2.2.2 q2 q1
      rw [e1]
      exact ⟨_, rfl, ⟨hT.1, hT.2.1, hT.2.2.1, r1⟩, h.2.1, rfl⟩
    · rw [if_neg (by rw [nI_eq (by omega) (by omega)]; exact e)]
      simp only [e, if_false]
      exact ⟨_, rfl, hT, h.2.1, rfl⟩
  unfold fY_step
  rw [e0, h.2.2]
  simp only [Option.bind_some]
  by_cases e : t = a
  · rw [if_pos (by rw [e])]
    have h3 := h1 (by omega)
    obtain ⟨w, z, e1, r1⟩ := sT_appendProd h.1 ok.1 ha (by omega)
    rw [e1]
    simp only [Option.bind_some]
    rw [hl, if_pos e] at key
    exact key _ ⟨h.1.1, h.1.2.1, h.1.2.2.1, r1⟩ (by rw [List.length_append]; omega) (by rw [List.length_append]; omega)
  · rw [if_neg (by rw [nI_eq (by omega) (by omega)]; exact e)]
    rw [hl, if_neg e] at key
    exact key _ h.1 (by omega) (by omega)

/-! words and productions: the cells of both sides -/
def rpW (word : Nat → Int32) (front size : Int32) (wd : List Nat) : Prop := ∃ fr : Nat, fr < 4096 ∧ front = nI fr ∧ size = nI wd.length ∧ ∀ i w, wd[i]? = some w → word ((fr + i) % 4096) = nI w
def rqW (word : Nat → Int32) (frm to : Int32) (wd : List Nat) : Prop := ∃ fr : Nat, frm = nI fr ∧ to = nI (fr + wd.length) ∧ fr + wd.length ≤ 12000 ∧ ∀ i w, wd[i]? = some w → word (fr + i) = nI w
def rpP (packs : Nat → Int64) (sizes halting : Nat → Int32) (L : Nat) (pr : Nat → List Nat) (hl : Nat → Bool) : Prop :=
  ∀ v, v < L → sizes v = nI (pr v).length ∧ halting v = p_b (hl v) ∧ ∀ i w, (pr v)[i]? = some w → sp_pk (packs (2 * v + i / 6)) (i % 6) = w
def rqP (prod len halting : Nat → Int32) (L : Nat) (pr : Nat → List Nat) (hl : Nat → Bool) : Prop :=
  ∀ v, v < L → len v = nI (pr v).length ∧ halting v = p_b (hl v) ∧ ∀ i w, (pr v)[i]? = some w → prod (12 * v + i) = nI w
def okP (L : Nat) (pr : Nat → List Nat) : Prop := L ≤ 300 ∧ ∀ v, v < L → (pr v).length ≤ 12 ∧ ∀ w ∈ pr v, w < L
def okW (L : Nat) (wd : List Nat) : Prop := wd.length ≤ 4002 ∧ ∀ w ∈ wd, w < L
/-- a tag system's cells with another word -/
abbrev tW (S : pT) (w : Nat → Int32) (f z : Int32) : pT := (S.1, S.2.1, S.2.2.1, w, f, z, S.2.2.2.2.2.2.1, S.2.2.2.2.2.2.2)
abbrev rW (S : pR) (w : Nat → Int32) (f z : Int32) : pR := (S.1, (S.2.1.1, S.2.1.2.1, S.2.1.2.2.1, S.2.1.2.2.2.1, S.2.1.2.2.2.2.1, w, f, z), S.2.2)
theorem ap_get {wd : List Nat} {v i w : Nat} (h : (wd ++ [v])[i]? = some w) : (i < wd.length ∧ wd[i]? = some w) ∨ (i = wd.length ∧ w = v) := by
  by_cases hi : i < wd.length
  · rw [List.getElem?_append_left hi] at h
    exact Or.inl ⟨hi, h⟩
  · rw [List.getElem?_append_right (by omega)] at h
    have : i - wd.length < 1 := (List.getElem?_eq_some_iff.mp h).1
    have e : i = wd.length := by omega
    rw [e, Nat.sub_self] at h
    cases h
    exact Or.inr ⟨e, rfl⟩
theorem q_and (n : Nat) (h : n < 2 ^ 32) : nI n &&& (4095 : Int32) = nI (n % 4096) := pk_andN h 12 (by decide)
theorem sT_append {S : pT} {wd : List Nat} (h : rpW S.2.2.2.1 S.2.2.2.2.1 S.2.2.2.2.2.1 wd) (hl : wd.length < 4096) (v : Nat) :
    ∃ w z, fT_append S (nI v) = some (tW S w S.2.2.2.2.1 z) ∧ rpW w S.2.2.2.2.1 z (wd ++ [v]) := by
  obtain ⟨fr, h1, h2, h3, h4⟩ := h
  unfold fT_append
  rw [h2, h3]
  refine ⟨upd S.2.2.2.1 ((fr + wd.length) % 4096) (nI v), nI (wd.length + 1), ?_, fr, h1, rfl, by simp, fun i w hi => ?_⟩
  · rw [nI_add, q_and _ (by omega), q_wr (Nat.mod_lt _ (by decide)) (by decide), nI_1]
    rfl
  · rcases ap_get hi with ⟨a, b⟩ | ⟨a, b⟩
    · rw [pk_un (by omega)]
      exact h4 i w b
    · rw [a, b, pk_us]
/-- what stands at a place of a word: -1 where there is none -/
def wl (wd : List Nat) (v : Int32) : Int32 := if v < 0 then -1 else match wd[v.toNatClampNeg]? with
  | some w => nI w
  | none => -1
theorem wl_nI {wd : List Nat} {i : Nat} (hi : i < 2 ^ 31) : wl wd (nI i) = match wd[i]? with
    | some w => nI w
    | none => -1 := by
  unfold wl
  rw [if_neg (nI_pos hi), nI_clamp hi]
theorem sT_wordLetter {S : pT} {wd : List Nat} (h : rpW S.2.2.2.1 S.2.2.2.2.1 S.2.2.2.2.2.1 wd) (hl : wd.length ≤ 4096) (v : Int32) : fT_wordLetter S v = some (wl wd v) := by
  obtain ⟨fr, h1, h2, h3, h4⟩ := h
  unfold fT_wordLetter
  rw [h2, h3]
  by_cases h0 : v < 0
  · rw [if_pos h0]
    unfold wl
    rw [if_pos h0]
  · rw [if_neg h0]
    obtain ⟨j, hj, rfl⟩ := nI_of h0
    rw [wl_nI hj]
    by_cases hi : wd.length ≤ j
    · rw [if_pos (nI_le hi hj), List.getElem?_eq_none hi]
    · rw [if_neg (nI_ge (by omega) (by omega)), nI_add, q_and _ (by omega), q_rd (Nat.mod_lt _ (by decide)) (by decide)]
      obtain ⟨w, hw⟩ : ∃ w, wd[j]? = some w := ⟨_, List.getElem?_eq_getElem (by omega)⟩
      rw [hw, h4 j w hw]
      rfl
theorem sR_tagLetter {S : pR} {wd : List Nat} (h : rqW S.2.1.2.2.2.2.2.1 S.2.1.2.2.2.2.2.2.1 S.2.1.2.2.2.2.2.2.2 wd) (v : Int32) : fR_tagLetter S v = some (wl wd v) := by
  obtain ⟨fr, h1, h2, h3, h4⟩ := h
  unfold fR_tagLetter
  rw [h1, h2]
  by_cases h0 : v < 0
  · rw [if_pos h0]
    unfold wl
    rw [if_pos h0]
  · rw [if_neg h0]
    obtain ⟨j, hj, rfl⟩ := nI_of h0
    rw [wl_nI hj, pk_sub (by omega), show fr + wd.length - fr = wd.length by omega]
    by_cases hi : wd.length ≤ j
    · rw [if_neg (nI_nlt hi hj), List.getElem?_eq_none hi]
    · rw [if_pos (nI_lt (by omega) (by omega)), nI_add, q_rd (by omega) (by decide)]
      obtain ⟨w, hw⟩ : ∃ w, wd[j]? = some w := ⟨_, List.getElem?_eq_getElem (by omega)⟩
      rw [hw, h4 j w hw]
      rfl
theorem sT_takeTwo {S : pT} {wd : List Nat} (h : rpW S.2.2.2.1 S.2.2.2.2.1 S.2.2.2.2.2.1 wd) (hl : 2 ≤ wd.length) (hl2 : wd.length ≤ 4096) :
    ∃ f z, fT_takeTwo S = tW S S.2.2.2.1 f z ∧ rpW S.2.2.2.1 f z (wd.drop 2) := by
  obtain ⟨fr, h1, h2, h3, h4⟩ := h
  unfold fT_takeTwo
  rw [h2, h3]
  refine ⟨_, _, rfl, (fr + 2) % 4096, Nat.mod_lt _ (by decide), ?_, ?_, fun i w hi => ?_⟩
  · rw [show (2 : Int32) = nI 2 from rfl, nI_add, q_and _ (by omega)]
  · rw [show (2 : Int32) = nI 2 from rfl, pk_sub hl, List.length_drop]
  · rw [List.getElem?_drop] at hi
    rw [show ((fr + 2) % 4096 + i) % 4096 = (fr + (2 + i)) % 4096 by omega]
    exact h4 (2 + i) w hi
/-- the reference's word, moved down where its row is full -/
theorem sR_push_L {S : pR} {fr v : Nat} {wd : List Nat} (h1 : S.2.1.2.2.2.2.2.2.1 = nI fr) (h2 : S.2.1.2.2.2.2.2.2.2 = nI (fr + wd.length)) (h3 : fr + wd.length ≤ 12000) (h0 : wd.length < fr) :
    ∀ (k n d : Nat) (w : Nat → Int32), wd.length - d = k → d ≤ wd.length → k < n → (∀ i x, wd[i]? = some x → d ≤ i → w (fr + i) = nI x) → (∀ i x, wd[i]? = some x → i < d → w i = nI x) →
      ∃ w', fR_push_L15 n (rW S w (nI fr) (nI (fr + wd.length))) (nI v) (nI (fr + d)) = some (rW S w' (nI 0) (nI (wd.length + 1))) ∧ ∀ i x, (wd ++ [v])[i]? = some x → w' i = nI x := by
  intro k
  induction k with
  | zero =>
    intro n d w e1 e2 e3 e4 e5
    obtain ⟨n', rfl⟩ : ∃ n', n = n' + 1 := ⟨n - 1, by omega⟩
    have e : d = wd.length := by omega
    subst e
    rw [fR_push_L15]
    simp only []
    rw [if_pos (nI_le (by omega) (by omega)), pk_sub (by omega), show fr + wd.length - fr = wd.length by omega, q_wr (by omega) (by decide)]
    refine ⟨upd w wd.length (nI v), ?_, fun i x hi => ?_⟩
    · simp only [Option.bind_some]
      rw [nI_1]
      rfl
    · rcases ap_get hi with ⟨a, b⟩ | ⟨a, b⟩
      · rw [pk_un (by omega)]
        exact e5 i x b a
      · rw [a, b, pk_us]
  | succ k ih =>
    intro n d w e1 e2 e3 e4 e5
    obtain ⟨n', rfl⟩ : ∃ n', n = n' + 1 := ⟨n - 1, by omega⟩
    rw [fR_push_L15]
    simp only []
    rw [if_neg (nI_ge (by omega) (by omega)), q_rd (by omega) (by decide)]
    simp only [Option.bind_some]
    rw [pk_sub (by omega), show fr + d - fr = d by omega, q_wr (by omega) (by decide)]
    simp only [Option.bind_some]
    rw [nI_1]
    obtain ⟨x, hx⟩ : ∃ x, wd[d]? = some x := ⟨_, List.getElem?_eq_getElem (by omega)⟩
    refine ih n' (d + 1) (upd w d (w (fr + d))) (by omega) (by omega) (by omega) (fun i y hi hd => ?_) (fun i y hi hd => ?_)
    · rw [pk_un (by omega)]
      exact e4 i y hi (by omega)
    · by_cases e : i = d
      · subst e
        rw [pk_us]
        exact e4 i y hi (Nat.le_refl _)
      · rw [pk_un e]
        exact e5 i y hi (by omega)
theorem sR_push {S : pR} {wd : List Nat} (h : rqW S.2.1.2.2.2.2.2.1 S.2.1.2.2.2.2.2.2.1 S.2.1.2.2.2.2.2.2.2 wd) (hl : wd.length ≤ 4096) (v : Nat) :
    ∃ w f z, fR_push S (nI v) = some (rW S w f z) ∧ rqW w f z (wd ++ [v]) := by
  obtain ⟨fr, h1, h2, h3, h4⟩ := h
  unfold fR_push
  by_cases he : fr + wd.length = 12000
  · obtain ⟨w', e, r⟩ := sR_push_L (S := S) (v := v) h1 h2 h3 (by omega) (wd.length - 0) 100000 0 S.2.1.2.2.2.2.2.1 (by omega) (by omega) (by omega) (fun i x hi _ => h4 i x hi) (fun i x hi hd => by omega)
    refine ⟨w', nI 0, nI (wd.length + 1), ?_, 0, rfl, by simp, by simp; omega, fun i w hi => by rw [Nat.zero_add]; exact r i w hi⟩
    rw [h1, h2, he, if_pos (show nI 12000 = (12000 : Int32) from rfl)]
    have e0 : S = rW S S.2.1.2.2.2.2.2.1 (nI fr) (nI (fr + wd.length)) := by rw [← h1, ← h2]
    rw [e0]
    exact e
  · refine ⟨upd S.2.1.2.2.2.2.2.1 (fr + wd.length) (nI v), nI fr, nI (fr + wd.length + 1), ?_, fr, rfl, by simp; rfl, by simp; omega, fun i w hi => ?_⟩
    · rw [h1, h2, if_neg (by
        rw [show (12000 : Int32) = nI 12000 from rfl, nI_eq (by omega) (by decide)]
        exact he), q_wr (by omega) (by decide)]
      simp only [Option.bind_some]
      rw [nI_1]
    · rcases ap_get hi with ⟨a, b⟩ | ⟨a, b⟩
      · rw [pk_un (by omega)]
        exact h4 i w b
      · rw [a, b, pk_us]

/-! productions: packs of the class, rows of the reference -/
theorem sT_unpack {S : pT} {v i : Nat} (hv : v < 300) (hi : i < 12) : fT_unpack S (nI v) (nI i) = some (nI (sp_pk (S.1 (2 * v + i / 6)) (i % 6))) := by
  unfold fT_unpack
  simp (disch := omega) only [q_lit, nI_add, pk_mul, pk_div, q_rem, q_rd, Option.bind_some]
  rw [show v * 2 + i / 6 = 2 * v + i / 6 by omega]
  exact congrArg some (sp_un _ (Nat.mod_lt _ (by decide)))
theorem sT_pack {S : pT} {v i w : Nat} (hv : v < 300) (hi : i < 12) (hw : w < 1024) :
    ∃ P, fT_pack S (nI v) (nI i) (nI w) = some (P, S.2) ∧ ∀ a j, j < 6 → sp_pk (P a) j = if a = 2 * v + i / 6 ∧ j = i % 6 then w else sp_pk (S.1 a) j := by
  unfold fT_pack
  simp (disch := omega) only [q_lit, nI_add, pk_mul, pk_div, q_rem, q_rd, q_wrL, Option.bind_some]
  refine ⟨_, rfl, fun a j hj => ?_⟩
  by_cases e : a = v * 2 + i / 6
  · rw [e, pk_uLs]
    have := sp_st (S.1 (v * 2 + i / 6)) hw (Nat.mod_lt i (by decide : 0 < 6)) hj
    refine Eq.trans this ?_
    by_cases e2 : j = i % 6
    · rw [if_pos e2, if_pos ⟨by omega, e2⟩]
    · rw [if_neg e2, if_neg (fun z => e2 z.2)]
  · rw [pk_uLn e, if_neg (fun z => e (by omega))]
/-- a letter of a system -/
theorem hasL_of {S : pT} {L : Nat} (h : S.2.2.2.2.2.2.1 = nI L) (hL : L ≤ 300) {v : Int32} (hv : fT_hasLetter S v = true) : ∃ n : Nat, n < L ∧ v = nI n := by
  unfold fT_hasLetter at hv
  rw [h] at hv
  by_cases h1 : v < 0
  · rw [if_pos h1] at hv; cases hv
  · rw [if_neg h1] at hv
    obtain ⟨j, hj, rfl⟩ := nI_of h1
    by_cases h2 : L ≤ j
    · rw [if_pos (nI_le h2 hj)] at hv; cases hv
    · exact ⟨j, by omega, rfl⟩
theorem hasL_nI {S : pT} {L n : Nat} (h : S.2.2.2.2.2.2.1 = nI L) (hL : L ≤ 300) (hn : n < L) : fT_hasLetter S (nI n) = true := by
  unfold fT_hasLetter
  rw [h, if_neg (nI_pos (by omega)), if_neg (nI_ge hn (by omega))]
theorem isL_eq {S : pT} {S2 : pR} (h : S.2.2.2.2.2.2.1 = S2.2.1.1) (v : Int32) : fR_isLetter S2 v = fT_hasLetter S v := by
  unfold fR_isLetter fT_hasLetter
  rw [h]
def pr_set (pr : Nat → List Nat) (v : Nat) (l : List Nat) : Nat → List Nat := fun u => if u = v then l else pr u
theorem rpP_pack {packs P : Nat → Int64} {sizes halting : Nat → Int32} {L v i w : Nat} {pr : Nat → List Nat} {hl : Nat → Bool} (h : rpP packs sizes halting L pr hl) (ok : okP L pr) (hv : v < L) (hi : i < 12)
    (hP : ∀ a j, j < 6 → sp_pk (P a) j = if a = 2 * v + i / 6 ∧ j = i % 6 then w else sp_pk (packs a) j) :
    (∀ u, u < L → ∀ k x, (pr u)[k]? = some x → ¬ (u = v ∧ k = i) → sp_pk (P (2 * u + k / 6)) (k % 6) = x) ∧ sp_pk (P (2 * v + i / 6)) (i % 6) = w := by
  refine ⟨fun u hu k x hk hne => ?_, ?_⟩
  · have hk12 : k < 12 := Nat.lt_of_lt_of_le (List.getElem?_eq_some_iff.mp hk).1 (ok.2 u hu).1
    rw [hP _ _ (Nat.mod_lt _ (by decide)), if_neg]
    · exact (h u hu).2.2 k x hk
    · intro z
      apply hne
      omega
  · rw [hP _ _ (Nat.mod_lt _ (by decide)), if_pos ⟨rfl, rfl⟩]
theorem okP_add {L v w : Nat} {pr : Nat → List Nat} (ok : okP L pr) (hv : v < L) (hw : w < L) (hl : (pr v).length < 12) : okP L (pr_set pr v (pr v ++ [w])) := by
  refine ⟨ok.1, fun u hu => ?_⟩
  unfold pr_set
  by_cases e : u = v
  · rw [if_pos e]
    refine ⟨by simp; omega, fun x hx => ?_⟩
    rcases List.mem_append.mp hx with hx | hx
    · exact (ok.2 v hv).2 x hx
    · rw [List.mem_singleton.mp hx]; exact hw
  · rw [if_neg e]
    exact ok.2 u hu
theorem okP_spoil {L v w i : Nat} {pr : Nat → List Nat} (ok : okP L pr) (hv : v < L) (hw : w < L) : okP L (pr_set pr v ((pr v).set i w)) := by
  refine ⟨ok.1, fun u hu => ?_⟩
  unfold pr_set
  by_cases e : u = v
  · rw [if_pos e]
    refine ⟨by rw [List.length_set]; exact (ok.2 v hv).1, fun x hx => ?_⟩
    rcases List.mem_or_eq_of_mem_set hx with hx | hx
    · exact (ok.2 v hv).2 x hx
    · rw [hx]; exact hw
  · rw [if_neg e]
    exact ok.2 u hu
/-- the class: a letter more -/
theorem sT_add {S : pT} {L v w : Nat} {pr : Nat → List Nat} {hl : Nat → Bool} (hL : S.2.2.2.2.2.2.1 = nI L) (h : rpP S.1 S.2.1 S.2.2.1 L pr hl) (ok : okP L pr) (hv : v < L) (hw : w < L) :
    if (pr v).length < 12 then ∃ P Z, fT_addToProduction S (nI v) (nI w) = some (true, (P, Z, S.2.2)) ∧ rpP P Z S.2.2.1 L (pr_set pr v (pr v ++ [w])) hl
    else fT_addToProduction S (nI v) (nI w) = some (false, S) := by
  have hL3 := ok.1
  have h12 := (ok.2 v hv).1
  unfold fT_addToProduction
  rw [hasL_nI hL ok.1 hv, hasL_nI hL ok.1 hw, if_pos rfl, if_pos rfl, q_rd (by omega) (by decide), (h v hv).1]
  simp only [Option.bind_some]
  by_cases hlt : (pr v).length < 12
  · rw [if_pos hlt, if_pos (show nI (pr v).length < (12 : Int32) from nI_lt (b := 12) hlt (by decide))]
    obtain ⟨P, e, hP⟩ := sT_pack (S := S) (v := v) (i := (pr v).length) (w := w) (by omega) hlt (by omega)
    rw [e]
    simp only [Option.bind_some]
    rw [q_rd (by omega) (by decide)]
    simp only [Option.bind_some]
    rw [q_wr (by omega) (by decide)]
    refine ⟨P, upd S.2.1 v (S.2.1 v + 1), rfl, fun u hu => ?_⟩
    obtain ⟨k1, k2⟩ := rpP_pack h ok hv hlt hP
    unfold pr_set
    by_cases e2 : u = v
    · subst e2
      rw [if_pos rfl, pk_us, (h u hu).1, nI_1]
      refine ⟨by simp, (h u hu).2.1, fun i x hi => ?_⟩
      rcases ap_get hi with ⟨a, b⟩ | ⟨a, b⟩
      · exact k1 u hu i x b (fun z => by omega)
      · rw [a, b]; exact k2
    · rw [if_neg e2, pk_un e2]
      exact ⟨(h u hu).1, (h u hu).2.1, fun i x hi => k1 u hu i x hi (fun z => e2 z.1)⟩
  · rw [if_neg hlt, if_neg (show ¬ nI (pr v).length < (12 : Int32) from nI_nlt (b := 12) (by omega) (by omega))]
abbrev rP (S : pR) (p l : Nat → Int32) : pR := (S.1, (S.2.1.1, S.2.1.2.1, p, l, S.2.1.2.2.2.2), S.2.2)
theorem rqP_put {prod len len' halting p : Nat → Int32} {L v i w : Nat} {pr : Nat → List Nat} {hl : Nat → Bool} (h : rqP prod len halting L pr hl) (ok : okP L pr) (hi : i < 12) (hp : p = upd prod (12 * v + i) (nI w)) :
    (∀ u, u < L → ∀ k x, (pr u)[k]? = some x → ¬ (u = v ∧ k = i) → p (12 * u + k) = nI x) ∧ p (12 * v + i) = nI w := by
  subst hp
  refine ⟨fun u hu k x hk hne => ?_, pk_us⟩
  have hk12 : k < 12 := Nat.lt_of_lt_of_le (List.getElem?_eq_some_iff.mp hk).1 (ok.2 u hu).1
  rw [pk_un (fun z => hne (by omega))]
  exact (h u hu).2.2 k x hk
/-- the reference: a letter more -/
theorem sR_add {S : pR} {L v w : Nat} {pr : Nat → List Nat} {hl : Nat → Bool} (h : rqP S.2.1.2.2.1 S.2.1.2.2.2.1 S.2.1.2.2.2.2.1 L pr hl) (ok : okP L pr) (hv : v < L) (hlt : (pr v).length < 12) :
    ∃ p l, fR_add S (nI v) (nI w) = some (rP S p l) ∧ rqP p l S.2.1.2.2.2.2.1 L (pr_set pr v (pr v ++ [w])) hl := by
  have hL3 := ok.1
  unfold fR_add
  rw [q_rd (by omega) (by decide), (h v hv).1]
  simp only [Option.bind_some]
  rw [show ((12 : Int32) * nI v) + nI (pr v).length = nI (12 * v + (pr v).length) from by rw [show (12 : Int32) = nI 12 from rfl, pk_mul, nI_add], q_wr (by omega) (by decide)]
  simp only [Option.bind_some]
  rw [q_wr (by omega) (by decide)]
  refine ⟨_, _, rfl, fun u hu => ?_⟩
  obtain ⟨k1, k2⟩ := rqP_put (len' := S.2.1.2.2.2.1) (w := w) h ok hlt (v := v) rfl
  unfold pr_set
  by_cases e2 : u = v
  · subst e2
    rw [if_pos rfl, pk_us, nI_1]
    refine ⟨by simp, (h u hu).2.1, fun i x hi => ?_⟩
    rcases ap_get hi with ⟨a, b⟩ | ⟨a, b⟩
    · exact k1 u hu i x b (fun z => by omega)
    · rw [a, b]; exact k2
  · rw [if_neg e2, pk_un e2]
    exact ⟨(h u hu).1, (h u hu).2.1, fun i x hi => k1 u hu i x hi (fun z => e2 z.1)⟩

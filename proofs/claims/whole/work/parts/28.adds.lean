/-! productions made of lists of pairs -/
/-- a name of the tables: 54 is x, below 18 a letter of the rule's own, from 18 on one of the next state's -/
def cd (own nxt c : Nat) : Nat := if c = 54 then 0 else if c < 18 then own + c else nxt + c - 18
def ad_1 (pr : Nat → List Nat) (a : Nat × Nat) : Nat → List Nat := pr_set pr a.1 (pr a.1 ++ [a.2])
def ad_l (pr : Nat → List Nat) (as : List (Nat × Nat)) : Nat → List Nat := as.foldl ad_1 pr
theorem ad_l_at (as : List (Nat × Nat)) : ∀ (pr : Nat → List Nat) (v : Nat), ad_l pr as v = pr v ++ (as.filter (fun a => a.1 == v)).map Prod.snd := by
  induction as with
  | nil => intro pr v; simp [ad_l]
  | cons a as ih =>
    intro pr v
    have h : ad_l pr (a :: as) v = ad_l (ad_1 pr a) as v := rfl
    rw [h, ih]
    by_cases hv : v = a.1
    · subst hv
      simp [ad_1, pr_set]
    · have h2 : (a.1 == v) = false := by simp; exact fun e => hv e.symm
      simp [ad_1, pr_set, hv, h2]
def ad_f (own nxt : Nat) (p : Nat × Nat) : Nat × Nat := (own + p.1, cd own nxt p.2)
theorem cd_nI {own nxt c : Nat} (hc : c ≤ 54) (ho : own < 300) (hn : nxt < 300) : fG_letterOf (nI c) (nI own) (nI nxt) = nI (cd own nxt c) := by
  unfold fG_letterOf cd
  by_cases h1 : c = 54
  · rw [if_pos (show nI c = (54 : Int32) from by rw [h1]; rfl), if_pos h1]
    rfl
  · rw [if_neg (show ¬ nI c = (54 : Int32) from fun z => by
      rw [show (54 : Int32) = nI 54 from rfl, nI_eq (by omega) (by decide)] at z
      exact h1 z), if_neg h1]
    by_cases h2 : c < 18
    · rw [if_neg (show ¬ (18 : Int32) ≤ nI c from nI_ge (b := 18) h2 (by decide)), if_pos h2, nI_add]
    · rw [if_pos (show (18 : Int32) ≤ nI c from nI_le (a := 18) (by omega) (by omega)), if_neg h2, nI_add, show (18 : Int32) = nI 18 from rfl, pk_sub (by omega)]
def flat2 : List (Nat × Nat) → List Nat
  | [] => []
  | p :: l => p.1 :: p.2 :: flat2 l
theorem flat2_len : ∀ l : List (Nat × Nat), (flat2 l).length = 2 * l.length
  | [] => rfl
  | p :: l => by simp [flat2, flat2_len l]; omega
/-- the class: all pairs of a table -/
theorem sG_addL {k own nxt L : Nat} {hl : Nat → Bool} (hk : (tb_l k).length = tb_n k) (hkn : tb_n k < 1000) (ho : own + 18 ≤ L) (hn : nxt < 300) (hL3 : L ≤ 300) :
    ∀ (r : List (Nat × Nat)) (n i : Nat) (S : pT) (pr : Nat → List Nat), (tb_l k).drop i = flat2 r → r.length < n → i ≤ tb_n k → S.2.2.2.2.2.2.1 = nI L → rpP S.1 S.2.1 S.2.2.1 L pr hl → okP L pr →
      (∀ p ∈ r, p.1 < 18 ∧ p.2 ≤ 54 ∧ cd own nxt p.2 < L) → (∀ u, (ad_l pr (r.map (ad_f own nxt)) u).length ≤ 12) →
      ∃ P Z, fG_addAll_L3 k n S (nI own) (nI nxt) (nI i) = some (P, Z, S.2.2) ∧ rpP P Z S.2.2.1 L (ad_l pr (r.map (ad_f own nxt))) hl ∧ okP L (ad_l pr (r.map (ad_f own nxt))) := by
  intro r
  induction r with
  | nil =>
    intro n i S pr hd hn' hi hS hP ok hr hcap
    obtain ⟨n', rfl⟩ : ∃ n', n = n' + 1 := ⟨n - 1, by simp at hn'; omega⟩
    have hl2 := congrArg List.length hd
    rw [List.length_drop, hk] at hl2
    simp only [flat2, List.length_nil] at hl2
    rw [fG_addAll_L3, nI_1, if_pos (nI_le (by omega) (by omega))]
    exact ⟨_, _, rfl, hP, ok⟩
  | cons p r ih =>
    intro n i S pr hd hn' hi hS hP ok hr hcap
    simp only [List.length_cons] at hn'
    obtain ⟨n', rfl⟩ : ∃ n', n = n' + 1 := ⟨n - 1, by omega⟩
    have hl2 := congrArg List.length hd
    rw [List.length_drop, hk, flat2_len, List.length_cons] at hl2
    obtain ⟨p1, p2, p3⟩ := hr p List.mem_cons_self
    have g0 : (tb_l k)[i]? = some p.1 := by
      have : ((tb_l k).drop i)[0]? = some p.1 := by rw [hd]; rfl
      rwa [List.getElem?_drop, Nat.add_zero] at this
    have g1 : (tb_l k)[i + 1]? = some p.2 := by
      have : ((tb_l k).drop i)[1]? = some p.2 := by rw [hd]; rfl
      rwa [List.getElem?_drop] at this
    have t0 : tb_f k i = nI p.1 := by unfold tb_f; rw [List.getD_eq_getElem?_getD, g0]; rfl
    have t1 : tb_f k (i + 1) = nI p.2 := by unfold tb_f; rw [List.getD_eq_getElem?_getD, g1]; rfl
    rw [fG_addAll_L3, nI_1, if_neg (nI_ge (by omega) (by omega)), q_rd (by omega) (by omega), q_rd (by omega) (by omega), t0, t1]
    simp only [Option.bind_some]
    rw [nI_add, cd_nI p2 (by omega) hn]
    have hlt : (pr (own + p.1)).length < 12 := by
      have := hcap (own + p.1)
      rw [ad_l_at] at this
      simp only [List.map_cons, List.length_append, ad_f] at this
      rw [List.filter_cons_of_pos (by simp)] at this
      simp only [List.map_cons, List.length_cons] at this
      omega
    have ha := sT_add hS hP ok (v := own + p.1) (w := cd own nxt p.2) (by omega) p3
    rw [if_pos hlt] at ha
    obtain ⟨P, Z, e, r1⟩ := ha
    rw [e]
    simp only [Option.bind_some]
    rw [show nI i + (2 : Int32) = nI (i + 2) from by rw [show (2 : Int32) = nI 2 from rfl, nI_add]]
    obtain ⟨P2, Z2, e2, r2, r3⟩ := ih n' (i + 2) (P, Z, S.2.2) (ad_1 pr (ad_f own nxt p)) (by
        rw [show i + 2 = i + 2 from rfl, ← List.drop_drop, hd]; rfl) (by omega) (by omega) hS r1 (okP_add ok (show own + p.1 < L by omega) p3 hlt) (fun q hq => hr q (List.mem_cons_of_mem _ hq)) hcap
    exact ⟨P2, Z2, e2, r2, r3⟩
/-- the reference: letters added one by one -/
def rAdds : List (Int32 × Int32) → pR → Option pR
  | [], S => some S
  | a :: l, S => (fR_add S a.1 a.2).bind (rAdds l)
theorem sR_adds {L : Nat} {hl : Nat → Bool} (hL3 : L ≤ 300) : ∀ (as : List (Nat × Nat)) (S : pR) (pr : Nat → List Nat), rqP S.2.1.2.2.1 S.2.1.2.2.2.1 S.2.1.2.2.2.2.1 L pr hl → okP L pr → (∀ a ∈ as, a.1 < L ∧ a.2 < L) → (∀ u, (ad_l pr as u).length ≤ 12) →
    ∃ p l, rAdds (as.map (fun a => (nI a.1, nI a.2))) S = some (rP S p l) ∧ rqP p l S.2.1.2.2.2.2.1 L (ad_l pr as) hl := by
  intro as
  induction as with
  | nil => intro S pr h ok ha hcap; exact ⟨_, _, rfl, h⟩
  | cons a as ih =>
    intro S pr h ok ha hcap
    obtain ⟨a1, a2⟩ := ha a List.mem_cons_self
    have hlt : (pr a.1).length < 12 := by
      have := hcap a.1
      rw [ad_l_at] at this
      simp only [List.length_append] at this
      rw [List.filter_cons_of_pos (by simp)] at this
      simp only [List.map_cons, List.length_cons] at this
      omega
    obtain ⟨p, l, e, r⟩ := sR_add (w := a.2) h ok a1 hlt
    obtain ⟨p2, l2, e2, r2⟩ := ih (rP S p l) (ad_1 pr a) r (okP_add ok a1 a2 hlt) (fun b hb => ha b (List.mem_cons_of_mem _ hb)) hcap
    refine ⟨p2, l2, ?_, r2⟩
    simp only [List.map_cons, rAdds]
    rw [e]
    exact e2

/-! compileTag: one rule after another -/
theorem cl_c_c : ∀ right one : Bool, ∀ p ∈ cl_c right one, p.2 < 40 ∨ p.2 = 54 := by decide +kernel
def st_pr (t : sp_T) (r : Nat) (pr : Nat → List Nat) : Nat → List Nat := match t.1 r with
  | some (w, m, n) => if n = 0 then pr else ad_l pr ((cl_c (m == 1) (w == 1)).map (ad_f (1 + 18 * r) (1 + 36 * (n - 1))))
  | none => pr
def st_hl (t : sp_T) (r : Nat) (hl : Nat → Bool) : Nat → Bool := match t.1 r with
  | some (_, _, n) => if n = 0 then (fun u => if u = 1 + 18 * r then true else hl u) else hl
  | none => fun u => if u = 1 + 18 * r then true else hl u
/-- before rule r: nothing yet for its letters, and for those behind -/
def st_inv (N r : Nat) (pr : Nat → List Nat) : Prop := okP (1 + 36 * N) pr ∧ (∀ u, 1 + 18 * r ≤ u → pr u = []) ∧ ∀ u, (pr u).length ≤ 12
theorem ad_app (pr : Nat → List Nat) (a b : List (Nat × Nat)) : ad_l (ad_l pr a) b = ad_l pr (a ++ b) := by
  unfold ad_l
  rw [List.foldl_append]
theorem cd_lt {N r n c : Nat} (hr : r < 2 * N) (hn : 1 ≤ n) (hnN : n ≤ N) (hc : c < 40 ∨ c = 54) : cd (1 + 18 * r) (1 + 36 * (n - 1)) c < 1 + 36 * N := by
  unfold cd
  split
  · omega
  · split <;> omega
theorem ok_ad {L : Nat} : ∀ (as : List (Nat × Nat)) (pr : Nat → List Nat), okP L pr → (∀ a ∈ as, a.1 < L ∧ a.2 < L) → (∀ u, (ad_l pr as u).length ≤ 12) → okP L (ad_l pr as) := by
  intro as pr ok ha hcap
  refine ⟨ok.1, fun u hu => ⟨hcap u, fun w hw => ?_⟩⟩
  rw [ad_l_at] at hw
  rcases List.mem_append.mp hw with hw | hw
  · exact (ok.2 u hu).2 w hw
  · obtain ⟨a, h1, h2⟩ := List.mem_map.mp hw
    rw [← h2]
    exact (ha a (List.mem_filter.mp h1).1).2
theorem st_inv_step {t : sp_T} {N r : Nat} {pr : Nat → List Nat} (h : st_inv N r pr) (hr : r < 2 * N) (hn : ∀ w m n, t.1 r = some (w, m, n) → n ≤ N) : st_inv N (r + 1) (st_pr t r pr) := by
  obtain ⟨h1, h2, h3⟩ := h
  have same : st_inv N (r + 1) pr := ⟨h1, fun u hu => h2 u (by omega), h3⟩
  unfold st_pr
  cases hc : t.1 r with
  | none => exact same
  | some c =>
    obtain ⟨w, m, n⟩ := c
    simp only []
    by_cases hz : n = 0
    · rw [if_pos hz]; exact same
    · rw [if_neg hz]
      have hnN := hn w m n hc
      have cap := ad_cap (pr := pr) (own := 1 + 18 * r) (nxt := 1 + 36 * (n - 1)) (fun j hj => h2 _ (by omega)) h3 (m == 1) (w == 1)
      refine ⟨ok_ad _ _ h1 (fun a ha => ?_) cap, fun u hu => ?_, cap⟩
      · obtain ⟨p, hp, rfl⟩ := List.mem_map.mp ha
        have := (cl_c_ok _ _ p hp).1
        exact ⟨by show 1 + 18 * r + p.1 < _; omega, cd_lt hr (by omega) hnN (cl_c_c _ _ p hp)⟩
      · rw [ad_out _ _ (by omega)]
        exact h2 u (by omega)
theorem sG_add {k own nxt L : Nat} {hl : Nat → Bool} {q : List (Nat × Nat)} (hq : tb_l k = flat2 q) (hk : (tb_l k).length = tb_n k) (hkn : tb_n k < 1000) (ho : own + 18 ≤ L) (hn : nxt < 300) (hL3 : L ≤ 300) {S : pT} {pr : Nat → List Nat} (hS : S.2.2.2.2.2.2.1 = nI L) (hP : rpP S.1 S.2.1 S.2.2.1 L pr hl) (ok : okP L pr)
    (hr : ∀ p ∈ q, p.1 < 18 ∧ p.2 ≤ 54 ∧ cd own nxt p.2 < L) (hcap : ∀ u, (ad_l pr (q.map (ad_f own nxt)) u).length ≤ 12) :
    ∃ P Z, fG_addAll S k (nI own) (nI nxt) = some (P, Z, S.2.2) ∧ rpP P Z S.2.2.1 L (ad_l pr (q.map (ad_f own nxt))) hl ∧ okP L (ad_l pr (q.map (ad_f own nxt))) := by
  have hl2 := congrArg List.length hq
  rw [hk, flat2_len] at hl2
  exact sG_addL hk hkn ho hn hL3 q 100000 0 S pr (by rw [List.drop_zero]; exact hq) (by omega) (by omega) hS hP ok hr hcap
theorem rl_max {t : sp_T} (ok : okT t) {j w m n : Nat} (hj : j < 16) (h : t.1 j = some (w, m, n)) : n ≤ sp_N t ∧ j / 2 + 1 ≤ sp_N t := by
  have key : ∀ (k i mm : Nat), i + k ≤ 16 → mm ≤ 8 → i ≤ j → j < i + k → max (j / 2 + 1) n ≤ sp_mx t k i mm := by
    intro k
    induction k with
    | zero => intro i mm h1 h2 h3 h4; omega
    | succ k ih =>
      intro i mm h1 h2 h3 h4
      unfold sp_mx
      by_cases e : j = i
      · subst e
        rw [h]
        have hx := (ok.2.2.2.2.2 _ w m n h).2.2
        have := sp_mx_le ok k (j + 1) (max mm (max (j / 2 + 1) n)) (by omega) (by omega)
        simp only []
        omega
      · cases r0 : t.1 i with
        | none => exact ih (i + 1) mm (by omega) h2 (by omega) (by omega)
        | some c =>
          obtain ⟨w', m', x⟩ := c
          have hx := (ok.2.2.2.2.2 _ w' m' x r0).2.2
          exact ih (i + 1) (max mm (max (i / 2 + 1) x)) (by omega) (by omega) (by omega) (by omega)
  have := key 16 0 0 (by omega) (by omega) (by omega) (by omega)
  unfold sp_N
  omega
theorem sG_makeFor {S : pT} {M : pM} {t : sp_T} {N q s : Nat} {pr : Nat → List Nat} {hl : Nat → Bool} (hM : rpM M t) (okt : okT t) (hN : N ≤ 8) (h1 : 1 ≤ q) (h2 : q ≤ N) (hs : s < 2) (hn : ∀ w m n, t.1 (sp_ix q s) = some (w, m, n) → n ≤ N) (hS : S.2.2.2.2.2.2.1 = nI (1 + 36 * N)) (hP : rpP S.1 S.2.1 S.2.2.1 (1 + 36 * N) pr hl) (inv : st_inv N (sp_ix q s) pr) :
    ∃ P Z H, fG_makeFor S M (nI q) (nI s) = some (P, Z, H, S.2.2.2) ∧ rpP P Z H (1 + 36 * N) (st_pr t (sp_ix q s) pr) (st_hl t (sp_ix q s) hl) := by
  have hi : sp_ix q s < 16 := by unfold sp_ix; omega
  have hr : sp_ix q s < 2 * N := by unfold sp_ix; omega
  obtain ⟨a0, b0⟩ := hM.2.2.2.2 _ hi
  obtain ⟨i1, i2, i3⟩ := inv
  have hal : ∃ P Z H, ((fT_setHalting S ((fG_base (nI q) (nI s)) + (0 : Int32)) true).bind fun q23 => some q23.2) = some (P, Z, H, S.2.2.2) ∧ rpP P Z H (1 + 36 * N) pr (fun u => if u = 1 + 18 * sp_ix q s then true else hl u) := by
    unfold fT_setHalting
    rw [base_nI h1, show nI (1 + 18 * sp_ix q s) + (0 : Int32) = nI (1 + 18 * sp_ix q s) from by rw [show (0 : Int32) = nI 0 from rfl, nI_add, Nat.add_zero], hasL_nI hS (by omega) (by omega), if_pos rfl, q_wr (by omega) (by decide)]
    refine ⟨_, _, _, rfl, fun u hu => ?_⟩
    obtain ⟨k1, k2, k3⟩ := hP u hu
    refine ⟨k1, ?_, k3⟩
    by_cases e : u = 1 + 18 * sp_ix q s
    · subst e
      simp only [if_true]
      exact pk_us
    · simp only [e, if_false]
      rw [← k2]
      exact pk_un e
  unfold fG_makeFor fM_hasStep fM_nextOf fM_moveOf fM_writeOf st_pr st_hl
  rw [tM_place h1, q_rd hi (by decide), q_rd hi (by decide), q_rd hi (by decide)]
  simp only [Option.bind_some]
  cases hc : t.1 (sp_ix q s) with
  | none =>
    rw [a0 hc, tM_state0, if_neg (by decide)]
    exact hal
  | some c =>
    obtain ⟨w, m, n⟩ := c
    obtain ⟨e1, e2, e3⟩ := b0 w m n hc
    obtain ⟨p1, p2, p3⟩ := okt.2.2.2.2.2 _ w m n hc
    have hnN := hn w m n hc
    rw [e1, e2, e3, tM_state (by omega)]
    simp only []
    by_cases hz : n = 0
    · subst hz
      rw [if_neg (by decide)]
      simp only [if_true]
      exact hal
    · rw [if_pos (by simp; omega)]
      simp only [hz, if_false]
      rw [base_nI h1, show fG_base (nI n) (0 : Int32) = nI (1 + 36 * (n - 1)) from by
        rw [show (0 : Int32) = nI 0 from rfl, base_nI (by omega)]
        unfold sp_ix
        congr 1
        omega]
      have cok : ∀ a b : Bool, ∀ p ∈ cl_c a b, p.1 < 18 ∧ p.2 ≤ 54 ∧ cd (1 + 18 * sp_ix q s) (1 + 36 * (n - 1)) p.2 < 1 + 36 * N := fun a b p hp => ⟨(cl_c_ok a b p hp).1, (cl_c_ok a b p hp).2.1, cd_lt hr (by omega) hnN (cl_c_c a b p hp)⟩
      have cap := fun a b => ad_cap (pr := pr) (own := 1 + 18 * sp_ix q s) (nxt := 1 + 36 * (n - 1)) (fun j hj => i2 _ (by omega)) i3 a b
      by_cases hm : m = 1
      · subst hm
        rw [if_pos (show nI 1 = (1 : Int32) from rfl)]
        obtain ⟨P, Z, f1, r1, k1⟩ := sG_add tq_0_f (by decide) (by decide) (by omega) (by omega) (by omega) hS hP i1 (cok true false) (cap true false)
        rw [f1]
        simp only [Option.bind_some]
        by_cases hw : w = 1
        · subst hw
          rw [if_pos (show nI 1 = (1 : Int32) from rfl)]
          obtain ⟨P2, Z2, f2, r2, k2⟩ := sG_add (S := (P, Z, S.2.2)) tq_1_f (by decide) (by decide) (by omega) (by omega) (by omega) hS r1 k1 (fun p hp => cok true true p (List.mem_append_right _ hp)) (by
            rw [ad_app, ← List.map_append]
            exact cap true true)
          rw [f2]
          rw [ad_app, ← List.map_append] at r2
          exact ⟨_, _, _, rfl, r2⟩
        · rw [if_neg (show ¬ nI w = (1 : Int32) from fun z => hw (by
            rw [show (1 : Int32) = nI 1 from rfl, nI_eq (by omega) (by decide)] at z
            exact z))]
          have : w = 0 := by omega
          subst this
          exact ⟨_, _, _, rfl, r1⟩
      · have : m = 0 := by omega
        subst this
        rw [if_neg (show ¬ nI 0 = (1 : Int32) by decide)]
        obtain ⟨P, Z, f1, r1, k1⟩ := sG_add tq_2_f (by decide) (by decide) (by omega) (by omega) (by omega) hS hP i1 (cok false false) (cap false false)
        rw [f1]
        simp only [Option.bind_some]
        by_cases hw : w = 1
        · subst hw
          rw [if_pos (show nI 1 = (1 : Int32) from rfl)]
          obtain ⟨P2, Z2, f2, r2, k2⟩ := sG_add (S := (P, Z, S.2.2)) tq_3_f (by decide) (by decide) (by omega) (by omega) (by omega) hS r1 k1 (fun p hp => cok false true p (List.mem_append_right _ hp)) (by
            rw [ad_app, ← List.map_append]
            exact cap false true)
          rw [f2]
          rw [ad_app, ← List.map_append] at r2
          exact ⟨_, _, _, rfl, r2⟩
        · rw [if_neg (show ¬ nI w = (1 : Int32) from fun z => hw (by
            rw [show (1 : Int32) = nI 1 from rfl, nI_eq (by omega) (by decide)] at z
            exact z))]
          have : w = 0 := by omega
          subst this
          exact ⟨_, _, _, rfl, r1⟩

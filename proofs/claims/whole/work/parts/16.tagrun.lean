/-! stepTag, tagNow, ownTag -/
theorem okW_of {g : sp_G} (ok : okG g) : okW g.1 g.2.2.2.2 := ⟨by have := ok.2.1; omega, ok.2.2.1⟩
theorem sim_stepTag {S : pX} {S2 : pR} {g : sp_G} (hT : rpG S.2.1 g) (hR : rqG S2.2.1 g) (ok : okG g) (v : Int32) :
    ∃ b T B g', fX_stepTag S v = some (b, (S.1, T, S.2.2)) ∧ fR_stepTag S2 v = some (b, (S2.1, B, S2.2.2)) ∧ rpG T g' ∧ rqG B g' ∧ okG g' := by
  have hM := sp_lim_le v 20000
  obtain ⟨T, e, r⟩ := run_c (F := fT_makeSteps_L10) (C := fT_canGoOn) (T := fT_step) (can := tg_can) (step := tg_step) (rp := fun S g => rpG S g ∧ okG g) (fun n S v1 v2 v3 => by rw [fT_makeSteps_L10]) (fun S t h => sT_can h.1 h.2.1 (okW_of h.2))
    (fun S t h hc => by
      obtain ⟨S', e, r⟩ := sT_step h.1 h.2 hc
      exact ⟨S', e, r, okG_step h.2 hc⟩)
    (sp_lim v 20000) 100000 0 (sp_lim v 20000) S.2.1 g v (by omega) (by omega) (by omega) (by omega) ⟨hT, ok⟩
  obtain ⟨Q, e2, r2⟩ := run_r (F := fR_stepTag_L2) (C := fR_tagCan) (T := fR_tagStep) (can := tg_can) (step := tg_step) (rp := fun (Q : pR) g => Q.1 = S2.1 ∧ Q.2.2 = S2.2.2 ∧ rqG Q.2.1 g ∧ okG g) (fun n S v1 v3 => by rw [fR_stepTag_L2]) (fun S t h => sR_tagCan h.2.2.1 h.2.2.2.1 (okW_of h.2.2.2))
    (fun Q t h hc => by
      obtain ⟨A, e, r⟩ := sR_tagStep h.2.2.1 h.2.2.2 hc
      exact ⟨_, e, h.1, h.2.1, r, okG_step h.2.2.2 hc⟩)
    (sp_lim v 20000) 100000 0 S2 g v (by omega) (by omega) (by omega) ⟨rfl, rfl, hR, ok⟩
  refine ⟨nI (sp_run tg_can tg_step (sp_lim v 20000) g).1, T, Q.2.1, _, ?_, ?_, r.1, r2.2.2.1, r.2⟩
  · unfold fX_stepTag fT_makeSteps
    rw [show fX_within v (20000 : Int32) = nI (sp_lim v 20000) from lim_c v (M := 20000) (by decide), show (0 : Int32) = nI 0 from rfl, e, Nat.zero_add]
    rfl
  · unfold fR_stepTag
    rw [show (0 : Int32) = nI 0 from rfl, e2, Nat.zero_add, ← r2.1, ← r2.2.1]
theorem sim_tagNow {S : pX} {S2 : pR} {g : sp_G} (hT : rpG S.2.1 g) (hR : rqG S2.2.1 g) (ok : okG g) (v : Int32) : ∃ b, fX_tagNow S v = some b ∧ fR_tagNow S2 v = some b := by
  obtain ⟨fr, a1, a2, a3, a4⟩ := id hT.2.2.2
  obtain ⟨fq, b1, b2, b3, b4⟩ := id hR.2.2.2
  unfold fX_tagNow fR_tagNow
  rw [sT_can hT ok.1 (okW_of ok), sR_tagCan hR ok.1 (okW_of ok), hT.1, hR.1, a3, b1, b2, pk_sub (by omega), show fq + g.2.2.2.2.length - fq = g.2.2.2.2.length by omega]
  suffices h : ∃ b, _ = some b from h.elim fun b e => ⟨b, e, e⟩
  iterate 3 (split; · exact ⟨_, rfl⟩)
  exact ⟨_, rfl⟩
theorem sT_beginL {L : Nat} (hL : L ≤ 300) (v1 v2 : Int32) : ∀ (k n d : Nat) (S : pT), S.2.2.2.2.2.2.1 = nI L → L - d = k → d ≤ L → k < n → (∀ v, v < d → S.2.1 v = 0 ∧ S.2.2.1 v = 0) →
    ∃ Z H, fT_begin_L12 n S v1 v2 (nI d) = some (S.1, Z, H, S.2.2.2.1, 0, 0, nI L, S.2.2.2.2.2.2.2) ∧ ∀ v, v < L → Z v = 0 ∧ H v = 0 := by
  intro k
  induction k with
  | zero =>
    intro n d S hS e1 e2 e3 e4
    obtain ⟨n', rfl⟩ : ∃ n', n = n' + 1 := ⟨n - 1, by omega⟩
    rw [fT_begin_L12, hS, if_pos (nI_le (by omega) (by omega))]
    unfold fT_clearWord
    rw [hS]
    exact ⟨_, _, rfl, fun v hv => e4 v (by omega)⟩
  | succ k ih =>
    intro n d S hS e1 e2 e3 e4
    obtain ⟨n', rfl⟩ : ∃ n', n = n' + 1 := ⟨n - 1, by omega⟩
    rw [fT_begin_L12, hS, if_neg (nI_ge (by omega) (by omega)), q_wr (by omega) (by decide)]
    simp only [Option.bind_some]
    rw [q_wr (by omega) (by decide)]
    simp only [Option.bind_some]
    rw [nI_1]
    refine ih n' (d + 1) (S.1, upd S.2.1 d 0, upd S.2.2.1 d 0, S.2.2.2.1, S.2.2.2.2.1, S.2.2.2.2.2.1, nI L, S.2.2.2.2.2.2.2) rfl (by omega) (by omega) (by omega) (fun v hv => ?_)
    by_cases e : v = d
    · subst e
      exact ⟨pk_us, pk_us⟩
    · exact ⟨(pk_un e).trans (e4 v (by omega)).1, (pk_un e).trans (e4 v (by omega)).2⟩
theorem sT_begin {S : pT} {L N : Nat} (hL : L ≤ 300) : ∃ S', fT_begin S (nI L) (nI N) = some S' ∧ rpG S' (L, N, fun _ => [], fun _ => false, []) := by
  unfold fT_begin
  obtain ⟨Z, H, e, r⟩ := sT_beginL hL (nI L) (nI N) L 100000 0 (S.1, S.2.1, S.2.2.1, S.2.2.2.1, S.2.2.2.2.1, S.2.2.2.2.2.1, nI L, nI N) rfl (by omega) (by omega) (by omega) (fun v hv => by omega)
  rw [show (0 : Int32) = nI 0 from rfl, e]
  refine ⟨_, rfl, rfl, rfl, fun v hv => ⟨(r v hv).1, (r v hv).2, fun i w hi => by simp at hi⟩, 0, by decide, rfl, rfl, fun i w hi => by simp at hi⟩
theorem sR_emptyL (v1 : Int32) : ∀ (k n d : Nat) (S : pR), 300 - d = k → d ≤ 300 → k < n → (∀ v, v < d → S.2.1.2.2.2.1 v = 0 ∧ S.2.1.2.2.2.2.1 v = 0) →
    ∃ l h, fR_emptySystem_L22 n S v1 (nI d) = some (S.1, (S.2.1.1, S.2.1.2.1, S.2.1.2.2.1, l, h, S.2.1.2.2.2.2.2), (S.2.2.1.1, S.2.2.1.2.1, S.2.2.1.2.2.1, S.2.2.1.2.2.2.1, S.2.2.1.2.2.2.2.1, 0, 0, 0, 0), S.2.2.2) ∧ ∀ v, v < 300 → l v = 0 ∧ h v = 0 := by
  intro k
  induction k with
  | zero =>
    intro n d S e1 e2 e3 e4
    obtain ⟨n', rfl⟩ : ∃ n', n = n' + 1 := ⟨n - 1, by omega⟩
    rw [fR_emptySystem_L22, if_pos (show (300 : Int32) ≤ nI d from nI_le (a := 300) (by omega) (by omega))]
    exact ⟨_, _, rfl, fun v hv => e4 v (by omega)⟩
  | succ k ih =>
    intro n d S e1 e2 e3 e4
    obtain ⟨n', rfl⟩ : ∃ n', n = n' + 1 := ⟨n - 1, by omega⟩
    rw [fR_emptySystem_L22, if_neg (show ¬ (300 : Int32) ≤ nI d from nI_ge (b := 300) (by omega) (by decide)), q_wr (by omega) (by decide)]
    simp only [Option.bind_some]
    rw [q_wr (by omega) (by decide)]
    simp only [Option.bind_some]
    rw [nI_1]
    refine ih n' (d + 1) (S.1, (S.2.1.1, S.2.1.2.1, S.2.1.2.2.1, upd S.2.1.2.2.2.1 d 0, upd S.2.1.2.2.2.2.1 d 0, S.2.1.2.2.2.2.2.1, S.2.1.2.2.2.2.2.2.1, S.2.1.2.2.2.2.2.2.2), S.2.2.1, S.2.2.2) (by omega) (by omega) (by omega) (fun v hv => ?_)
    by_cases e : v = d
    · subst e
      exact ⟨pk_us, pk_us⟩
    · exact ⟨(pk_un e).trans (e4 v (by omega)).1, (pk_un e).trans (e4 v (by omega)).2⟩

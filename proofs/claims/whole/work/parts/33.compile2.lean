/-! compileTag: both sides alike -/
theorem sim_compileTag {S : pX} {S2 : pR} {t : sp_T} {g : sp_G} {y : sp_G} {u : Nat} (hM : rpM S.1 t) (hA : rpRa S2.1 t) (okt : okT t) (hT : rpG S.2.1 g) (hR : rqG S2.2.1 g) (ok : okG g) (hY : rpY S.2.2.1 y u) (hQ : rqY S2.2.2.1 y u) (oky : okY y u) :
    ∃ b T B g' Y C y' u', fX_compileTag S = some (b, (S.1, T, Y, S.2.2.2)) ∧ fR_compileTag S2 = some (b, (S2.1, B, C, S2.2.2.2)) ∧ rpG T g' ∧ rqG B g' ∧ okG g' ∧ rpY Y y' u' ∧ rqY C y' u' ∧ okY y' u' := by
  unfold fX_compileTag fR_compileTag
  rw [sM_all hM okt]
  simp only [Option.bind_some]
  by_cases ha : sp_all t = true
  · obtain ⟨n1, n2, n3⟩ := sp_N_pos okt ha
    rw [if_pos ha, sR_gr1 hA okt ha]
    simp only [Option.bind_some]
    rw [if_pos (show (0 : Int32) < nI (sp_N t) from nI_lt (a := 0) (by omega) (by omega))]
    -- the class
    have hmk : ∃ T, fG_make S.2.1 S.1 = some T ∧ T.2.2.2.2.2.2.1 = nI (1 + 36 * sp_N t) ∧ T.2.2.2.2.2.2.2 = nI (sp_N t) ∧ rpP T.1 T.2.1 T.2.2.1 (1 + 36 * sp_N t) (mk_st t (2 * sp_N t)).1 (mk_st t (2 * sp_N t)).2 := by
      unfold fG_make
      rw [sM_gr hM okt]
      simp only [Option.bind_some]
      rw [nI_1, show fG_base (nI (sp_N t + 1)) (0 : Int32) = nI (1 + 36 * sp_N t) from by
        rw [show (0 : Int32) = nI 0 from rfl, base_nI (by omega)]
        unfold sp_ix
        congr 1
        omega]
      obtain ⟨T0, e0, r0⟩ := sT_begin (S := S.2.1) (L := 1 + 36 * sp_N t) (N := sp_N t) (by omega)
      rw [e0]
      simp only [Option.bind_some]
      obtain ⟨P, Z, H, e1, r1⟩ := sG_makeL hM okt n2 (sp_N t) 100000 1 T0 (by omega) (by omega) (by omega) (by omega) r0.1 r0.2.2.1
      exact ⟨_, e1, r0.1, r0.2.1, r1⟩
    obtain ⟨T, e1, q1, q2, q3⟩ := hmk
    rw [e1]
    simp only [Option.bind_some]
    obtain ⟨w, f, z, e2, r2⟩ := sC_write (S := T) hM okt
    obtain ⟨Y, e3, r3⟩ := sY_remove S.2.2.1
    rw [e2, e3]
    simp only [Option.bind_some]
    -- the reference
    rw [show (1 : Int32) + (36 : Int32) * nI (sp_N t) = nI (1 + 36 * sp_N t) from by rw [show (1 : Int32) = nI 1 from rfl, show (36 : Int32) = nI 36 from rfl, pk_mul, nI_add]]
    obtain ⟨l0, h0, C, e4, r4, r5⟩ := sR_empty S2 (L := 1 + 36 * sp_N t) (by omega)
    rw [e4]
    simp only [Option.bind_some]
    obtain ⟨p, l, h, e5, r6⟩ := sR_makeL okt n2 (sp_N t) 100000 1 (S2.1, (nI (1 + 36 * sp_N t), true, S2.2.1.2.2.1, l0, h0, S2.2.1.2.2.2.2.2.1, 0, 0), C, S2.2.2.2) hA (by omega) (by omega) (by omega) (by omega) (fun v hv => ⟨(r5 v (by omega)).1, (r5 v (by omega)).2, fun i x hi => by simp [mk_st] at hi⟩)
    rw [show (1 : Int32) = nI 1 from rfl, e5]
    obtain ⟨w2, f2, z2, e6, r7⟩ := sR_putCode (S := rS (S2.1, (nI (1 + 36 * sp_N t), true, S2.2.1.2.2.1, l0, h0, S2.2.1.2.2.2.2.2.1, 0, 0), C, S2.2.2.2) p l h) hA okt
    rw [e6]
    have hinv := mk_inv okt n2 (2 * sp_N t) (Nat.le_refl _)
    have okc := okt
    refine ⟨nI (1 + 36 * sp_N t), tW T w f z, (nI (1 + 36 * sp_N t), true, p, l, h, w2, f2, z2), (1 + 36 * sp_N t, sp_N t, (mk_st t (2 * sp_N t)).1, (mk_st t (2 * sp_N t)).2, cd_w t), Y, C, g_0, 0, by rw [q1], rfl, ⟨q1, q2, q3, r2⟩, ⟨rfl, by simp; omega, r6, r7⟩, ⟨hinv.1, ?_, ?_, n2, fun _ => rfl⟩, r3, r4, okY_0⟩
    · show (cd_w t).length ≤ 4000
      rw [cd_len]
      have := okc.2.2.2.1
      have := okc.2.2.2.2.1
      omega
    · refine cd_mem ?_
      have := okc.1
      have := okc.2.2.1
      unfold sp_ix
      show 1 + 18 * (2 * (t.2.1 - 1) + t.2.2.1) + 3 < 1 + 36 * sp_N t
      omega
  · rw [if_neg ha]
    obtain ⟨r, e, hr⟩ := sR_gr0 hA okt ha
    rw [e]
    simp only [Option.bind_some]
    rw [if_neg hr]
    exact ⟨0, _, _, g, _, _, y, u, rfl, rfl, hT, hR, ok, hY, hQ, oky⟩

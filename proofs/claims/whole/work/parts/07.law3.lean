set_option maxRecDepth 100000 in
set_option maxHeartbeats 4000000 in
theorem wL_law_L144 {V : ee_V} (a b : Nat → Nat) (ln : Nat) (xs : Nat → Int32) (bs : Nat) {x : wk_C} (X : wk_K (ee V) x code 4 "TagWorkshopLaw" ts_L_law room_1) (hX : va_X bs ln xs (wx_s x) (wx_H x)) (hbl : bs < (wx_H x).size) (hbA : ¬ wx_A x bs) (hend : ∀ ws lv, wk_G (ee V) x 4 ws 849 lv [.int 1]) (K : pX → pR → Int32 → Option (Bool)) (hK : ∀ (S : pX) (S2 : pR) (v3 : Int32), K S S2 v3 = some true → wk_G (ee V) x 4 (cX V a S ++ cR V b S2) 18 [(0, .ref bs), (1, .ref (a 0)), (2, .ref (b 0)), (3, .int v3)] []) : ∀ (S : pX) (S2 : pR) (v3 : Int32), fL_law_L144 ln xs K S S2 v3 = some true → wk_G (ee V) x 4 (cX V a S ++ cR V b S2) 144 [(0, .ref bs), (1, .ref (a 0)), (2, .ref (b 0)), (3, .int v3)] [] := by
  intro S S2 v3 hf
  unfold fL_law_L144 at hf
  refine wk_aload_n X 1 dL_law_144 rfl rfl ?_
  refine wk_aload_n X 0 dL_law_145 rfl rfl ?_
  refine wk_iload_n X 3 dL_law_146 rfl rfl ?_
  refine wk_iconst X dL_law_147 (v := (1 : Int32)) (by decide) ?_
  refine wk_iadd X dL_law_148 ?_
  obtain ⟨q5, h6, hf⟩ := p_ob hf
  obtain ⟨h6i, h6e⟩ := p_rd_some h6
  refine wk_sld X hX hbl hbA h6i h6e dL_law_149 ?_
  refine wk_aload_n X 0 dL_law_150 rfl rfl ?_
  refine wk_iload_n X 3 dL_law_151 rfl rfl ?_
  refine wk_iconst X dL_law_152 (v := (2 : Int32)) (by decide) ?_
  refine wk_iadd X dL_law_153 ?_
  obtain ⟨q7, h8, hf⟩ := p_ob hf
  obtain ⟨h8i, h8e⟩ := p_rd_some h8
  refine wk_sld X hX hbl hbA h8i h8e dL_law_154 ?_
  refine wk_aload_n X 0 dL_law_155 rfl rfl ?_
  refine wk_iload_n X 3 dL_law_156 rfl rfl ?_
  refine wk_iconst X dL_law_157 (v := (3 : Int32)) (by decide) ?_
  refine wk_iadd X dL_law_158 ?_
  obtain ⟨q9, h10, hf⟩ := p_ob hf
  obtain ⟨h10i, h10e⟩ := p_rd_some h10
  refine wk_sld X hX hbl hbA h10i h10e dL_law_159 ?_
  refine wk_aload_n X 0 dL_law_160 rfl rfl ?_
  refine wk_iload_n X 3 dL_law_161 rfl rfl ?_
  refine wk_iconst X dL_law_162 (v := (4 : Int32)) (by decide) ?_
  refine wk_iadd X dL_law_163 ?_
  obtain ⟨q11, h12, hf⟩ := p_ob hf
  obtain ⟨h12i, h12e⟩ := p_rd_some h12
  refine wk_sld X hX hbl hbA h12i h12e dL_law_164 ?_
  refine wk_aload_n X 0 dL_law_165 rfl rfl ?_
  refine wk_iload_n X 3 dL_law_166 rfl rfl ?_
  refine wk_iconst X dL_law_167 (v := (5 : Int32)) (by decide) ?_
  refine wk_iadd X dL_law_168 ?_
  obtain ⟨q13, h14, hf⟩ := p_ob hf
  obtain ⟨h14i, h14e⟩ := p_rd_some h14
  refine wk_sld X hX hbl hbA h14i h14e dL_law_169 ?_
  obtain ⟨q15, h16, hf⟩ := p_ob hf
  refine wk_goIl (wk_rVl X (mX_rule (V := V) a S q5 q7 q9 q11 q13 q15 h16) rfl (gd (tw_154)) rfl rfl (tl tw_151) (tl tw_152) (tl tw_153) (tl tw_1) 5 pd_X_rule rfl ⟨rfl, rfl⟩ ⟨Nat.le_of_ble_eq_true rfl, Nat.le_of_ble_eq_true rfl⟩ rfl (Nat.le_of_ble_eq_true rfl) dL_law_170) (fun _ => rfl) ?_
  rintro r u ⟨rfl, rfl⟩
  refine wk_aload_n X 2 dL_law_173 rfl rfl ?_
  refine wk_aload_n X 0 dL_law_174 rfl rfl ?_
  refine wk_iload_n X 3 dL_law_175 rfl rfl ?_
  refine wk_iconst X dL_law_176 (v := (1 : Int32)) (by decide) ?_
  refine wk_iadd X dL_law_177 ?_
  refine wk_sld X hX hbl hbA h6i h6e dL_law_178 ?_
  refine wk_aload_n X 0 dL_law_179 rfl rfl ?_
  refine wk_iload_n X 3 dL_law_180 rfl rfl ?_
  refine wk_iconst X dL_law_181 (v := (2 : Int32)) (by decide) ?_
  refine wk_iadd X dL_law_182 ?_
  refine wk_sld X hX hbl hbA h8i h8e dL_law_183 ?_
  refine wk_aload_n X 0 dL_law_184 rfl rfl ?_
  refine wk_iload_n X 3 dL_law_185 rfl rfl ?_
  refine wk_iconst X dL_law_186 (v := (3 : Int32)) (by decide) ?_
  refine wk_iadd X dL_law_187 ?_
  refine wk_sld X hX hbl hbA h10i h10e dL_law_188 ?_
  refine wk_aload_n X 0 dL_law_189 rfl rfl ?_
  refine wk_iload_n X 3 dL_law_190 rfl rfl ?_
  refine wk_iconst X dL_law_191 (v := (4 : Int32)) (by decide) ?_
  refine wk_iadd X dL_law_192 ?_
  refine wk_sld X hX hbl hbA h12i h12e dL_law_193 ?_
  refine wk_aload_n X 0 dL_law_194 rfl rfl ?_
  refine wk_iload_n X 3 dL_law_195 rfl rfl ?_
  refine wk_iconst X dL_law_196 (v := (5 : Int32)) (by decide) ?_
  refine wk_iadd X dL_law_197 ?_
  refine wk_sld X hX hbl hbA h14i h14e dL_law_198 ?_
  obtain ⟨q27, h28, hf⟩ := p_ob hf
  refine wk_goIr (wk_rVr X (mR_rule (V := V) b S2 q5 q7 q9 q11 q13 q27 h28) rfl (gd (tw_628)) rfl rfl (tl tw_625) (tl tw_626) (tl tw_627) (tl tw_7) 5 pd_R_rule rfl ⟨rfl, rfl⟩ ⟨Nat.le_of_ble_eq_true rfl, Nat.le_of_ble_eq_true rfl⟩ rfl (Nat.le_of_ble_eq_true rfl) dL_law_199) (fun _ => rfl) ?_
  rintro r u ⟨rfl, rfl⟩
  refine wk_icmp_eq X dL_law_202 (tgt := 842) rfl (fun h29 => ?_) (fun h29 => ?_)
  · replace hf := p_it h29 hf
    refine wk_iinc X 3 dL_law_842 (v := (v3 + (6 : Int32))) rfl rfl (Nat.le_of_ble_eq_true rfl) (lv' := [(3, .int (v3 + (6 : Int32))), (0, .ref bs), (1, .ref (a 0)), (2, .ref (b 0))]) rfl ?_
    refine wk_goto X dL_law_845 (tgt := 18) rfl ?_
    refine wk_lv [1, 2, 3, 0] (lv' := [(0, .ref bs), (1, .ref (a 0)), (2, .ref (b 0)), (3, .int (v3 + (6 : Int32)))]) rfl ?_
    exact hK q15.2 q27.2 (v3 + (6 : Int32)) hf
  · replace hf := p_ie h29 hf
    refine wk_iconst X dL_law_205 (v := (0 : Int32)) (by decide) ?_
    exact absurd (Option.some.inj hf) (by decide)
set_option maxRecDepth 100000 in
set_option maxHeartbeats 4000000 in
theorem wL_law_L207 {V : ee_V} (a b : Nat → Nat) (ln : Nat) (xs : Nat → Int32) (bs : Nat) {x : wk_C} (X : wk_K (ee V) x code 4 "TagWorkshopLaw" ts_L_law room_1) (hX : va_X bs ln xs (wx_s x) (wx_H x)) (hbl : bs < (wx_H x).size) (hbA : ¬ wx_A x bs) (hend : ∀ ws lv, wk_G (ee V) x 4 ws 849 lv [.int 1]) (K : pX → pR → Int32 → Option (Bool)) (hK : ∀ (S : pX) (S2 : pR) (v3 : Int32), K S S2 v3 = some true → wk_G (ee V) x 4 (cX V a S ++ cR V b S2) 18 [(0, .ref bs), (1, .ref (a 0)), (2, .ref (b 0)), (3, .int v3)] []) : ∀ (S : pX) (S2 : pR) (v3 : Int32), fL_law_L207 ln xs K S S2 v3 = some true → wk_G (ee V) x 4 (cX V a S ++ cR V b S2) 207 [(0, .ref bs), (1, .ref (a 0)), (2, .ref (b 0)), (3, .int v3)] [] := by
  intro S S2 v3 hf
  unfold fL_law_L207 at hf
  refine wk_aload_n X 1 dL_law_207 rfl rfl ?_
  refine wk_aload_n X 0 dL_law_208 rfl rfl ?_
  refine wk_iload_n X 3 dL_law_209 rfl rfl ?_
  refine wk_iconst X dL_law_210 (v := (1 : Int32)) (by decide) ?_
  refine wk_iadd X dL_law_211 ?_
  obtain ⟨q31, h32, hf⟩ := p_ob hf
  obtain ⟨h32i, h32e⟩ := p_rd_some h32
  refine wk_sld X hX hbl hbA h32i h32e dL_law_212 ?_
  refine wk_aload_n X 0 dL_law_213 rfl rfl ?_
  refine wk_iload_n X 3 dL_law_214 rfl rfl ?_
  refine wk_iconst X dL_law_215 (v := (2 : Int32)) (by decide) ?_
  refine wk_iadd X dL_law_216 ?_
  obtain ⟨q33, h34, hf⟩ := p_ob hf
  obtain ⟨h34i, h34e⟩ := p_rd_some h34
  refine wk_sld X hX hbl hbA h34i h34e dL_law_217 ?_
  refine wk_aload_n X 0 dL_law_218 rfl rfl ?_
  refine wk_iload_n X 3 dL_law_219 rfl rfl ?_
  refine wk_iconst X dL_law_220 (v := (3 : Int32)) (by decide) ?_
  refine wk_iadd X dL_law_221 ?_
  obtain ⟨q35, h36, hf⟩ := p_ob hf
  obtain ⟨h36i, h36e⟩ := p_rd_some h36
  refine wk_sld X hX hbl hbA h36i h36e dL_law_222 ?_
  refine wk_aload_n X 0 dL_law_223 rfl rfl ?_
  refine wk_iload_n X 3 dL_law_224 rfl rfl ?_
  refine wk_iconst X dL_law_225 (v := (4 : Int32)) (by decide) ?_
  refine wk_iadd X dL_law_226 ?_
  obtain ⟨q37, h38, hf⟩ := p_ob hf
  obtain ⟨h38i, h38e⟩ := p_rd_some h38
  refine wk_sld X hX hbl hbA h38i h38e dL_law_227 ?_
  refine wk_goIl (wk_rVl X (mX_tape (V := V) a S q31 q33 q35 q37 (fX_tape S q31 q33 q35 q37) rfl) rfl (gd (tw_171)) rfl rfl (tl tw_168) (tl tw_169) (tl tw_170) (tl tw_1) 4 pd_X_tape rfl ⟨rfl, rfl⟩ ⟨Nat.le_of_ble_eq_true rfl, Nat.le_of_ble_eq_true rfl⟩ rfl (Nat.le_of_ble_eq_true rfl) dL_law_228) (fun _ => rfl) ?_
  rintro r u ⟨rfl, rfl⟩
  refine wk_aload_n X 2 dL_law_231 rfl rfl ?_
  refine wk_aload_n X 0 dL_law_232 rfl rfl ?_
  refine wk_iload_n X 3 dL_law_233 rfl rfl ?_
  refine wk_iconst X dL_law_234 (v := (1 : Int32)) (by decide) ?_
  refine wk_iadd X dL_law_235 ?_
  refine wk_sld X hX hbl hbA h32i h32e dL_law_236 ?_
  refine wk_aload_n X 0 dL_law_237 rfl rfl ?_
  refine wk_iload_n X 3 dL_law_238 rfl rfl ?_
  refine wk_iconst X dL_law_239 (v := (2 : Int32)) (by decide) ?_
  refine wk_iadd X dL_law_240 ?_
  refine wk_sld X hX hbl hbA h34i h34e dL_law_241 ?_
  refine wk_aload_n X 0 dL_law_242 rfl rfl ?_
  refine wk_iload_n X 3 dL_law_243 rfl rfl ?_
  refine wk_iconst X dL_law_244 (v := (3 : Int32)) (by decide) ?_
  refine wk_iadd X dL_law_245 ?_
  refine wk_sld X hX hbl hbA h36i h36e dL_law_246 ?_
  refine wk_aload_n X 0 dL_law_247 rfl rfl ?_
  refine wk_iload_n X 3 dL_law_248 rfl rfl ?_
  refine wk_iconst X dL_law_249 (v := (4 : Int32)) (by decide) ?_
  refine wk_iadd X dL_law_250 ?_
  refine wk_sld X hX hbl hbA h38i h38e dL_law_251 ?_
  refine wk_goIr (wk_rVr X (mR_tape (V := V) b S2 q31 q33 q35 q37 (fR_tape S2 q31 q33 q35 q37) rfl) rfl (gd (tw_638)) rfl rfl (tl tw_635) (tl tw_636) (tl tw_637) (tl tw_7) 4 pd_R_tape rfl ⟨rfl, rfl⟩ ⟨Nat.le_of_ble_eq_true rfl, Nat.le_of_ble_eq_true rfl⟩ rfl (Nat.le_of_ble_eq_true rfl) dL_law_252) (fun _ => rfl) ?_
  rintro r u ⟨rfl, rfl⟩
  refine wk_icmp_eq X dL_law_255 (tgt := 842) rfl (fun h47 => ?_) (fun h47 => ?_)
  · replace hf := p_it h47 hf
    refine wk_iinc X 3 dL_law_842 (v := (v3 + (6 : Int32))) rfl rfl (Nat.le_of_ble_eq_true rfl) (lv' := [(3, .int (v3 + (6 : Int32))), (0, .ref bs), (1, .ref (a 0)), (2, .ref (b 0))]) rfl ?_
    refine wk_goto X dL_law_845 (tgt := 18) rfl ?_
    refine wk_lv [1, 2, 3, 0] (lv' := [(0, .ref bs), (1, .ref (a 0)), (2, .ref (b 0)), (3, .int (v3 + (6 : Int32)))]) rfl ?_
    exact hK (fX_tape S q31 q33 q35 q37).2 (fR_tape S2 q31 q33 q35 q37).2 (v3 + (6 : Int32)) hf
  · replace hf := p_ie h47 hf
    refine wk_iconst X dL_law_258 (v := (0 : Int32)) (by decide) ?_
    exact absurd (Option.some.inj hf) (by decide)
set_option maxRecDepth 100000 in
set_option maxHeartbeats 4000000 in
theorem wL_law_L260 {V : ee_V} (a b : Nat → Nat) (ln : Nat) (xs : Nat → Int32) (bs : Nat) {x : wk_C} (X : wk_K (ee V) x code 4 "TagWorkshopLaw" ts_L_law room_1) (hX : va_X bs ln xs (wx_s x) (wx_H x)) (hbl : bs < (wx_H x).size) (hbA : ¬ wx_A x bs) (hend : ∀ ws lv, wk_G (ee V) x 4 ws 849 lv [.int 1]) (K : pX → pR → Int32 → Option (Bool)) (hK : ∀ (S : pX) (S2 : pR) (v3 : Int32), K S S2 v3 = some true → wk_G (ee V) x 4 (cX V a S ++ cR V b S2) 18 [(0, .ref bs), (1, .ref (a 0)), (2, .ref (b 0)), (3, .int v3)] []) : ∀ (S : pX) (S2 : pR) (v3 : Int32), fL_law_L260 ln xs K S S2 v3 = some true → wk_G (ee V) x 4 (cX V a S ++ cR V b S2) 260 [(0, .ref bs), (1, .ref (a 0)), (2, .ref (b 0)), (3, .int v3)] [] := by
  intro S S2 v3 hf
  unfold fL_law_L260 at hf
  refine wk_aload_n X 1 dL_law_260 rfl rfl ?_
  obtain ⟨q49, h50, hf⟩ := p_ob hf
  refine wk_goIl (wk_rVl X (mX_compileTag (V := V) a S q49 h50) rfl (gd (tw_185)) rfl rfl (tl tw_182) (tl tw_183) (tl tw_184) (tl tw_1) 0 pd_X_compileTag rfl ⟨rfl, rfl⟩ ⟨Nat.le_of_ble_eq_true rfl, Nat.le_of_ble_eq_true rfl⟩ rfl (Nat.le_of_ble_eq_true rfl) dL_law_261) (fun _ => rfl) ?_
  rintro r u ⟨rfl, rfl⟩
  refine wk_aload_n X 2 dL_law_264 rfl rfl ?_
  obtain ⟨q51, h52, hf⟩ := p_ob hf
  refine wk_goIr (wk_rVr X (mR_compileTag (V := V) b S2 q51 h52) rfl (gd (tw_671)) rfl rfl (tl tw_668) (tl tw_669) (tl tw_670) (tl tw_7) 0 pd_R_compileTag rfl ⟨rfl, rfl⟩ ⟨Nat.le_of_ble_eq_true rfl, Nat.le_of_ble_eq_true rfl⟩ rfl (Nat.le_of_ble_eq_true rfl) dL_law_265) (fun _ => rfl) ?_
  rintro r u ⟨rfl, rfl⟩
  refine wk_icmp_eq X dL_law_268 (tgt := 842) rfl (fun h53 => ?_) (fun h53 => ?_)
  · replace hf := p_it h53 hf
    refine wk_iinc X 3 dL_law_842 (v := (v3 + (6 : Int32))) rfl rfl (Nat.le_of_ble_eq_true rfl) (lv' := [(3, .int (v3 + (6 : Int32))), (0, .ref bs), (1, .ref (a 0)), (2, .ref (b 0))]) rfl ?_
    refine wk_goto X dL_law_845 (tgt := 18) rfl ?_
    refine wk_lv [1, 2, 3, 0] (lv' := [(0, .ref bs), (1, .ref (a 0)), (2, .ref (b 0)), (3, .int (v3 + (6 : Int32)))]) rfl ?_
    exact hK q49.2 q51.2 (v3 + (6 : Int32)) hf
  · replace hf := p_ie h53 hf
    refine wk_iconst X dL_law_271 (v := (0 : Int32)) (by decide) ?_
    exact absurd (Option.some.inj hf) (by decide)
set_option maxRecDepth 100000 in
set_option maxHeartbeats 4000000 in
theorem wL_law_L273 {V : ee_V} (a b : Nat → Nat) (ln : Nat) (xs : Nat → Int32) (bs : Nat) {x : wk_C} (X : wk_K (ee V) x code 4 "TagWorkshopLaw" ts_L_law room_1) (hX : va_X bs ln xs (wx_s x) (wx_H x)) (hbl : bs < (wx_H x).size) (hbA : ¬ wx_A x bs) (hend : ∀ ws lv, wk_G (ee V) x 4 ws 849 lv [.int 1]) (K : pX → pR → Int32 → Option (Bool)) (hK : ∀ (S : pX) (S2 : pR) (v3 : Int32), K S S2 v3 = some true → wk_G (ee V) x 4 (cX V a S ++ cR V b S2) 18 [(0, .ref bs), (1, .ref (a 0)), (2, .ref (b 0)), (3, .int v3)] []) : ∀ (S : pX) (S2 : pR) (v3 : Int32), fL_law_L273 ln xs K S S2 v3 = some true → wk_G (ee V) x 4 (cX V a S ++ cR V b S2) 273 [(0, .ref bs), (1, .ref (a 0)), (2, .ref (b 0)), (3, .int v3)] [] := by
  intro S S2 v3 hf
  unfold fL_law_L273 at hf
  refine wk_aload_n X 1 dL_law_273 rfl rfl ?_
  refine wk_aload_n X 0 dL_law_274 rfl rfl ?_
  refine wk_iload_n X 3 dL_law_275 rfl rfl ?_
  refine wk_iconst X dL_law_276 (v := (1 : Int32)) (by decide) ?_
  refine wk_iadd X dL_law_277 ?_
  obtain ⟨q55, h56, hf⟩ := p_ob hf
  obtain ⟨h56i, h56e⟩ := p_rd_some h56
  refine wk_sld X hX hbl hbA h56i h56e dL_law_278 ?_
  obtain ⟨q57, h58, hf⟩ := p_ob hf
  refine wk_goIl (wk_rVl X (mX_ownTag (V := V) a S q55 q57 h58) rfl (gd (tw_286)) rfl rfl (tl tw_283) (tl tw_284) (tl tw_285) (tl tw_1) 1 pd_X_ownTag rfl ⟨rfl, rfl⟩ ⟨Nat.le_of_ble_eq_true rfl, Nat.le_of_ble_eq_true rfl⟩ rfl (Nat.le_of_ble_eq_true rfl) dL_law_279) (fun _ => rfl) ?_
  rintro r u ⟨rfl, rfl⟩
  refine wk_aload_n X 2 dL_law_282 rfl rfl ?_
  refine wk_aload_n X 0 dL_law_283 rfl rfl ?_
  refine wk_iload_n X 3 dL_law_284 rfl rfl ?_
  refine wk_iconst X dL_law_285 (v := (1 : Int32)) (by decide) ?_
  refine wk_iadd X dL_law_286 ?_
  refine wk_sld X hX hbl hbA h56i h56e dL_law_287 ?_
  obtain ⟨q61, h62, hf⟩ := p_ob hf
  refine wk_goIr (wk_rVr X (mR_ownTag (V := V) b S2 q55 q61 h62) rfl (gd (tw_714)) rfl rfl (tl tw_711) (tl tw_712) (tl tw_713) (tl tw_7) 1 pd_R_ownTag rfl ⟨rfl, rfl⟩ ⟨Nat.le_of_ble_eq_true rfl, Nat.le_of_ble_eq_true rfl⟩ rfl (Nat.le_of_ble_eq_true rfl) dL_law_288) (fun _ => rfl) ?_
  rintro r u ⟨rfl, rfl⟩
  refine wk_icmp_eq X dL_law_291 (tgt := 842) rfl (fun h63 => ?_) (fun h63 => ?_)
  · replace hf := p_it h63 hf
    refine wk_iinc X 3 dL_law_842 (v := (v3 + (6 : Int32))) rfl rfl (Nat.le_of_ble_eq_true rfl) (lv' := [(3, .int (v3 + (6 : Int32))), (0, .ref bs), (1, .ref (a 0)), (2, .ref (b 0))]) rfl ?_
    refine wk_goto X dL_law_845 (tgt := 18) rfl ?_
    refine wk_lv [1, 2, 3, 0] (lv' := [(0, .ref bs), (1, .ref (a 0)), (2, .ref (b 0)), (3, .int (v3 + (6 : Int32)))]) rfl ?_
    exact hK q57.2 q61.2 (v3 + (6 : Int32)) hf
  · replace hf := p_ie h63 hf
    refine wk_iconst X dL_law_294 (v := (0 : Int32)) (by decide) ?_
    exact absurd (Option.some.inj hf) (by decide)
set_option maxRecDepth 100000 in
set_option maxHeartbeats 4000000 in
theorem wL_law_L296 {V : ee_V} (a b : Nat → Nat) (ln : Nat) (xs : Nat → Int32) (bs : Nat) {x : wk_C} (X : wk_K (ee V) x code 4 "TagWorkshopLaw" ts_L_law room_1) (hX : va_X bs ln xs (wx_s x) (wx_H x)) (hbl : bs < (wx_H x).size) (hbA : ¬ wx_A x bs) (hend : ∀ ws lv, wk_G (ee V) x 4 ws 849 lv [.int 1]) (K : pX → pR → Int32 → Option (Bool)) (hK : ∀ (S : pX) (S2 : pR) (v3 : Int32), K S S2 v3 = some true → wk_G (ee V) x 4 (cX V a S ++ cR V b S2) 18 [(0, .ref bs), (1, .ref (a 0)), (2, .ref (b 0)), (3, .int v3)] []) : ∀ (S : pX) (S2 : pR) (v3 : Int32), fL_law_L296 ln xs K S S2 v3 = some true → wk_G (ee V) x 4 (cX V a S ++ cR V b S2) 296 [(0, .ref bs), (1, .ref (a 0)), (2, .ref (b 0)), (3, .int v3)] [] := by
  intro S S2 v3 hf
  unfold fL_law_L296 at hf
  refine wk_aload_n X 1 dL_law_296 rfl rfl ?_
  refine wk_aload_n X 0 dL_law_297 rfl rfl ?_
  refine wk_iload_n X 3 dL_law_298 rfl rfl ?_
  refine wk_iconst X dL_law_299 (v := (1 : Int32)) (by decide) ?_
  refine wk_iadd X dL_law_300 ?_
  obtain ⟨q65, h66, hf⟩ := p_ob hf
  obtain ⟨h66i, h66e⟩ := p_rd_some h66
  refine wk_sld X hX hbl hbA h66i h66e dL_law_301 ?_
  refine wk_aload_n X 0 dL_law_302 rfl rfl ?_
  refine wk_iload_n X 3 dL_law_303 rfl rfl ?_
  refine wk_iconst X dL_law_304 (v := (2 : Int32)) (by decide) ?_
  refine wk_iadd X dL_law_305 ?_
  obtain ⟨q67, h68, hf⟩ := p_ob hf
  obtain ⟨h68i, h68e⟩ := p_rd_some h68
  refine wk_sld X hX hbl hbA h68i h68e dL_law_306 ?_
  obtain ⟨q69, h70, hf⟩ := p_ob hf
  refine wk_goIl (wk_rVl X (mX_extend (V := V) a S q65 q67 q69 h70) rfl (gd (tw_291)) rfl rfl (tl tw_288) (tl tw_289) (tl tw_290) (tl tw_1) 2 pd_X_extend rfl ⟨rfl, rfl⟩ ⟨Nat.le_of_ble_eq_true rfl, Nat.le_of_ble_eq_true rfl⟩ rfl (Nat.le_of_ble_eq_true rfl) dL_law_307) (fun _ => rfl) ?_
  rintro r u ⟨rfl, rfl⟩
  refine wk_aload_n X 2 dL_law_310 rfl rfl ?_
  refine wk_aload_n X 0 dL_law_311 rfl rfl ?_
  refine wk_iload_n X 3 dL_law_312 rfl rfl ?_
  refine wk_iconst X dL_law_313 (v := (1 : Int32)) (by decide) ?_
  refine wk_iadd X dL_law_314 ?_
  refine wk_sld X hX hbl hbA h66i h66e dL_law_315 ?_
  refine wk_aload_n X 0 dL_law_316 rfl rfl ?_
  refine wk_iload_n X 3 dL_law_317 rfl rfl ?_
  refine wk_iconst X dL_law_318 (v := (2 : Int32)) (by decide) ?_
  refine wk_iadd X dL_law_319 ?_
  refine wk_sld X hX hbl hbA h68i h68e dL_law_320 ?_
  obtain ⟨q75, h76, hf⟩ := p_ob hf
  refine wk_goIr (wk_rVr X (mR_extend (V := V) b S2 q65 q67 q75 h76) rfl (gd (tw_718)) rfl rfl (tl tw_715) (tl tw_716) (tl tw_717) (tl tw_7) 2 pd_R_extend rfl ⟨rfl, rfl⟩ ⟨Nat.le_of_ble_eq_true rfl, Nat.le_of_ble_eq_true rfl⟩ rfl (Nat.le_of_ble_eq_true rfl) dL_law_321) (fun _ => rfl) ?_
  rintro r u ⟨rfl, rfl⟩
  refine wk_icmp_eq X dL_law_324 (tgt := 842) rfl (fun h77 => ?_) (fun h77 => ?_)
  · replace hf := p_it h77 hf
    refine wk_iinc X 3 dL_law_842 (v := (v3 + (6 : Int32))) rfl rfl (Nat.le_of_ble_eq_true rfl) (lv' := [(3, .int (v3 + (6 : Int32))), (0, .ref bs), (1, .ref (a 0)), (2, .ref (b 0))]) rfl ?_
    refine wk_goto X dL_law_845 (tgt := 18) rfl ?_
    refine wk_lv [1, 2, 3, 0] (lv' := [(0, .ref bs), (1, .ref (a 0)), (2, .ref (b 0)), (3, .int (v3 + (6 : Int32)))]) rfl ?_
    exact hK q69.2 q75.2 (v3 + (6 : Int32)) hf
  · replace hf := p_ie h77 hf
    refine wk_iconst X dL_law_327 (v := (0 : Int32)) (by decide) ?_
    exact absurd (Option.some.inj hf) (by decide)
set_option maxRecDepth 100000 in
set_option maxHeartbeats 4000000 in
theorem wL_law_L329 {V : ee_V} (a b : Nat → Nat) (ln : Nat) (xs : Nat → Int32) (bs : Nat) {x : wk_C} (X : wk_K (ee V) x code 4 "TagWorkshopLaw" ts_L_law room_1) (hX : va_X bs ln xs (wx_s x) (wx_H x)) (hbl : bs < (wx_H x).size) (hbA : ¬ wx_A x bs) (hend : ∀ ws lv, wk_G (ee V) x 4 ws 849 lv [.int 1]) (K : pX → pR → Int32 → Option (Bool)) (hK : ∀ (S : pX) (S2 : pR) (v3 : Int32), K S S2 v3 = some true → wk_G (ee V) x 4 (cX V a S ++ cR V b S2) 18 [(0, .ref bs), (1, .ref (a 0)), (2, .ref (b 0)), (3, .int v3)] []) : ∀ (S : pX) (S2 : pR) (v3 : Int32), fL_law_L329 ln xs K S S2 v3 = some true → wk_G (ee V) x 4 (cX V a S ++ cR V b S2) 329 [(0, .ref bs), (1, .ref (a 0)), (2, .ref (b 0)), (3, .int v3)] [] := by
  intro S S2 v3 hf
  unfold fL_law_L329 at hf
  refine wk_aload_n X 1 dL_law_329 rfl rfl ?_
  refine wk_aload_n X 0 dL_law_330 rfl rfl ?_
  refine wk_iload_n X 3 dL_law_331 rfl rfl ?_
  refine wk_iconst X dL_law_332 (v := (1 : Int32)) (by decide) ?_
  refine wk_iadd X dL_law_333 ?_
  obtain ⟨q79, h80, hf⟩ := p_ob hf
  obtain ⟨h80i, h80e⟩ := p_rd_some h80
  refine wk_sld X hX hbl hbA h80i h80e dL_law_334 ?_
  refine wk_aload_n X 0 dL_law_335 rfl rfl ?_
  refine wk_iload_n X 3 dL_law_336 rfl rfl ?_
  refine wk_iconst X dL_law_337 (v := (2 : Int32)) (by decide) ?_
  refine wk_iadd X dL_law_338 ?_
  obtain ⟨q81, h82, hf⟩ := p_ob hf
  obtain ⟨h82i, h82e⟩ := p_rd_some h82
  refine wk_sld X hX hbl hbA h82i h82e dL_law_339 ?_
  refine wk_aload_n X 0 dL_law_340 rfl rfl ?_
  refine wk_iload_n X 3 dL_law_341 rfl rfl ?_
  refine wk_iconst X dL_law_342 (v := (3 : Int32)) (by decide) ?_
  refine wk_iadd X dL_law_343 ?_
  obtain ⟨q83, h84, hf⟩ := p_ob hf
  obtain ⟨h84i, h84e⟩ := p_rd_some h84
  refine wk_sld X hX hbl hbA h84i h84e dL_law_344 ?_
  obtain ⟨q85, h86, hf⟩ := p_ob hf
  refine wk_goIl (wk_rVl X (mX_spoil (V := V) a S q79 q81 q83 q85 h86) rfl (gd (tw_296)) rfl rfl (tl tw_293) (tl tw_294) (tl tw_295) (tl tw_1) 3 pd_X_spoil rfl ⟨rfl, rfl⟩ ⟨Nat.le_of_ble_eq_true rfl, Nat.le_of_ble_eq_true rfl⟩ rfl (Nat.le_of_ble_eq_true rfl) dL_law_345) (fun _ => rfl) ?_
  rintro r u ⟨rfl, rfl⟩
  refine wk_aload_n X 2 dL_law_348 rfl rfl ?_
  refine wk_aload_n X 0 dL_law_349 rfl rfl ?_
  refine wk_iload_n X 3 dL_law_350 rfl rfl ?_
  refine wk_iconst X dL_law_351 (v := (1 : Int32)) (by decide) ?_
  refine wk_iadd X dL_law_352 ?_
  refine wk_sld X hX hbl hbA h80i h80e dL_law_353 ?_
  refine wk_aload_n X 0 dL_law_354 rfl rfl ?_
  refine wk_iload_n X 3 dL_law_355 rfl rfl ?_
  refine wk_iconst X dL_law_356 (v := (2 : Int32)) (by decide) ?_
  refine wk_iadd X dL_law_357 ?_
  refine wk_sld X hX hbl hbA h82i h82e dL_law_358 ?_
  refine wk_aload_n X 0 dL_law_359 rfl rfl ?_
  refine wk_iload_n X 3 dL_law_360 rfl rfl ?_
  refine wk_iconst X dL_law_361 (v := (3 : Int32)) (by decide) ?_
  refine wk_iadd X dL_law_362 ?_
  refine wk_sld X hX hbl hbA h84i h84e dL_law_363 ?_
  obtain ⟨q93, h94, hf⟩ := p_ob hf
  refine wk_goIr (wk_rVr X (mR_spoil (V := V) b S2 q79 q81 q83 q93 h94) rfl (gd (tw_726)) rfl rfl (tl tw_723) (tl tw_724) (tl tw_725) (tl tw_7) 3 pd_R_spoil rfl ⟨rfl, rfl⟩ ⟨Nat.le_of_ble_eq_true rfl, Nat.le_of_ble_eq_true rfl⟩ rfl (Nat.le_of_ble_eq_true rfl) dL_law_364) (fun _ => rfl) ?_
  rintro r u ⟨rfl, rfl⟩
  refine wk_icmp_eq X dL_law_367 (tgt := 842) rfl (fun h95 => ?_) (fun h95 => ?_)
  · replace hf := p_it h95 hf
    refine wk_iinc X 3 dL_law_842 (v := (v3 + (6 : Int32))) rfl rfl (Nat.le_of_ble_eq_true rfl) (lv' := [(3, .int (v3 + (6 : Int32))), (0, .ref bs), (1, .ref (a 0)), (2, .ref (b 0))]) rfl ?_
    refine wk_goto X dL_law_845 (tgt := 18) rfl ?_
    refine wk_lv [1, 2, 3, 0] (lv' := [(0, .ref bs), (1, .ref (a 0)), (2, .ref (b 0)), (3, .int (v3 + (6 : Int32)))]) rfl ?_
    exact hK q85.2 q93.2 (v3 + (6 : Int32)) hf
  · replace hf := p_ie h95 hf
    refine wk_iconst X dL_law_370 (v := (0 : Int32)) (by decide) ?_
    exact absurd (Option.some.inj hf) (by decide)
set_option maxRecDepth 100000 in
set_option maxHeartbeats 4000000 in
theorem wL_law_L372 {V : ee_V} (a b : Nat → Nat) (ln : Nat) (xs : Nat → Int32) (bs : Nat) {x : wk_C} (X : wk_K (ee V) x code 4 "TagWorkshopLaw" ts_L_law room_1) (hX : va_X bs ln xs (wx_s x) (wx_H x)) (hbl : bs < (wx_H x).size) (hbA : ¬ wx_A x bs) (hend : ∀ ws lv, wk_G (ee V) x 4 ws 849 lv [.int 1]) (K : pX → pR → Int32 → Option (Bool)) (hK : ∀ (S : pX) (S2 : pR) (v3 : Int32), K S S2 v3 = some true → wk_G (ee V) x 4 (cX V a S ++ cR V b S2) 18 [(0, .ref bs), (1, .ref (a 0)), (2, .ref (b 0)), (3, .int v3)] []) : ∀ (S : pX) (S2 : pR) (v3 : Int32), fL_law_L372 ln xs K S S2 v3 = some true → wk_G (ee V) x 4 (cX V a S ++ cR V b S2) 372 [(0, .ref bs), (1, .ref (a 0)), (2, .ref (b 0)), (3, .int v3)] [] := by
  intro S S2 v3 hf
  unfold fL_law_L372 at hf
  refine wk_aload_n X 1 dL_law_372 rfl rfl ?_
  refine wk_aload_n X 0 dL_law_373 rfl rfl ?_
  refine wk_iload_n X 3 dL_law_374 rfl rfl ?_
  refine wk_iconst X dL_law_375 (v := (1 : Int32)) (by decide) ?_
  refine wk_iadd X dL_law_376 ?_
  obtain ⟨q97, h98, hf⟩ := p_ob hf
  obtain ⟨h98i, h98e⟩ := p_rd_some h98
  refine wk_sld X hX hbl hbA h98i h98e dL_law_377 ?_
  refine wk_aload_n X 0 dL_law_378 rfl rfl ?_
  refine wk_iload_n X 3 dL_law_379 rfl rfl ?_
  refine wk_iconst X dL_law_380 (v := (2 : Int32)) (by decide) ?_
  refine wk_iadd X dL_law_381 ?_
  obtain ⟨q99, h100, hf⟩ := p_ob hf
  obtain ⟨h100i, h100e⟩ := p_rd_some h100
  refine wk_sld X hX hbl hbA h100i h100e dL_law_382 ?_
  refine wk_if_eq X dL_law_383 (tgt := 390) rfl (fun h101 => ?_) (fun h101 => ?_)
  · replace hf := p_it h101 hf
    refine wk_iconst X dL_law_390 (v := (0 : Int32)) (by decide) ?_
    obtain ⟨q102, h103, hf⟩ := p_ob hf
    refine wk_goIl (wk_rVl X (mX_halts (V := V) a S q97 false q102 h103) rfl (gd (tw_316)) rfl rfl (tl tw_313) (tl tw_314) (tl tw_315) (tl tw_1) 2 pd_X_halts rfl ⟨rfl, rfl⟩ ⟨Nat.le_of_ble_eq_true rfl, Nat.le_of_ble_eq_true rfl⟩ rfl (Nat.le_of_ble_eq_true rfl) dL_law_391) (fun _ => rfl) ?_
    rintro r u ⟨rfl, rfl⟩
    refine wk_aload_n X 2 dL_law_394 rfl rfl ?_
    refine wk_aload_n X 0 dL_law_395 rfl rfl ?_
    refine wk_iload_n X 3 dL_law_396 rfl rfl ?_
    refine wk_iconst X dL_law_397 (v := (1 : Int32)) (by decide) ?_
    refine wk_iadd X dL_law_398 ?_
    refine wk_sld X hX hbl hbA h98i h98e dL_law_399 ?_
    refine wk_aload_n X 0 dL_law_400 rfl rfl ?_
    refine wk_iload_n X 3 dL_law_401 rfl rfl ?_
    refine wk_iconst X dL_law_402 (v := (2 : Int32)) (by decide) ?_
    refine wk_iadd X dL_law_403 ?_
    refine wk_sld X hX hbl hbA h100i h100e dL_law_404 ?_
    refine wk_if_eq X dL_law_405 (tgt := 412) rfl (fun _ => ?_) (fun h => absurd h101 h)
    refine wk_iconst X dL_law_412 (v := (0 : Int32)) (by decide) ?_
    obtain ⟨q108, h109, hf⟩ := p_ob hf
    refine wk_goIr (wk_rVr X (mR_halts (V := V) b S2 q97 false q108 h109) rfl (gd (tw_734)) rfl rfl (tl tw_731) (tl tw_732) (tl tw_733) (tl tw_7) 2 pd_R_halts rfl ⟨rfl, rfl⟩ ⟨Nat.le_of_ble_eq_true rfl, Nat.le_of_ble_eq_true rfl⟩ rfl (Nat.le_of_ble_eq_true rfl) dL_law_413) (fun _ => rfl) ?_
    rintro r u ⟨rfl, rfl⟩
    refine wk_icmp_eq X dL_law_416 (tgt := 842) rfl (fun h110 => ?_) (fun h110 => ?_)
    · replace hf := p_it h110 hf
      refine wk_iinc X 3 dL_law_842 (v := (v3 + (6 : Int32))) rfl rfl (Nat.le_of_ble_eq_true rfl) (lv' := [(3, .int (v3 + (6 : Int32))), (0, .ref bs), (1, .ref (a 0)), (2, .ref (b 0))]) rfl ?_
      refine wk_goto X dL_law_845 (tgt := 18) rfl ?_
      refine wk_lv [1, 2, 3, 0] (lv' := [(0, .ref bs), (1, .ref (a 0)), (2, .ref (b 0)), (3, .int (v3 + (6 : Int32)))]) rfl ?_
      exact hK q102.2 q108.2 (v3 + (6 : Int32)) hf
    · replace hf := p_ie h110 hf
      refine wk_iconst X dL_law_419 (v := (0 : Int32)) (by decide) ?_
      exact absurd (Option.some.inj hf) (by decide)
  · replace hf := p_ie h101 hf
    refine wk_iconst X dL_law_386 (v := (1 : Int32)) (by decide) ?_
    refine wk_goto X dL_law_387 (tgt := 391) rfl ?_
    obtain ⟨q111, h112, hf⟩ := p_ob hf
    refine wk_goIl (wk_rVl X (mX_halts (V := V) a S q97 true q111 h112) rfl (gd (tw_316)) rfl rfl (tl tw_313) (tl tw_314) (tl tw_315) (tl tw_1) 2 pd_X_halts rfl ⟨rfl, rfl⟩ ⟨Nat.le_of_ble_eq_true rfl, Nat.le_of_ble_eq_true rfl⟩ rfl (Nat.le_of_ble_eq_true rfl) dL_law_391) (fun _ => rfl) ?_
    rintro r u ⟨rfl, rfl⟩
    refine wk_aload_n X 2 dL_law_394 rfl rfl ?_
    refine wk_aload_n X 0 dL_law_395 rfl rfl ?_
    refine wk_iload_n X 3 dL_law_396 rfl rfl ?_
    refine wk_iconst X dL_law_397 (v := (1 : Int32)) (by decide) ?_
    refine wk_iadd X dL_law_398 ?_
    refine wk_sld X hX hbl hbA h98i h98e dL_law_399 ?_
    refine wk_aload_n X 0 dL_law_400 rfl rfl ?_
    refine wk_iload_n X 3 dL_law_401 rfl rfl ?_
    refine wk_iconst X dL_law_402 (v := (2 : Int32)) (by decide) ?_
    refine wk_iadd X dL_law_403 ?_
    refine wk_sld X hX hbl hbA h100i h100e dL_law_404 ?_
    refine wk_if_eq X dL_law_405 (tgt := 412) rfl (fun h => absurd h h101) (fun _ => ?_)
    refine wk_iconst X dL_law_408 (v := (1 : Int32)) (by decide) ?_
    refine wk_goto X dL_law_409 (tgt := 413) rfl ?_
    obtain ⟨q117, h118, hf⟩ := p_ob hf
    refine wk_goIr (wk_rVr X (mR_halts (V := V) b S2 q97 true q117 h118) rfl (gd (tw_734)) rfl rfl (tl tw_731) (tl tw_732) (tl tw_733) (tl tw_7) 2 pd_R_halts rfl ⟨rfl, rfl⟩ ⟨Nat.le_of_ble_eq_true rfl, Nat.le_of_ble_eq_true rfl⟩ rfl (Nat.le_of_ble_eq_true rfl) dL_law_413) (fun _ => rfl) ?_
    rintro r u ⟨rfl, rfl⟩
    refine wk_icmp_eq X dL_law_416 (tgt := 842) rfl (fun h119 => ?_) (fun h119 => ?_)
    · replace hf := p_it h119 hf
      refine wk_iinc X 3 dL_law_842 (v := (v3 + (6 : Int32))) rfl rfl (Nat.le_of_ble_eq_true rfl) (lv' := [(3, .int (v3 + (6 : Int32))), (0, .ref bs), (1, .ref (a 0)), (2, .ref (b 0))]) rfl ?_
      refine wk_goto X dL_law_845 (tgt := 18) rfl ?_
      refine wk_lv [1, 2, 3, 0] (lv' := [(0, .ref bs), (1, .ref (a 0)), (2, .ref (b 0)), (3, .int (v3 + (6 : Int32)))]) rfl ?_
      exact hK q111.2 q117.2 (v3 + (6 : Int32)) hf
    · replace hf := p_ie h119 hf
      refine wk_iconst X dL_law_419 (v := (0 : Int32)) (by decide) ?_
      exact absurd (Option.some.inj hf) (by decide)
set_option maxRecDepth 100000 in
set_option maxHeartbeats 4000000 in
theorem wL_law_L421 {V : ee_V} (a b : Nat → Nat) (ln : Nat) (xs : Nat → Int32) (bs : Nat) {x : wk_C} (X : wk_K (ee V) x code 4 "TagWorkshopLaw" ts_L_law room_1) (hX : va_X bs ln xs (wx_s x) (wx_H x)) (hbl : bs < (wx_H x).size) (hbA : ¬ wx_A x bs) (hend : ∀ ws lv, wk_G (ee V) x 4 ws 849 lv [.int 1]) (K : pX → pR → Int32 → Option (Bool)) (hK : ∀ (S : pX) (S2 : pR) (v3 : Int32), K S S2 v3 = some true → wk_G (ee V) x 4 (cX V a S ++ cR V b S2) 18 [(0, .ref bs), (1, .ref (a 0)), (2, .ref (b 0)), (3, .int v3)] []) : ∀ (S : pX) (S2 : pR) (v3 : Int32), fL_law_L421 ln xs K S S2 v3 = some true → wk_G (ee V) x 4 (cX V a S ++ cR V b S2) 421 [(0, .ref bs), (1, .ref (a 0)), (2, .ref (b 0)), (3, .int v3)] [] := by
  intro S S2 v3 hf
  unfold fL_law_L421 at hf
  refine wk_aload_n X 1 dL_law_421 rfl rfl ?_
  refine wk_aload_n X 0 dL_law_422 rfl rfl ?_
  refine wk_iload_n X 3 dL_law_423 rfl rfl ?_
  refine wk_iconst X dL_law_424 (v := (1 : Int32)) (by decide) ?_
  refine wk_iadd X dL_law_425 ?_
  obtain ⟨q121, h122, hf⟩ := p_ob hf
  obtain ⟨h122i, h122e⟩ := p_rd_some h122
  refine wk_sld X hX hbl hbA h122i h122e dL_law_426 ?_
  obtain ⟨q123, h124, hf⟩ := p_ob hf
  refine wk_goIl (wk_rVl X (mX_put (V := V) a S q121 q123 h124) rfl (gd (tw_321)) rfl rfl (tl tw_318) (tl tw_319) (tl tw_320) (tl tw_1) 1 pd_X_put rfl ⟨rfl, rfl⟩ ⟨Nat.le_of_ble_eq_true rfl, Nat.le_of_ble_eq_true rfl⟩ rfl (Nat.le_of_ble_eq_true rfl) dL_law_427) (fun _ => rfl) ?_
  rintro r u ⟨rfl, rfl⟩
  refine wk_aload_n X 2 dL_law_430 rfl rfl ?_
  refine wk_aload_n X 0 dL_law_431 rfl rfl ?_
  refine wk_iload_n X 3 dL_law_432 rfl rfl ?_
  refine wk_iconst X dL_law_433 (v := (1 : Int32)) (by decide) ?_
  refine wk_iadd X dL_law_434 ?_
  refine wk_sld X hX hbl hbA h122i h122e dL_law_435 ?_
  obtain ⟨q127, h128, hf⟩ := p_ob hf
  refine wk_goIr (wk_rVr X (mR_put (V := V) b S2 q121 q127 h128) rfl (gd (tw_739)) rfl rfl (tl tw_736) (tl tw_737) (tl tw_738) (tl tw_7) 1 pd_R_put rfl ⟨rfl, rfl⟩ ⟨Nat.le_of_ble_eq_true rfl, Nat.le_of_ble_eq_true rfl⟩ rfl (Nat.le_of_ble_eq_true rfl) dL_law_436) (fun _ => rfl) ?_
  rintro r u ⟨rfl, rfl⟩
  refine wk_icmp_eq X dL_law_439 (tgt := 842) rfl (fun h129 => ?_) (fun h129 => ?_)
  · replace hf := p_it h129 hf
    refine wk_iinc X 3 dL_law_842 (v := (v3 + (6 : Int32))) rfl rfl (Nat.le_of_ble_eq_true rfl) (lv' := [(3, .int (v3 + (6 : Int32))), (0, .ref bs), (1, .ref (a 0)), (2, .ref (b 0))]) rfl ?_
    refine wk_goto X dL_law_845 (tgt := 18) rfl ?_
    refine wk_lv [1, 2, 3, 0] (lv' := [(0, .ref bs), (1, .ref (a 0)), (2, .ref (b 0)), (3, .int (v3 + (6 : Int32)))]) rfl ?_
    exact hK q123.2 q127.2 (v3 + (6 : Int32)) hf
  · replace hf := p_ie h129 hf
    refine wk_iconst X dL_law_442 (v := (0 : Int32)) (by decide) ?_
    exact absurd (Option.some.inj hf) (by decide)

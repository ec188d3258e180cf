def fL_law_L144 (ln : Nat) (xs : Nat → Int32) (K : pX → pR → Int32 → Option (Bool)) (S : pX) (S2 : pR) (v3 : Int32) : Option (Bool) :=
  (p_rd ln xs (v3 + (1 : Int32))).bind fun q5 =>
  (p_rd ln xs (v3 + (2 : Int32))).bind fun q7 =>
  (p_rd ln xs (v3 + (3 : Int32))).bind fun q9 =>
  (p_rd ln xs (v3 + (4 : Int32))).bind fun q11 =>
  (p_rd ln xs (v3 + (5 : Int32))).bind fun q13 =>
  (fX_rule S q5 q7 q9 q11 q13).bind fun q15 =>
  (fR_rule S2 q5 q7 q9 q11 q13).bind fun q27 =>
  if (p_b q15.1) = (p_b q27.1) then (
    K q15.2 q27.2 (v3 + (6 : Int32))
  ) else (
    some false
  )
def fL_law_L207 (ln : Nat) (xs : Nat → Int32) (K : pX → pR → Int32 → Option (Bool)) (S : pX) (S2 : pR) (v3 : Int32) : Option (Bool) :=
  (p_rd ln xs (v3 + (1 : Int32))).bind fun q31 =>
  (p_rd ln xs (v3 + (2 : Int32))).bind fun q33 =>
  (p_rd ln xs (v3 + (3 : Int32))).bind fun q35 =>
  (p_rd ln xs (v3 + (4 : Int32))).bind fun q37 =>
  if (p_b (fX_tape S q31 q33 q35 q37).1) = (p_b (fR_tape S2 q31 q33 q35 q37).1) then (
    K (fX_tape S q31 q33 q35 q37).2 (fR_tape S2 q31 q33 q35 q37).2 (v3 + (6 : Int32))
  ) else (
    some false
  )
def fL_law_L260 (ln : Nat) (xs : Nat → Int32) (K : pX → pR → Int32 → Option (Bool)) (S : pX) (S2 : pR) (v3 : Int32) : Option (Bool) :=
  (fX_compileTag S).bind fun q49 =>
  (fR_compileTag S2).bind fun q51 =>
  if q49.1 = q51.1 then (
    K q49.2 q51.2 (v3 + (6 : Int32))
  ) else (
    some false
  )
def fL_law_L273 (ln : Nat) (xs : Nat → Int32) (K : pX → pR → Int32 → Option (Bool)) (S : pX) (S2 : pR) (v3 : Int32) : Option (Bool) :=
  (p_rd ln xs (v3 + (1 : Int32))).bind fun q55 =>
  (fX_ownTag S q55).bind fun q57 =>
  (fR_ownTag S2 q55).bind fun q61 =>
  if (p_b q57.1) = (p_b q61.1) then (
    K q57.2 q61.2 (v3 + (6 : Int32))
  ) else (
    some false
  )
def fL_law_L296 (ln : Nat) (xs : Nat → Int32) (K : pX → pR → Int32 → Option (Bool)) (S : pX) (S2 : pR) (v3 : Int32) : Option (Bool) :=
  (p_rd ln xs (v3 + (1 : Int32))).bind fun q65 =>
  (p_rd ln xs (v3 + (2 : Int32))).bind fun q67 =>
  (fX_extend S q65 q67).bind fun q69 =>
  (fR_extend S2 q65 q67).bind fun q75 =>
  if (p_b q69.1) = (p_b q75.1) then (
    K q69.2 q75.2 (v3 + (6 : Int32))
  ) else (
    some false
  )
def fL_law_L329 (ln : Nat) (xs : Nat → Int32) (K : pX → pR → Int32 → Option (Bool)) (S : pX) (S2 : pR) (v3 : Int32) : Option (Bool) :=
  (p_rd ln xs (v3 + (1 : Int32))).bind fun q79 =>
  (p_rd ln xs (v3 + (2 : Int32))).bind fun q81 =>
  (p_rd ln xs (v3 + (3 : Int32))).bind fun q83 =>
  (fX_spoil S q79 q81 q83).bind fun q85 =>
  (fR_spoil S2 q79 q81 q83).bind fun q93 =>
  if q85.1 = q93.1 then (
    K q85.2 q93.2 (v3 + (6 : Int32))
  ) else (
    some false
  )
def fL_law_L372 (ln : Nat) (xs : Nat → Int32) (K : pX → pR → Int32 → Option (Bool)) (S : pX) (S2 : pR) (v3 : Int32) : Option (Bool) :=
  (p_rd ln xs (v3 + (1 : Int32))).bind fun q97 =>
  (p_rd ln xs (v3 + (2 : Int32))).bind fun q99 =>
  if q99 = 0 then (
    (fX_halts S q97 false).bind fun q102 =>
    (fR_halts S2 q97 false).bind fun q108 =>
    if (p_b q102.1) = (p_b q108.1) then (
      K q102.2 q108.2 (v3 + (6 : Int32))
    ) else (
      some false
    )
  ) else (
    (fX_halts S q97 true).bind fun q111 =>
    (fR_halts S2 q97 true).bind fun q117 =>
    if (p_b q111.1) = (p_b q117.1) then (
      K q111.2 q117.2 (v3 + (6 : Int32))
    ) else (
      some false
    )
  )
def fL_law_L421 (ln : Nat) (xs : Nat → Int32) (K : pX → pR → Int32 → Option (Bool)) (S : pX) (S2 : pR) (v3 : Int32) : Option (Bool) :=
  (p_rd ln xs (v3 + (1 : Int32))).bind fun q121 =>
  (fX_put S q121).bind fun q123 =>
  (fR_put S2 q121).bind fun q127 =>
  if (p_b q123.1) = (p_b q127.1) then (
    K q123.2 q127.2 (v3 + (6 : Int32))
  ) else (
    some false
  )
def fL_law_L444 (ln : Nat) (xs : Nat → Int32) (K : pX → pR → Int32 → Option (Bool)) (S : pX) (S2 : pR) (v3 : Int32) : Option (Bool) :=
  (p_rd ln xs (v3 + (1 : Int32))).bind fun q131 =>
  (p_rd ln xs (v3 + (2 : Int32))).bind fun q133 =>
  (fX_production S q131 q133).bind fun q135 =>
  (fR_production S2 q131 q133).bind fun q141 =>
  if q135 = q141 then (
    K S S2 (v3 + (6 : Int32))
  ) else (
    some false
  )
def fL_law_L477 (ln : Nat) (xs : Nat → Int32) (K : pX → pR → Int32 → Option (Bool)) (S : pX) (S2 : pR) (v3 : Int32) : Option (Bool) :=
  (fX_compileCyclic S).bind fun q145 =>
  (fR_compileCyclic S2).bind fun q147 =>
  if q145.1 = q147.1 then (
    K q145.2 q147.2 (v3 + (6 : Int32))
  ) else (
    some false
  )
def fL_law_L490 (ln : Nat) (xs : Nat → Int32) (K : pX → pR → Int32 → Option (Bool)) (S : pX) (S2 : pR) (v3 : Int32) : Option (Bool) :=
  (p_rd ln xs (v3 + (1 : Int32))).bind fun q151 =>
  (p_rd ln xs (v3 + (2 : Int32))).bind fun q153 =>
  (fX_appendant S q151 q153).bind fun q155 =>
  (fR_appendant S2 q151 q153).bind fun q161 =>
  if q155 = q161 then (
    K S S2 (v3 + (6 : Int32))
  ) else (
    some false
  )
def fL_law_L523 (ln : Nat) (xs : Nat → Int32) (K : pX → pR → Int32 → Option (Bool)) (S : pX) (S2 : pR) (v3 : Int32) : Option (Bool) :=
  (p_rd ln xs (v3 + (1 : Int32))).bind fun q165 =>
  (fX_stepTape S q165).bind fun q167 =>
  (fR_stepTape S2 q165).bind fun q171 =>
  if q167.1 = q171.1 then (
    K q167.2 q171.2 (v3 + (6 : Int32))
  ) else (
    some false
  )
def fL_law_L546 (ln : Nat) (xs : Nat → Int32) (K : pX → pR → Int32 → Option (Bool)) (S : pX) (S2 : pR) (v3 : Int32) : Option (Bool) :=
  (p_rd ln xs (v3 + (1 : Int32))).bind fun q175 =>
  (fX_stepTag S q175).bind fun q177 =>
  (fR_stepTag S2 q175).bind fun q181 =>
  if q177.1 = q181.1 then (
    K q177.2 q181.2 (v3 + (6 : Int32))
  ) else (
    some false
  )
def fL_law_L569 (ln : Nat) (xs : Nat → Int32) (K : pX → pR → Int32 → Option (Bool)) (S : pX) (S2 : pR) (v3 : Int32) : Option (Bool) :=
  (p_rd ln xs (v3 + (1 : Int32))).bind fun q185 =>
  (fX_stepCyclic S q185).bind fun q187 =>
  (fR_stepCyclic S2 q185).bind fun q191 =>
  if q187.1 = q191.1 then (
    K q187.2 q191.2 (v3 + (6 : Int32))
  ) else (
    some false
  )
def fL_law_L592 (ln : Nat) (xs : Nat → Int32) (K : pX → pR → Int32 → Option (Bool)) (S : pX) (S2 : pR) (v3 : Int32) : Option (Bool) :=
  (p_rd ln xs (v3 + (1 : Int32))).bind fun q195 =>
  (fX_tapeNow S q195).bind fun q197 =>
  (fR_tapeNow S2 q195).bind fun q201 =>
  if q197 = q201 then (
    K S S2 (v3 + (6 : Int32))
  ) else (
    some false
  )
def fL_law_L615 (ln : Nat) (xs : Nat → Int32) (K : pX → pR → Int32 → Option (Bool)) (S : pX) (S2 : pR) (v3 : Int32) : Option (Bool) :=
  (p_rd ln xs (v3 + (1 : Int32))).bind fun q205 =>
  (fX_tagNow S q205).bind fun q207 =>
  (fR_tagNow S2 q205).bind fun q211 =>
  if q207 = q211 then (
    K S S2 (v3 + (6 : Int32))
  ) else (
    some false
  )
def fL_law_L638 (ln : Nat) (xs : Nat → Int32) (K : pX → pR → Int32 → Option (Bool)) (S : pX) (S2 : pR) (v3 : Int32) : Option (Bool) :=
  (p_rd ln xs (v3 + (1 : Int32))).bind fun q215 =>
  (fX_cyclicNow S q215).bind fun q217 =>
  (fR_cyclicNow S2 q215).bind fun q221 =>
  if q217 = q221 then (
    K S S2 (v3 + (6 : Int32))
  ) else (
    some false
  )
def fL_law_L661 (ln : Nat) (xs : Nat → Int32) (K : pX → pR → Int32 → Option (Bool)) (S : pX) (S2 : pR) (v3 : Int32) : Option (Bool) :=
  (p_rd ln xs (v3 + (1 : Int32))).bind fun q225 =>
  (fX_tagLetter S q225).bind fun q227 =>
  (fR_tagLetter S2 q225).bind fun q231 =>
  if q227 = q231 then (
    K S S2 (v3 + (6 : Int32))
  ) else (
    some false
  )
def fL_law_L684 (ln : Nat) (xs : Nat → Int32) (K : pX → pR → Int32 → Option (Bool)) (S : pX) (S2 : pR) (v3 : Int32) : Option (Bool) :=
  (p_rd ln xs (v3 + (1 : Int32))).bind fun q235 =>
  (fX_cyclicBit S q235).bind fun q237 =>
  (fR_cyclicBit S2 q235).bind fun q241 =>
  if q237 = q241 then (
    K S S2 (v3 + (6 : Int32))
  ) else (
    some false
  )
def fL_law_L707 (ln : Nat) (xs : Nat → Int32) (K : pX → pR → Int32 → Option (Bool)) (S : pX) (S2 : pR) (v3 : Int32) : Option (Bool) :=
  (p_rd ln xs (v3 + (1 : Int32))).bind fun q245 =>
  (fX_decodeTag S q245).bind fun q247 =>
  (fR_decodeTag S2 q245).bind fun q251 =>
  if q247.1 = q251.1 then (
    K q247.2 q251.2 (v3 + (6 : Int32))
  ) else (
    some false
  )
def fL_law_L730 (ln : Nat) (xs : Nat → Int32) (K : pX → pR → Int32 → Option (Bool)) (S : pX) (S2 : pR) (v3 : Int32) : Option (Bool) :=
  (p_rd ln xs (v3 + (1 : Int32))).bind fun q255 =>
  (fX_decodeCyclic S q255).bind fun q257 =>
  (fR_decodeCyclic S2 q255).bind fun q261 =>
  if q257 = q261 then (
    K S S2 (v3 + (6 : Int32))
  ) else (
    some false
  )
def fL_law_L753 (ln : Nat) (xs : Nat → Int32) (K : pX → pR → Int32 → Option (Bool)) (S : pX) (S2 : pR) (v3 : Int32) : Option (Bool) :=
  (fX_nextBorder S).bind fun q265 =>
  (fR_nextBorder S2).bind fun q267 =>
  if q265.1 = q267.1 then (
    K q265.2 q267.2 (v3 + (6 : Int32))
  ) else (
    some false
  )
def fL_law_L766 (ln : Nat) (xs : Nat → Int32) (K : pX → pR → Int32 → Option (Bool)) (S : pX) (S2 : pR) (v3 : Int32) : Option (Bool) :=
  (p_rd ln xs (v3 + (1 : Int32))).bind fun q271 =>
  (p_rd ln xs (v3 + (2 : Int32))).bind fun q273 =>
  (p_rd ln xs (v3 + (3 : Int32))).bind fun q275 =>
  (p_rd ln xs (v3 + (4 : Int32))).bind fun q277 =>
  (fX_roundCost S q271 q273 q275 q277).bind fun q279 =>
  (fR_roundCost S2 q271 q273 q275 q277).bind fun q289 =>
  if q279 = q289 then (
    K S S2 (v3 + (6 : Int32))
  ) else (
    some false
  )
def fL_law_L819 (ln : Nat) (xs : Nat → Int32) (K : pX → pR → Int32 → Option (Bool)) (S : pX) (S2 : pR) (v3 : Int32) : Option (Bool) :=
  (p_rd ln xs (v3 + (1 : Int32))).bind fun q293 =>
  (fX_lockStep S q293).bind fun q295 =>
  (fR_lockStep S2 q293).bind fun q299 =>
  if q295.1 = q299.1 then (
    K q295.2 q299.2 (v3 + (6 : Int32))
  ) else (
    some false
  )
def fL_law_L18 (ln : Nat) (xs : Nat → Int32) : Nat → pX → pR → Int32 → Option (Bool)
  | 0, _, _, _ => none
  | n + 1, S, S2, v3 =>
    if ((nI ln) - (6 : Int32)) < v3 then (
      some true
    ) else (
      (p_rd ln xs v3).bind fun q2 =>
      if (q2 &&& (31 : Int32)) = (0 : Int32) then (
        fL_law_L144 ln xs (fun S S2 w3 => fL_law_L18 ln xs n S S2 w3) S S2 v3
      ) else (
      if (q2 &&& (31 : Int32)) = (1 : Int32) then (
        fL_law_L207 ln xs (fun S S2 w3 => fL_law_L18 ln xs n S S2 w3) S S2 v3
      ) else (
      if (q2 &&& (31 : Int32)) = (2 : Int32) then (
        fL_law_L260 ln xs (fun S S2 w3 => fL_law_L18 ln xs n S S2 w3) S S2 v3
      ) else (
      if (q2 &&& (31 : Int32)) = (3 : Int32) then (
        fL_law_L273 ln xs (fun S S2 w3 => fL_law_L18 ln xs n S S2 w3) S S2 v3
      ) else (
      if (q2 &&& (31 : Int32)) = (4 : Int32) then (
        fL_law_L296 ln xs (fun S S2 w3 => fL_law_L18 ln xs n S S2 w3) S S2 v3
      ) else (
      if (q2 &&& (31 : Int32)) = (5 : Int32) then (
        fL_law_L329 ln xs (fun S S2 w3 => fL_law_L18 ln xs n S S2 w3) S S2 v3
      ) else (
      if (q2 &&& (31 : Int32)) = (6 : Int32) then (
        fL_law_L372 ln xs (fun S S2 w3 => fL_law_L18 ln xs n S S2 w3) S S2 v3
      ) else (
      if (q2 &&& (31 : Int32)) = (7 : Int32) then (
        fL_law_L421 ln xs (fun S S2 w3 => fL_law_L18 ln xs n S S2 w3) S S2 v3
      ) else (
      if (q2 &&& (31 : Int32)) = (8 : Int32) then (
        fL_law_L444 ln xs (fun S S2 w3 => fL_law_L18 ln xs n S S2 w3) S S2 v3
      ) else (
      if (q2 &&& (31 : Int32)) = (9 : Int32) then (
        fL_law_L477 ln xs (fun S S2 w3 => fL_law_L18 ln xs n S S2 w3) S S2 v3
      ) else (
      if (q2 &&& (31 : Int32)) = (10 : Int32) then (
        fL_law_L490 ln xs (fun S S2 w3 => fL_law_L18 ln xs n S S2 w3) S S2 v3
      ) else (
      if (q2 &&& (31 : Int32)) = (11 : Int32) then (
        fL_law_L523 ln xs (fun S S2 w3 => fL_law_L18 ln xs n S S2 w3) S S2 v3
      ) else (
      if (q2 &&& (31 : Int32)) = (12 : Int32) then (
        fL_law_L546 ln xs (fun S S2 w3 => fL_law_L18 ln xs n S S2 w3) S S2 v3
      ) else (
      if (q2 &&& (31 : Int32)) = (13 : Int32) then (
        fL_law_L569 ln xs (fun S S2 w3 => fL_law_L18 ln xs n S S2 w3) S S2 v3
      ) else (
      if (q2 &&& (31 : Int32)) = (14 : Int32) then (
        fL_law_L592 ln xs (fun S S2 w3 => fL_law_L18 ln xs n S S2 w3) S S2 v3
      ) else (
      if (q2 &&& (31 : Int32)) = (15 : Int32) then (
        fL_law_L615 ln xs (fun S S2 w3 => fL_law_L18 ln xs n S S2 w3) S S2 v3
      ) else (
      if (q2 &&& (31 : Int32)) = (16 : Int32) then (
        fL_law_L638 ln xs (fun S S2 w3 => fL_law_L18 ln xs n S S2 w3) S S2 v3
      ) else (
      if (q2 &&& (31 : Int32)) = (17 : Int32) then (
        fL_law_L661 ln xs (fun S S2 w3 => fL_law_L18 ln xs n S S2 w3) S S2 v3
      ) else (
      if (q2 &&& (31 : Int32)) = (18 : Int32) then (
        fL_law_L684 ln xs (fun S S2 w3 => fL_law_L18 ln xs n S S2 w3) S S2 v3
      ) else (
      if (q2 &&& (31 : Int32)) = (19 : Int32) then (
        fL_law_L707 ln xs (fun S S2 w3 => fL_law_L18 ln xs n S S2 w3) S S2 v3
      ) else (
      if (q2 &&& (31 : Int32)) = (20 : Int32) then (
        fL_law_L730 ln xs (fun S S2 w3 => fL_law_L18 ln xs n S S2 w3) S S2 v3
      ) else (
      if (q2 &&& (31 : Int32)) = (21 : Int32) then (
        fL_law_L753 ln xs (fun S S2 w3 => fL_law_L18 ln xs n S S2 w3) S S2 v3
      ) else (
      if (q2 &&& (31 : Int32)) = (22 : Int32) then (
        fL_law_L766 ln xs (fun S S2 w3 => fL_law_L18 ln xs n S S2 w3) S S2 v3
      ) else (
      if (q2 &&& (31 : Int32)) = (23 : Int32) then (
        fL_law_L819 ln xs (fun S S2 w3 => fL_law_L18 ln xs n S S2 w3) S S2 v3
      ) else (
        fL_law_L18 ln xs n S S2 (v3 + (6 : Int32))
      ))))))))))))))))))))))))
    )

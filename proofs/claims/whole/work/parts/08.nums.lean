/-! numbers: rows read and written at small places, packed letters -/
theorem q_rd {α : Type} {n k : Nat} {f : Nat → α} (hk : k < n) (hn : n < 2 ^ 31) : p_rd n f (nI k) = some (f k) := by
  unfold p_rd
  rw [if_neg (nI_in hk hn), nI_clamp (by omega)]
theorem q_wr {n k : Nat} {f : Nat → Int32} {v : Int32} (hk : k < n) (hn : n < 2 ^ 31) : p_wr n f (nI k) v = some (upd f k v) := by
  unfold p_wr
  rw [if_neg (nI_in hk hn), nI_clamp (by omega)]
theorem q_wrL {n k : Nat} {f : Nat → Int64} {v : Int64} (hk : k < n) (hn : n < 2 ^ 31) : p_wrL n f (nI k) v = some (vp_updL f k v) := by
  unfold p_wrL
  rw [if_neg (nI_in hk hn), nI_clamp (by omega)]
theorem q_dv {a b : Nat} (ha : a < 2 ^ 31) (h0 : 0 < b) (hb : b < 2 ^ 31) : p_dv (nI a) (nI b) = some (nI (a / b)) := by
  unfold p_dv
  rw [if_neg (nI_ne0 h0 hb), pk_div ha h0 hb]
theorem q_rm {a b : Nat} (ha : a < 2 ^ 31) (h0 : 0 < b) (hb : b < 2 ^ 31) : p_rm (nI a) (nI b) = some (nI (a % b)) := by
  unfold p_rm
  rw [if_neg (nI_ne0 h0 hb), pk_rem ha h0 hb]
theorem q_lit (n : Nat) : (OfNat.ofNat n : Int32) = nI (OfNat.ofNat n) := rfl
theorem q_m1 (k : Nat) (h : k < 2 ^ 31) : ¬ nI k = -1 := by
  intro e
  have h1 := nI_toInt h
  rw [e] at h1
  have h2 : (-1 : Int32).toInt = -1 := by decide
  omega
/-- the letter at place j of a pack -/
def sp_pk (x : Int64) (j : Nat) : Nat := x.toBitVec.toNat / 2 ^ (10 * j) % 1024
theorem sp_pkB (x : Int64) (j i : Nat) : (sp_pk x j).testBit i = (decide (i < 10) && x.toBitVec.getLsbD (10 * j + i)) := by
  unfold sp_pk
  rw [show (1024 : Nat) = 2 ^ 10 from rfl, Nat.testBit_mod_two_pow, Nat.testBit_div_two_pow, Nat.add_comm i]
  rfl
theorem sp_pk_lt (x : Int64) (j : Nat) : sp_pk x j < 1024 := Nat.mod_lt _ (by decide)
theorem sp_sh : ∀ j, j < 6 → (((nI (10 * j)).toInt64 &&& 63).toBitVec.smod 64).toNat = 10 * j := by decide +kernel
theorem sp_1023 : ∀ i, i < 64 → (1023 : Int64).toBitVec.getLsbD i = decide (i < 10) := by decide +kernel
theorem sp_m1 : ∀ i, i < 64 → (-1 : Int64).toBitVec.getLsbD i = true := by decide +kernel
theorem sp_shr (x : Int64) {j i : Nat} (hj : j < 6) (hi : i < 64) : (x >>> ((nI (10 * j)).toInt64 &&& 63)).toBitVec.getLsbD i = if 10 * j + i < 64 then x.toBitVec.getLsbD (10 * j + i) else x.toBitVec.msb := by
  rw [Int64.toBitVec_shiftRight]
  show (x.toBitVec.sshiftRight (((nI (10 * j)).toInt64 &&& 63).toBitVec.smod 64).toNat).getLsbD i = _
  rw [sp_sh j hj, BitVec.getLsbD_sshiftRight]
  simp [Nat.not_le.mpr hi]
theorem sp_shl (x : Int64) {j i : Nat} (hj : j < 6) (hi : i < 64) : (x <<< ((nI (10 * j)).toInt64 &&& 63)).toBitVec.getLsbD i = (decide (10 * j ≤ i) && x.toBitVec.getLsbD (i - 10 * j)) := by
  rw [Int64.toBitVec_shiftLeft]
  show (x.toBitVec <<< (((nI (10 * j)).toInt64 &&& 63).toBitVec.smod 64).toNat).getLsbD i = _
  rw [sp_sh j hj, BitVec.getLsbD_shiftLeft]
  rcases Nat.lt_or_ge i (10 * j) with h | h
  · simp [h, Nat.not_le.mpr h]
  · simp [hi, h, Nat.not_lt.mpr h]
theorem sp_un (x : Int64) {j : Nat} (hj : j < 6) : Int64.toInt32 ((x >>> (Int32.toInt64 (nI (10 * j)) &&& 63)) &&& 1023) = nI (sp_pk x j) := by
  apply Int32.toBitVec_inj.1
  apply BitVec.eq_of_getLsbD_eq
  intro i hi
  show (((x >>> (Int32.toInt64 (nI (10 * j)) &&& 63)) &&& 1023).toBitVec.signExtend 32).getLsbD i = (BitVec.ofNat 32 (sp_pk x j)).getLsbD i
  rw [BitVec.getLsbD_signExtend, Int64.toBitVec_and, BitVec.getLsbD_and, sp_shr x hj (by omega), sp_1023 i (by omega), BitVec.getLsbD_ofNat, sp_pkB]
  by_cases h : i < 10
  · simp [h, hi, show i < 64 by omega, show 10 * j + i < 64 by omega]
  · simp [h]
    intro _ h2
    omega
theorem sp_st (x : Int64) {v j k : Nat} (hv : v < 1024) (hj : j < 6) (hk : k < 6) : sp_pk ((x &&& ((1023 <<< (Int32.toInt64 (nI (10 * j)) &&& 63)) ^^^ (-1))) ||| ((Int32.toInt64 (nI v)) <<< (Int32.toInt64 (nI (10 * j)) &&& 63))) k = if k = j then v else sp_pk x k := by
  apply Nat.eq_of_testBit_eq
  intro i
  rw [sp_pkB]
  by_cases h : i < 10
  · have hb : 10 * k + i < 64 := by omega
    rw [Int64.toBitVec_or, BitVec.getLsbD_or, Int64.toBitVec_and, BitVec.getLsbD_and, Int64.toBitVec_xor, BitVec.getLsbD_xor, sp_shl _ hj hb, sp_shl _ hj hb, sp_m1 _ hb]
    by_cases e : k = j
    · subst e
      rw [if_pos rfl, show 10 * k + i - 10 * k = i by omega, sp_1023 i (by omega)]
      have hw : (Int32.toInt64 (nI v)).toBitVec.getLsbD i = v.testBit i := by
        rw [nI_l (by omega)]
        show (BitVec.ofNat 64 v).getLsbD i = _
        rw [BitVec.getLsbD_ofNat]
        simp [show i < 64 by omega]
      rw [hw]
      simp [h]
    · rw [if_neg e, sp_pkB]
      by_cases hl : 10 * j ≤ 10 * k + i
      · have h10 : 10 ≤ 10 * k + i - 10 * j := by omega
        have hw : (Int32.toInt64 (nI v)).toBitVec.getLsbD (10 * k + i - 10 * j) = false := by
          rw [nI_l (by omega)]
          show (BitVec.ofNat 64 v).getLsbD _ = _
          rw [BitVec.getLsbD_ofNat, Nat.testBit_lt_two_pow (Nat.lt_of_lt_of_le hv (Nat.pow_le_pow_right (by decide : 0 < 2) h10))]
          simp
        rw [sp_1023 _ (by omega), hw]
        simp [h, show ¬ (10 * k + i - 10 * j < 10) by omega]
      · simp [h, hl]
  · rw [decide_eq_false h, Bool.false_and]
    by_cases e : k = j
    · rw [if_pos e]
      exact (Nat.testBit_lt_two_pow (Nat.lt_of_lt_of_le hv (Nat.pow_le_pow_right (by decide : 0 < 2) (by omega : 10 ≤ i)))).symm
    · rw [if_neg e, sp_pkB, decide_eq_false h, Bool.false_and]

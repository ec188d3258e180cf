/-! reading a code -/
/-- pairs (a, 0) one behind another, from place i on -/
def np (wd : List Nat) (a : Nat) : Nat → Nat → Nat
  | 0, _ => 0
  | f + 1, i => if wd[i]? = some a ∧ wd[i + 1]? = some 0 then np wd a f (i + 2) + 1 else 0
theorem np_le (wd : List Nat) (a : Nat) : ∀ f i, 2 * np wd a f i + i ≤ wd.length ∨ np wd a f i = 0
  | 0, i => Or.inr rfl
  | f + 1, i => by
    unfold np
    split
    · rename_i h
      have := (List.getElem?_eq_some_iff.mp h.2).1
      rcases np_le wd a f (i + 2) with h2 | h2
      · left; omega
      · left; omega
    · exact Or.inr rfl
theorem np_s {wd : List Nat} {a f i : Nat} : np wd a (f + 1) i = if wd[i]? = some a ∧ wd[i + 1]? = some 0 then np wd a f (i + 2) + 1 else 0 := rfl
theorem wl_eq {wd : List Nat} {L i a : Nat} (hw : ∀ w ∈ wd, w < L) (hL : L ≤ 300) (hi : i < 2 ^ 31) (ha : a < 2 ^ 31) : (wl wd (nI i) = nI a) ↔ wd[i]? = some a := by
  rw [wl_nI hi]
  cases h : wd[i]? with
  | none =>
    simp only []
    constructor
    · intro z
      exact absurd z.symm (q_m1 a ha)
    · intro z
      cases z
  | some x =>
    have := hw x (List.mem_of_getElem? h)
    simp only [Option.some.injEq]
    rw [nI_eq (by omega) ha]
theorem sC_isPair {S : pT} {wd : List Nat} {L : Nat} (h : rpW S.2.2.2.1 S.2.2.2.2.1 S.2.2.2.2.2.1 wd) (hl : wd.length ≤ 4096) (hw : ∀ w ∈ wd, w < L) (hL : L ≤ 300) {c a : Nat} (hc : c < 2 ^ 20) (ha : a < 2 ^ 20) :
    fC_isPair S (nI c) (nI a) = some (decide (wd[2 * c]? = some a ∧ wd[2 * c + 1]? = some 0)) := by
  unfold fC_isPair
  rw [show (2 : Int32) * nI c = nI (2 * c) from by rw [show (2 : Int32) = nI 2 from rfl, pk_mul], nI_1, sT_wordLetter h hl, sT_wordLetter h hl]
  simp only [Option.bind_some]
  have e1 := wl_eq (i := 2 * c) (a := a) hw hL (by omega) (by omega)
  have e2 := wl_eq (i := 2 * c + 1) (a := 0) hw hL (by omega) (by omega)
  by_cases h1 : wd[2 * c]? = some a
  · rw [if_pos (e1.mpr h1)]
    by_cases h2 : wd[2 * c + 1]? = some 0
    · rw [if_pos (show wl wd (nI (2 * c + 1)) = 0 from e2.mpr h2)]
      simp [h1, h2]
    · rw [if_neg (show ¬ wl wd (nI (2 * c + 1)) = 0 from fun z => h2 (e2.mp z))]
      simp [h2]
  · rw [if_neg (fun z => h1 (e1.mp z))]
    simp [h1]
theorem sC_pairsL {S : pT} {wd : List Nat} {L : Nat} (h : rpW S.2.2.2.1 S.2.2.2.2.1 S.2.2.2.2.2.1 wd) (hl : wd.length ≤ 4096) (hw : ∀ w ∈ wd, w < L) (hL : L ≤ 300) {a : Nat} (ha : a < 2 ^ 20) (v1 : Int32) :
    ∀ (f n c : Nat), c ≤ wd.length / 2 → wd.length / 2 - c ≤ f → f < n → fC_pairsEnd_L10 S n v1 (nI a) (nI (wd.length / 2)) (nI c) = some (nI (c + np wd a f (2 * c))) := by
  intro f
  induction f with
  | zero =>
    intro n c h1 h2 h3
    obtain ⟨n', rfl⟩ : ∃ n', n = n' + 1 := ⟨n - 1, by omega⟩
    rw [fC_pairsEnd_L10, if_pos (nI_le (by omega) (by omega))]
    have e : wd.length / 2 = c := by omega
    rw [e]
    rfl
  | succ f ih =>
    intro n c h1 h2 h3
    obtain ⟨n', rfl⟩ : ∃ n', n = n' + 1 := ⟨n - 1, by omega⟩
    rw [fC_pairsEnd_L10, np_s]
    by_cases hc : wd.length / 2 ≤ c
    · have e : wd.length / 2 = c := by omega
      have e2 : wd[2 * c + 1]? = none := List.getElem?_eq_none (by omega)
      rw [if_pos (nI_le hc (by omega)), if_neg (by rw [e2]; simp), e]
      rfl
    · rw [if_neg (nI_ge (by omega) (by omega)), sC_isPair h hl hw hL (by omega) ha]
      simp only [Option.bind_some, decide_eq_true_eq]
      by_cases hp : wd[2 * c]? = some a ∧ wd[2 * c + 1]? = some 0
      · rw [if_pos hp, if_pos hp, nI_1, ih n' (c + 1) (by omega) (by omega) (by omega)]
        congr 2
        rw [show 2 * (c + 1) = 2 * c + 2 by omega]
        omega
      · rw [if_neg hp, if_neg hp]
        rfl
theorem sR_pairsL {S : pR} {wd : List Nat} {L fr p : Nat} (h1 : S.2.1.2.2.2.2.2.2.2 = nI (fr + wd.length)) (h2 : fr + wd.length ≤ 12000) (h4 : ∀ i w, wd[i]? = some w → S.2.1.2.2.2.2.2.1 (fr + i) = nI w) (hw : ∀ w ∈ wd, w < L) (hL : L ≤ 300) {a : Nat} (ha : a < 2 ^ 20) (hp : p ≤ wd.length) :
    ∀ (f n c : Nat), p + 2 * c ≤ wd.length → wd.length ≤ p + 2 * c + 2 * f + 1 → f < n → fR_pairs_L2 S n (nI (fr + p)) (nI a) (nI c) = some (nI (c + np wd a f (p + 2 * c))) := by
  have hadd : ∀ c : Nat, nI (fr + p) + ((2 : Int32) * nI c) = nI (fr + (p + 2 * c)) := fun c => by rw [show (2 : Int32) = nI 2 from rfl, pk_mul, nI_add]; congr 1; omega
  intro f
  induction f with
  | zero =>
    intro n c g1 g2 g3
    obtain ⟨n', rfl⟩ : ∃ n', n = n' + 1 := ⟨n - 1, by omega⟩
    rw [fR_pairs_L2, hadd, nI_1, h1, if_pos (nI_le (by omega) (by omega))]
    rfl
  | succ f ih =>
    intro n c g1 g2 g3
    obtain ⟨n', rfl⟩ : ∃ n', n = n' + 1 := ⟨n - 1, by omega⟩
    rw [fR_pairs_L2, hadd, nI_1, h1, np_s]
    by_cases hc : wd.length ≤ p + 2 * c + 1
    · have e2 : wd[p + 2 * c + 1]? = none := List.getElem?_eq_none (by omega)
      rw [if_pos (nI_le (by omega) (by omega)), if_neg (by rw [e2]; simp)]
      rfl
    · rw [if_neg (nI_ge (by omega) (by omega)), q_rd (by omega) (by decide), q_rd (by omega) (by decide)]
      obtain ⟨x, hx⟩ : ∃ x, wd[p + 2 * c]? = some x := ⟨_, List.getElem?_eq_getElem (by omega)⟩
      obtain ⟨y, hy⟩ : ∃ y, wd[p + 2 * c + 1]? = some y := ⟨_, List.getElem?_eq_getElem (by omega)⟩
      have hx2 := hw x (List.mem_of_getElem? hx)
      have hy2 := hw y (List.mem_of_getElem? hy)
      rw [h4 _ x hx, show fr + (p + 2 * c) + 1 = fr + (p + 2 * c + 1) by omega, h4 _ y hy, hx, hy]
      simp only [Option.bind_some, Option.some.injEq]
      by_cases e : x = a
      · rw [if_pos (by rw [e])]
        by_cases e2 : y = 0
        · rw [if_pos (show nI y = 0 from by rw [e2]; rfl), if_pos ⟨e, e2⟩, nI_1, ih n' (c + 1) (by omega) (by omega) (by omega)]
          congr 2
          rw [show p + 2 * (c + 1) = p + 2 * c + 2 by omega]
          omega
        · rw [if_neg (show ¬ nI y = 0 from nI_ne0 (by omega) (by omega)), if_neg (fun z => e2 z.2)]
          rfl
      · rw [if_neg (by rw [nI_eq (by omega) (by omega)]; exact e), if_neg (fun z => e z.1)]
        rfl
/-- what a code says -/
def rd_c (N : Nat) (wd : List Nat) : Option (Nat × Nat × Nat × Nat) :=
  if 1 ≤ wd.headD 0 ∧ wd.headD 0 < 1 + 36 * N ∧ (wd.headD 0 - 1) % 18 = 0 ∧ wd[1]? = some 0 ∧ wd[2 + 2 * np wd (wd.headD 0 + 1) 5000 2]? = some (wd.headD 0 + 2) ∧ wd[3 + 2 * np wd (wd.headD 0 + 1) 5000 2]? = some 0 ∧
    4 + 2 * np wd (wd.headD 0 + 1) 5000 2 + 2 * np wd (wd.headD 0 + 3) 5000 (4 + 2 * np wd (wd.headD 0 + 1) 5000 2) = wd.length
  then some ((wd.headD 0 - 1) / 36 + 1, (wd.headD 0 - 1) / 18 % 2, np wd (wd.headD 0 + 1) 5000 2, np wd (wd.headD 0 + 3) 5000 (4 + 2 * np wd (wd.headD 0 + 1) 5000 2)) else none

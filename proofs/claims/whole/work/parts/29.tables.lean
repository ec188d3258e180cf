/-! the tables of the class, and the order of the reference: a letter has the same production -/
def tq_0 : List (Nat × Nat) := [(0, 4), (0, 54), (1, 5), (1, 54), (1, 5), (1, 54), (2, 6), (3, 7), (4, 8), (4, 9), (5, 10), (5, 11), (6, 12), (6, 13), (7, 14), (7, 15), (8, 36), (8, 54), (10, 37), (10, 54), (12, 38), (12, 54), (14, 39), (14, 54), (9, 54), (9, 18), (9, 54), (11, 19), (11, 54), (13, 20), (13, 54), (15, 21), (15, 54)]
theorem tq_0_f : tb_l 0 = flat2 tq_0 := by decide +kernel
def tq_1 : List (Nat × Nat) := [(0, 5), (0, 54)]
theorem tq_1_f : tb_l 1 = flat2 tq_1 := by decide +kernel
def tq_2 : List (Nat × Nat) := [(0, 6), (1, 7), (2, 4), (2, 16), (3, 5), (3, 17), (3, 5), (3, 17), (6, 12), (6, 13), (7, 14), (7, 15), (4, 8), (4, 54), (5, 10), (5, 54), (16, 54), (16, 9), (16, 54), (17, 11), (17, 54), (12, 36), (12, 54), (14, 37), (14, 54), (8, 38), (8, 54), (10, 39), (10, 54), (13, 18), (13, 54), (15, 19), (15, 54), (9, 20), (9, 54), (11, 21), (11, 54)]
theorem tq_2_f : tb_l 2 = flat2 tq_2 := by decide +kernel
def tq_3 : List (Nat × Nat) := [(2, 5), (2, 17)]
theorem tq_3_f : tb_l 3 = flat2 tq_3 := by decide +kernel
def rq_r0 : List (Nat × Nat) := [(0, 4), (0, 54), (1, 5), (1, 54), (1, 5), (1, 54), (2, 6), (3, 7), (4, 8), (4, 9), (5, 10), (5, 11), (6, 12), (6, 13), (7, 14), (7, 15), (8, 36), (8, 54), (10, 37), (10, 54), (12, 38), (12, 54), (14, 39), (14, 54), (9, 54), (9, 18), (9, 54), (11, 19), (11, 54), (13, 20), (13, 54), (15, 21), (15, 54)]
def rq_r1 : List (Nat × Nat) := [(0, 4), (0, 54), (0, 5), (0, 54), (1, 5), (1, 54), (1, 5), (1, 54), (2, 6), (3, 7), (4, 8), (4, 9), (5, 10), (5, 11), (6, 12), (6, 13), (7, 14), (7, 15), (8, 36), (8, 54), (10, 37), (10, 54), (12, 38), (12, 54), (14, 39), (14, 54), (9, 54), (9, 18), (9, 54), (11, 19), (11, 54), (13, 20), (13, 54), (15, 21), (15, 54)]
def rq_l0 : List (Nat × Nat) := [(0, 6), (1, 7), (2, 4), (2, 16), (3, 5), (3, 17), (3, 5), (3, 17), (6, 12), (6, 13), (7, 14), (7, 15), (4, 8), (4, 54), (5, 10), (5, 54), (16, 54), (16, 9), (16, 54), (17, 11), (17, 54), (12, 36), (12, 54), (14, 37), (14, 54), (8, 38), (8, 54), (10, 39), (10, 54), (13, 18), (13, 54), (15, 19), (15, 54), (9, 20), (9, 54), (11, 21), (11, 54)]
def rq_l1 : List (Nat × Nat) := [(0, 6), (1, 7), (2, 4), (2, 16), (2, 5), (2, 17), (3, 5), (3, 17), (3, 5), (3, 17), (6, 12), (6, 13), (7, 14), (7, 15), (4, 8), (4, 54), (5, 10), (5, 54), (16, 54), (16, 9), (16, 54), (17, 11), (17, 54), (12, 36), (12, 54), (14, 37), (14, 54), (8, 38), (8, 54), (10, 39), (10, 54), (13, 18), (13, 54), (15, 19), (15, 54), (9, 20), (9, 54), (11, 21), (11, 54)]
/-- the class's list -/
def cl_c (right one : Bool) : List (Nat × Nat) := match right, one with
  | true, false => tq_0
  | true, true => tq_0 ++ tq_1
  | false, false => tq_2
  | false, true => tq_2 ++ tq_3
def cl_r (right one : Bool) : List (Nat × Nat) := match right, one with
  | true, false => rq_r0
  | true, true => rq_r1
  | false, false => rq_l0
  | false, true => rq_l1
theorem cl_same : ∀ right one : Bool, ∀ j, j < 18 → (cl_c right one).filter (fun a => a.1 == j) = (cl_r right one).filter (fun a => a.1 == j) := by decide +kernel
theorem cl_c_ok : ∀ right one : Bool, ∀ p ∈ cl_c right one, p.1 < 18 ∧ p.2 ≤ 54 ∧ (p.2 < 18 ∨ p.2 = 54 ∨ p.2 < 54) := by decide +kernel
theorem cl_r_ok : ∀ right one : Bool, ∀ p ∈ cl_r right one, p.1 < 18 ∧ p.2 ≤ 54 := by decide +kernel
theorem cl_cnt : ∀ right one : Bool, ∀ j, j < 18 → ((cl_c right one).filter (fun a => a.1 == j)).length ≤ 12 := by decide +kernel
theorem fil_map (l : List (Nat × Nat)) (own nxt u : Nat) : (l.map (ad_f own nxt)).filter (fun a => a.1 == u) = (l.filter (fun a => own + a.1 == u)).map (ad_f own nxt) := by
  rw [List.filter_map]
  rfl
theorem fil_in {l : List (Nat × Nat)} (h : ∀ p ∈ l, p.1 < 18) (own u : Nat) : l.filter (fun a => own + a.1 == u) = if own ≤ u ∧ u < own + 18 then l.filter (fun a => a.1 == u - own) else [] := by
  split
  · rename_i z
    apply List.filter_congr
    intro p hp
    have := h p hp
    rw [Bool.eq_iff_iff]
    simp only [beq_iff_eq]
    omega
  · rename_i z
    apply List.filter_eq_nil_iff.mpr
    intro p hp
    have := h p hp
    simp only [beq_iff_eq]
    omega
/-- both orders make the same productions -/
theorem ad_same (pr : Nat → List Nat) (own nxt : Nat) (right one : Bool) : ad_l pr ((cl_c right one).map (ad_f own nxt)) = ad_l pr ((cl_r right one).map (ad_f own nxt)) := by
  funext u
  rw [ad_l_at, ad_l_at, fil_map, fil_map, fil_in (fun p hp => (cl_c_ok right one p hp).1), fil_in (fun p hp => (cl_r_ok right one p hp).1)]
  split
  · rw [cl_same right one (u - own) (by omega)]
  · rfl
theorem ad_cap {pr : Nat → List Nat} {own nxt : Nat} (h0 : ∀ j, j < 18 → pr (own + j) = []) (h : ∀ u, (pr u).length ≤ 12) (right one : Bool) : ∀ u, (ad_l pr ((cl_c right one).map (ad_f own nxt)) u).length ≤ 12 := by
  intro u
  rw [ad_l_at, fil_map, fil_in (fun p hp => (cl_c_ok right one p hp).1)]
  split
  · rename_i z
    have e := h0 (u - own) (by omega)
    rw [show own + (u - own) = u by omega] at e
    rw [e, List.nil_append, List.length_map, List.length_map]
    exact cl_cnt right one (u - own) (by omega)
  · simpa using h u
theorem ad_out {pr : Nat → List Nat} {own nxt : Nat} (right one : Bool) {u : Nat} (h : own + 18 ≤ u) : ad_l pr ((cl_c right one).map (ad_f own nxt)) u = pr u := by
  rw [ad_l_at, fil_map, fil_in (fun p hp => (cl_c_ok right one p hp).1), if_neg (by omega)]
  simp

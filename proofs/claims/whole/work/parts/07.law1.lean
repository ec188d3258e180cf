section WKS
variable {E : wk_E} {x : wk_C} {cc : ByteArray} {nL : Nat} {own : String} {Ts : List Cond} {rm : Room} {ws ws' : va_W} {pc : Nat} {lv lv' : List (Nat × Value)} {rest st : List Value}
/-- the script: its places, its length -/
theorem wk_sld (X : wk_K E x cc nL own Ts rm) {b L : Nat} {xs : Nat → Int32} (hX : va_X b L xs (wx_s x) (wx_H x)) (hbl : b < (wx_H x).size) (hbA : ¬ wx_A x b) {i v : Int32} (hi : vp_in i L) (hv : xs i.toNatClampNeg = v) (hd : decode cc pc = .ok (.iaload, 1)) (kk : wk_G E x nL ws (pc + 1) lv (.int v :: rest)) : wk_G E x nL ws pc lv (.int i :: .ref b :: rest) := by
  subst hv
  exact fun H locs ls hP hD hS hw => va_sld X.ex X.bt hX hbl hbA hS hi hd (kk H locs ls hP hD hS hw)
theorem wk_slen (X : wk_K E x cc nL own Ts rm) {b L : Nat} {xs : Nat → Int32} (hX : va_X b L xs (wx_s x) (wx_H x)) (hbl : b < (wx_H x).size) (hbA : ¬ wx_A x b) (hd : decode cc pc = .ok (.arraylength, 1)) (kk : wk_G E x nL ws (pc + 1) lv (.int (nI L) :: rest)) : wk_G E x nL ws pc lv (.ref b :: rest) :=
  fun H locs ls hP hD hS hw => va_slen X.ex X.bt hX hbl hbA hS hd (kk H locs ls hP hD hS hw)
end WKS
/-! calls on the first or on the last part of a world -/
theorem lr_map (wl wc wr : va_W) : ((List.range wc.length).map (· + wl.length)).map (fun i => (wl ++ wc ++ wr)[i]?) = wc.map some := by
  apply List.ext_getElem?
  intro k
  by_cases h : k < wc.length
  · simp [List.getElem?_map, List.getElem?_range h, List.getElem?_append, h, Nat.add_comm]
  · simp [List.getElem?_map, h, Nat.not_lt.mp h]
theorem lr_pt : ∀ (w1 wc wl wr : va_W), w1.length = wc.length → wk_pt (wl ++ wc ++ wr) ((List.range wc.length).map (· + wl.length)) w1 = wl ++ w1 ++ wr
  | [], [], wl, wr, _ => by simp [wk_pt]
  | [], d :: ds, wl, wr, h => by simp at h
  | c :: cs, [], wl, wr, h => by simp at h
  | c :: cs, d :: ds, wl, wr, h => by
    have h1 : cs.length = ds.length := by simpa using h
    have h2 := lr_pt cs ds (wl ++ [c]) wr h1
    have e1 : (List.range (d :: ds).length).map (· + wl.length) = wl.length :: (List.range ds.length).map (· + (wl ++ [c]).length) := by
      simp only [List.length_cons, List.range_succ_eq_map, List.map_cons, List.map_map, Nat.zero_add, List.length_append, List.length_nil]
      congr 1
      apply List.map_congr_left
      intro k _
      simp [Nat.add_comm, Nat.add_left_comm]
      omega
    rw [e1]
    have e2 : (wl ++ d :: ds ++ wr).set wl.length c = wl ++ [c] ++ ds ++ wr := by
      simp
    show wk_pt ((wl ++ d :: ds ++ wr).set wl.length c) _ cs = _
    rw [e2, h2]
    simp
theorem lr_ndo : ∀ (l : List Nat), l.Nodup → va_nd l = true
  | [], _ => rfl
  | a :: l, h => by
    have h1 := List.nodup_cons.mp h
    simp only [va_nd, Bool.and_eq_true, decide_eq_true_eq]
    exact ⟨h1.1, lr_ndo l h1.2⟩
theorem lr_nd (n k : Nat) : va_nd ((List.range n).map (· + k)) = true := by
  apply lr_ndo
  show List.Pairwise (· ≠ ·) _
  rw [List.pairwise_map]
  exact List.Pairwise.imp (fun h e => h (by omega)) List.nodup_range
section WKB
variable {E : wk_E} {x : wk_C} {cc : ByteArray} {nL : Nat} {own : String} {Ts : List Cond} {rm : Room} {wc wl wr : va_W} {pc : Nat} {lv lv' : List (Nat × Value)} {rest st0 : List Value}
theorem wk_goIl {S : Type} {post : Int32 → S → Prop} {cs : S → va_W} {av : Array Value} (hr : wk_Run E x nL (wc ++ wr) wc pc lv st0 rest (va_Qi post (wk_B E wc cs) (wk_in wc) av)) (hl : ∀ u, (cs u).length = wc.length)
    (kk : ∀ (r : Int32) (u : S), post r u → wk_G E x nL (cs u ++ wr) (pc + 3) lv (.int r :: rest)) : wk_G E x nL (wc ++ wr) pc lv st0 := by
  refine wk_goI ((List.range wc.length).map (· + 0)) hr (lr_map [] wc wr) (fun r u h => ?_)
  have e : wk_pt (wc ++ wr) ((List.range wc.length).map (· + 0)) (cs u) = cs u ++ wr := lr_pt (cs u) wc [] wr (hl u)
  rw [e]
  exact kk r u h
theorem wk_goIr {S : Type} {post : Int32 → S → Prop} {cs : S → va_W} {av : Array Value} (hr : wk_Run E x nL (wl ++ wc) wc pc lv st0 rest (va_Qi post (wk_B E wc cs) (wk_in wc) av)) (hl : ∀ u, (cs u).length = wc.length)
    (kk : ∀ (r : Int32) (u : S), post r u → wk_G E x nL (wl ++ cs u) (pc + 3) lv (.int r :: rest)) : wk_G E x nL (wl ++ wc) pc lv st0 := by
  have h1 := lr_map wl wc []
  rw [List.append_nil] at h1
  refine wk_goI ((List.range wc.length).map (· + wl.length)) hr h1 (fun r u h => ?_)
  have e := lr_pt (cs u) wc wl [] (hl u)
  rw [List.append_nil, List.append_nil] at e
  rw [e]
  exact kk r u h
variable {y : MethodName} {bytes : ByteArray} {maxL n index : Nat} {ret : Option FieldType} {Ty Tr : List Cond} {rmy : Room} {Qc : Array Value → State → Outcome → State → Prop} {b : Nat} {As : List Value}
theorem wk_rVl (X : wk_K E x cc nL own Ts rm) (hM : Met (we_l E) y Ty rmy (va_Pc (.ref b :: As) (wk_Pre E wc)) Qc 0 0 (wk_in wc)) (hTy : Ty = Cond.code y bytes maxL ret :: Tr) (hG : GoodIn Ts Ty)
    {ci : Nat} {fs : List Value} {C : String} {T : u_T} {N : Nat} (he : wc[0]? = some (b, .inr (ci, fs))) (hc : (we_C E)[ci]? = some (C, T, N)) (hl : Cond.methodLink own index y ∈ Ts) (hi : Cond.instanceMethod y ∈ Ts) (hse : Cond.selects C y y ∈ Ts) (hini : Cond.initialized y.cls ∈ Ts)
    (n : Nat) (hd : y.cls ≠ "java/lang/invoke/MethodHandle" ∧ y.cls ≠ "java/lang/invoke/VarHandle" ∧ (parseMethodDescriptor y.desc).map (fun d => d.parameters.length) = some n) (hA : As.length = n) (h0 : rmy.cells = 0 ∧ rmy.slots = 0) (hR : rmy.frames + 1 ≤ rm.frames ∧ 8 + (maxL + 11) + rmy.locals ≤ rm.locals)
    (hst : st0 = As.reverse ++ .ref b :: rest) (hcat : (rest.map fun v => v.category).sum ≤ 8) (hdg : decode cc pc = .ok (.invokevirtual index, 3)) : wk_Run E x nL (wc ++ wr) wc pc lv st0 rest (Qc (Value.ref b :: As).toArray) :=
  wk_rV X hM hTy hG ((List.range wc.length).map (· + 0)) (lr_map [] wc wr) (lr_nd _ _) 0 (by rw [List.getElem?_append_left (List.getElem?_eq_some_iff.mp he).1]; exact he) hc hl hi hse hini n hd hA h0 hR hst hcat hdg
theorem wk_rVr (X : wk_K E x cc nL own Ts rm) (hM : Met (we_l E) y Ty rmy (va_Pc (.ref b :: As) (wk_Pre E wc)) Qc 0 0 (wk_in wc)) (hTy : Ty = Cond.code y bytes maxL ret :: Tr) (hG : GoodIn Ts Ty)
    {ci : Nat} {fs : List Value} {C : String} {T : u_T} {N : Nat} (he : wc[0]? = some (b, .inr (ci, fs))) (hc : (we_C E)[ci]? = some (C, T, N)) (hl : Cond.methodLink own index y ∈ Ts) (hi : Cond.instanceMethod y ∈ Ts) (hse : Cond.selects C y y ∈ Ts) (hini : Cond.initialized y.cls ∈ Ts)
    (n : Nat) (hd : y.cls ≠ "java/lang/invoke/MethodHandle" ∧ y.cls ≠ "java/lang/invoke/VarHandle" ∧ (parseMethodDescriptor y.desc).map (fun d => d.parameters.length) = some n) (hA : As.length = n) (h0 : rmy.cells = 0 ∧ rmy.slots = 0) (hR : rmy.frames + 1 ≤ rm.frames ∧ 8 + (maxL + 11) + rmy.locals ≤ rm.locals)
    (hst : st0 = As.reverse ++ .ref b :: rest) (hcat : (rest.map fun v => v.category).sum ≤ 8) (hdg : decode cc pc = .ok (.invokevirtual index, 3)) : wk_Run E x nL (wl ++ wc) wc pc lv st0 rest (Qc (Value.ref b :: As).toArray) := by
  have h1 := lr_map wl wc []
  rw [List.append_nil] at h1
  exact wk_rV X hM hTy hG ((List.range wc.length).map (· + wl.length)) h1 (lr_nd _ _) wl.length (by rw [List.getElem?_append_right (Nat.le_refl _), Nat.sub_self]; exact he) hc hl hi hse hini n hd hA h0 hR hst hcat hdg
end WKB

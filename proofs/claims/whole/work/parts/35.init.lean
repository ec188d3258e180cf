/-! the states that the constructors make -/
def z_32 : Nat → Int32 := fun _ => 0
def z_64 : Nat → Int64 := fun _ => 0
def M_0 (nx : Nat → Int32) : pM := (z_32, z_32, nx, 1, 0, 0, 0)
def T_0 : pT := (z_64, z_32, z_32, z_32, 0, 0, 0, 0)
def X_0 (nx : Nat → Int32) : pX := (M_0 nx, T_0, (T_0, 0), (0, 0, 0, 0))
def R_0 : pR := ((z_32, z_32, z_32, z_32, 1, 0, 0, 0), (0, false, z_32, z_32, z_32, z_32, 0, 0), (0, z_32, z_32, z_32, z_32, 0, 0, 0, 0), (0, 0, 0, 0))
theorem rpG_0 : rpG T_0 g_0 := ⟨rfl, rfl, fun v hv => absurd hv (Nat.not_lt_zero _), 0, by decide, rfl, rfl, fun i w hi => by simp [g_0] at hi⟩
theorem JJ_0 {nx : Nat → Int32} (h : ∀ r, r < 16 → nx r = -1) : JJ (X_0 nx) R_0 := by
  refine ⟨(fun _ => none, 1, 0, 0, 0), g_0, g_0, 0, ⟨rfl, rfl, rfl, rfl, fun r hr => ⟨fun _ => h r hr, (fun w m n z => by cases z)⟩⟩, ⟨rfl, rfl, rfl, rfl, fun r hr => ⟨fun _ => rfl, (fun w m n z => by cases z)⟩⟩, ⟨by decide, by decide, by decide, by decide, by decide, (fun r w m n z => by cases z)⟩, rpG_0, ⟨rfl, rfl, fun v hv => absurd hv (Nat.not_lt_zero _), 0, rfl, rfl, by decide, fun i w hi => by simp [g_0] at hi⟩, ⟨okY_0.1, by decide, okY_0.2.1, by decide, fun z => absurd z (by decide)⟩, ⟨rpG_0, rfl, rfl⟩, ⟨rfl, fun v hv => absurd hv (Nat.not_lt_zero _), rfl, 0, Or.inl ⟨rfl, Or.inr rfl⟩, ⟨0, rfl, rfl, by decide, fun i w hi => by simp [g_0] at hi⟩, rfl⟩, okY_0⟩
/-! the walk with growing worlds -/
def wx_up (x : wk_C) (dk dn : Nat) : wk_C := (wx_p x, wx_e x, wx_R x, wx_s x, wx_m x, wx_a x, wx_b x, wx_M x, wx_c x, wx_k x + dk, wx_n x + dn, wx_Q x, wx_A x, wx_H x)
section WKN
variable {E : wk_E} {x : wk_C} {cc : ByteArray} {nL : Nat} {own : String} {Ts : List Cond} {rm : Room} {ws ws' : va_W} {pc : Nat} {lv lv' : List (Nat × Value)} {rest st : List Value}
theorem wk_K.up (X : wk_K E x cc nL own Ts rm) {dk dn : Nat} (h1 : wx_k x + dk ≤ rm.cells) (h2 : wx_n x + dn ≤ rm.slots) : wk_K E (wx_up x dk dn) cc nL own Ts rm :=
  ⟨X.ok, X.ex, X.bt, X.ml, X.ow, X.ts, X.vk, X.am, X.sb, X.rq, h1, h2, X.hh⟩
theorem wk_new (X : wk_K E x cc nL own Ts rm) {C : String} {T : u_T} {N ci index : Nat} (hin : ∀ w ∈ u_ws C T N, w ∈ Ts) (ty : Nat → FieldType) (hty : ∀ k, k < N → parseFieldDescriptor (T k).2.2.1 = some (ty k)) (hcl : Cond.classLink own index C ∈ Ts) (hinst : Cond.instantiable C N ∈ Ts) (hini : Cond.initialized C ∈ Ts)
    (hA : ∀ q, (wx_H x).size ≤ q → wx_A x q) (hc : (we_C E)[ci]? = some (C, T, N)) {fs : List Value} (hfs : ∀ j, j < N → defaultValue (ty j) = vp_V fs j) (h1 : wx_k x + 1 ≤ rm.cells) (h2 : wx_n x + N ≤ rm.slots) (hd : decode cc pc = .ok (.new index, 3))
    (kk : ∀ q : Nat, wk_G E (wx_up x 1 N) nL (ws ++ [(q, .inr (ci, fs))]) (pc + 3) lv (.ref q :: rest)) : wk_G E x nL ws pc lv rest :=
  fun H locs ls hP hD hS hv => va_new X.ex X.bt X.ts hin ty hty X.ow (X.ts _ hcl) (X.ts _ hinst) (X.ts _ hini) X.vk hP hD hS hA hc hfs (by rw [X.rq]; exact h1) (by rw [X.rq]; exact h2) hd (fun q H1 hP1 hD1 hS1 => kk q H1 locs ls hP1 hD1 hS1 hv)
theorem wk_newa (X : wk_K E x cc nL own Ts rm) {atype : ArrayType} (t0 : Nat) {cA : ClassId} (ht : (we_T E)[t0]? = some (cA, newarray.typeOf atype)) (harr : Cond.arrayClass (newarray.typeOf atype) ∈ Ts) {n : Int32} {N' : Nat} {a0 : vp_A} (ha : ∀ cA : ClassId, vp_cell cA a0 = arrV cA N' (fun _ => defaultValue (newarray.typeOf atype))) (hn : ¬ n < 0) (hN : n.toNatClampNeg = N') (hb : N' * componentBytes (newarray.typeOf atype) ≤ 536870912)
    (hA : ∀ q, (wx_H x).size ≤ q → wx_A x q) (h1 : wx_k x + 1 ≤ rm.cells) (h2 : wx_n x + N' ≤ rm.slots) (hd : decode cc pc = .ok (.newarray atype, 2))
    (kk : ∀ q : Nat, wk_G E (wx_up x 1 N') nL (ws ++ [(q, .inl (cA, a0))]) (pc + 2) lv (.ref q :: rest)) : wk_G E x nL ws pc lv (.int n :: rest) := by
  intro H locs ls hP hD hS hv
  have hfc : (wx_s x).vm.findClass ("[" ++ (newarray.typeOf atype).toString) = some cA := by
    have h9 := (X.vk.2 t0 _ ht).2
    cases atype <;> exact h9
  refine va_newaK X.ex X.bt (X.ts _ harr) rfl hd rfl hn hN hb (by rw [X.rq]; exact h1) (by rw [X.rq]; exact h2) rfl fun H1 cB e1 z1 o1 hAr hNm => ?_
  have hcc : cB = cA := Option.some.inj (hNm.symm.trans hfc)
  subst hcc
  have hk : ∀ (k : Nat) (x : Nat × va_E), ws[k]? = some x → H1[x.1]? = H[x.1]? := fun k x hx => o1 x.1 ((hP k x hx).lt)
  refine kk H.size H1 locs ls ((hP.kept hk).app (fun k y hy => ?_)) (hD.push hP rfl (hA _ hS.1)) ⟨Nat.le_trans hS.1 (by omega), fun y g1 g2 => (o1 y (Nat.lt_of_lt_of_le g1 hS.1)).trans (hS.2.1 y g1 g2), hS.2.2⟩ hv
  have hz : k < 1 := (List.getElem?_eq_some_iff.mp hy).1
  rw [show k = 0 by omega] at hy
  cases hy
  show H1[H.size]? = some (vp_cell _ _)
  rw [ha]
  exact e1
theorem wk_objInit (X : wk_K E x cc nL own Ts rm) {idx : Nat} (hl : Cond.methodLink own idx Lib.objectInit ∈ Ts) (hi : Cond.instanceMethod Lib.objectInit ∈ Ts) (hco : Cond.code Lib.objectInit ⟨#[0xb1]⟩ 1 none ∈ Ts) {a : Nat} (hd : decode cc pc = .ok (.invokespecial idx, 3)) (hf : 1 ≤ rm.frames) (hlo : (rest.map fun v => v.category).sum + 12 ≤ rm.locals) (kk : wk_G E x nL ws (pc + 3) lv rest) : wk_G E x nL ws pc lv (.ref a :: rest) :=
  fun H locs ls hP hD hS hv => W.objInit X.ex X.bt X.ow (X.ts _ hl) (X.ts _ hi) (X.ts _ hco) rfl (hv.1.trans X.ml.symm) rfl hd (by rw [X.rq]; exact hf) (by rw [X.rq]; exact (by simpa [F0] using hlo)) (kk H locs ls hP hD hS hv)
end WKN

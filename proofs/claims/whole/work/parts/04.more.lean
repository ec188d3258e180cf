section WKZ
variable {E : wk_E} {x : wk_C} {cc : ByteArray} {nL : Nat} {own : String} {Ts : List Cond} {rm : Room} {ws ws' : va_W} {pc : Nat} {lv lv' : List (Nat × Value)} {rest st : List Value}
theorem wk_zastN (X : wk_K E x cc nL own Ts rm) (q0 t0 : Nat) {a : Nat} {cA : ClassId} {n : Nat} {f g : Nat → Int32} (ha : ws[q0]? = some (a, .inl (cA, n, .inl f))) (ht : (we_T E)[t0]? = some (cA, .boolean)) {i : Int32} {v : Int32} (hi : vp_in i n) (hu : upd f i.toNatClampNeg (vp_nar .boolean v) = g) (hd : decode cc pc = .ok (.bastore, 1)) (hw : ws.set q0 (a, .inl (cA, n, .inl g)) = ws') (kk : wk_G E x nL ws' (pc + 1) lv rest) : wk_G E x nL ws pc lv (.int v :: .int i :: .ref a :: rest) :=
  by
  subst hw
  subst hu
  exact fun H locs ls hP hD hS hv => va_zast X.ex X.bt X.vk hP hD hS q0 t0 ha ht hi hd (fun H1 locs1 hP1 hD1 hS1 => kk H1 locs1 ls hP1 hD1 hS1 hv)
end WKZ

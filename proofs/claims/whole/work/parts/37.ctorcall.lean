/-! calls of constructors -/
section WKV
variable {E : wk_E} {x : wk_C} {cc : ByteArray} {nL : Nat} {own : String} {Ts : List Cond} {rm : Room} {ws : va_W} {pc : Nat} {lv : List (Nat × Value)} {rest st0 : List Value} {mc ms : Nat}
variable {y : MethodName} {bytes : ByteArray} {maxL n index : Nat} {Ty Tr : List Cond} {rmy : Room} {b : Nat} {e : va_E}
theorem wk_blindC {sz : Nat} {wc : va_W} (hE : wk_ok E) (av : List Value) : FrameBlind (va_Pc av (wk_PreC E wc sz)) :=
  fun a U g mk q => ⟨q.1, ⟨q.2.1.1, q.2.1.2.1, va_K.moved (u := U) (U := U.calling g mk a) (Vm.Alike.refl U.vm) q.2.1.2.2.1, hE.1 U (U.calling g mk a) _ rfl q.2.1.2.2.2⟩, q.2.2.1, q.2.2.2⟩
theorem wk_preC (X : wk_K E x cc nL own Ts rm) {p : Nat} (hp : ws[p]? = some (b, e)) {H : Heap} {locs : List Loc} (hP : va_P (we_D E) (we_C E) ws H) (hD : va_D (wx_A x) ws) (hS : va_S (wx_A x) (wx_H x) H locs) :
    ∀ U : State, U.heap = H → (wx_s x).WarmedH U.vm → wk_PreC E [(b, e)] H.size U := by
  intro U hU hW
  have h1 := wk_pre X (wc := [(b, e)]) (isC := [p]) (by simp [hp]) (by simp [va_nd]) hP hD hS U hU hW
  refine ⟨h1, by rw [hU], ?_⟩
  have h2 := X.sb b (hD.2 p (b, e) hp)
  have h3 : b < H.size := (hP p (b, e) hp).lt
  omega
theorem wk_afterC {S : Type} {post : S → Prop} {cs : S → va_W} {av : Array Value} (X : wk_K E x cc nL own Ts rm) {p : Nat} (hp : ws[p]? = some (b, e)) (hA : ∀ q, (wx_H x).size ≤ q → wx_A x q)
    (hr : ∀ (H : Heap) (locs : List Loc) (ls : Array Slot), va_P (we_D E) (we_C E) ws H → va_D (wx_A x) ws → va_S (wx_A x) (wx_H x) H locs → lv_has ls nL lv →
      va_Run (wx_p x) (we_l E) (wx_e x) (wx_R x) (wx_s x) (wx_m x) (wx_a x) (wx_b x) (wx_M x) (wx_c x) H locs (wx_k x) (wx_n x) mc ms (F0 (wx_m x) pc ls st0) rest (va_Qv post (wk_BC E [(b, e)] H.size cs) (wk_fr [(b, e)] H.size) av) (wk_fr [(b, e)] H.size))
    (kk : ∀ (u : S), post u → ∃ c1 l, cs u = c1 :: l ∧ c1.1 = b ∧ wk_G E (wx_up x mc ms) nL (ws.set p c1 ++ l) (pc + 3) lv rest) : wk_G E x nL ws pc lv st0 := by
  intro H locs ls hP hD hS hv
  have hF : ∀ q, H.size ≤ q → wx_A x q := fun q h => hA q (Nat.le_trans hS.1 h)
  have hfr : ∀ q, wk_fr [(b, e)] H.size q → wx_A x q := by
    rintro q (⟨k, e', h⟩ | h)
    · cases k with
      | zero => simp at h; rw [← h.1]; exact hD.2 p (b, e) hp
      | succ k => simp at h
    · exact hF q h
  refine va_callv (hr H locs ls hP hD hS hv) hS (fun q _ h => hfr q h) hfr ?_
  intro u t H1 locs1 ht _ hq hB _ hk hS1
  obtain ⟨hB1, hB2⟩ := hB
  rw [ht] at hB1
  obtain ⟨c1, l, e1, e2, g⟩ := kk u hq
  rw [e1] at hB1 hB2
  obtain ⟨hP1, hD1⟩ := wk_joinC hP hD hp hF hk hB1 hB2 e2
  exact g H1 locs1 ls hP1 hD1 hS1 hv
/-- new C(): by an ordinary link, or by a nest mate's -/
theorem wk_callC {S : Type} {post : S → Prop} {cs : S → va_W} (X : wk_K E x cc nL own Ts rm) (hM : ∀ sz, Met (we_l E) y Ty rmy (va_Pc [.ref b] (wk_PreC E [(b, e)] sz)) (va_Qv post (wk_BC E [(b, e)] sz cs) (wk_fr [(b, e)] sz)) mc ms (wk_fr [(b, e)] sz)) (hTy : Ty = Cond.code y bytes maxL none :: Tr) (hG : GoodIn Ts Ty)
    (p : Nat) (hp : ws[p]? = some (b, e)) (hA : ∀ q, (wx_H x).size ≤ q → wx_A x q) (hl : Cond.methodLink own index y ∈ Ts) (hi : Cond.instanceMethod y ∈ Ts) (hini : Cond.initialized y.cls ∈ Ts) (hnm : y.name = "<init>")
    (hd : y.cls ≠ "java/lang/invoke/MethodHandle" ∧ y.cls ≠ "java/lang/invoke/VarHandle" ∧ (parseMethodDescriptor y.desc).map (fun d => d.parameters.length) = some 0) (h0 : rmy.cells = mc ∧ rmy.slots = ms) (hR : rmy.frames + 1 ≤ rm.frames ∧ 8 + (maxL + 11) + rmy.locals ≤ rm.locals)
    (hst : st0 = .ref b :: rest) (hcat : (rest.map fun v => v.category).sum ≤ 8) (hdg : decode cc pc = .ok (.invokespecial index, 3)) (hc : wx_k x + mc ≤ rm.cells ∧ wx_n x + ms ≤ rm.slots)
    (kk : ∀ (u : S), post u → ∃ c1 l, cs u = c1 :: l ∧ c1.1 = b ∧ wk_G E (wx_up x mc ms) nL (ws.set p c1 ++ l) (pc + 3) lv rest) : wk_G E x nL ws pc lv st0 := by
  refine wk_afterC (av := (Value.ref b :: []).toArray) X hp hA (fun H locs ls hP hD hS hv => ?_) kk
  exact va_runI (As := []) ⟨X.ex, X.bt, X.ml, X.ow, X.ts⟩ (hM H.size) ⟨callB_of 0 X.ts hG hTy h0.1 h0.2 (X.ts _ hini) (X.ts _ hl) hd (by rw [X.rq]; exact hR), hnm, X.ts _ hi⟩ ⟨wk_blindC X.ok _, fun U hU hW => ⟨rfl, wk_preC X hp hP hD hS U hU hW⟩⟩ rfl rfl hv.1 hst (lv_room hcat) hdg (by rw [X.rq]; exact hc)
theorem wk_callCN {S : Type} {post : S → Prop} {cs : S → va_W} {host : String} (X : wk_K E x cc nL own Ts rm) (hM : ∀ sz, Met (we_l E) y Ty rmy (va_Pc [.ref b] (wk_PreC E [(b, e)] sz)) (va_Qv post (wk_BC E [(b, e)] sz cs) (wk_fr [(b, e)] sz)) mc ms (wk_fr [(b, e)] sz)) (hTy : Ty = Cond.code y bytes maxL none :: Tr) (hG : GoodIn Ts Ty)
    (p : Nat) (hp : ws[p]? = some (b, e)) (hA : ∀ q, (wx_H x).size ≤ q → wx_A x q) (hl : va_Nw (.methodLinkNest own index y host) (wx_s x)) (hi : Cond.instanceMethod y ∈ Ts) (hini : Cond.initialized y.cls ∈ Ts) (hnm : y.name = "<init>")
    (hd : y.cls ≠ "java/lang/invoke/MethodHandle" ∧ y.cls ≠ "java/lang/invoke/VarHandle" ∧ (parseMethodDescriptor y.desc).map (fun d => d.parameters.length) = some 0) (h0 : rmy.cells = mc ∧ rmy.slots = ms) (hR : rmy.frames + 1 ≤ rm.frames ∧ 8 + (maxL + 11) + rmy.locals ≤ rm.locals)
    (hst : st0 = .ref b :: rest) (hcat : (rest.map fun v => v.category).sum ≤ 8) (hdg : decode cc pc = .ok (.invokespecial index, 3)) (hc : wx_k x + mc ≤ rm.cells ∧ wx_n x + ms ≤ rm.slots)
    (kk : ∀ (u : S), post u → ∃ c1 l, cs u = c1 :: l ∧ c1.1 = b ∧ wk_G E (wx_up x mc ms) nL (ws.set p c1 ++ l) (pc + 3) lv rest) : wk_G E x nL ws pc lv st0 := by
  refine wk_afterC (av := (Value.ref b :: []).toArray) X hp hA (fun H locs ls hP hD hS hv => ?_) kk
  exact va_runIN (As := []) ⟨X.ex, X.bt, X.ml, X.ow, X.ts⟩ (hM H.size) ⟨va_cnB 0 X.ts hG hTy h0.1 h0.2 hl (X.ts _ hini) hd (by rw [X.rq]; exact hR), hnm, X.ts _ hi⟩ ⟨wk_blindC X.ok _, fun U hU hW => ⟨rfl, wk_preC X hp hP hD hS U hU hW⟩⟩ rfl rfl hv.1 hst (lv_room hcat) hdg (by rw [X.rq]; exact hc)
end WKV

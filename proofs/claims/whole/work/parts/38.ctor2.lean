/-! constructors: final fields; the method's own name -/
section WKW
variable {E : wk_E} {x : wk_C} {cc : ByteArray} {nL : Nat} {own : String} {Ts : List Cond} {rm : Room} {ws ws' wc : va_W} {pc : Nat} {lv : List (Nat × Value)} {rest st0 : List Value} {sz mc ms : Nat}
theorem wk_putF (X : wk_K E x cc nL own Ts rm) {C ref : String} {T : u_T} {N ci index a : Nat} {fs : List Value} (hin : ∀ w ∈ u_ws C T N, w ∈ Ts) (q0 : Nat) (he : ws[q0]? = some (a, .inr (ci, fs))) (hc : (we_C E)[ci]? = some (C, T, N)) (k : Nat) (hk : k < N) (ty0 : Nat → FieldType) (hty : ∀ k, k < N → parseFieldDescriptor (T k).2.2.1 = some (ty0 k)) (hnm : ∀ a, a < N → ∀ b, b < N → a ≠ b → (T a).2.1 ≠ (T b).2.1)
    (hl : Cond.fieldLink own index ref (T k).2.1 (T k).2.2.1 ∈ Ts) (hs : (T k).1 = ref) (hf : (T k).2.2.2 = true) (hmn : (wx_M x).name = "<init>") (hdc : (T k).1 = own) {v : Value} (hn : narrow (ty0 k) v = v) (hft : fits (ty0 k) v = true) (hlt : k < fs.length) (hd : decode cc pc = .ok (.putfield index, 3)) (hw : ws.set q0 (a, .inr (ci, fs.set k v)) = ws')
    (kk : wk_G E x nL ws' (pc + 3) lv rest) : wk_G E x nL ws pc lv (v :: .ref a :: rest) := by
  subst hw
  exact fun H locs ls hP hD hS hv => va_putF X.ex X.bt X.ts hin ty0 hty hnm X.ow X.vk hP hD hS q0 he hc k hk (X.ts _ hl) (fun _ h9 => hs ▸ h9) hf hmn hdc (hty k hk) hn hft hlt hd (fun H1 locs1 hP1 hD1 hS1 => kk H1 locs1 ls hP1 hD1 hS1 hv)
variable {y : MethodName} {bytes : ByteArray} {maxL n index : Nat} {Ty Tr : List Cond} {rmy : Room} {Qc : Array Value → State → Outcome → State → Prop} {b : Nat}
theorem wk_ofC2 {av : List Value} (hE : wk_ok E) (hy : plainName y.cls = true) (hT : Ty = Cond.code y bytes maxL none :: Tr) (hn : (lg_sl av).length ≤ maxL)
    (body : ∀ x : wk_C, wk_K E x bytes maxL y.cls Ty rmy → wk_NC x Qc wc sz mc ms → wx_k x = 0 → wx_n x = 0 → (wx_H x).size = sz → (wx_M x).name = y.name → wk_G E x maxL wc 0 (lv_args 0 av) []) : Met (we_l E) y Ty rmy (va_Pc av (wk_PreC E wc sz)) Qc mc ms (wk_fr wc sz) := by
  refine Met.ofW (cc := bytes) (maxL := maxL) (ret := none) hy hT ?_
  intro p e s m args below meth c s₁ B hml hv
  obtain ⟨rfl, ⟨hP, hD, hK, hA⟩, hsz, hzs⟩ := hv
  have hts := atoms_spec (ws := Ty) B.pre
  have hown : s.vm.findClass y.cls = some m.cls := findClass_of_methodNamed B.named
  have hin : meth.name = y.name := (name_of_methodNamed B.named B.method).1
  rw [lg_entry_eq]
  exact body (p, e, (headSpec Ty rmy).room, s, m, av.toArray, below, meth, c, 0, 0, MQ below Qc av.toArray s mc ms (wk_fr wc sz), wk_fr wc sz, s.heap)
    ⟨hE, B.exec, B.bytes, hml, hown, hts, hK, hA, (fun q h => h.elim (fun ⟨k, e, h⟩ => hD.2 k (q, e) h) (fun h => Nat.le_trans hzs h)), rfl, Nat.zero_le _, Nat.zero_le _, rfl⟩ ⟨rfl, rfl, rfl, B.returns, B.notSynchronized⟩ rfl rfl hsz hin
    s.heap [] _ hP ⟨hD.1, fun k q h => Or.inl ⟨k, q.2, h⟩⟩ va_S.rf (lv_entry av hn)
end WKW

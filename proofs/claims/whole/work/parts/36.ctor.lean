/-! constructors: one cell is given, new ones come behind it -/
def wk_fr (wc : va_W) (sz : Nat) : Nat → Prop := fun q => wk_in wc q ∨ sz ≤ q
def wk_PreC (E : wk_E) (wc : va_W) (sz : Nat) : State → Prop := fun U => wk_Pre E wc U ∧ U.heap.size = sz ∧ we_z E ≤ sz
def wk_BC (E : wk_E) (wc : va_W) (sz : Nat) {S : Type} (cs : S → va_W) : S → State → Prop := fun u t => va_P (we_D E) (we_C E) (cs u) t.heap ∧ va_D (wk_fr wc sz) (cs u)
def wk_NC (x : wk_C) (Qc : Array Value → State → Outcome → State → Prop) (wc : va_W) (sz mc ms : Nat) : Prop :=
  wx_Q x = MQ (wx_b x) Qc (wx_a x) (wx_s x) mc ms (wk_fr wc sz) ∧ wx_A x = wk_fr wc sz ∧ wx_H x = (wx_s x).heap ∧ (wx_M x).sig.returnType = none ∧ (wx_M x).locks = false
theorem wk_NC.up {x : wk_C} {Qc : Array Value → State → Outcome → State → Prop} {wc : va_W} {sz mc ms dk dn : Nat} (Z : wk_NC x Qc wc sz mc ms) : wk_NC (wx_up x dk dn) Qc wc sz mc ms := Z
section WKT
variable {E : wk_E} {x : wk_C} {cc : ByteArray} {nL : Nat} {own : String} {Ts : List Cond} {rm : Room} {ws wc : va_W} {pc : Nat} {lv : List (Nat × Value)} {rest st0 : List Value} {sz mc ms : Nat}
theorem wk_vretC {S : Type} {post : S → Prop} {cs : S → va_W} (X : wk_K E x cc nL own Ts rm) (Z : wk_NC x (va_Qv post (wk_BC E wc sz cs) (wk_fr wc sz)) wc sz mc ms) (hk : wx_k x = mc) (hn : wx_n x = ms) (hd : decode cc pc = .ok (.return_, 1)) (u : S) (hp : post u) (hw : cs u = ws) : wk_G E x nL ws pc lv [] := by
  obtain ⟨hQ, hA, hH, hr, hlk⟩ := Z
  intro H locs ls hP hD hS hv
  rw [hA] at hD hS
  rw [hH] at hS
  rw [hQ, hk, hn]
  exact W.vret X.ex X.bt hr (fun t ht hW => ⟨⟨u, rfl, hp, by rw [ht, hw]; exact hP, by rw [hw]; exact hD⟩, hS.F ht⟩) hS.2.2 hd hlk
variable {y : MethodName} {bytes : ByteArray} {maxL n index : Nat} {Ty Tr : List Cond} {rmy : Room} {Qc : Array Value → State → Outcome → State → Prop} {b : Nat}
theorem wk_ofC {av : List Value} (hE : wk_ok E) (hy : plainName y.cls = true) (hT : Ty = Cond.code y bytes maxL none :: Tr) (hn : (lg_sl av).length ≤ maxL)
    (body : ∀ x : wk_C, wk_K E x bytes maxL y.cls Ty rmy → wk_NC x Qc wc sz mc ms → wx_k x = 0 → wx_n x = 0 → (wx_H x).size = sz → wk_G E x maxL wc 0 (lv_args 0 av) []) : Met (we_l E) y Ty rmy (va_Pc av (wk_PreC E wc sz)) Qc mc ms (wk_fr wc sz) := by
  refine Met.ofW (cc := bytes) (maxL := maxL) (ret := none) hy hT ?_
  intro p e s m args below meth c s₁ B hml hv
  obtain ⟨rfl, ⟨hP, hD, hK, hA⟩, hsz, hzs⟩ := hv
  have hts := atoms_spec (ws := Ty) B.pre
  have hown : s.vm.findClass y.cls = some m.cls := findClass_of_methodNamed B.named
  rw [lg_entry_eq]
  exact body (p, e, (headSpec Ty rmy).room, s, m, av.toArray, below, meth, c, 0, 0, MQ below Qc av.toArray s mc ms (wk_fr wc sz), wk_fr wc sz, s.heap)
    ⟨hE, B.exec, B.bytes, hml, hown, hts, hK, hA, (fun q h => h.elim (fun ⟨k, e, h⟩ => hD.2 k (q, e) h) (fun h => Nat.le_trans hzs h)), rfl, Nat.zero_le _, Nat.zero_le _, rfl⟩ ⟨rfl, rfl, rfl, B.returns, B.notSynchronized⟩ rfl rfl hsz
    s.heap [] _ hP ⟨hD.1, fun k q h => Or.inl ⟨k, q.2, h⟩⟩ va_S.rf (lv_entry av hn)
theorem wk_joinC {A0 : Nat → Prop} {D : va_G} {cl : List vw_C} {H H1 : Heap} {p : Nat} {e : va_E} {c1 : Nat × va_E} {l : va_W} (hP : va_P D cl ws H) (hD : va_D A0 ws) (hp : ws[p]? = some (b, e)) (hF : ∀ q, H.size ≤ q → A0 q)
    (hk : ∀ q : Nat, q < H.size → ¬ wk_fr [(b, e)] H.size q → H1[q]? = H[q]?) (hP1 : va_P D cl (c1 :: l) H1) (hD1 : va_D (wk_fr [(b, e)] H.size) (c1 :: l)) (hc : c1.1 = b) : va_P D cl (ws.set p c1 ++ l) H1 ∧ va_D A0 (ws.set p c1 ++ l) := by
  have hpl : p < ws.length := (List.getElem?_eq_some_iff.mp hp).1
  have hone : ∀ q, wk_in [(b, e)] q → q = b := by
    rintro q ⟨k, e', h⟩
    cases k with
    | zero => simp at h; exact h.1.symm
    | succ k => simp at h
  -- what stands at a place
  have at' : ∀ (k : Nat) (q : Nat × va_E), (ws.set p c1 ++ l)[k]? = some q → (k < ws.length ∧ k = p ∧ q = c1) ∨ (k < ws.length ∧ k ≠ p ∧ ws[k]? = some q) ∨ (ws.length ≤ k ∧ l[k - ws.length]? = some q) := by
    intro k q h
    by_cases hkl : k < ws.length
    · rw [List.getElem?_append_left (by simpa using hkl)] at h
      by_cases e1 : k = p
      · subst e1
        rw [List.getElem?_set_self hkl] at h
        exact Or.inl ⟨hkl, rfl, (Option.some.inj h).symm⟩
      · rw [List.getElem?_set_ne (fun z => e1 z.symm)] at h
        exact Or.inr (Or.inl ⟨hkl, e1, h⟩)
    · rw [List.getElem?_append_right (by simpa using Nat.not_lt.mp hkl)] at h
      rw [List.length_set] at h
      exact Or.inr (Or.inr ⟨Nat.not_lt.mp hkl, h⟩)
  have nb : ∀ (k : Nat) (q : Nat × va_E), k ≠ p → ws[k]? = some q → q.1 ≠ b := fun k q h1 h2 h3 => h1 (hD.1 k p q (b, e) h2 hp h3)
  have lb : ∀ (j : Nat) (q : Nat × va_E), l[j]? = some q → q.1 ≠ b ∧ H.size ≤ q.1 := by
    intro j q h
    have hne : q.1 ≠ b := fun z => absurd (hD1.1 (j + 1) 0 q c1 (by simpa using h) rfl (z.trans hc.symm)) (by omega)
    rcases hD1.2 (j + 1) q (by simpa using h) with h2 | h2
    · exact absurd (hone _ h2) hne
    · exact ⟨hne, h2⟩
  refine ⟨fun k q h => ?_, fun i j a c hi hj hac => ?_, fun k q h => ?_⟩
  · rcases at' k q h with ⟨_, _, h2⟩ | ⟨_, h2, h3⟩ | ⟨_, h3⟩
    · rw [h2]; exact hP1 0 c1 rfl
    · refine (hP k q h3).kept (hk q.1 (hP k q h3).lt ?_)
      rintro (z | z)
      · exact nb k q h2 h3 (hone _ z)
      · exact absurd (hP k q h3).lt (Nat.not_lt.mpr z)
    · exact hP1 (k - ws.length + 1) q (by simpa using h3)
  · rcases at' i a hi with ⟨i1, i2, i3⟩ | ⟨i1, i2, i3⟩ | ⟨i1, i3⟩
    · rcases at' j c hj with ⟨j1, j2, j3⟩ | ⟨j1, j2, j3⟩ | ⟨j1, j3⟩
      · rw [i2, j2]
      · exact absurd (by rw [← hac, i3]; exact hc) (nb j c j2 j3)
      · exact absurd (by rw [← hac, i3]; exact hc) (lb _ c j3).1
    · rcases at' j c hj with ⟨j1, j2, j3⟩ | ⟨j1, j2, j3⟩ | ⟨j1, j3⟩
      · exact absurd (by rw [hac, j3]; exact hc) (nb i a i2 i3)
      · exact hD.1 i j a c i3 j3 hac
      · have := (hP i a i3).lt
        have := (lb _ c j3).2
        omega
    · rcases at' j c hj with ⟨j1, j2, j3⟩ | ⟨j1, j2, j3⟩ | ⟨j1, j3⟩
      · exact absurd (by rw [hac, j3]; exact hc) (lb _ a i3).1
      · have := (hP j c j3).lt
        have := (lb _ a i3).2
        omega
      · have := hD1.1 (i - ws.length + 1) (j - ws.length + 1) a c (by simpa using i3) (by simpa using j3) hac
        omega
  · rcases at' k q h with ⟨_, _, h2⟩ | ⟨_, h2, h3⟩ | ⟨_, h3⟩
    · rw [h2, hc]; exact hD.2 p (b, e) hp
    · exact hD.2 k q h3
    · exact hF _ (lb _ q h3).2
end WKT

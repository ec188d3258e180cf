
/-! numbers: a boolean as an int; reads and writes of rows with their bounds; division -/
def p_b (b : Bool) : Int32 := match b with
  | true => 1
  | false => 0
theorem p_nar (b : Bool) : narrow .boolean (.int (p_b b)) = .int (p_b b) := by cases b <;> rfl
theorem p_fit (b : Bool) : fits .boolean (.int (p_b b)) = true := by cases b <;> rfl
theorem p_vnar (b : Bool) : vp_nar .boolean (p_b b) = p_b b := by cases b <;> rfl
def p_rd {α : Type} (n : Nat) (f : Nat → α) (i : Int32) : Option α := if i < 0 ∨ n ≤ i.toNatClampNeg then none else some (f i.toNatClampNeg)
def p_wr (n : Nat) (f : Nat → Int32) (i v : Int32) : Option (Nat → Int32) := if i < 0 ∨ n ≤ i.toNatClampNeg then none else some (upd f i.toNatClampNeg v)
def p_wrL (n : Nat) (f : Nat → Int64) (i : Int32) (v : Int64) : Option (Nat → Int64) := if i < 0 ∨ n ≤ i.toNatClampNeg then none else some (vp_updL f i.toNatClampNeg v)
def p_dv (a b : Int32) : Option Int32 := if b = 0 then none else some (a / b)
def p_rm (a b : Int32) : Option Int32 := if b = 0 then none else some (a - a / b * b)
def p_mx (a b : Int32) : Int32 := if a < b then b else a
def p_mn (a b : Int32) : Int32 := if b < a then b else a
theorem p_ob {α β : Type} {o : Option α} {k : α → Option β} {R : β} (h : o.bind k = some R) : ∃ r, o = some r ∧ k r = some R := by
  cases o with
  | none => cases h
  | some r => exact ⟨r, rfl, h⟩
theorem p_it {α : Type} {c : Prop} [Decidable c] {A B R : α} (h : c) (hf : (if c then A else B) = R) : A = R := by rw [if_pos h] at hf; exact hf
theorem p_ie {α : Type} {c : Prop} [Decidable c] {A B R : α} (h : ¬ c) (hf : (if c then A else B) = R) : B = R := by rw [if_neg h] at hf; exact hf
theorem p_on {α : Type} {c : Prop} [Decidable c] {A R : α} (hf : (if c then none else some A) = some R) : ¬ c ∧ A = R := by
  by_cases h : c
  · rw [if_pos h] at hf; cases hf
  · rw [if_neg h] at hf; exact ⟨h, Option.some.inj hf⟩
theorem p_rd_some {α : Type} {n : Nat} {f : Nat → α} {i : Int32} {v : α} (h : p_rd n f i = some v) : vp_in i n ∧ f i.toNatClampNeg = v := p_on h
theorem p_wr_some {n : Nat} {f g : Nat → Int32} {i v : Int32} (h : p_wr n f i v = some g) : vp_in i n ∧ upd f i.toNatClampNeg v = g := p_on h
theorem p_wrL_some {n : Nat} {f g : Nat → Int64} {i : Int32} {v : Int64} (h : p_wrL n f i v = some g) : vp_in i n ∧ vp_updL f i.toNatClampNeg v = g := p_on h
theorem p_dv_some {a b q : Int32} (h : p_dv a b = some q) : ¬ b = 0 ∧ a / b = q := p_on h
theorem p_rm_some {a b q : Int32} (h : p_rm a b = some q) : ¬ b = 0 ∧ a - a / b * b = q := p_on h
theorem p_sw {w : Int32} (k : Int32) (h : ¬ w = k) : ¬ w.toInt = k.toInt := fun e => h (Int32.toInt_inj.mp e)
/-! the walk judgement: a world of cells at fixed places; no cell is made along the walk -/
abbrev wk_E : Type := Launch × va_G × List vw_C × List (ClassId × FieldType) × (State → Heap → Prop) × Nat
abbrev we_l (E : wk_E) : Launch := E.1
abbrev we_D (E : wk_E) : va_G := E.2.1
abbrev we_C (E : wk_E) : List vw_C := E.2.2.1
abbrev we_T (E : wk_E) : List (ClassId × FieldType) := E.2.2.2.1
abbrev we_A (E : wk_E) : State → Heap → Prop := E.2.2.2.2.1
abbrev we_z (E : wk_E) : Nat := E.2.2.2.2.2
/-- what is carried beside the world (links of nest mates, tables): it stays when the tables are warmed, and when only cells from the size we_z on change -/
def wk_ok (E : wk_E) : Prop :=
  (∀ (u U : State) (H : Heap), u.vm = U.vm → we_A E u H → we_A E U H) ∧
  (∀ (s U : State) (H : Heap), s.WarmedH U.vm → we_A E s H → we_A E U H) ∧
  (∀ (U : State) (H H1 : Heap), (∀ a : Nat, a < H.size → ¬ we_z E ≤ a → H1[a]? = H[a]?) → we_A E U H → we_A E U H1)
abbrev wk_C : Type := Program × Env × Room × State × MethodId × Array Value × List Frame × Method × Code × Nat × Nat × (State → Prop) × (Nat → Prop) × Heap
abbrev wx_p (x : wk_C) : Program := x.1
abbrev wx_e (x : wk_C) : Env := x.2.1
abbrev wx_R (x : wk_C) : Room := x.2.2.1
abbrev wx_s (x : wk_C) : State := x.2.2.2.1
abbrev wx_m (x : wk_C) : MethodId := x.2.2.2.2.1
abbrev wx_a (x : wk_C) : Array Value := x.2.2.2.2.2.1
abbrev wx_b (x : wk_C) : List Frame := x.2.2.2.2.2.2.1
abbrev wx_M (x : wk_C) : Method := x.2.2.2.2.2.2.2.1
abbrev wx_c (x : wk_C) : Code := x.2.2.2.2.2.2.2.2.1
abbrev wx_k (x : wk_C) : Nat := x.2.2.2.2.2.2.2.2.2.1
abbrev wx_n (x : wk_C) : Nat := x.2.2.2.2.2.2.2.2.2.2.1
abbrev wx_Q (x : wk_C) : State → Prop := x.2.2.2.2.2.2.2.2.2.2.2.1
abbrev wx_A (x : wk_C) : Nat → Prop := x.2.2.2.2.2.2.2.2.2.2.2.2.1
abbrev wx_H (x : wk_C) : Heap := x.2.2.2.2.2.2.2.2.2.2.2.2.2
def wk_G (E : wk_E) (x : wk_C) (nL : Nat) (ws : va_W) (pc : Nat) (lv : List (Nat × Value)) (st : List Value) : Prop :=
  ∀ (H : Heap) (locs : List Loc) (ls : Array Slot), va_P (we_D E) (we_C E) ws H → va_D (wx_A x) ws → va_S (wx_A x) (wx_H x) H locs → lv_has ls nL lv →
    W (wx_p x) (we_l E) (wx_e x) (wx_R x) (wx_s x) (wx_m x) (wx_a x) (wx_b x) (wx_M x) (wx_c x) H locs (wx_k x) (wx_n x) (wx_Q x) (F0 (wx_m x) pc ls st)
/-- what stays fixed along a walk -/
def wk_K (E : wk_E) (x : wk_C) (cc : ByteArray) (nL : Nat) (own : String) (Ts : List Cond) (rm : Room) : Prop :=
  wk_ok E ∧ (wx_p x).tables.exec = Jvm.exec ∧ (wx_c x).code = cc ∧ (wx_c x).maxLocals = nL ∧ (wx_s x).vm.findClass own = some (wx_m x).cls ∧ (∀ w ∈ Ts, w.before (wx_a x) (wx_s x) = true) ∧
  va_K (we_D E) (we_C E) (we_T E) (wx_s x) ∧ we_A E (wx_s x) (wx_H x) ∧ (∀ q, wx_A x q → we_z E ≤ q) ∧ wx_R x = rm ∧ wx_k x ≤ rm.cells ∧ wx_n x ≤ rm.slots ∧ wx_H x = (wx_s x).heap
section WKX
variable {E : wk_E} {x : wk_C} {cc : ByteArray} {nL : Nat} {own : String} {Ts : List Cond} {rm : Room}
theorem wk_K.ok (X : wk_K E x cc nL own Ts rm) : wk_ok E := X.1
theorem wk_K.ex (X : wk_K E x cc nL own Ts rm) : (wx_p x).tables.exec = Jvm.exec := X.2.1
theorem wk_K.bt (X : wk_K E x cc nL own Ts rm) : (wx_c x).code = cc := X.2.2.1
theorem wk_K.ml (X : wk_K E x cc nL own Ts rm) : (wx_c x).maxLocals = nL := X.2.2.2.1
theorem wk_K.ow (X : wk_K E x cc nL own Ts rm) : (wx_s x).vm.findClass own = some (wx_m x).cls := X.2.2.2.2.1
theorem wk_K.ts (X : wk_K E x cc nL own Ts rm) : ∀ w ∈ Ts, w.before (wx_a x) (wx_s x) = true := X.2.2.2.2.2.1
theorem wk_K.vk (X : wk_K E x cc nL own Ts rm) : va_K (we_D E) (we_C E) (we_T E) (wx_s x) := X.2.2.2.2.2.2.1
theorem wk_K.am (X : wk_K E x cc nL own Ts rm) : we_A E (wx_s x) (wx_H x) := X.2.2.2.2.2.2.2.1
theorem wk_K.sb (X : wk_K E x cc nL own Ts rm) : ∀ q, wx_A x q → we_z E ≤ q := X.2.2.2.2.2.2.2.2.1
theorem wk_K.rq (X : wk_K E x cc nL own Ts rm) : wx_R x = rm := X.2.2.2.2.2.2.2.2.2.1
theorem wk_K.rc (X : wk_K E x cc nL own Ts rm) : wx_k x ≤ rm.cells := X.2.2.2.2.2.2.2.2.2.2.1
theorem wk_K.rs (X : wk_K E x cc nL own Ts rm) : wx_n x ≤ rm.slots := X.2.2.2.2.2.2.2.2.2.2.2.1
theorem wk_K.hh (X : wk_K E x cc nL own Ts rm) : wx_H x = (wx_s x).heap := X.2.2.2.2.2.2.2.2.2.2.2.2
end WKX

section WKR
variable {E : wk_E} {x : wk_C} {cc : ByteArray} {nL : Nat} {own : String} {Ts : List Cond} {rm : Room} {ws ws' : va_W} {pc : Nat} {lv lv' : List (Nat × Value)} {rest st : List Value}
theorem wk_top {a b : Int32} (h : a = b) (kk : wk_G E x nL ws pc lv (.int b :: rest)) : wk_G E x nL ws pc lv (.int a :: rest) := by subst h; exact kk
theorem wk_tl {a b : Int64} (h : a = b) (kk : wk_G E x nL ws pc lv (.long b :: rest)) : wk_G E x nL ws pc lv (.long a :: rest) := by subst h; exact kk
theorem wk_st {st2 : List Value} (h : st = st2) (kk : wk_G E x nL ws pc lv st2) : wk_G E x nL ws pc lv st := by subst h; exact kk
theorem wk_ws (h : ws = ws') (kk : wk_G E x nL ws' pc lv st) : wk_G E x nL ws pc lv st := by subst h; exact kk
theorem wk_lv (ks : List Nat) (h : lv_pick lv ks = lv') (kk : wk_G E x nL ws pc lv' st) : wk_G E x nL ws pc lv st := fun H locs ls hP hD hS hv => kk H locs ls hP hD hS (lv_sub hv ks h)
theorem wk_lq (h : lv = lv') (kk : wk_G E x nL ws pc lv' st) : wk_G E x nL ws pc lv st := by subst h; exact kk
theorem wk_iconst (X : wk_K E x cc nL own Ts rm) {n : Int} {v : Int32} (hd : decode cc pc = .ok (.iconst n, 1)) (h : Int32.ofInt n = v) (kk : wk_G E x nL ws (pc + 1) lv (.int v :: rest)) : wk_G E x nL ws pc lv rest :=
  fun H locs ls hP hD hS hv => lv_iconst X.ex X.bt hd h (kk H locs ls hP hD hS hv)
theorem wk_bipush (X : wk_K E x cc nL own Ts rm) {n : Int} {v : Int32} (hd : decode cc pc = .ok (.bipush n, 2)) (h : (Int8.ofInt n).toInt32 = v) (kk : wk_G E x nL ws (pc + 2) lv (.int v :: rest)) : wk_G E x nL ws pc lv rest :=
  fun H locs ls hP hD hS hv => lv_bipush X.ex X.bt hd h (kk H locs ls hP hD hS hv)
theorem wk_sipush (X : wk_K E x cc nL own Ts rm) {n : Int} {v : Int32} (hd : decode cc pc = .ok (.sipush n, 3)) (h : (Int16.ofInt n).toInt32 = v) (kk : wk_G E x nL ws (pc + 3) lv (.int v :: rest)) : wk_G E x nL ws pc lv rest :=
  fun H locs ls hP hD hS hv => lv_sipush X.ex X.bt hd h (kk H locs ls hP hD hS hv)
theorem wk_lconst (X : wk_K E x cc nL own Ts rm) {n : Fin 2} {v : Int64} (hd : decode cc pc = .ok (.lconst n, 1)) (h : Int64.ofNat (n : Nat) = v) (kk : wk_G E x nL ws (pc + 1) lv (.long v :: rest)) : wk_G E x nL ws pc lv rest :=
  fun H locs ls hP hD hS hv => lv_lconst X.ex X.bt hd h (kk H locs ls hP hD hS hv)
theorem wk_ldc (X : wk_K E x cc nL own Ts rm) {index : Nat} {v : Int32} (h : Jvm.Cond.constant own index v ∈ Ts) (hd : decode cc pc = .ok (.ldc index, 2)) (kk : wk_G E x nL ws (pc + 2) lv (.int v :: rest)) : wk_G E x nL ws pc lv rest :=
  fun H locs ls hP hD hS hv => lv_ldc X.ex X.bt X.ow (X.ts _ h) hd (kk H locs ls hP hD hS hv)
theorem wk_ldc2 (X : wk_K E x cc nL own Ts rm) {index : Nat} {v : Int64} (h : Jvm.Cond.constantLong own index v ∈ Ts) (hd : decode cc pc = .ok (.ldc2_w index, 3)) (kk : wk_G E x nL ws (pc + 3) lv (.long v :: rest)) : wk_G E x nL ws pc lv rest :=
  fun H locs ls hP hD hS hv => lv_ldc2 X.ex X.bt X.ow (X.ts _ h) hd (kk H locs ls hP hD hS hv)
theorem wk_iload_n (X : wk_K E x cc nL own Ts rm) {k4 : Fin 4} {i : Nat} {v : Int32} (k : Nat) (hd : decode cc pc = .ok (.iload_n k4, 1)) (hi : (k4 : Nat) = i) (hl : lv[k]? = some (i, .int v)) (kk : wk_G E x nL ws (pc + 1) lv (.int v :: rest)) : wk_G E x nL ws pc lv rest :=
  fun H locs ls hP hD hS hv => lv_iload_n X.ex X.bt hd hi (lv_at hv k hl) (kk H locs ls hP hD hS hv)
theorem wk_iload (X : wk_K E x cc nL own Ts rm) {i : Nat} {v : Int32} (k : Nat) (hd : decode cc pc = .ok (.iload i, 2)) (hl : lv[k]? = some (i, .int v)) (kk : wk_G E x nL ws (pc + 2) lv (.int v :: rest)) : wk_G E x nL ws pc lv rest :=
  fun H locs ls hP hD hS hv => lv_iload X.ex X.bt hd (lv_at hv k hl) (kk H locs ls hP hD hS hv)
theorem wk_istore_n (X : wk_K E x cc nL own Ts rm) {k4 : Fin 4} {i : Nat} {v : Int32} (hd : decode cc pc = .ok (.istore_n k4, 1)) (hi : (k4 : Nat) = i) (hn : i < nL) (hl : (i, Value.int v) :: lv.filter (fun q => !(q.1 == i) && !(q.1 + 1 == i && q.2.category == 2)) = lv') (kk : wk_G E x nL ws (pc + 1) lv' rest) : wk_G E x nL ws pc lv (.int v :: rest) :=
  fun H locs ls hP hD hS hv => lv_istore_n X.ex X.bt hd hi hv hn hl (fun ls1 hv1 => kk H locs ls1 hP hD hS hv1)
theorem wk_istore (X : wk_K E x cc nL own Ts rm) {i : Nat} {v : Int32} (hd : decode cc pc = .ok (.istore i, 2)) (hn : i < nL) (hl : (i, Value.int v) :: lv.filter (fun q => !(q.1 == i) && !(q.1 + 1 == i && q.2.category == 2)) = lv') (kk : wk_G E x nL ws (pc + 2) lv' rest) : wk_G E x nL ws pc lv (.int v :: rest) :=
  fun H locs ls hP hD hS hv => lv_istore X.ex X.bt hd hv hn hl (fun ls1 hv1 => kk H locs ls1 hP hD hS hv1)
theorem wk_lload_n (X : wk_K E x cc nL own Ts rm) {k4 : Fin 4} {i : Nat} {v : Int64} (k : Nat) (hd : decode cc pc = .ok (.lload_n k4, 1)) (hi : (k4 : Nat) = i) (hl : lv[k]? = some (i, .long v)) (kk : wk_G E x nL ws (pc + 1) lv (.long v :: rest)) : wk_G E x nL ws pc lv rest :=
  fun H locs ls hP hD hS hv => lv_lload_n X.ex X.bt hd hi (lv_at hv k hl) (kk H locs ls hP hD hS hv)
theorem wk_lload (X : wk_K E x cc nL own Ts rm) {i : Nat} {v : Int64} (k : Nat) (hd : decode cc pc = .ok (.lload i, 2)) (hl : lv[k]? = some (i, .long v)) (kk : wk_G E x nL ws (pc + 2) lv (.long v :: rest)) : wk_G E x nL ws pc lv rest :=
  fun H locs ls hP hD hS hv => lv_lload X.ex X.bt hd (lv_at hv k hl) (kk H locs ls hP hD hS hv)
theorem wk_lstore_n (X : wk_K E x cc nL own Ts rm) {k4 : Fin 4} {i : Nat} {v : Int64} (hd : decode cc pc = .ok (.lstore_n k4, 1)) (hi : (k4 : Nat) = i) (hn : i + 1 < nL) (hl : (i, Value.long v) :: lv.filter (fun q => !(q.1 == i) && (!(q.1 == i + 1) && !(q.1 + 1 == i && q.2.category == 2))) = lv') (kk : wk_G E x nL ws (pc + 1) lv' rest) : wk_G E x nL ws pc lv (.long v :: rest) :=
  fun H locs ls hP hD hS hv => lv_lstore_n X.ex X.bt hd hi hv hn hl (fun ls1 hv1 => kk H locs ls1 hP hD hS hv1)
theorem wk_lstore (X : wk_K E x cc nL own Ts rm) {i : Nat} {v : Int64} (hd : decode cc pc = .ok (.lstore i, 2)) (hn : i + 1 < nL) (hl : (i, Value.long v) :: lv.filter (fun q => !(q.1 == i) && (!(q.1 == i + 1) && !(q.1 + 1 == i && q.2.category == 2))) = lv') (kk : wk_G E x nL ws (pc + 2) lv' rest) : wk_G E x nL ws pc lv (.long v :: rest) :=
  fun H locs ls hP hD hS hv => lv_lstore X.ex X.bt hd hv hn hl (fun ls1 hv1 => kk H locs ls1 hP hD hS hv1)
theorem wk_aload_n (X : wk_K E x cc nL own Ts rm) {k4 : Fin 4} {i : Nat} {v : Nat} (k : Nat) (hd : decode cc pc = .ok (.aload_n k4, 1)) (hi : (k4 : Nat) = i) (hl : lv[k]? = some (i, .ref v)) (kk : wk_G E x nL ws (pc + 1) lv (.ref v :: rest)) : wk_G E x nL ws pc lv rest :=
  fun H locs ls hP hD hS hv => lv_aload_n X.ex X.bt hd hi (lv_at hv k hl) (kk H locs ls hP hD hS hv)
theorem wk_aload (X : wk_K E x cc nL own Ts rm) {i : Nat} {v : Nat} (k : Nat) (hd : decode cc pc = .ok (.aload i, 2)) (hl : lv[k]? = some (i, .ref v)) (kk : wk_G E x nL ws (pc + 2) lv (.ref v :: rest)) : wk_G E x nL ws pc lv rest :=
  fun H locs ls hP hD hS hv => lv_aload X.ex X.bt hd (lv_at hv k hl) (kk H locs ls hP hD hS hv)
theorem wk_astore_n (X : wk_K E x cc nL own Ts rm) {k4 : Fin 4} {i : Nat} {v : Nat} (hd : decode cc pc = .ok (.astore_n k4, 1)) (hi : (k4 : Nat) = i) (hn : i < nL) (hl : (i, Value.ref v) :: lv.filter (fun q => !(q.1 == i) && !(q.1 + 1 == i && q.2.category == 2)) = lv') (kk : wk_G E x nL ws (pc + 1) lv' rest) : wk_G E x nL ws pc lv (.ref v :: rest) :=
  fun H locs ls hP hD hS hv => lv_astore_n X.ex X.bt hd hi hv hn hl (fun ls1 hv1 => kk H locs ls1 hP hD hS hv1)
theorem wk_astore (X : wk_K E x cc nL own Ts rm) {i : Nat} {v : Nat} (hd : decode cc pc = .ok (.astore i, 2)) (hn : i < nL) (hl : (i, Value.ref v) :: lv.filter (fun q => !(q.1 == i) && !(q.1 + 1 == i && q.2.category == 2)) = lv') (kk : wk_G E x nL ws (pc + 2) lv' rest) : wk_G E x nL ws pc lv (.ref v :: rest) :=
  fun H locs ls hP hD hS hv => lv_astore X.ex X.bt hd hv hn hl (fun ls1 hv1 => kk H locs ls1 hP hD hS hv1)
theorem wk_iinc (X : wk_K E x cc nL own Ts rm) {i : Nat} {n : Int} {u v : Int32} (k : Nat) (hd : decode cc pc = .ok (.iinc i n, 3)) (hk : lv[k]? = some (i, .int u)) (h : u + Int32.ofInt n = v) (hn : i < nL) (hl : (i, Value.int v) :: lv.filter (fun q => !(q.1 == i) && !(q.1 + 1 == i && q.2.category == 2)) = lv') (kk : wk_G E x nL ws (pc + 3) lv' rest) : wk_G E x nL ws pc lv rest :=
  fun H locs ls hP hD hS hv => lv_iinc X.ex X.bt hd hv hk h hn hl (fun ls1 hv1 => kk H locs ls1 hP hD hS hv1)
theorem wk_iadd (X : wk_K E x cc nL own Ts rm) {a b : Int32} (hd : decode cc pc = .ok (.iadd, 1)) (kk : wk_G E x nL ws (pc + 1) lv (.int (a + b) :: rest)) : wk_G E x nL ws pc lv (.int b :: .int a :: rest) :=
  fun H locs ls hP hD hS hv => lv_iadd X.ex X.bt hd (kk H locs ls hP hD hS hv)
theorem wk_isub (X : wk_K E x cc nL own Ts rm) {a b : Int32} (hd : decode cc pc = .ok (.isub, 1)) (kk : wk_G E x nL ws (pc + 1) lv (.int (a - b) :: rest)) : wk_G E x nL ws pc lv (.int b :: .int a :: rest) :=
  fun H locs ls hP hD hS hv => lv_isub X.ex X.bt hd (kk H locs ls hP hD hS hv)
theorem wk_imul (X : wk_K E x cc nL own Ts rm) {a b : Int32} (hd : decode cc pc = .ok (.imul, 1)) (kk : wk_G E x nL ws (pc + 1) lv (.int (a * b) :: rest)) : wk_G E x nL ws pc lv (.int b :: .int a :: rest) :=
  fun H locs ls hP hD hS hv => lv_imul X.ex X.bt hd (kk H locs ls hP hD hS hv)
theorem wk_iand (X : wk_K E x cc nL own Ts rm) {a b : Int32} (hd : decode cc pc = .ok (.iand, 1)) (kk : wk_G E x nL ws (pc + 1) lv (.int (a &&& b) :: rest)) : wk_G E x nL ws pc lv (.int b :: .int a :: rest) :=
  fun H locs ls hP hD hS hv => lv_iand X.ex X.bt hd (kk H locs ls hP hD hS hv)
theorem wk_ior (X : wk_K E x cc nL own Ts rm) {a b : Int32} (hd : decode cc pc = .ok (.ior, 1)) (kk : wk_G E x nL ws (pc + 1) lv (.int (a ||| b) :: rest)) : wk_G E x nL ws pc lv (.int b :: .int a :: rest) :=
  fun H locs ls hP hD hS hv => lv_ior X.ex X.bt hd (kk H locs ls hP hD hS hv)
theorem wk_ixor (X : wk_K E x cc nL own Ts rm) {a b : Int32} (hd : decode cc pc = .ok (.ixor, 1)) (kk : wk_G E x nL ws (pc + 1) lv (.int (a ^^^ b) :: rest)) : wk_G E x nL ws pc lv (.int b :: .int a :: rest) :=
  fun H locs ls hP hD hS hv => lv_ixor X.ex X.bt hd (kk H locs ls hP hD hS hv)
theorem wk_idiv (X : wk_K E x cc nL own Ts rm) {a b : Int32} (hd : decode cc pc = .ok (.idiv, 1)) (hb : ¬ b = 0) (kk : wk_G E x nL ws (pc + 1) lv (.int (a / b) :: rest)) : wk_G E x nL ws pc lv (.int b :: .int a :: rest) :=
  fun H locs ls hP hD hS hv => lv_idiv X.ex X.bt hd hb (kk H locs ls hP hD hS hv)
theorem wk_irem (X : wk_K E x cc nL own Ts rm) {a b : Int32} (hd : decode cc pc = .ok (.irem, 1)) (hb : ¬ b = 0) (kk : wk_G E x nL ws (pc + 1) lv (.int (a - a / b * b) :: rest)) : wk_G E x nL ws pc lv (.int b :: .int a :: rest) :=
  fun H locs ls hP hD hS hv => lv_irem X.ex X.bt hd hb (kk H locs ls hP hD hS hv)
theorem wk_ineg (X : wk_K E x cc nL own Ts rm) {a : Int32} (hd : decode cc pc = .ok (.ineg, 1)) (kk : wk_G E x nL ws (pc + 1) lv (.int (-a) :: rest)) : wk_G E x nL ws pc lv (.int a :: rest) :=
  fun H locs ls hP hD hS hv => lv_ineg X.ex X.bt hd (kk H locs ls hP hD hS hv)
theorem wk_ladd (X : wk_K E x cc nL own Ts rm) {a b : Int64} (hd : decode cc pc = .ok (.ladd, 1)) (kk : wk_G E x nL ws (pc + 1) lv (.long (a + b) :: rest)) : wk_G E x nL ws pc lv (.long b :: .long a :: rest) :=
  fun H locs ls hP hD hS hv => lv_ladd X.ex X.bt hd (kk H locs ls hP hD hS hv)
theorem wk_lsub (X : wk_K E x cc nL own Ts rm) {a b : Int64} (hd : decode cc pc = .ok (.lsub, 1)) (kk : wk_G E x nL ws (pc + 1) lv (.long (a - b) :: rest)) : wk_G E x nL ws pc lv (.long b :: .long a :: rest) :=
  fun H locs ls hP hD hS hv => lv_lsub X.ex X.bt hd (kk H locs ls hP hD hS hv)
theorem wk_lmul (X : wk_K E x cc nL own Ts rm) {a b : Int64} (hd : decode cc pc = .ok (.lmul, 1)) (kk : wk_G E x nL ws (pc + 1) lv (.long (a * b) :: rest)) : wk_G E x nL ws pc lv (.long b :: .long a :: rest) :=
  fun H locs ls hP hD hS hv => lv_lmul X.ex X.bt hd (kk H locs ls hP hD hS hv)
theorem wk_land (X : wk_K E x cc nL own Ts rm) {a b : Int64} (hd : decode cc pc = .ok (.land, 1)) (kk : wk_G E x nL ws (pc + 1) lv (.long (a &&& b) :: rest)) : wk_G E x nL ws pc lv (.long b :: .long a :: rest) :=
  fun H locs ls hP hD hS hv => lv_land X.ex X.bt hd (kk H locs ls hP hD hS hv)
theorem wk_lor (X : wk_K E x cc nL own Ts rm) {a b : Int64} (hd : decode cc pc = .ok (.lor, 1)) (kk : wk_G E x nL ws (pc + 1) lv (.long (a ||| b) :: rest)) : wk_G E x nL ws pc lv (.long b :: .long a :: rest) :=
  fun H locs ls hP hD hS hv => lv_lor X.ex X.bt hd (kk H locs ls hP hD hS hv)
theorem wk_lxor (X : wk_K E x cc nL own Ts rm) {a b : Int64} (hd : decode cc pc = .ok (.lxor, 1)) (kk : wk_G E x nL ws (pc + 1) lv (.long (a ^^^ b) :: rest)) : wk_G E x nL ws pc lv (.long b :: .long a :: rest) :=
  fun H locs ls hP hD hS hv => lv_lxor X.ex X.bt hd (kk H locs ls hP hD hS hv)
theorem wk_lshl (X : wk_K E x cc nL own Ts rm) {a : Int64} {b : Int32} {v : Int64} (hd : decode cc pc = .ok (.lshl, 1)) (h : a <<< (b.toInt64 &&& 63) = v) (kk : wk_G E x nL ws (pc + 1) lv (.long v :: rest)) : wk_G E x nL ws pc lv (.int b :: .long a :: rest) :=
  fun H locs ls hP hD hS hv => lv_lshl X.ex X.bt hd h (kk H locs ls hP hD hS hv)
theorem wk_lshr (X : wk_K E x cc nL own Ts rm) {a : Int64} {b : Int32} {v : Int64} (hd : decode cc pc = .ok (.lshr, 1)) (h : a >>> (b.toInt64 &&& 63) = v) (kk : wk_G E x nL ws (pc + 1) lv (.long v :: rest)) : wk_G E x nL ws pc lv (.int b :: .long a :: rest) :=
  fun H locs ls hP hD hS hv => lv_lshr X.ex X.bt hd h (kk H locs ls hP hD hS hv)
theorem wk_i2l (X : wk_K E x cc nL own Ts rm) {a : Int32} {v : Int64} (hd : decode cc pc = .ok (.i2l, 1)) (h : a.toInt64 = v) (kk : wk_G E x nL ws (pc + 1) lv (.long v :: rest)) : wk_G E x nL ws pc lv (.int a :: rest) :=
  fun H locs ls hP hD hS hv => lv_i2l X.ex X.bt hd h (kk H locs ls hP hD hS hv)
theorem wk_l2i (X : wk_K E x cc nL own Ts rm) {a : Int64} {v : Int32} (hd : decode cc pc = .ok (.l2i, 1)) (h : a.toInt32 = v) (kk : wk_G E x nL ws (pc + 1) lv (.int v :: rest)) : wk_G E x nL ws pc lv (.long a :: rest) :=
  fun H locs ls hP hD hS hv => lv_l2i X.ex X.bt hd h (kk H locs ls hP hD hS hv)
theorem wk_dup (X : wk_K E x cc nL own Ts rm) {a : Value} (hd : decode cc pc = .ok (.dup, 1)) (ha : a.category = 1) (kk : wk_G E x nL ws (pc + 1) lv (a :: a :: rest)) : wk_G E x nL ws pc lv (a :: rest) :=
  fun H locs ls hP hD hS hv => lv_dup X.ex X.bt hd ha (kk H locs ls hP hD hS hv)
theorem wk_pop (X : wk_K E x cc nL own Ts rm) {a : Value} (hd : decode cc pc = .ok (.pop, 1)) (ha : a.category = 1) (kk : wk_G E x nL ws (pc + 1) lv rest) : wk_G E x nL ws pc lv (a :: rest) :=
  fun H locs ls hP hD hS hv => lv_pop X.ex X.bt hd ha (kk H locs ls hP hD hS hv)
theorem wk_dup_x1 (X : wk_K E x cc nL own Ts rm) {a b : Value} (hd : decode cc pc = .ok (.dup_x1, 1)) (ha : a.category = 1) (hb : b.category = 1) (kk : wk_G E x nL ws (pc + 1) lv (a :: b :: a :: rest)) : wk_G E x nL ws pc lv (a :: b :: rest) :=
  fun H locs ls hP hD hS hv => lv_dup_x1 X.ex X.bt hd ha hb (kk H locs ls hP hD hS hv)
theorem wk_dup2 (X : wk_K E x cc nL own Ts rm) {a b : Value} (hd : decode cc pc = .ok (.dup2, 1)) (ha : a.category = 1) (hb : b.category = 1) (kk : wk_G E x nL ws (pc + 1) lv (a :: b :: a :: b :: rest)) : wk_G E x nL ws pc lv (a :: b :: rest) :=
  fun H locs ls hP hD hS hv => lv_dup2_11 X.ex X.bt hd ha hb (kk H locs ls hP hD hS hv)
theorem wk_if_eq (X : wk_K E x cc nL own Ts rm) {a : Int32} {off : Int} {tgt : Nat} (hd : decode cc pc = .ok (.ifCond .eq off, 3)) (ht : (pc : Int) + off = (tgt : Int)) (kt : a = 0 → wk_G E x nL ws tgt lv rest) (kf : ¬ a = 0 → wk_G E x nL ws (pc + 3) lv rest) : wk_G E x nL ws pc lv (.int a :: rest) :=
  fun H locs ls hP hD hS hv => lv_if_eq X.ex X.bt hd ht (fun h => kt h H locs ls hP hD hS hv) (fun h => kf h H locs ls hP hD hS hv)
theorem wk_icmp_eq (X : wk_K E x cc nL own Ts rm) {a b : Int32} {off : Int} {tgt : Nat} (hd : decode cc pc = .ok (.if_icmp .eq off, 3)) (ht : (pc : Int) + off = (tgt : Int)) (kt : a = b → wk_G E x nL ws tgt lv rest) (kf : ¬ a = b → wk_G E x nL ws (pc + 3) lv rest) : wk_G E x nL ws pc lv (.int b :: .int a :: rest) :=
  fun H locs ls hP hD hS hv => lv_icmp_eq X.ex X.bt hd ht (fun h => kt h H locs ls hP hD hS hv) (fun h => kf h H locs ls hP hD hS hv)
theorem wk_if_ne (X : wk_K E x cc nL own Ts rm) {a : Int32} {off : Int} {tgt : Nat} (hd : decode cc pc = .ok (.ifCond .ne off, 3)) (ht : (pc : Int) + off = (tgt : Int)) (kt : ¬ a = 0 → wk_G E x nL ws tgt lv rest) (kf : a = 0 → wk_G E x nL ws (pc + 3) lv rest) : wk_G E x nL ws pc lv (.int a :: rest) :=
  fun H locs ls hP hD hS hv => lv_if_ne X.ex X.bt hd ht (fun h => kt h H locs ls hP hD hS hv) (fun h => kf h H locs ls hP hD hS hv)
theorem wk_icmp_ne (X : wk_K E x cc nL own Ts rm) {a b : Int32} {off : Int} {tgt : Nat} (hd : decode cc pc = .ok (.if_icmp .ne off, 3)) (ht : (pc : Int) + off = (tgt : Int)) (kt : ¬ a = b → wk_G E x nL ws tgt lv rest) (kf : a = b → wk_G E x nL ws (pc + 3) lv rest) : wk_G E x nL ws pc lv (.int b :: .int a :: rest) :=
  fun H locs ls hP hD hS hv => lv_icmp_ne X.ex X.bt hd ht (fun h => kt h H locs ls hP hD hS hv) (fun h => kf h H locs ls hP hD hS hv)
theorem wk_if_lt (X : wk_K E x cc nL own Ts rm) {a : Int32} {off : Int} {tgt : Nat} (hd : decode cc pc = .ok (.ifCond .lt off, 3)) (ht : (pc : Int) + off = (tgt : Int)) (kt : a < 0 → wk_G E x nL ws tgt lv rest) (kf : ¬ a < 0 → wk_G E x nL ws (pc + 3) lv rest) : wk_G E x nL ws pc lv (.int a :: rest) :=
  fun H locs ls hP hD hS hv => lv_if_lt X.ex X.bt hd ht (fun h => kt h H locs ls hP hD hS hv) (fun h => kf h H locs ls hP hD hS hv)
theorem wk_icmp_lt (X : wk_K E x cc nL own Ts rm) {a b : Int32} {off : Int} {tgt : Nat} (hd : decode cc pc = .ok (.if_icmp .lt off, 3)) (ht : (pc : Int) + off = (tgt : Int)) (kt : a < b → wk_G E x nL ws tgt lv rest) (kf : ¬ a < b → wk_G E x nL ws (pc + 3) lv rest) : wk_G E x nL ws pc lv (.int b :: .int a :: rest) :=
  fun H locs ls hP hD hS hv => lv_icmp_lt X.ex X.bt hd ht (fun h => kt h H locs ls hP hD hS hv) (fun h => kf h H locs ls hP hD hS hv)
theorem wk_if_ge (X : wk_K E x cc nL own Ts rm) {a : Int32} {off : Int} {tgt : Nat} (hd : decode cc pc = .ok (.ifCond .ge off, 3)) (ht : (pc : Int) + off = (tgt : Int)) (kt : 0 ≤ a → wk_G E x nL ws tgt lv rest) (kf : ¬ 0 ≤ a → wk_G E x nL ws (pc + 3) lv rest) : wk_G E x nL ws pc lv (.int a :: rest) :=
  fun H locs ls hP hD hS hv => lv_if_ge X.ex X.bt hd ht (fun h => kt h H locs ls hP hD hS hv) (fun h => kf h H locs ls hP hD hS hv)
theorem wk_icmp_ge (X : wk_K E x cc nL own Ts rm) {a b : Int32} {off : Int} {tgt : Nat} (hd : decode cc pc = .ok (.if_icmp .ge off, 3)) (ht : (pc : Int) + off = (tgt : Int)) (kt : b ≤ a → wk_G E x nL ws tgt lv rest) (kf : ¬ b ≤ a → wk_G E x nL ws (pc + 3) lv rest) : wk_G E x nL ws pc lv (.int b :: .int a :: rest) :=
  fun H locs ls hP hD hS hv => lv_icmp_ge X.ex X.bt hd ht (fun h => kt h H locs ls hP hD hS hv) (fun h => kf h H locs ls hP hD hS hv)
theorem wk_if_gt (X : wk_K E x cc nL own Ts rm) {a : Int32} {off : Int} {tgt : Nat} (hd : decode cc pc = .ok (.ifCond .gt off, 3)) (ht : (pc : Int) + off = (tgt : Int)) (kt : 0 < a → wk_G E x nL ws tgt lv rest) (kf : ¬ 0 < a → wk_G E x nL ws (pc + 3) lv rest) : wk_G E x nL ws pc lv (.int a :: rest) :=
  fun H locs ls hP hD hS hv => lv_if_gt X.ex X.bt hd ht (fun h => kt h H locs ls hP hD hS hv) (fun h => kf h H locs ls hP hD hS hv)
theorem wk_icmp_gt (X : wk_K E x cc nL own Ts rm) {a b : Int32} {off : Int} {tgt : Nat} (hd : decode cc pc = .ok (.if_icmp .gt off, 3)) (ht : (pc : Int) + off = (tgt : Int)) (kt : b < a → wk_G E x nL ws tgt lv rest) (kf : ¬ b < a → wk_G E x nL ws (pc + 3) lv rest) : wk_G E x nL ws pc lv (.int b :: .int a :: rest) :=
  fun H locs ls hP hD hS hv => lv_icmp_gt X.ex X.bt hd ht (fun h => kt h H locs ls hP hD hS hv) (fun h => kf h H locs ls hP hD hS hv)
theorem wk_if_le (X : wk_K E x cc nL own Ts rm) {a : Int32} {off : Int} {tgt : Nat} (hd : decode cc pc = .ok (.ifCond .le off, 3)) (ht : (pc : Int) + off = (tgt : Int)) (kt : a ≤ 0 → wk_G E x nL ws tgt lv rest) (kf : ¬ a ≤ 0 → wk_G E x nL ws (pc + 3) lv rest) : wk_G E x nL ws pc lv (.int a :: rest) :=
  fun H locs ls hP hD hS hv => lv_if_le X.ex X.bt hd ht (fun h => kt h H locs ls hP hD hS hv) (fun h => kf h H locs ls hP hD hS hv)
theorem wk_icmp_le (X : wk_K E x cc nL own Ts rm) {a b : Int32} {off : Int} {tgt : Nat} (hd : decode cc pc = .ok (.if_icmp .le off, 3)) (ht : (pc : Int) + off = (tgt : Int)) (kt : a ≤ b → wk_G E x nL ws tgt lv rest) (kf : ¬ a ≤ b → wk_G E x nL ws (pc + 3) lv rest) : wk_G E x nL ws pc lv (.int b :: .int a :: rest) :=
  fun H locs ls hP hD hS hv => lv_icmp_le X.ex X.bt hd ht (fun h => kt h H locs ls hP hD hS hv) (fun h => kf h H locs ls hP hD hS hv)
theorem wk_goto (X : wk_K E x cc nL own Ts rm) {off : Int} {tgt : Nat} (hd : decode cc pc = .ok (.goto off, 3)) (ht : (pc : Int) + off = (tgt : Int)) (kk : wk_G E x nL ws tgt lv rest) : wk_G E x nL ws pc lv rest :=
  fun H locs ls hP hD hS hv => lv_goto X.ex X.bt hd ht (kk H locs ls hP hD hS hv)
theorem wk_swIn (X : wk_K E x cc nL own Ts rm) {dflt lo hi : Int} {offs : Array Int} {len : Nat} {a : Int32} {off : Int} {tgt : Nat} (hd : decode cc pc = .ok (.tableswitch dflt lo hi offs, len)) (h1 : ¬ a.toInt < lo) (h2 : ¬ hi < a.toInt) (ho : offs[(a.toInt - lo).toNat]? = some off) (ht : (pc : Int) + off = (tgt : Int)) (kk : wk_G E x nL ws tgt lv rest) : wk_G E x nL ws pc lv (.int a :: rest) :=
  fun H locs ls hP hD hS hv => lv_tableIn X.ex X.bt hd h1 h2 ho ht (kk H locs ls hP hD hS hv)
theorem wk_swOut (X : wk_K E x cc nL own Ts rm) {dflt lo hi : Int} {offs : Array Int} {len : Nat} {a : Int32} {tgt : Nat} (hd : decode cc pc = .ok (.tableswitch dflt lo hi offs, len)) (h : a.toInt < lo ∨ hi < a.toInt) (ht : (pc : Int) + dflt = (tgt : Int)) (kk : wk_G E x nL ws tgt lv rest) : wk_G E x nL ws pc lv (.int a :: rest) :=
  fun H locs ls hP hD hS hv => lv_tableOut X.ex X.bt hd h ht (kk H locs ls hP hD hS hv)
theorem wk_get (X : wk_K E x cc nL own Ts rm) {C ref : String} {T : u_T} {N ci index a : Nat} {fs : List Value} (hin : ∀ w ∈ u_ws C T N, w ∈ Ts) (q0 : Nat) (he : ws[q0]? = some (a, .inr (ci, fs))) (hc : (we_C E)[ci]? = some (C, T, N)) (k : Nat) (hk : k < N) (hl : Cond.fieldLink own index ref (T k).2.1 (T k).2.2.1 ∈ Ts) (hs : (T k).1 = ref) {v : Value} (hv : fs[k]? = some v) (hd : decode cc pc = .ok (.getfield index, 3)) (kk : wk_G E x nL ws (pc + 3) lv (v :: rest)) : wk_G E x nL ws pc lv (.ref a :: rest) :=
  fun H locs ls hP hD hS hw => va_get X.ex X.bt X.ts hin X.ow X.vk hP q0 he hc k hk (X.ts _ hl) (fun _ h9 => hs ▸ h9) hv hd (kk H locs ls hP hD hS hw)
theorem wk_getN (X : wk_K E x cc nL own Ts rm) {C ref : String} {T : u_T} {N ci index a : Nat} {fs : List Value} (hin : ∀ w ∈ u_ws C T N, w ∈ Ts) (q0 : Nat) (he : ws[q0]? = some (a, .inr (ci, fs))) (hc : (we_C E)[ci]? = some (C, T, N)) (k : Nat) (hk : k < N) {host : String} (hl : va_Nw (.fieldLinkNest own index ref (T k).2.1 (T k).2.2.1 host) (wx_s x)) (hs : (T k).1 = ref) {v : Value} (hv : fs[k]? = some v) (hd : decode cc pc = .ok (.getfield index, 3)) (kk : wk_G E x nL ws (pc + 3) lv (v :: rest)) : wk_G E x nL ws pc lv (.ref a :: rest) :=
  fun H locs ls hP hD hS hw => va_getN X.ex X.bt X.ts hin X.ow X.vk hP q0 he hc k hk (va_Nw.use rfl hl) (fun _ h9 => hs ▸ h9) hv hd (kk H locs ls hP hD hS hw)
theorem wk_put (X : wk_K E x cc nL own Ts rm) {C ref : String} {T : u_T} {N ci index a : Nat} {fs : List Value} (hin : ∀ w ∈ u_ws C T N, w ∈ Ts) (q0 : Nat) (he : ws[q0]? = some (a, .inr (ci, fs))) (hc : (we_C E)[ci]? = some (C, T, N)) (k : Nat) (hk : k < N) (ty0 : Nat → FieldType) (hty : ∀ k, k < N → parseFieldDescriptor (T k).2.2.1 = some (ty0 k)) (hnm : ∀ a, a < N → ∀ b, b < N → a ≠ b → (T a).2.1 ≠ (T b).2.1) (hl : Cond.fieldLink own index ref (T k).2.1 (T k).2.2.1 ∈ Ts) (hs : (T k).1 = ref) (hf : (T k).2.2.2 = false) {v : Value} (hn : narrow (ty0 k) v = v) (hft : fits (ty0 k) v = true) (hlt : k < fs.length) (hd : decode cc pc = .ok (.putfield index, 3)) (hw : ws.set q0 (a, .inr (ci, fs.set k v)) = ws') (kk : wk_G E x nL ws' (pc + 3) lv rest) : wk_G E x nL ws pc lv (v :: .ref a :: rest) :=
  by
  subst hw
  exact fun H locs ls hP hD hS hv => va_put X.ex X.bt X.ts hin ty0 hty hnm X.ow X.vk hP hD hS q0 he hc k hk (X.ts _ hl) (fun _ h9 => hs ▸ h9) hf (hty k hk) hn hft hlt hd (fun H1 locs1 hP1 hD1 hS1 => kk H1 locs1 ls hP1 hD1 hS1 hv)
theorem wk_putN (X : wk_K E x cc nL own Ts rm) {C ref : String} {T : u_T} {N ci index a : Nat} {fs : List Value} (hin : ∀ w ∈ u_ws C T N, w ∈ Ts) (q0 : Nat) (he : ws[q0]? = some (a, .inr (ci, fs))) (hc : (we_C E)[ci]? = some (C, T, N)) (k : Nat) (hk : k < N) (ty0 : Nat → FieldType) (hty : ∀ k, k < N → parseFieldDescriptor (T k).2.2.1 = some (ty0 k)) (hnm : ∀ a, a < N → ∀ b, b < N → a ≠ b → (T a).2.1 ≠ (T b).2.1) {host : String} (hl : va_Nw (.fieldLinkNest own index ref (T k).2.1 (T k).2.2.1 host) (wx_s x)) (hs : (T k).1 = ref) (hf : (T k).2.2.2 = false) {v : Value} (hn : narrow (ty0 k) v = v) (hft : fits (ty0 k) v = true) (hlt : k < fs.length) (hd : decode cc pc = .ok (.putfield index, 3)) (hw : ws.set q0 (a, .inr (ci, fs.set k v)) = ws') (kk : wk_G E x nL ws' (pc + 3) lv rest) : wk_G E x nL ws pc lv (v :: .ref a :: rest) :=
  by
  subst hw
  exact fun H locs ls hP hD hS hv => va_putN X.ex X.bt X.ts hin ty0 hty hnm X.ow X.vk hP hD hS q0 he hc k hk (va_Nw.use rfl hl) (fun _ h9 => hs ▸ h9) hf (hty k hk) hn hft hlt hd (fun H1 locs1 hP1 hD1 hS1 => kk H1 locs1 ls hP1 hD1 hS1 hv)
theorem wk_iald (X : wk_K E x cc nL own Ts rm) (q0 t0 : Nat) {a : Nat} {cA : ClassId} {n : Nat} {f : Nat → Int32} (ha : ws[q0]? = some (a, .inl (cA, n, .inl f))) (ht : (we_T E)[t0]? = some (cA, .int)) {i : Int32} {v : Int32} (hi : vp_in i n) (hval : f i.toNatClampNeg = v) (hd : decode cc pc = .ok (.iaload, 1)) (kk : wk_G E x nL ws (pc + 1) lv (.int v :: rest)) : wk_G E x nL ws pc lv (.int i :: .ref a :: rest) :=
  by
  subst hval
  exact fun H locs ls hP hD hS hv => va_iald X.ex X.bt X.vk hP q0 t0 ha ht hi hd (kk H locs ls hP hD hS hv)
theorem wk_zald (X : wk_K E x cc nL own Ts rm) (q0 t0 : Nat) {a : Nat} {cA : ClassId} {n : Nat} {f : Nat → Int32} (ha : ws[q0]? = some (a, .inl (cA, n, .inl f))) (ht : (we_T E)[t0]? = some (cA, .boolean)) {i : Int32} {v : Int32} (hi : vp_in i n) (hval : f i.toNatClampNeg = v) (hd : decode cc pc = .ok (.baload, 1)) (kk : wk_G E x nL ws (pc + 1) lv (.int v :: rest)) : wk_G E x nL ws pc lv (.int i :: .ref a :: rest) :=
  by
  subst hval
  exact fun H locs ls hP hD hS hv => va_zald X.ex X.bt X.vk hP q0 t0 ha ht hi hd (kk H locs ls hP hD hS hv)
theorem wk_lald (X : wk_K E x cc nL own Ts rm) (q0 t0 : Nat) {a : Nat} {cA : ClassId} {n : Nat} {f : Nat → Int64} (ha : ws[q0]? = some (a, .inl (cA, n, .inr (.inl f)))) (ht : (we_T E)[t0]? = some (cA, .long)) {i : Int32} {v : Int64} (hi : vp_in i n) (hval : f i.toNatClampNeg = v) (hd : decode cc pc = .ok (.laload, 1)) (kk : wk_G E x nL ws (pc + 1) lv (.long v :: rest)) : wk_G E x nL ws pc lv (.int i :: .ref a :: rest) :=
  by
  subst hval
  exact fun H locs ls hP hD hS hv => va_lald X.ex X.bt X.vk hP q0 t0 ha ht hi hd (kk H locs ls hP hD hS hv)
theorem wk_iast (X : wk_K E x cc nL own Ts rm) (q0 t0 : Nat) {a : Nat} {cA : ClassId} {n : Nat} {f g : Nat → Int32} (ha : ws[q0]? = some (a, .inl (cA, n, .inl f))) (ht : (we_T E)[t0]? = some (cA, .int)) {i : Int32} {v : Int32} (hi : vp_in i n) (hu : upd f i.toNatClampNeg v = g) (hd : decode cc pc = .ok (.iastore, 1)) (hw : ws.set q0 (a, .inl (cA, n, .inl g)) = ws') (kk : wk_G E x nL ws' (pc + 1) lv rest) : wk_G E x nL ws pc lv (.int v :: .int i :: .ref a :: rest) :=
  by
  subst hw
  subst hu
  exact fun H locs ls hP hD hS hv => va_iast X.ex X.bt X.vk hP hD hS q0 t0 ha ht hi hd (fun H1 locs1 hP1 hD1 hS1 => kk H1 locs1 ls hP1 hD1 hS1 hv)
theorem wk_zast (X : wk_K E x cc nL own Ts rm) (q0 t0 : Nat) {a : Nat} {cA : ClassId} {n : Nat} {f g : Nat → Int32} (ha : ws[q0]? = some (a, .inl (cA, n, .inl f))) (ht : (we_T E)[t0]? = some (cA, .boolean)) {i : Int32} {v : Int32} (hi : vp_in i n) (hv0 : vp_nar .boolean v = v) (hu : upd f i.toNatClampNeg v = g) (hd : decode cc pc = .ok (.bastore, 1)) (hw : ws.set q0 (a, .inl (cA, n, .inl g)) = ws') (kk : wk_G E x nL ws' (pc + 1) lv rest) : wk_G E x nL ws pc lv (.int v :: .int i :: .ref a :: rest) :=
  by
  subst hw
  subst hu
  exact fun H locs ls hP hD hS hv => va_zast X.ex X.bt X.vk hP hD hS q0 t0 ha ht hi hd (fun H1 locs1 hP1 hD1 hS1 => kk H1 locs1 ls (by rw [hv0] at hP1; exact hP1) (by rw [hv0] at hD1; exact hD1) hS1 hv)
theorem wk_last (X : wk_K E x cc nL own Ts rm) (q0 t0 : Nat) {a : Nat} {cA : ClassId} {n : Nat} {f g : Nat → Int64} (ha : ws[q0]? = some (a, .inl (cA, n, .inr (.inl f)))) (ht : (we_T E)[t0]? = some (cA, .long)) {i : Int32} {v : Int64} (hi : vp_in i n) (hu : vp_updL f i.toNatClampNeg v = g) (hd : decode cc pc = .ok (.lastore, 1)) (hw : ws.set q0 (a, .inl (cA, n, .inr (.inl g))) = ws') (kk : wk_G E x nL ws' (pc + 1) lv rest) : wk_G E x nL ws pc lv (.long v :: .int i :: .ref a :: rest) :=
  by
  subst hw
  subst hu
  exact fun H locs ls hP hD hS hv => va_last X.ex X.bt X.vk hP hD hS q0 t0 ha ht hi hd (fun H1 locs1 hP1 hD1 hS1 => kk H1 locs1 ls hP1 hD1 hS1 hv)
theorem wk_alen (X : wk_K E x cc nL own Ts rm) (q0 t0 : Nat) {a : Nat} {cA : ClassId} {y : vp_A} (ha : ws[q0]? = some (a, .inl (cA, y))) {ty : FieldType} (ht : (we_T E)[t0]? = some (cA, ty)) {v : Int32} (h : Int32.ofNat y.1 = v) (hd : decode cc pc = .ok (.arraylength, 1)) (kk : wk_G E x nL ws (pc + 1) lv (.int v :: rest)) : wk_G E x nL ws pc lv (.ref a :: rest) :=
  fun H locs ls hP hD hS hv => va_alen X.ex X.bt X.vk hP q0 t0 ha ht h hd (kk H locs ls hP hD hS hv)
theorem wk_max (X : wk_K E x cc nL own Ts rm) {index : Nat} {a b : Int32} (hl : Cond.methodLink own index Lib.Math.max.name ∈ Ts) (hst : Cond.static Lib.Math.max.name ∈ Ts) (hin : Cond.initialized "java/lang/Math" ∈ Ts) (hco : Cond.code Lib.Math.max.name Lib.Math.max.code 2 (some .int) ∈ Ts) (hf : 1 ≤ rm.frames) (hlo : (rest.map fun v => v.category).sum + 13 ≤ rm.locals) (hd : decode cc pc = .ok (.invokestatic index, 3)) (kk : wk_G E x nL ws (pc + 3) lv (.int (if a < b then b else a) :: rest)) : wk_G E x nL ws pc lv (.int b :: .int a :: rest) :=
  fun H locs ls hP hD hS hv => va_mmax X.ex X.bt (X.ml.trans hv.1.symm) X.ow (X.ts _ hl) (X.ts _ hst) (X.ts _ hin) (X.ts _ hco) (by rw [X.rq]; exact hf) (by rw [X.rq]; exact hlo) (by rw [X.rq]; exact X.rc) (by rw [X.rq]; exact X.rs) hd (kk H locs ls hP hD hS hv)
theorem wk_min (X : wk_K E x cc nL own Ts rm) {index : Nat} {a b : Int32} (hl : Cond.methodLink own index Lib.Math.min.name ∈ Ts) (hst : Cond.static Lib.Math.min.name ∈ Ts) (hin : Cond.initialized "java/lang/Math" ∈ Ts) (hco : Cond.code Lib.Math.min.name Lib.Math.min.code 2 (some .int) ∈ Ts) (hf : 1 ≤ rm.frames) (hlo : (rest.map fun v => v.category).sum + 13 ≤ rm.locals) (hd : decode cc pc = .ok (.invokestatic index, 3)) (kk : wk_G E x nL ws (pc + 3) lv (.int (if b < a then b else a) :: rest)) : wk_G E x nL ws pc lv (.int b :: .int a :: rest) :=
  fun H locs ls hP hD hS hv => va_mmin X.ex X.bt (X.ml.trans hv.1.symm) X.ow (X.ts _ hl) (X.ts _ hst) (X.ts _ hin) (X.ts _ hco) (by rw [X.rq]; exact hf) (by rw [X.rq]; exact hlo) (by rw [X.rq]; exact X.rc) (by rw [X.rq]; exact X.rs) hd (kk H locs ls hP hD hS hv)
theorem wk_bz_eq (X : wk_K E x cc nL own Ts rm) {b : Bool} {off : Int} {tgt : Nat} (hd : decode cc pc = .ok (.ifCond .eq off, 3)) (ht : (pc : Int) + off = (tgt : Int)) (kt : ¬ b = true → wk_G E x nL ws tgt lv rest) (kf : b = true → wk_G E x nL ws (pc + 3) lv rest) : wk_G E x nL ws pc lv (.int (p_b b) :: rest) :=
  wk_if_eq X hd ht (fun h => kt (by cases b <;> simp_all [p_b])) (fun h => kf (by cases b <;> simp_all [p_b]))
theorem wk_bz_ne (X : wk_K E x cc nL own Ts rm) {b : Bool} {off : Int} {tgt : Nat} (hd : decode cc pc = .ok (.ifCond .ne off, 3)) (ht : (pc : Int) + off = (tgt : Int)) (kt : b = true → wk_G E x nL ws tgt lv rest) (kf : ¬ b = true → wk_G E x nL ws (pc + 3) lv rest) : wk_G E x nL ws pc lv (.int (p_b b) :: rest) :=
  wk_if_ne X hd ht (fun h => kt (by cases b <;> simp_all [p_b])) (fun h => kf (by cases b <;> simp_all [p_b]))
theorem wk_gets (X : wk_K E x cc nL own Ts rm) {C n d ref : String} {v : Value} {index : Nat} (hZ : va_Z C n d v (fun q => we_z E ≤ q) (wx_s x) (wx_H x)) (hl : Cond.fieldLink own index ref n d ∈ Ts) (hs : C = ref) (hd : decode cc pc = .ok (.getstatic index, 3)) (kk : wk_G E x nL ws (pc + 3) lv (v :: rest)) : wk_G E x nL ws pc lv rest :=
  by
  subst hs
  intro H locs ls hP hD hS hv
  have hZ2 := hZ.narrow X.sb
  have hh := X.hh
  rw [hh] at hZ2 hS
  refine va_gets X.ex X.bt hZ2 hS X.ow (X.ts _ hl) (fun _ h9 => h9) hd ?_
  exact kk H locs ls hP hD (by rw [hh]; exact hS) hv
theorem wk_ti (X : wk_K E x cc nL own Ts rm) {t N : Nat} {f : Nat → Value} (hT : va_T .int t N f (fun q => we_z E ≤ q) (wx_s x) (wx_H x)) {i : Int32} (hi : vp_in i N) {v : Value} (hv : f i.toNatClampNeg = v) (hd : decode cc pc = .ok (.iaload, 1)) (kk : wk_G E x nL ws (pc + 1) lv (v :: rest)) : wk_G E x nL ws pc lv (.int i :: .ref t :: rest) :=
  by
  intro H locs ls hP hD hS hw
  have hZ2 := hT.narrow X.sb
  have hh := X.hh
  rw [hh] at hZ2 hS
  refine va_ti X.ex X.bt hZ2 hS hi hv hd ?_
  exact kk H locs ls hP hD (by rw [hh]; exact hS) hw
theorem wk_tlen (X : wk_K E x cc nL own Ts rm) {t N : Nat} {f : Nat → Value} (hT : va_T .int t N f (fun q => we_z E ≤ q) (wx_s x) (wx_H x)) {v : Int32} (hv : Int32.ofNat N = v) (hd : decode cc pc = .ok (.arraylength, 1)) (kk : wk_G E x nL ws (pc + 1) lv (.int v :: rest)) : wk_G E x nL ws pc lv (.ref t :: rest) :=
  by
  intro H locs ls hP hD hS hw
  have hZ2 := hT.narrow X.sb
  have hh := X.hh
  rw [hh] at hZ2 hS
  refine va_tlen X.ex X.bt hZ2 hS hv hd ?_
  exact kk H locs ls hP hD (by rw [hh]; exact hS) hw
theorem wk_copyi (X : wk_K E x cc nL own Ts rm) {index : Nat} (hl : Cond.methodLink own index arraycopyName ∈ Ts) (hnat : Cond.native arraycopyName ∈ Ts) (hst : Cond.static arraycopyName ∈ Ts) (hini : Cond.initialized "java/lang/System" ∈ Ts) (q0 q1 t0 : Nat) {a a0 : Nat} {c0 : ClassId} {n0 n1 : Nat} {f g : Nat → Int32} {ty : FieldType} (ha0 : ws[q0]? = some (a0, .inl (c0, n0, .inl f))) (ha1 : ws[q1]? = some (a, .inl (c0, n1, .inl g))) (ht0 : (we_T E)[t0]? = some (c0, ty)) (hprim : refKind ty = false) {sp dp n : Int32} (h1 : ¬ sp < 0) (h2 : ¬ dp < 0) (h3 : ¬ n < 0) (h4 : sp.toNatClampNeg + n.toNatClampNeg ≤ n0) (h5 : dp.toNatClampNeg + n.toNatClampNeg ≤ n1) (hfit : ∀ i, i < n.toNatClampNeg → fits ty (.int (f (sp.toNatClampNeg + i))) = true) (hfr : 1 ≤ rm.frames) (hlo : (rest.map fun v => v.category).sum + (nativeFrameWords "java/lang/System" "arraycopy" 5 + 11) ≤ rm.locals) (hd : decode cc pc = .ok (.invokestatic index, 3)) (hw : ws.set q1 (a, .inl (c0, n1, .inl (va_cpy f g sp.toNatClampNeg dp.toNatClampNeg n.toNatClampNeg))) = ws') (kk : wk_G E x nL ws' (pc + 3) lv rest) : wk_G E x nL ws pc lv (.int n :: .int dp :: .ref a :: .int sp :: .ref a0 :: rest) :=
  by
  subst hw
  exact fun H locs ls hP hD hS hv => va_copyi X.ex X.bt (X.ml.trans hv.1.symm) X.ow (X.ts _ hl) (X.ts _ hnat) (X.ts _ hst) (X.ts _ hini) X.vk hP hD hS q0 q1 t0 t0 ha0 ha1 ht0 ht0 hprim h1 h2 h3 h4 h5 hfit (by rw [X.rq]; exact hfr) (by rw [X.rq]; exact hlo) hd (fun H1 locs1 hP1 hD1 hS1 => kk H1 locs1 ls hP1 hD1 hS1 hv)
theorem wk_copyl (X : wk_K E x cc nL own Ts rm) {index : Nat} (hl : Cond.methodLink own index arraycopyName ∈ Ts) (hnat : Cond.native arraycopyName ∈ Ts) (hst : Cond.static arraycopyName ∈ Ts) (hini : Cond.initialized "java/lang/System" ∈ Ts) (q0 q1 t0 : Nat) {a a0 : Nat} {c0 : ClassId} {n0 n1 : Nat} {f g : Nat → Int64} {ty : FieldType} (ha0 : ws[q0]? = some (a0, .inl (c0, n0, .inr (.inl f)))) (ha1 : ws[q1]? = some (a, .inl (c0, n1, .inr (.inl g)))) (ht0 : (we_T E)[t0]? = some (c0, ty)) (hprim : refKind ty = false) {sp dp n : Int32} (h1 : ¬ sp < 0) (h2 : ¬ dp < 0) (h3 : ¬ n < 0) (h4 : sp.toNatClampNeg + n.toNatClampNeg ≤ n0) (h5 : dp.toNatClampNeg + n.toNatClampNeg ≤ n1) (hfit : ∀ i, i < n.toNatClampNeg → fits ty (.long (f (sp.toNatClampNeg + i))) = true) (hfr : 1 ≤ rm.frames) (hlo : (rest.map fun v => v.category).sum + (nativeFrameWords "java/lang/System" "arraycopy" 5 + 11) ≤ rm.locals) (hd : decode cc pc = .ok (.invokestatic index, 3)) (hw : ws.set q1 (a, .inl (c0, n1, .inr (.inl (va_cpy f g sp.toNatClampNeg dp.toNatClampNeg n.toNatClampNeg)))) = ws') (kk : wk_G E x nL ws' (pc + 3) lv rest) : wk_G E x nL ws pc lv (.int n :: .int dp :: .ref a :: .int sp :: .ref a0 :: rest) :=
  by
  subst hw
  exact fun H locs ls hP hD hS hv => va_copyl X.ex X.bt (X.ml.trans hv.1.symm) X.ow (X.ts _ hl) (X.ts _ hnat) (X.ts _ hst) (X.ts _ hini) X.vk hP hD hS q0 q1 t0 t0 ha0 ha1 ht0 ht0 hprim h1 h2 h3 h4 h5 hfit (by rw [X.rq]; exact hfr) (by rw [X.rq]; exact hlo) hd (fun H1 locs1 hP1 hD1 hS1 => kk H1 locs1 ls hP1 hD1 hS1 hv)
end WKR

/-! contracts: the callee's cells keep their addresses; what is put back stands where it stood -/
def wk_in (wc : va_W) : Nat → Prop := fun q => ∃ (k : Nat) (e : va_E), wc[k]? = some (q, e)
def wk_pt : va_W → List Nat → va_W → va_W
  | ws, i :: is, c :: cs => wk_pt (ws.set i c) is cs
  | ws, _, _ => ws
def wk_Pre (E : wk_E) (wc : va_W) : State → Prop := fun U => va_P (we_D E) (we_C E) wc U.heap ∧ va_D (fun q => we_z E ≤ q) wc ∧ va_K (we_D E) (we_C E) (we_T E) U ∧ we_A E U U.heap
def wk_B (E : wk_E) (wc : va_W) {S : Type} (cs : S → va_W) : S → State → Prop := fun u t => va_P (we_D E) (we_C E) (cs u) t.heap ∧ (cs u).map Prod.fst = wc.map Prod.fst
/-- a method that answers an int or a boolean -/
def wk_I (E : wk_E) (y : MethodName) (Ts : List Cond) (rm : Room) (av : List Value) (wc : va_W) {S : Type} (post : Int32 → S → Prop) (cs : S → va_W) : Prop :=
  Met (we_l E) y Ts rm (va_Pc av (wk_Pre E wc)) (va_Qi post (wk_B E wc cs) (wk_in wc)) 0 0 (wk_in wc)
/-- a method that answers nothing -/
def wk_V (E : wk_E) (y : MethodName) (Ts : List Cond) (rm : Room) (av : List Value) (wc : va_W) {S : Type} (post : S → Prop) (cs : S → va_W) : Prop :=
  Met (we_l E) y Ts rm (va_Pc av (wk_Pre E wc)) (va_Qv post (wk_B E wc cs) (wk_in wc)) 0 0 (wk_in wc)
theorem wk_at {ws wc : va_W} {isC : List Nat} (hC : isC.map (fun i => ws[i]?) = wc.map some) {k : Nat} {q : Nat × va_E} (hq : wc[k]? = some q) : ∃ i, isC[k]? = some i ∧ ws[i]? = some q := by
  have h1 : (isC.map (fun i => ws[i]?))[k]? = some (some q) := by rw [hC, List.getElem?_map, hq]; rfl
  rw [List.getElem?_map] at h1
  cases hi : isC[k]? with
  | none => rw [hi] at h1; cases h1
  | some i => rw [hi] at h1; exact ⟨i, rfl, Option.some.inj h1⟩
theorem wk_inA {A : Nat → Prop} {ws wc : va_W} {isC : List Nat} (hD : va_D A ws) (hC : isC.map (fun i => ws[i]?) = wc.map some) : ∀ q, wk_in wc q → A q := by
  rintro q ⟨k, e, h⟩
  obtain ⟨i, -, h2⟩ := wk_at hC h
  exact hD.2 i (q, e) h2
theorem wk_Psub {D : va_G} {cl : List vw_C} {H : Heap} {ws wc : va_W} {isC : List Nat} (hP : va_P D cl ws H) (hC : isC.map (fun i => ws[i]?) = wc.map some) : va_P D cl wc H := by
  intro k q hq
  obtain ⟨i, -, h2⟩ := wk_at hC hq
  exact hP i q h2
theorem wk_set1 {α : Type} {l : List α} {i : Nat} {a : α} (h : l[i]? = some a) : l.set i a = l := by
  apply List.ext_getElem?
  intro k
  by_cases hk : i = k
  · subst hk
    rw [List.getElem?_set_self (List.getElem?_eq_some_iff.mp h).1, h]
  · rw [List.getElem?_set_ne hk]
theorem wk_ptGet : ∀ (isC : List Nat) (ws w1 : va_W) (k : Nat) (q : Nat × va_E), isC.length = w1.length → (wk_pt ws isC w1)[k]? = some q → (ws[k]? = some q ∧ k ∉ isC) ∨ ∃ j : Nat, w1[j]? = some q
  | [], ws, [], k, q, _, h => Or.inl ⟨h, by simp⟩
  | [], ws, c :: cs, k, q, hl, _ => by simp at hl
  | i :: is, ws, [], k, q, hl, _ => by simp at hl
  | i :: is, ws, c :: cs, k, q, hl, h => by
    have hl1 : is.length = cs.length := by simpa using hl
    have h0 : (wk_pt (ws.set i c) is cs)[k]? = some q := h
    rcases wk_ptGet is (ws.set i c) cs k q hl1 h0 with ⟨h1, h2⟩ | ⟨j, h1⟩
    · by_cases hki : k = i
      · subst hki
        by_cases hlt : k < ws.length
        · rw [List.getElem?_set_self hlt] at h1
          exact Or.inr ⟨0, by simpa using h1⟩
        · have h3 : (ws.set k c)[k]? = none := List.getElem?_eq_none (by simpa using Nat.not_lt.mp hlt)
          rw [h3] at h1
          cases h1
      · rw [List.getElem?_set_ne (Ne.symm hki)] at h1
        exact Or.inl ⟨h1, by simp [hki, h2]⟩
    · exact Or.inr ⟨j + 1, by simpa using h1⟩
theorem wk_ptFst : ∀ (isC : List Nat) (ws w1 : va_W), isC.map (fun i => (ws.map Prod.fst)[i]?) = (w1.map Prod.fst).map some → (wk_pt ws isC w1).map Prod.fst = ws.map Prod.fst
  | [], ws, [], _ => rfl
  | [], ws, c :: cs, h => by simp at h
  | i :: is, ws, [], h => by simp at h
  | i :: is, ws, c :: cs, h => by
    simp only [List.map_cons, List.cons.injEq] at h
    have e : (ws.set i c).map Prod.fst = ws.map Prod.fst := by rw [List.map_set]; exact wk_set1 h.1
    have h2 := wk_ptFst is (ws.set i c) cs (by rw [e]; exact h.2)
    exact h2.trans e
theorem wk_Dfst {A : Nat → Prop} {ws ws' : va_W} (h : ws'.map Prod.fst = ws.map Prod.fst) (hD : va_D A ws) : va_D A ws' := by
  have key : ∀ (k : Nat) (q : Nat × va_E), ws'[k]? = some q → ∃ q0, ws[k]? = some q0 ∧ q0.1 = q.1 := by
    intro k q hk
    have h1 : (ws'.map Prod.fst)[k]? = some q.1 := by rw [List.getElem?_map, hk]; rfl
    rw [h, List.getElem?_map] at h1
    cases h0 : ws[k]? with
    | none => rw [h0] at h1; cases h1
    | some q0 => rw [h0] at h1; exact ⟨q0, rfl, Option.some.inj h1⟩
  refine ⟨fun i j a b hi hj hab => ?_, fun k q hk => ?_⟩
  · obtain ⟨a0, h1, h2⟩ := key i a hi
    obtain ⟨b0, h3, h4⟩ := key j b hj
    exact hD.1 i j a0 b0 h1 h3 (h2.trans (hab.trans h4.symm))
  · obtain ⟨q0, h1, h2⟩ := key k q hk
    rw [← h2]
    exact hD.2 k q0 h1
theorem wk_join {A0 : Nat → Prop} {D : va_G} {cl : List vw_C} {ws wc w1 : va_W} {H H1 : Heap} {isC : List Nat} (hP : va_P D cl ws H) (hD : va_D A0 ws) (hC : isC.map (fun i => ws[i]?) = wc.map some)
    (hk : ∀ q : Nat, q < H.size → ¬ wk_in wc q → H1[q]? = H[q]?) (hP1 : va_P D cl w1 H1) (hm : w1.map Prod.fst = wc.map Prod.fst) : va_P D cl (wk_pt ws isC w1) H1 ∧ va_D A0 (wk_pt ws isC w1) := by
  have hl : isC.length = w1.length := by
    have h1 := congrArg List.length hC
    have h2 := congrArg List.length hm
    simp at h1 h2
    omega
  have hf : isC.map (fun i => (ws.map Prod.fst)[i]?) = (w1.map Prod.fst).map some := by
    rw [hm]
    have h1 := congrArg (List.map (Option.map Prod.fst)) hC
    simp only [List.map_map] at h1 ⊢
    have e1 : (Option.map Prod.fst ∘ fun i => ws[i]?) = fun i : Nat => (ws.map Prod.fst)[i]? := by
      funext i
      simp [List.getElem?_map]
    have e2 : (Option.map Prod.fst ∘ (some : Nat × va_E → Option (Nat × va_E))) = (some ∘ Prod.fst) := by
      funext q
      rfl
    rw [e1, e2] at h1
    exact h1
  refine ⟨fun k q hq => ?_, wk_Dfst (wk_ptFst isC ws w1 hf) hD⟩
  rcases wk_ptGet isC ws w1 k q hl hq with ⟨h1, h2⟩ | ⟨j, h1⟩
  · refine (hP k q h1).kept (hk q.1 (hP k q h1).lt ?_)
    rintro ⟨j, e, h3⟩
    obtain ⟨i, h4, h5⟩ := wk_at hC h3
    have h6 := hD.1 k i q (q.1, e) h1 h5 rfl
    subst h6
    exact h2 (List.mem_of_getElem? h4)
  · exact hP1 j q h1
section WKC
variable {E : wk_E} {x : wk_C} {cc : ByteArray} {nL : Nat} {own : String} {Ts : List Cond} {rm : Room} {ws ws' wc : va_W} {pc : Nat} {lv lv' : List (Nat × Value)} {rest st0 : List Value}
def wk_Run (E : wk_E) (x : wk_C) (nL : Nat) (ws wc : va_W) (pc : Nat) (lv : List (Nat × Value)) (st0 rest : List Value) (Qa : State → Outcome → State → Prop) : Prop :=
  ∀ (H : Heap) (locs : List Loc) (ls : Array Slot), va_P (we_D E) (we_C E) ws H → va_D (wx_A x) ws → va_S (wx_A x) (wx_H x) H locs → lv_has ls nL lv →
    va_Run (wx_p x) (we_l E) (wx_e x) (wx_R x) (wx_s x) (wx_m x) (wx_a x) (wx_b x) (wx_M x) (wx_c x) H locs (wx_k x) (wx_n x) 0 0 (F0 (wx_m x) pc ls st0) rest Qa (wk_in wc)
theorem wk_goI {S : Type} {post : Int32 → S → Prop} {cs : S → va_W} {av : Array Value} (isC : List Nat) (hr : wk_Run E x nL ws wc pc lv st0 rest (va_Qi post (wk_B E wc cs) (wk_in wc) av)) (hC : isC.map (fun i => ws[i]?) = wc.map some)
    (kk : ∀ (r : Int32) (u : S), post r u → wk_G E x nL (wk_pt ws isC (cs u)) (pc + 3) lv (.int r :: rest)) : wk_G E x nL ws pc lv st0 := by
  intro H locs ls hP hD hS hv
  have hsub := wk_inA hD hC
  refine va_calli (hr H locs ls hP hD hS hv) hS (fun q _ h => hsub q h) hsub ?_
  intro r u t H1 locs1 ht _ hp hB _ hk hS1
  obtain ⟨hB, hm⟩ := hB
  rw [ht] at hB
  obtain ⟨hP1, hD1⟩ := wk_join hP hD hC hk hB hm
  exact kk r u hp H1 locs1 ls hP1 hD1 hS1 hv
theorem wk_goV {S : Type} {post : S → Prop} {cs : S → va_W} {av : Array Value} (isC : List Nat) (hr : wk_Run E x nL ws wc pc lv st0 rest (va_Qv post (wk_B E wc cs) (wk_in wc) av)) (hC : isC.map (fun i => ws[i]?) = wc.map some)
    (kk : ∀ u : S, post u → wk_G E x nL (wk_pt ws isC (cs u)) (pc + 3) lv rest) : wk_G E x nL ws pc lv st0 := by
  intro H locs ls hP hD hS hv
  have hsub := wk_inA hD hC
  refine va_callv (hr H locs ls hP hD hS hv) hS (fun q _ h => hsub q h) hsub ?_
  intro u t H1 locs1 ht _ hp hB _ hk hS1
  obtain ⟨hB, hm⟩ := hB
  rw [ht] at hB
  obtain ⟨hP1, hD1⟩ := wk_join hP hD hC hk hB hm
  exact kk u hp H1 locs1 ls hP1 hD1 hS1 hv
theorem wk_blind (hE : wk_ok E) (av : List Value) : FrameBlind (va_Pc av (wk_Pre E wc)) :=
  fun a U g mk q => ⟨q.1, q.2.1, q.2.2.1, va_K.moved (u := U) (U := U.calling g mk a) (Vm.Alike.refl U.vm) q.2.2.2.1, hE.1 U (U.calling g mk a) _ rfl q.2.2.2.2⟩
theorem wk_pre (X : wk_K E x cc nL own Ts rm) {isC : List Nat} (hC : isC.map (fun i => ws[i]?) = wc.map some) (hn : va_nd isC = true) {H : Heap} {locs : List Loc} (hP : va_P (we_D E) (we_C E) ws H) (hD : va_D (wx_A x) ws) (hS : va_S (wx_A x) (wx_H x) H locs) :
    ∀ U : State, U.heap = H → (wx_s x).WarmedH U.vm → wk_Pre E wc U := by
  intro U hU hW
  refine ⟨by rw [hU]; exact wk_Psub hP hC, (hD.sub isC hn hC).weaken (fun _ q _ h => X.sb q.1 h), va_K.moved hW.alike X.vk, ?_⟩
  rw [hU]
  exact X.ok.2.1 _ _ _ hW (X.ok.2.2 _ _ _ (fun a h1 h2 => hS.2.1 a h1 (fun z => h2 (X.sb a z))) X.am)
variable {y : MethodName} {bytes : ByteArray} {maxL n index : Nat} {ret : Option FieldType} {Ty Tr : List Cond} {rmy : Room} {Qc : Array Value → State → Outcome → State → Prop} {b : Nat} {As : List Value}
/-- calls: of a virtual method of the receiver's; of a static one; both again through a nest mate's link -/
theorem wk_rV (X : wk_K E x cc nL own Ts rm) (hM : Met (we_l E) y Ty rmy (va_Pc (.ref b :: As) (wk_Pre E wc)) Qc 0 0 (wk_in wc)) (hTy : Ty = Cond.code y bytes maxL ret :: Tr) (hG : GoodIn Ts Ty) (isC : List Nat) (hC : isC.map (fun i => ws[i]?) = wc.map some) (hn : va_nd isC = true)
    (q0 : Nat) {ci : Nat} {fs : List Value} {C : String} {T : u_T} {N : Nat} (he : ws[q0]? = some (b, .inr (ci, fs))) (hc : (we_C E)[ci]? = some (C, T, N)) (hl : Cond.methodLink own index y ∈ Ts) (hi : Cond.instanceMethod y ∈ Ts) (hse : Cond.selects C y y ∈ Ts) (hini : Cond.initialized y.cls ∈ Ts)
    (n : Nat) (hd : y.cls ≠ "java/lang/invoke/MethodHandle" ∧ y.cls ≠ "java/lang/invoke/VarHandle" ∧ (parseMethodDescriptor y.desc).map (fun d => d.parameters.length) = some n) (hA : As.length = n) (h0 : rmy.cells = 0 ∧ rmy.slots = 0) (hR : rmy.frames + 1 ≤ rm.frames ∧ 8 + (maxL + 11) + rmy.locals ≤ rm.locals)
    (hst : st0 = As.reverse ++ .ref b :: rest) (hcat : (rest.map fun v => v.category).sum ≤ 8) (hdg : decode cc pc = .ok (.invokevirtual index, 3)) : wk_Run E x nL ws wc pc lv st0 rest (Qc (Value.ref b :: As).toArray) := by
  intro H locs ls hP hD hS hv
  exact va_runV ⟨X.ex, X.bt, X.ml, X.ow, X.ts⟩ hM ⟨callB_of n X.ts hG hTy h0.1 h0.2 (X.ts _ hini) (X.ts _ hl) hd (by rw [X.rq]; exact hR), X.ts _ hi, X.ts _ hse⟩ ⟨wk_blind X.ok _, va_recv X.vk hP hc he, fun U hU hW => ⟨rfl, wk_pre X hC hn hP hD hS U hU hW⟩⟩ rfl hA hv.1 hst (lv_room hcat) hdg ⟨by rw [X.rq]; exact X.rc, by rw [X.rq]; exact X.rs⟩
theorem wk_rS (X : wk_K E x cc nL own Ts rm) (hM : Met (we_l E) y Ty rmy (va_Pc As (wk_Pre E wc)) Qc 0 0 (wk_in wc)) (hTy : Ty = Cond.code y bytes maxL ret :: Tr) (hG : GoodIn Ts Ty) (isC : List Nat) (hC : isC.map (fun i => ws[i]?) = wc.map some) (hn : va_nd isC = true)
    (hl : Cond.methodLink own index y ∈ Ts) (hi : Cond.static y ∈ Ts) (hini : Cond.initialized y.cls ∈ Ts)
    (n : Nat) (hd : y.cls ≠ "java/lang/invoke/MethodHandle" ∧ y.cls ≠ "java/lang/invoke/VarHandle" ∧ (parseMethodDescriptor y.desc).map (fun d => d.parameters.length) = some n) (hA : As.length = n) (h0 : rmy.cells = 0 ∧ rmy.slots = 0) (hR : rmy.frames + 1 ≤ rm.frames ∧ 8 + (maxL + 11) + rmy.locals ≤ rm.locals)
    (hst : st0 = As.reverse ++ rest) (hcat : (rest.map fun v => v.category).sum ≤ 8) (hdg : decode cc pc = .ok (.invokestatic index, 3)) : wk_Run E x nL ws wc pc lv st0 rest (Qc As.toArray) := by
  intro H locs ls hP hD hS hv
  exact va_runS ⟨X.ex, X.bt, X.ml, X.ow, X.ts⟩ hM ⟨callB_of n X.ts hG hTy h0.1 h0.2 (X.ts _ hini) (X.ts _ hl) hd (by rw [X.rq]; exact hR), X.ts _ hi⟩ ⟨wk_blind X.ok _, fun U hU hW => ⟨rfl, wk_pre X hC hn hP hD hS U hU hW⟩⟩ rfl hA hv.1 hst (lv_room hcat) hdg ⟨by rw [X.rq]; exact X.rc, by rw [X.rq]; exact X.rs⟩
theorem wk_cn {host : String} (X : wk_K E x cc nL own Ts rm) (hTy : Ty = Cond.code y bytes maxL ret :: Tr) (hG : GoodIn Ts Ty) (hl : va_Nw (.methodLinkNest own index y host) (wx_s x)) (hini : Cond.initialized y.cls ∈ Ts)
    (n : Nat) (hd : y.cls ≠ "java/lang/invoke/MethodHandle" ∧ y.cls ≠ "java/lang/invoke/VarHandle" ∧ (parseMethodDescriptor y.desc).map (fun d => d.parameters.length) = some n) (h0 : rmy.cells = 0 ∧ rmy.slots = 0) (hR : rmy.frames + 1 ≤ rm.frames ∧ 8 + (maxL + 11) + rmy.locals ≤ rm.locals) : va_CN (wx_R x) (wx_s x) (wx_a x) own index y host bytes maxL ret Ty rmy 0 0 n :=
  va_cnB n X.ts hG hTy h0.1 h0.2 hl (X.ts _ hini) hd (by rw [X.rq]; exact hR)
theorem wk_rVN {host : String} (X : wk_K E x cc nL own Ts rm) (hM : Met (we_l E) y Ty rmy (va_Pc (.ref b :: As) (wk_Pre E wc)) Qc 0 0 (wk_in wc)) (hTy : Ty = Cond.code y bytes maxL ret :: Tr) (hG : GoodIn Ts Ty) (isC : List Nat) (hC : isC.map (fun i => ws[i]?) = wc.map some) (hn : va_nd isC = true)
    (q0 : Nat) {ci : Nat} {fs : List Value} {C : String} {T : u_T} {N : Nat} (he : ws[q0]? = some (b, .inr (ci, fs))) (hc : (we_C E)[ci]? = some (C, T, N)) (hl : va_Nw (.methodLinkNest own index y host) (wx_s x)) (hi : Cond.instanceMethod y ∈ Ts) (hse : Cond.selects C y y ∈ Ts) (hini : Cond.initialized y.cls ∈ Ts)
    (n : Nat) (hd : y.cls ≠ "java/lang/invoke/MethodHandle" ∧ y.cls ≠ "java/lang/invoke/VarHandle" ∧ (parseMethodDescriptor y.desc).map (fun d => d.parameters.length) = some n) (hA : As.length = n) (h0 : rmy.cells = 0 ∧ rmy.slots = 0) (hR : rmy.frames + 1 ≤ rm.frames ∧ 8 + (maxL + 11) + rmy.locals ≤ rm.locals)
    (hst : st0 = As.reverse ++ .ref b :: rest) (hcat : (rest.map fun v => v.category).sum ≤ 8) (hdg : decode cc pc = .ok (.invokevirtual index, 3)) : wk_Run E x nL ws wc pc lv st0 rest (Qc (Value.ref b :: As).toArray) := by
  intro H locs ls hP hD hS hv
  exact va_runVN ⟨X.ex, X.bt, X.ml, X.ow, X.ts⟩ hM ⟨wk_cn X hTy hG hl hini n hd h0 hR, X.ts _ hi, X.ts _ hse⟩ ⟨wk_blind X.ok _, va_recv X.vk hP hc he, fun U hU hW => ⟨rfl, wk_pre X hC hn hP hD hS U hU hW⟩⟩ rfl hA hv.1 hst (lv_room hcat) hdg ⟨by rw [X.rq]; exact X.rc, by rw [X.rq]; exact X.rs⟩
theorem wk_rSN {host : String} (X : wk_K E x cc nL own Ts rm) (hM : Met (we_l E) y Ty rmy (va_Pc As (wk_Pre E wc)) Qc 0 0 (wk_in wc)) (hTy : Ty = Cond.code y bytes maxL ret :: Tr) (hG : GoodIn Ts Ty) (isC : List Nat) (hC : isC.map (fun i => ws[i]?) = wc.map some) (hn : va_nd isC = true)
    (hl : va_Nw (.methodLinkNest own index y host) (wx_s x)) (hi : Cond.static y ∈ Ts) (hini : Cond.initialized y.cls ∈ Ts)
    (n : Nat) (hd : y.cls ≠ "java/lang/invoke/MethodHandle" ∧ y.cls ≠ "java/lang/invoke/VarHandle" ∧ (parseMethodDescriptor y.desc).map (fun d => d.parameters.length) = some n) (hA : As.length = n) (h0 : rmy.cells = 0 ∧ rmy.slots = 0) (hR : rmy.frames + 1 ≤ rm.frames ∧ 8 + (maxL + 11) + rmy.locals ≤ rm.locals)
    (hst : st0 = As.reverse ++ rest) (hcat : (rest.map fun v => v.category).sum ≤ 8) (hdg : decode cc pc = .ok (.invokestatic index, 3)) : wk_Run E x nL ws wc pc lv st0 rest (Qc As.toArray) := by
  intro H locs ls hP hD hS hv
  exact va_runSN ⟨X.ex, X.bt, X.ml, X.ow, X.ts⟩ hM ⟨wk_cn X hTy hG hl hini n hd h0 hR, X.ts _ hi, trivial⟩ ⟨wk_blind X.ok _, fun U hU hW => ⟨rfl, wk_pre X hC hn hP hD hS U hU hW⟩⟩ rfl hA hv.1 hst (lv_room hcat) hdg ⟨by rw [X.rq]; exact X.rc, by rw [X.rq]; exact X.rs⟩
/-- calls of a method inherited, or named by an abstract one: x is what the instruction names, y what runs -/
theorem wk_rD (X : wk_K E x cc nL own Ts rm) {xm : MethodName} {owner : String} (hM : Met (we_l E) y Ty rmy (va_Pc (.ref b :: As) (wk_Pre E wc)) Qc 0 0 (wk_in wc)) (hTy : Ty = Cond.code y bytes maxL ret :: Tr) (hG : GoodIn Ts Ty) (isC : List Nat) (hC : isC.map (fun i => ws[i]?) = wc.map some) (hn : va_nd isC = true)
    (q0 : Nat) {ci : Nat} {fs : List Value} {C : String} {T : u_T} {N : Nat} (he : ws[q0]? = some (b, .inr (ci, fs))) (hc : (we_C E)[ci]? = some (C, T, N)) (hl : Cond.methodLink own index xm ∈ Ts) (hsm : Cond.sameMethod xm.cls owner xm.name xm.desc ∈ Ts) (hdc : va_Decl (wx_s x) ⟨owner, xm.name, xm.desc⟩) (hi : Cond.instanceMethod y ∈ Ts) (hse : Cond.selects C xm y ∈ Ts) (hini : Cond.initialized y.cls ∈ Ts)
    (n : Nat) (hd : owner ≠ "java/lang/invoke/MethodHandle" ∧ owner ≠ "java/lang/invoke/VarHandle" ∧ (parseMethodDescriptor xm.desc).map (fun d => d.parameters.length) = some n) (hA : As.length = n) (h0 : rmy.cells = 0 ∧ rmy.slots = 0) (hR : rmy.frames + 1 ≤ rm.frames ∧ 8 + (maxL + 11) + rmy.locals ≤ rm.locals)
    (hst : st0 = As.reverse ++ .ref b :: rest) (hcat : (rest.map fun v => v.category).sum ≤ 8) (hdg : decode cc pc = .ok (.invokevirtual index, 3)) : wk_Run E x nL ws wc pc lv st0 rest (Qc (Value.ref b :: As).toArray) := by
  intro H locs ls hP hD hS hv
  have hcm : Cond.code y bytes maxL ret ∈ Ty := by rw [hTy]; exact List.mem_cons_self
  have cw : va_CU (wx_R x) (wx_s x) (wx_a x) own C owner index xm y bytes maxL ret Ty rmy 0 0 n :=
    ⟨⟨h0.1, h0.2, by rw [X.rq]; exact hR.1, by rw [X.rq]; exact hR.2, pay_in X.ts hG, hcm⟩, X.ts _ (hG _ hcm).1, X.ts _ hini, ⟨hd.1, hd.2.1⟩, fun sig h => by
      have h2 := hd.2.2
      rw [h] at h2
      exact (Option.some.inj h2).symm, X.ts _ hl, X.ts _ hsm, hdc, X.ts _ hse, X.ts _ hi⟩
  exact va_runU ⟨X.ex, X.bt, X.ml, X.ow, X.ts⟩ hM cw ⟨wk_blind X.ok _, va_recv X.vk hP hc he, fun U hU hW => ⟨rfl, wk_pre X hC hn hP hD hS U hU hW⟩⟩ rfl hA hv.1 hst (lv_room hcat) hdg ⟨by rw [X.rq]; exact X.rc, by rw [X.rq]; exact X.rs⟩
/-- the end of a walk -/
def wk_N (x : wk_C) (ret : Option FieldType) (Qc : Array Value → State → Outcome → State → Prop) (wc : va_W) : Prop :=
  wx_Q x = MQ (wx_b x) Qc (wx_a x) (wx_s x) (wx_k x) (wx_n x) (wk_in wc) ∧ wx_A x = wk_in wc ∧ wx_H x = (wx_s x).heap ∧ (wx_M x).sig.returnType = ret ∧ (wx_M x).locks = false
theorem wk_iret {S : Type} {post : Int32 → S → Prop} {cs : S → va_W} {ty : FieldType} (X : wk_K E x cc nL own Ts rm) (Z : wk_N x (some ty) (va_Qi post (wk_B E wc cs) (wk_in wc)) wc) {v : Int32} (hn : narrow ty (.int v) = .int v) (hd : decode cc pc = .ok (.ireturn, 1)) (u : S) (hp : post v u) (hw : cs u = ws) (hm : (cs u).map Prod.fst = wc.map Prod.fst) : wk_G E x nL ws pc lv [.int v] := by
  obtain ⟨hQ, hA, hH, hr, hlk⟩ := Z
  intro H locs ls hP hD hS hv
  rw [hA, hH] at hS
  rw [hQ]
  exact W.zret X.ex X.bt hr hn (fun t ht hW => ⟨⟨v, u, rfl, hp, by rw [ht, hw]; exact hP, hm⟩, hS.F ht⟩) hS.2.2 hd hlk
theorem wk_vret {S : Type} {post : S → Prop} {cs : S → va_W} (X : wk_K E x cc nL own Ts rm) (Z : wk_N x none (va_Qv post (wk_B E wc cs) (wk_in wc)) wc) (hd : decode cc pc = .ok (.return_, 1)) (u : S) (hp : post u) (hw : cs u = ws) (hm : (cs u).map Prod.fst = wc.map Prod.fst) : wk_G E x nL ws pc lv [] := by
  obtain ⟨hQ, hA, hH, hr, hlk⟩ := Z
  intro H locs ls hP hD hS hv
  rw [hA, hH] at hS
  rw [hQ]
  exact W.vret X.ex X.bt hr (fun t ht hW => ⟨⟨u, rfl, hp, by rw [ht, hw]; exact hP, hm⟩, hS.F ht⟩) hS.2.2 hd hlk
theorem wk_of {av : List Value} (hE : wk_ok E) (hy : plainName y.cls = true) (hT : Ty = Cond.code y bytes maxL ret :: Tr) (hn : (lg_sl av).length ≤ maxL)
    (body : ∀ x : wk_C, wk_K E x bytes maxL y.cls Ty rmy → wk_N x ret Qc wc → wk_G E x maxL wc 0 (lv_args 0 av) []) : Met (we_l E) y Ty rmy (va_Pc av (wk_Pre E wc)) Qc 0 0 (wk_in wc) := by
  refine Met.ofW (cc := bytes) (maxL := maxL) (ret := ret) hy hT ?_
  intro p e s m args below meth c s₁ B hml hv
  obtain ⟨rfl, hP, hD, hK, hA⟩ := hv
  have hts := atoms_spec (ws := Ty) B.pre
  have hown : s.vm.findClass y.cls = some m.cls := findClass_of_methodNamed B.named
  rw [lg_entry_eq]
  exact body (p, e, (headSpec Ty rmy).room, s, m, av.toArray, below, meth, c, 0, 0, MQ below Qc av.toArray s 0 0 (wk_in wc), wk_in wc, s.heap)
    ⟨hE, B.exec, B.bytes, hml, hown, hts, hK, hA, fun q ⟨k, e, h⟩ => hD.2 k (q, e) h, rfl, Nat.zero_le _, Nat.zero_le _, rfl⟩ ⟨rfl, rfl, rfl, B.returns, B.notSynchronized⟩
    s.heap [] _ hP ⟨hD.1, fun k q h => ⟨k, q.2, h⟩⟩ va_S.rf (lv_entry av hn)
end WKC


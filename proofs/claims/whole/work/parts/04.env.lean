/-! the environment: launch, tables of slots, array kinds, the four static tables, links of nest mates -/
def tb_l : Nat → List Nat
  | 0 => [0, 4, 0, 54, 1, 5, 1, 54, 1, 5, 1, 54, 2, 6, 3, 7, 4, 8, 4, 9, 5, 10, 5, 11, 6, 12, 6, 13, 7, 14, 7, 15, 8, 36, 8, 54, 10, 37, 10, 54, 12, 38, 12, 54, 14, 39, 14, 54, 9, 54, 9, 18, 9, 54, 11, 19, 11, 54, 13, 20, 13, 54, 15, 21, 15, 54]
  | 1 => [0, 5, 0, 54]
  | 2 => [0, 6, 1, 7, 2, 4, 2, 16, 3, 5, 3, 17, 3, 5, 3, 17, 6, 12, 6, 13, 7, 14, 7, 15, 4, 8, 4, 54, 5, 10, 5, 54, 16, 54, 16, 9, 16, 54, 17, 11, 17, 54, 12, 36, 12, 54, 14, 37, 14, 54, 8, 38, 8, 54, 10, 39, 10, 54, 13, 18, 13, 54, 15, 19, 15, 54, 9, 20, 9, 54, 11, 21, 11, 54]
  | _ => [2, 5, 2, 17]
def tb_n : Nat → Nat
  | 0 => 66
  | 1 => 4
  | 2 => 74
  | _ => 4
def tb_f (k j : Nat) : Int32 := nI ((tb_l k).getD j 0)
def tb_s : Nat → String
  | 0 => "RIGHT_PAIRS"
  | 1 => "RIGHT_PAIRS_WITH_1"
  | 2 => "LEFT_PAIRS"
  | _ => "LEFT_PAIRS_WITH_1"
abbrev ee_V : Type := Launch × va_G × ClassId × ClassId × ClassId × (Nat → Nat) × Nat
abbrev ev_l (V : ee_V) : Launch := V.1
abbrev ev_D (V : ee_V) : va_G := V.2.1
abbrev ev_I (V : ee_V) : ClassId := V.2.2.1
abbrev ev_Z (V : ee_V) : ClassId := V.2.2.2.1
abbrev ev_J (V : ee_V) : ClassId := V.2.2.2.2.1
abbrev ev_t (V : ee_V) : Nat → Nat := V.2.2.2.2.2.1
abbrev ev_z (V : ee_V) : Nat := V.2.2.2.2.2.2
def am_N (U : State) : Prop := va_Nw (.methodLinkNest "TagWorkshop$TapeMachine" 3 yK_init "TagWorkshop") U ∧ va_Nw (.methodLinkNest "TagWorkshop" 18 yT_init "TagWorkshop") U ∧ va_Nw (.methodLinkNest "TagWorkshop$TagSystem" 5 yK_init "TagWorkshop") U ∧ va_Nw (.methodLinkNest "TagWorkshop" 25 yY_init "TagWorkshop") U ∧ va_Nw (.methodLinkNest "TagWorkshop$CyclicSystem" 3 yK_init "TagWorkshop") U ∧ va_Nw (.methodLinkNest "TagWorkshop$CyclicSystem" 11 yT_init "TagWorkshop") U ∧ va_Nw (.methodLinkNest "TagWorkshop" 32 yC_init "TagWorkshop") U ∧ va_Nw (.methodLinkNest "TagWorkshop$Machine" 9 yX_within "TagWorkshop") U ∧ va_Nw (.declares yK_makeSteps) U ∧ va_Nw (.declares yK_canGoOn) U ∧ va_Nw (.declares yK_step) U
def am (V : ee_V) (U : State) (H : Heap) : Prop := am_N U ∧ (∀ k, k < 4 → va_Z "TagWorkshop$TagMaker" (tb_s k) "[I" (.ref (ev_t V k)) (fun q => ev_z V ≤ q) U H) ∧ (∀ k, k < 4 → va_T .int (ev_t V k) (tb_n k) (fun j => .int (tb_f k j)) (fun q => ev_z V ≤ q) U H)
def ee (V : ee_V) : wk_E := (ev_l V, ev_D V, vcl, [(ev_I V, .int), (ev_Z V, .boolean), (ev_J V, .long)], am V, ev_z V)
theorem am_nM_3 {V : ee_V} {U : State} {H : Heap} (h : we_A (ee V) U H) : va_Nw (.methodLinkNest "TagWorkshop$TapeMachine" 3 yK_init "TagWorkshop") U := h.1.1
theorem am_nX_18 {V : ee_V} {U : State} {H : Heap} (h : we_A (ee V) U H) : va_Nw (.methodLinkNest "TagWorkshop" 18 yT_init "TagWorkshop") U := h.1.2.1
theorem am_nT_5 {V : ee_V} {U : State} {H : Heap} (h : we_A (ee V) U H) : va_Nw (.methodLinkNest "TagWorkshop$TagSystem" 5 yK_init "TagWorkshop") U := h.1.2.2.1
theorem am_nX_25 {V : ee_V} {U : State} {H : Heap} (h : we_A (ee V) U H) : va_Nw (.methodLinkNest "TagWorkshop" 25 yY_init "TagWorkshop") U := h.1.2.2.2.1
theorem am_nY_3 {V : ee_V} {U : State} {H : Heap} (h : we_A (ee V) U H) : va_Nw (.methodLinkNest "TagWorkshop$CyclicSystem" 3 yK_init "TagWorkshop") U := h.1.2.2.2.2.1
theorem am_nY_11 {V : ee_V} {U : State} {H : Heap} (h : we_A (ee V) U H) : va_Nw (.methodLinkNest "TagWorkshop$CyclicSystem" 11 yT_init "TagWorkshop") U := h.1.2.2.2.2.2.1
theorem am_nX_32 {V : ee_V} {U : State} {H : Heap} (h : we_A (ee V) U H) : va_Nw (.methodLinkNest "TagWorkshop" 32 yC_init "TagWorkshop") U := h.1.2.2.2.2.2.2.1
theorem am_nK_9 {V : ee_V} {U : State} {H : Heap} (h : we_A (ee V) U H) : va_Nw (.methodLinkNest "TagWorkshop$Machine" 9 yX_within "TagWorkshop") U := h.1.2.2.2.2.2.2.2.1
theorem am_d_makeSteps {V : ee_V} {U : State} {H : Heap} (h : we_A (ee V) U H) : va_Decl U ⟨"TagWorkshop$Machine", yK_makeSteps.name, yK_makeSteps.desc⟩ := va_Decl.abs (x := yK_makeSteps) h.1.2.2.2.2.2.2.2.2.1
theorem am_d_canGoOn {V : ee_V} {U : State} {H : Heap} (h : we_A (ee V) U H) : va_Decl U ⟨"TagWorkshop$Machine", yK_canGoOn.name, yK_canGoOn.desc⟩ := va_Decl.abs (x := yK_canGoOn) h.1.2.2.2.2.2.2.2.2.2.1
theorem am_d_step {V : ee_V} {U : State} {H : Heap} (h : we_A (ee V) U H) : va_Decl U ⟨"TagWorkshop$Machine", yK_step.name, yK_step.desc⟩ := va_Decl.abs (x := yK_step) h.1.2.2.2.2.2.2.2.2.2.2
theorem am_z {V : ee_V} {U : State} {H : Heap} (h : we_A (ee V) U H) (k : Nat) (hk : k < 4) : va_Z "TagWorkshop$TagMaker" (tb_s k) "[I" (.ref (ev_t V k)) (fun q => we_z (ee V) ≤ q) U H := h.2.1 k hk
theorem am_t {V : ee_V} {U : State} {H : Heap} (h : we_A (ee V) U H) (k : Nat) (hk : k < 4) : va_T .int (ev_t V k) (tb_n k) (fun j => .int (tb_f k j)) (fun q => we_z (ee V) ≤ q) U H := h.2.2 k hk
theorem am_same {u U : State} (hv : u.vm = U.vm) (h : am_N u) : am_N U := by
  obtain ⟨h0, h1, h2, h3, h4, h5, h6, h7, h8, h9, h10⟩ := h
  exact ⟨va_Nw.same rfl hv h0, va_Nw.same rfl hv h1, va_Nw.same rfl hv h2, va_Nw.same rfl hv h3, va_Nw.same rfl hv h4, va_Nw.same rfl hv h5, va_Nw.same rfl hv h6, va_Nw.same rfl hv h7, va_Nw.same rfl hv h8, va_Nw.same rfl hv h9, va_Nw.same rfl hv h10⟩
theorem am_warm {s U : State} (hW : s.WarmedH U.vm) (h : am_N s) : am_N U := by
  obtain ⟨h0, h1, h2, h3, h4, h5, h6, h7, h8, h9, h10⟩ := h
  exact ⟨va_Nw.warmM hW h0, va_Nw.warmM hW h1, va_Nw.warmM hW h2, va_Nw.warmM hW h3, va_Nw.warmM hW h4, va_Nw.warmM hW h5, va_Nw.warmM hW h6, va_Nw.warmM hW h7, va_Nw.warmD hW h8, va_Nw.warmD hW h9, va_Nw.warmD hW h10⟩
theorem ee_ok (V : ee_V) : wk_ok (ee V) :=
  ⟨fun u U H hv h => ⟨am_same hv h.1, fun k hk => (h.2.1 k hk).moved (hv ▸ Vm.Alike.refl _), fun k hk => (h.2.2 k hk).moved (hv ▸ Vm.Alike.refl _)⟩,
   fun s U H hW h => ⟨am_warm hW h.1, fun k hk => (h.2.1 k hk).moved hW.alike, fun k hk => (h.2.2 k hk).moved hW.alike⟩,
   fun U H H1 hk h => ⟨h.1, fun k hk2 => (h.2.1 k hk2).kept hk, fun k hk2 => (h.2.2 k hk2).kept hk⟩⟩
abbrev pM : Type := (Nat → Int32) × (Nat → Int32) × (Nat → Int32) × Int32 × Int32 × Int32 × Int32
abbrev pT : Type := (Nat → Int64) × (Nat → Int32) × (Nat → Int32) × (Nat → Int32) × Int32 × Int32 × Int32 × Int32
abbrev pY : Type := pT × Int32
abbrev pC : Type := Int32 × Int32 × Int32 × Int32
abbrev pX : Type := pM × pT × pY × pC
abbrev pRa : Type := (Nat → Int32) × (Nat → Int32) × (Nat → Int32) × (Nat → Int32) × Int32 × Int32 × Int32 × Int32
abbrev pRb : Type := Int32 × Bool × (Nat → Int32) × (Nat → Int32) × (Nat → Int32) × (Nat → Int32) × Int32 × Int32
abbrev pRc : Type := Int32 × (Nat → Int32) × (Nat → Int32) × (Nat → Int32) × (Nat → Int32) × Int32 × Int32 × Int32 × Int32
abbrev pRd : Type := Int32 × Int32 × Int32 × Int32
abbrev pR : Type := pRa × pRb × pRc × pRd
def cM (V : ee_V) (a : Nat → Nat) (S : pM) : va_W := [(a 0, .inr (0, [.ref (a 1), .ref (a 2), .ref (a 3), .int (S.2.2.2.1), .int (S.2.2.2.2.1), .int (S.2.2.2.2.2.1), .int (S.2.2.2.2.2.2)])),
  (a 1, .inl (ev_I V, 16, .inl (S.1))),
  (a 2, .inl (ev_I V, 16, .inl (S.2.1))),
  (a 3, .inl (ev_I V, 16, .inl (S.2.2.1)))]
def cT (V : ee_V) (a : Nat → Nat) (S : pT) : va_W := [(a 0, .inr (1, [.ref (a 1), .ref (a 2), .ref (a 3), .ref (a 4), .int (S.2.2.2.2.1), .int (S.2.2.2.2.2.1), .int (S.2.2.2.2.2.2.1), .int (S.2.2.2.2.2.2.2)])),
  (a 1, .inl (ev_J V, 600, .inr (.inl (S.1)))),
  (a 2, .inl (ev_I V, 300, .inl (S.2.1))),
  (a 3, .inl (ev_Z V, 300, .inl (S.2.2.1))),
  (a 4, .inl (ev_I V, 4096, .inl (S.2.2.2.1)))]
def cY (V : ee_V) (a : Nat → Nat) (S : pY) : va_W := [(a 0, .inr (2, [.ref (a 1), .int (S.2)])),
  (a 1, .inr (1, [.ref (a 2), .ref (a 3), .ref (a 4), .ref (a 5), .int (S.1.2.2.2.2.1), .int (S.1.2.2.2.2.2.1), .int (S.1.2.2.2.2.2.2.1), .int (S.1.2.2.2.2.2.2.2)])),
  (a 2, .inl (ev_J V, 600, .inr (.inl (S.1.1)))),
  (a 3, .inl (ev_I V, 300, .inl (S.1.2.1))),
  (a 4, .inl (ev_Z V, 300, .inl (S.1.2.2.1))),
  (a 5, .inl (ev_I V, 4096, .inl (S.1.2.2.2.1)))]
def cC (V : ee_V) (a : Nat → Nat) (S : pC) : va_W := [(a 0, .inr (3, [.int (S.1), .int (S.2.1), .int (S.2.2.1), .int (S.2.2.2)]))]
def cX (V : ee_V) (a : Nat → Nat) (S : pX) : va_W := [(a 0, .inr (4, [.ref (a 1), .ref (a 5), .ref (a 10), .ref (a 16)])),
  (a 1, .inr (0, [.ref (a 2), .ref (a 3), .ref (a 4), .int (S.1.2.2.2.1), .int (S.1.2.2.2.2.1), .int (S.1.2.2.2.2.2.1), .int (S.1.2.2.2.2.2.2)])),
  (a 2, .inl (ev_I V, 16, .inl (S.1.1))),
  (a 3, .inl (ev_I V, 16, .inl (S.1.2.1))),
  (a 4, .inl (ev_I V, 16, .inl (S.1.2.2.1))),
  (a 5, .inr (1, [.ref (a 6), .ref (a 7), .ref (a 8), .ref (a 9), .int (S.2.1.2.2.2.2.1), .int (S.2.1.2.2.2.2.2.1), .int (S.2.1.2.2.2.2.2.2.1), .int (S.2.1.2.2.2.2.2.2.2)])),
  (a 6, .inl (ev_J V, 600, .inr (.inl (S.2.1.1)))),
  (a 7, .inl (ev_I V, 300, .inl (S.2.1.2.1))),
  (a 8, .inl (ev_Z V, 300, .inl (S.2.1.2.2.1))),
  (a 9, .inl (ev_I V, 4096, .inl (S.2.1.2.2.2.1))),
  (a 10, .inr (2, [.ref (a 11), .int (S.2.2.1.2)])),
  (a 11, .inr (1, [.ref (a 12), .ref (a 13), .ref (a 14), .ref (a 15), .int (S.2.2.1.1.2.2.2.2.1), .int (S.2.2.1.1.2.2.2.2.2.1), .int (S.2.2.1.1.2.2.2.2.2.2.1), .int (S.2.2.1.1.2.2.2.2.2.2.2)])),
  (a 12, .inl (ev_J V, 600, .inr (.inl (S.2.2.1.1.1)))),
  (a 13, .inl (ev_I V, 300, .inl (S.2.2.1.1.2.1))),
  (a 14, .inl (ev_Z V, 300, .inl (S.2.2.1.1.2.2.1))),
  (a 15, .inl (ev_I V, 4096, .inl (S.2.2.1.1.2.2.2.1))),
  (a 16, .inr (3, [.int (S.2.2.2.1), .int (S.2.2.2.2.1), .int (S.2.2.2.2.2.1), .int (S.2.2.2.2.2.2)]))]
def cR (V : ee_V) (a : Nat → Nat) (S : pR) : va_W := [(a 0, .inr (5, [.ref (a 1), .ref (a 2), .ref (a 3), .ref (a 4), .int (S.1.2.2.2.2.1), .int (S.1.2.2.2.2.2.1), .int (S.1.2.2.2.2.2.2.1), .int (S.1.2.2.2.2.2.2.2), .int (S.2.1.1), .int (p_b (S.2.1.2.1)), .ref (a 5), .ref (a 6), .ref (a 7), .ref (a 8), .int (S.2.1.2.2.2.2.2.2.1), .int (S.2.1.2.2.2.2.2.2.2), .int (S.2.2.1.1), .ref (a 9), .ref (a 10), .ref (a 11), .ref (a 12), .int (S.2.2.1.2.2.2.2.2.1), .int (S.2.2.1.2.2.2.2.2.2.1), .int (S.2.2.1.2.2.2.2.2.2.2.1), .int (S.2.2.1.2.2.2.2.2.2.2.2), .int (S.2.2.2.1), .int (S.2.2.2.2.1), .int (S.2.2.2.2.2.1), .int (S.2.2.2.2.2.2)])),
  (a 1, .inl (ev_Z V, 16, .inl (S.1.1))),
  (a 2, .inl (ev_I V, 16, .inl (S.1.2.1))),
  (a 3, .inl (ev_I V, 16, .inl (S.1.2.2.1))),
  (a 4, .inl (ev_I V, 16, .inl (S.1.2.2.2.1))),
  (a 5, .inl (ev_I V, 3600, .inl (S.2.1.2.2.1))),
  (a 6, .inl (ev_I V, 300, .inl (S.2.1.2.2.2.1))),
  (a 7, .inl (ev_Z V, 300, .inl (S.2.1.2.2.2.2.1))),
  (a 8, .inl (ev_I V, 12000, .inl (S.2.1.2.2.2.2.2.1))),
  (a 9, .inl (ev_I V, 3600, .inl (S.2.2.1.2.1))),
  (a 10, .inl (ev_I V, 300, .inl (S.2.2.1.2.2.1))),
  (a 11, .inl (ev_Z V, 300, .inl (S.2.2.1.2.2.2.1))),
  (a 12, .inl (ev_I V, 12000, .inl (S.2.2.1.2.2.2.2.1)))]

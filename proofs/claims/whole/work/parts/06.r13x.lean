theorem p_fst {α β : Type} {v : α} {s : β} {R : α × β} (h : (v, s) = R) : R.1 = v := by subst h; rfl
theorem p_snd {α β : Type} {v : α} {s : β} {R : α × β} (h : (v, s) = R) : R.2 = s := by subst h; rfl

theorem Ev.hide {α : Type} {o : Option (α × qM)} {P : α → qM → Prop} (h : ∀ P' : α → qM → Prop, (∀ v u, P v u → P' v u) → Ev o P') : Ev o P := h P (fun _ _ q => q)

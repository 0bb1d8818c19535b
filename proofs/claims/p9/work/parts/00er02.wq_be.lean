set_option maxHeartbeats 4000000 in
theorem wq_be {α β : Type} {x : Option α} {k : α → Option β} {P : α → Prop} {Q : β → Prop} (h : wq x P) (h2 : ∀ r, x = some r → P r → wq (k r) Q) : wq (x.bind k) Q := by
  obtain ⟨r, e, hr⟩ := h
  rw [e]
  exact h2 r e hr

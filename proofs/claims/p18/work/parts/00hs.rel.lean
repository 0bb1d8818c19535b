/-! answers alike -/
theorem nd11 {N : Nat} {x : Int32} {α : Type} {f : Unit → Option (Nat ⊕ α)} {r : Nat ⊕ α} (h : wb_xb (fX11_need N x) f = some r) : (x = 0 ∧ r = .inl 1) ∨ (¬ x = 0 ∧ f () = some r) := by
  by_cases hx : x = 0
  · left
    refine ⟨hx, ?_⟩
    subst hx
    rw [need0] at h
    exact (Option.some.inj h).symm
  · right
    refine ⟨hx, ?_⟩
    have e : fX11_need N x = some (.inr ()) := by unfold fX11_need; rw [if_neg hx]; rfl
    rw [e] at h
    exact h
/-- an ENTRY of a WHEEL, read by both -/
theorem at_eq {N N2 : Nat} {I J : Nat → Int32} {L : Int64} {M K : Nat → Nat → Int32} {n e a b : Int32} (er : EnR M K) (h : fX1_degreeOf N I (wb_sh M 13) n e = some a) (g : fX12_at N2 J L K n e = some b) : a = b := by
  unfold fX1_degreeOf at h
  unfold fX12_at at g
  obtain ⟨c, h⟩ := wb_n h
  obtain ⟨-, g⟩ := wb_n g
  have h := Option.some.inj h
  have g := Option.some.inj g
  rw [← h, ← g]
  exact er _ (Nat.lt_of_not_le (fun z => c (Or.inr z)))

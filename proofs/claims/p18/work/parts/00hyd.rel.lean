/-! answers of both, from what the class's method and the reference's say -/
theorem fin_1n {x : Option (Nat ⊕ Int32)} {I : Nat → Int32} {M : Nat → Nat → Int32} {o : Nat → Int64} {r : Int32 × (Nat → Int32) × (Nat → Nat → Int32) × (Nat → Int64)} {j s : Int32} (h : wb_hp x (fun k => if k = 1 then some ((1 : Int32), I, M, o) else none) (fun r => (some (vp_updL o ((0 : Int32)).toNatClampNeg r.toInt64)).bind fun o1 => some ((0 : Int32), I, M, o1)) = some r) (key : ∀ q, x = some q → (q = .inl 1 ∧ j = 1) ∨ ∃ a, q = .inr a ∧ j = 0 ∧ a = s) : j = r.1 ∧ (r.1 = 0 → r.2.2.2 0 = s.toInt64) := by
  rcases fr_hp h with ⟨k, e, h⟩ | ⟨a, e, h⟩
  · obtain ⟨c, h⟩ := wb_y h
    have h := Option.some.inj h
    rcases key _ e with ⟨-, w⟩ | ⟨a, w, -⟩
    · rw [← h]
      exact ⟨w, fun z => absurd z (by show ¬ (1 : Int32) = 0; decide)⟩
    · cases w
  · obtain ⟨o1, eo, h⟩ := wb_v h
    have h := Option.some.inj h
    rcases key _ e with ⟨w, -⟩ | ⟨a2, w, w2, w3⟩
    · cases w
    · have w := Sum.inr.inj w
      rw [← h]
      refine ⟨w2, fun _ => ?_⟩
      show o1 0 = _
      rw [eo, ← w3, w]
      rfl

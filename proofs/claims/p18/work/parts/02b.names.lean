/-! names apart: by codes -/
def nm_code (s : String) : Nat := s.toByteArray.data.toList.foldl (fun n c => n * 256 + c.toNat) 1
theorem nm_of {T : u_T} {n : Nat} (cs : List Nat) (h : ∀ a, a < n → nm_code (T a).2.1 = cs.getD a 0) (hd : ∀ a, a < n → ∀ b, b < n → a ≠ b → cs.getD a 0 ≠ cs.getD b 0) : ∀ a, a < n → ∀ b, b < n → a ≠ b → (T a).2.1 ≠ (T b).2.1 := fun a ha b hb hab e => hd a ha b hb hab (by rw [← h a ha, ← h b hb, e])

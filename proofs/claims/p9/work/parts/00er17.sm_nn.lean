theorem sm_nn (f : Nat → Int32) (a : Nat) (n : Nat) (h : ∀ z : Nat, z < n → 1 ≤ (f (a + z)).toInt) : ∀ m : Nat, m ≤ n → (m : Int) ≤ sm f a m ∧ sm f a m + ((n - m : Nat) : Int) ≤ sm f a n := by
  intro m hm
  constructor
  · induction m with
    | zero => simp [sm]
    | succ m ih => have := ih (by omega); have := h m (by omega); simp only [sm]; omega
  · have key : ∀ d : Nat, m + d ≤ n → sm f a m + (d : Int) ≤ sm f a (m + d) := by
      intro d
      induction d with
      | zero => intro _; simp
      | succ d ih => intro hd; have := ih (by omega); have := h (m + d) (by omega); show _ ≤ sm f a (m + d) + (f (a + (m + d))).toInt; omega
    have := key (n - m) (by omega)
    have e : m + (n - m) = n := by omega
    rw [e] at this
    exact this

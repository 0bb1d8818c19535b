def ER (N : Nat) (I : Nat → Int32) (L : Int64) (M : Nat → Nat → Int32) (k d e n b : Int32) : Prop :=
  0 ≤ b.toInt ∧ b.toInt < n.toInt ∧ ∀ s p : Int32, 1 ≤ s.toInt → s.toInt < n.toInt → fX12_placeOn N I L M s k d = some p → (p / (60 : Int32)).toInt = e.toInt → 1 ≤ b.toInt

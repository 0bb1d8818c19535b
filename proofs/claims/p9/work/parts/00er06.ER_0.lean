theorem ER_0 {N : Nat} {I : Nat → Int32} {L : Int64} {M : Nat → Nat → Int32} {k d e : Int32} : ER N I L M k d e (1 : Int32) (0 : Int32) := by
  have l_0 := il_0
  have l_1 := il_1
  exact ⟨by omega, by omega, fun s p h1 h2 => by omega⟩

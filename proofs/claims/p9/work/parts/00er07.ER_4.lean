theorem ER_4 {N : Nat} {I : Nat → Int32} {L : Int64} {M : Nat → Nat → Int32} {k d e n b : Int32} (h : ER N I L M k d e n b) (hn : n.toInt = 4) : ER N I L M k d e (4 : Int32) b := by
  have l_4 := il_4
  exact ⟨h.1, by have := h.2.1; omega, fun s p h1 h2 => h.2.2 s p h1 (by omega)⟩

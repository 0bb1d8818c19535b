theorem ER_y {N : Nat} {I : Nat → Int32} {L : Int64} {M : Nat → Nat → Int32} {k d e n b n2 b2 p : Int32} (h : ER N I L M k d e n b) (_ : fX12_placeOn N I L M n k d = some p) (_ : (p / (60 : Int32)).toInt = e.toInt) (hb : b2.toInt = b.toInt + 1) (hn : n2.toInt = n.toInt + 1) : ER N I L M k d e n2 b2 := by
  have h1 := h.1
  have h2 := h.2.1
  exact ⟨by omega, by omega, fun s p _ _ _ _ => by omega⟩

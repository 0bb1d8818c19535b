theorem ER_um {N : Nat} {I : Nat → Int32} {L : Int64} {M : Nat → Nat → Int32} {k d e n b : Int32} {q i : Nat} {v : Int32} (hq : 4 ≤ q) (h : ER N I L M k d e n b) : ER N I L (wb_um M q i v) k d e n b :=
  ⟨h.1, h.2.1, fun s p h1 h2 h3 h4 => h.2.2 s p h1 h2 ((pl_um hq).symm.trans h3) h4⟩

theorem ER_n {N : Nat} {I : Nat → Int32} {L : Int64} {M : Nat → Nat → Int32} {k d e n b n2 b2 p : Int32} (h : ER N I L M k d e n b) (hp : fX12_placeOn N I L M n k d = some p) (hne : ¬ (p / (60 : Int32)).toInt = e.toInt) (hb : b2.toInt = b.toInt) (hn : n2.toInt = n.toInt + 1) : ER N I L M k d e n2 b2 := by
  have h1 := h.1
  have h2 := h.2.1
  refine ⟨by omega, by omega, fun s p' h3 h4 h5 h6 => ?_⟩
  by_cases hs : s.toInt = n.toInt
  · have : s = n := Int32.toInt_inj.mp hs
    rw [this, hp] at h5
    exact absurd (Option.some.inj h5 ▸ h6) hne
  · rw [hb]
    exact h.2.2 s p' h3 (by omega) h5 h6

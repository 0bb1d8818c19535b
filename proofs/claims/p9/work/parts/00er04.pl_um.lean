theorem pl_um {N : Nat} {I : Nat → Int32} {L : Int64} {M : Nat → Nat → Int32} {q i : Nat} {v s k d : Int32} (hq : 4 ≤ q) : fX12_placeOn N I L (wb_um M q i v) s k d = fX12_placeOn N I L M s k d := by
  have h0 : wb_um M q i v 0 = M 0 := by unfold wb_um; exact if_neg (by omega)
  have h1 : wb_um M q i v 1 = M 1 := by unfold wb_um; exact if_neg (by omega)
  have h2 : wb_um M q i v 2 = M 2 := by unfold wb_um; exact if_neg (by omega)
  have h3 : wb_um M q i v 3 = M 3 := by unfold wb_um; exact if_neg (by omega)
  unfold fX12_placeOn fX12_placeOn_J79
  simp only [h0, h1, h2, h3]

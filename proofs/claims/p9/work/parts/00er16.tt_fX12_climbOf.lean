set_option maxHeartbeats 4000000 in
theorem tt_fX12_climbOf {N : Nat} (hN : 3000000000 ≤ N) (I0 : Nat → Int32) (L0 : Int64) (M0 : Nat → Nat → Int32) (x1 : Int32) (x2 : Int32) (h_x1 : 0 ≤ x1.toInt ∧ x1.toInt ≤ 6) (h_x2 : -60 ≤ x2.toInt ∧ x2.toInt ≤ 21599) (k_I0 : KX12 I0 M0) : wq (fX12_climbOf N I0 L0 M0 x1 x2) (fun r => True) := by
  unfold fX12_climbOf
  have l_0 := il_0
  exact tt_fX12_climbOf_L5 hN I0 L0 M0 x1 x2 ⟨by omega, by omega⟩ ⟨by omega, by omega⟩ k_I0 N (0 : Int32) (0 : Int32) ⟨by omega, by omega⟩ (by omega)

set_option maxHeartbeats 4000000 in
theorem tt_fX12_riseOf {N : Nat} (hN : 3000000000 ≤ N) (I0 : Nat → Int32) (L0 : Int64) (M0 : Nat → Nat → Int32) (x1 : Int32) (x2 : Int32) (x3 : Int32) (h_x1 : 0 ≤ x1.toInt ∧ x1.toInt ≤ 6) (h_x2 : -60 ≤ x2.toInt ∧ x2.toInt ≤ 21599) (h_x3 : 0 ≤ x3.toInt ∧ x3.toInt ≤ 359) (k_I0 : KX12 I0 M0) (hr_4 : x1.toInt < (I0 1).toInt) : wq (fX12_riseOf N I0 L0 M0 x1 x2 x3) (fun r => True) := by
  unfold fX12_riseOf
  refine wq_b (tt_fX12_climbOf hN I0 L0 M0 x1 x2 ⟨by omega, by omega⟩ ⟨by omega, by omega⟩ k_I0) (fun r1_q43819 h_r1_q43819 => ?_)
  obtain ⟨-⟩ := h_r1_q43819
  have b_43820 := i32b r1_q43819
  have l_18000 := il_18000
  have t_43821 := ia_mul (18000 : Int32) (18000) il_18000 x3 (by omega) (by omega)
  have l_6480000 := il_6480000
  have t_43822 := ia_rem2 (r1_q43819 + ((18000 : Int32) * x3)) (6480000 : Int32) 6480000 il_6480000 (by decide)
  have t_43823 := KX12.i1 k_I0
  refine wq_b (tt_fX12_placeOf hN I0 L0 M0 x1 ((r1_q43819 + ((18000 : Int32) * x3)) - (((r1_q43819 + ((18000 : Int32) * x3)) / (6480000 : Int32)) * (6480000 : Int32))) ⟨by omega, by omega⟩ k_I0 (by omega) (by omega)) (fun r2_q43824 h_r2_q43824 => ?_)
  obtain ⟨-⟩ := h_r2_q43824
  have b_43825 := i32b r2_q43824
  exact wq_s trivial

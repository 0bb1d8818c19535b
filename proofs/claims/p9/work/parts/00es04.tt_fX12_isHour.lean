set_option maxHeartbeats 4000000 in
theorem tt_fX12_isHour {N : Nat} (hN : 3000000000 ≤ N) (I0 : Nat → Int32) (L0 : Int64) (M0 : Nat → Nat → Int32) (x1 : Int32) (x2 : Int32) (x3 : Int32) (h_x1 : 0 ≤ x1.toInt ∧ x1.toInt ≤ 119) (h_x2 : 0 ≤ x2.toInt ∧ x2.toInt ≤ 6) (h_x3 : 0 ≤ x3.toInt ∧ x3.toInt ≤ 359) (k_I0 : KX12 I0 M0) (hr_4 : x2.toInt < (I0 1).toInt) : wq (fX12_isHour N I0 L0 M0 x1 x2 x3) (fun r => (0 ≤ r.toInt ∧ r.toInt ≤ 1) ∧ True) := by
  unfold fX12_isHour
  have l_0 := il_0
  refine wq_b (tt_fX12_at hN I0 L0 M0 x1 (0 : Int32) ⟨by omega, by omega⟩ ⟨by omega, by omega⟩ k_I0) (fun r1_q44112 h_r1_q44112 => ?_)
  obtain ⟨h_r1_q44112_0, h_r1_q44112_1, h_r1_q44112_2, -⟩ := h_r1_q44112
  have l_60 := il_60
  have t_44113 := ia_mul (60 : Int32) (60) il_60 r1_q44112 (by omega) (by omega)
  have t_44114 := KX12.i1 k_I0
  refine wq_b (tt_fX12_riseOf hN I0 L0 M0 x2 ((60 : Int32) * r1_q44112) x3 ⟨by omega, by omega⟩ ⟨by omega, by omega⟩ ⟨by omega, by omega⟩ k_I0 (by omega)) (fun r2_q44115 h_r2_q44115 => ?_)
  obtain ⟨-⟩ := h_r2_q44115
  have l_7 := il_7
  refine wq_b (tt_fX12_at hN I0 L0 M0 x1 (7 : Int32) ⟨by omega, by omega⟩ ⟨by omega, by omega⟩ k_I0) (fun r3_q44116 h_r3_q44116 => ?_)
  obtain ⟨h_r3_q44116_0, h_r3_q44116_1, h_r3_q44116_2, -⟩ := h_r3_q44116
  have b_44117 := i32b r2_q44115
  have t_44118 := i32b r2_q44115
  have t_44119 := ia_div2 r2_q44115 (60 : Int32) 60 il_60 (by decide)
  refine wq_eq (fun hc_44120 => ?_) (fun hc_44121 => ?_)
  · have l_1 := il_1
    exact wq_s ⟨(show 0 ≤ (1 : Int32).toInt ∧ (1 : Int32).toInt ≤ 1 from ⟨by omega, by omega⟩), trivial⟩
  · exact wq_s ⟨(show 0 ≤ (0 : Int32).toInt ∧ (0 : Int32).toInt ≤ 1 from ⟨by omega, by omega⟩), trivial⟩

set_option maxHeartbeats 4000000 in
theorem tt_fX12_middle {N : Nat} (hN : 3000000000 ≤ N) (I0 : Nat → Int32) (L0 : Int64) (M0 : Nat → Nat → Int32) (x1 : Int32) (x2 : Int32) (k_I0 : KX12 I0 M0) : wq (fX12_middle N I0 L0 M0 x1 x2) (fun r => KX12 r.2.1 r.2.2.2 ∧ True) := by
  unfold fX12_middle
  refine wq_v (fun I0_1_q44047 h_I0_1_q44047 => ?_)
  have k_I0_1_q44047 : KX12 I0_1_q44047 M0 := by rw [h_I0_1_q44047]; exact KX12.si0 k_I0
  have b_44048 := i32b x1
  have b_44049 := i32b x2
  refine wq_b (tt_fX12_isClimate hN I0_1_q44047 L0 M0 x1 x2 k_I0_1_q44047) (fun r2_q44050 h_r2_q44050 => ?_)
  obtain ⟨h_r2_q44050_0, h_r2_q44050_1, h_r2_q44050_2, h_r2_q44050_3, -⟩ := h_r2_q44050
  have t_44051 := KX12.i1 h_r2_q44050_3
  have t_44052 := KX12.i1 k_I0
  have t_44053 : (I0_1_q44047 1).toInt = (I0 1).toInt := by rw [h_I0_1_q44047]; rfl
  have l_0 := il_0
  refine wq_eq (fun hc_44054 => ?_) (fun hc_44055 => ?_)
  · exact wq_s ⟨h_r2_q44050_3, trivial⟩
  · refine wq_b (tt_fX12_middleOf hN r2_q44050.2.1 r2_q44050.2.2.1 r2_q44050.2.2.2 x1 x2 ⟨by omega, by omega⟩ ⟨by omega, by omega⟩ h_r2_q44050_3 (by omega)) (fun r3_q44056 h_r3_q44056 => ?_)
    obtain ⟨-⟩ := h_r3_q44056
    have b_44057 := i32b r3_q44056
    exact wq_s ⟨h_r2_q44050_3, trivial⟩

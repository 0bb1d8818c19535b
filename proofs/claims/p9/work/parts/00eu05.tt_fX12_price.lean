set_option maxHeartbeats 4000000 in
theorem tt_fX12_price {N : Nat} (hN : 3000000000 ≤ N) (I0 : Nat → Int32) (L0 : Int64) (M0 : Nat → Nat → Int32) (x1 : Int32) (x2 : Int32) (k_I0 : KX12 I0 M0) : wq (fX12_price N I0 L0 M0 x1 x2) (fun r => KX12 r.2.1 r.2.2.2 ∧ True) := by
  unfold fX12_price
  refine wq_v (fun I0_1_q52626 h_I0_1_q52626 => ?_)
  have k_I0_1_q52626 : KX12 I0_1_q52626 M0 := by rw [h_I0_1_q52626]; exact KX12.si0 k_I0
  have b_52627 := i32b x1
  refine wq_b (tt_fX12_isBook hN I0_1_q52626 L0 M0 x1 k_I0_1_q52626) (fun r2_q52628 h_r2_q52628 => ?_)
  obtain ⟨h_r2_q52628_0, h_r2_q52628_1, h_r2_q52628_2, h_r2_q52628_3, -⟩ := h_r2_q52628
  have t_52629 := KX12.i1 h_r2_q52628_3
  have t_52630 := KX12.i1 k_I0
  have t_52631 : (I0_1_q52626 1).toInt = (I0 1).toInt := by rw [h_I0_1_q52626]; rfl
  have l_0 := il_0
  refine wq_eq (fun hc_52632 => ?_) (fun hc_52633 => ?_)
  · exact wq_s ⟨h_r2_q52628_3, trivial⟩
  · have b_52634 := i32b x2
    refine wq_b (tt_fX12_isBook hN r2_q52628.2.1 r2_q52628.2.2.1 r2_q52628.2.2.2 x2 h_r2_q52628_3) (fun r3_q52635 h_r3_q52635 => ?_)
    obtain ⟨h_r3_q52635_0, h_r3_q52635_1, h_r3_q52635_2, h_r3_q52635_3, -⟩ := h_r3_q52635
    have t_52636 := KX12.i1 h_r3_q52635_3
    refine wq_eq (fun hc_52637 => ?_) (fun hc_52638 => ?_)
    · exact wq_s ⟨h_r3_q52635_3, trivial⟩
    · refine wq_b (tt_fX12_priceAll hN r3_q52635.2.1 r3_q52635.2.2.1 r3_q52635.2.2.2 x1 x2 ⟨by omega, by omega⟩ ⟨by omega, by omega⟩ h_r3_q52635_3) (fun r4_q52639 h_r4_q52639 => ?_)
      obtain ⟨-⟩ := h_r4_q52639
      have b_52640 := i32b r4_q52639
      exact wq_s ⟨h_r3_q52635_3, trivial⟩

set_option maxHeartbeats 4000000 in
theorem tt_fX12_climb {N : Nat} (hN : 3000000000 ≤ N) (I0 : Nat → Int32) (L0 : Int64) (M0 : Nat → Nat → Int32) (x1 : Int32) (x2 : Int32) (k_I0 : KX12 I0 M0) : wq (fX12_climb N I0 L0 M0 x1 x2) (fun r => KX12 r.2.1 r.2.2.2 ∧ True) := by
  unfold fX12_climb
  refine wq_v (fun I0_1_q43772 h_I0_1_q43772 => ?_)
  have k_I0_1_q43772 : KX12 I0_1_q43772 M0 := by rw [h_I0_1_q43772]; exact KX12.si0 k_I0
  have b_43773 := i32b x1
  have b_43774 := i32b x2
  refine wq_b (tt_fX12_isClimate hN I0_1_q43772 L0 M0 x1 x2 k_I0_1_q43772) (fun r2_q43775 h_r2_q43775 => ?_)
  obtain ⟨h_r2_q43775_0, h_r2_q43775_1, h_r2_q43775_2, h_r2_q43775_3, -⟩ := h_r2_q43775
  have t_43776 := KX12.i1 h_r2_q43775_3
  have t_43777 := KX12.i1 k_I0
  have t_43778 : (I0_1_q43772 1).toInt = (I0 1).toInt := by rw [h_I0_1_q43772]; rfl
  have l_0 := il_0
  refine wq_eq (fun hc_43779 => ?_) (fun hc_43780 => ?_)
  · exact wq_s ⟨h_r2_q43775_3, trivial⟩
  · refine wq_b (tt_fX12_climbOf hN r2_q43775.2.1 r2_q43775.2.2.1 r2_q43775.2.2.2 x1 x2 ⟨by omega, by omega⟩ ⟨by omega, by omega⟩ h_r2_q43775_3) (fun r3_q43781 h_r3_q43781 => ?_)
    obtain ⟨-⟩ := h_r3_q43781
    have b_43782 := i32b r3_q43781
    exact wq_s ⟨h_r2_q43775_3, trivial⟩

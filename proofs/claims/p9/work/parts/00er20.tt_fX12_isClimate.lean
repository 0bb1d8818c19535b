set_option maxHeartbeats 4000000 in
theorem tt_fX12_isClimate {N : Nat} (hN : 3000000000 ≤ N) (I0 : Nat → Int32) (L0 : Int64) (M0 : Nat → Nat → Int32) (x1 : Int32) (x2 : Int32) (k_I0 : KX12 I0 M0) : wq (fX12_isClimate N I0 L0 M0 x1 x2) (fun r => (r.1.toInt = 0 ∨ (r.1.toInt = 1 ∧ 0 ≤ x1.toInt ∧ x1.toInt ≤ 6 ∧ x1.toInt < (r.2.1 1).toInt ∧ 0 ≤ x2.toInt ∧ x2.toInt ≤ 21599)) ∧ (r.2.1 1).toInt = (I0 1).toInt ∧ (0 ≤ r.1.toInt ∧ r.1.toInt ≤ 1) ∧ KX12 r.2.1 r.2.2.2 ∧ True) := by
  unfold fX12_isClimate
  have b_43685 := i32b x1
  have l_0 := il_0
  refine wq_lt (fun hc_43686 => ?_) (fun hc_43687 => ?_)
  · have l_1 := il_1
    refine wq_b (tt_fX12_right hN I0 L0 M0 (0 : Int32) (1 : Int32) ⟨by omega, by omega⟩ k_I0) (fun r1_q43688 h_r1_q43688 => ?_)
    obtain ⟨h_r1_q43688_0, h_r1_q43688_1, h_r1_q43688_2, h_r1_q43688_3, -⟩ := h_r1_q43688
    have t_43689 := KX12.i1 h_r1_q43688_3
    have t_43690 := KX12.i1 k_I0
    refine wq_bz (by omega) ?_
    have b_43691 := i32b x2
    exact wq_s ⟨(show (r1_q43688.1.toInt = 0 ∨ (r1_q43688.1.toInt = 1 ∧ 0 ≤ x1.toInt ∧ x1.toInt ≤ 6 ∧ x1.toInt < (r1_q43688.2.1 1).toInt ∧ 0 ≤ x2.toInt ∧ x2.toInt ≤ 21599)) from by omega), (show (r1_q43688.2.1 1).toInt = (I0 1).toInt from by omega), (show 0 ≤ r1_q43688.1.toInt ∧ r1_q43688.1.toInt ≤ 1 from ⟨by omega, by omega⟩), h_r1_q43688_3, trivial⟩
  · have t_43692 := KX12.i1 k_I0
    refine wq_le (fun hc_43693 => ?_) (fun hc_43694 => ?_)
    · have l_1 := il_1
      refine wq_b (tt_fX12_right hN I0 L0 M0 (0 : Int32) (1 : Int32) ⟨by omega, by omega⟩ k_I0) (fun r2_q43695 h_r2_q43695 => ?_)
      obtain ⟨h_r2_q43695_0, h_r2_q43695_1, h_r2_q43695_2, h_r2_q43695_3, -⟩ := h_r2_q43695
      have t_43696 := KX12.i1 h_r2_q43695_3
      refine wq_bz (by omega) ?_
      have b_43697 := i32b x2
      exact wq_s ⟨(show (r2_q43695.1.toInt = 0 ∨ (r2_q43695.1.toInt = 1 ∧ 0 ≤ x1.toInt ∧ x1.toInt ≤ 6 ∧ x1.toInt < (r2_q43695.2.1 1).toInt ∧ 0 ≤ x2.toInt ∧ x2.toInt ≤ 21599)) from by omega), (show (r2_q43695.2.1 1).toInt = (I0 1).toInt from by omega), (show 0 ≤ r2_q43695.1.toInt ∧ r2_q43695.1.toInt ≤ 1 from ⟨by omega, by omega⟩), h_r2_q43695_3, trivial⟩
    · have b_43698 := i32b x2
      have l_21599 := il_21599
      refine wq_b (tt_fX12_within hN x2 (0 : Int32) (21599 : Int32)) (fun r3_q43699 h_r3_q43699 => ?_)
      obtain ⟨h_r3_q43699_0, h_r3_q43699_1, -⟩ := h_r3_q43699
      refine wq_eq (fun hc_43700 => ?_) (fun hc_43701 => ?_)
      · have l_1 := il_1
        refine wq_b (tt_fX12_right hN I0 L0 M0 (0 : Int32) (1 : Int32) ⟨by omega, by omega⟩ k_I0) (fun r4_q43702 h_r4_q43702 => ?_)
        obtain ⟨h_r4_q43702_0, h_r4_q43702_1, h_r4_q43702_2, h_r4_q43702_3, -⟩ := h_r4_q43702
        have t_43703 := KX12.i1 h_r4_q43702_3
        refine wq_bz (by omega) ?_
        exact wq_s ⟨(show (r4_q43702.1.toInt = 0 ∨ (r4_q43702.1.toInt = 1 ∧ 0 ≤ x1.toInt ∧ x1.toInt ≤ 6 ∧ x1.toInt < (r4_q43702.2.1 1).toInt ∧ 0 ≤ x2.toInt ∧ x2.toInt ≤ 21599)) from by omega), (show (r4_q43702.2.1 1).toInt = (I0 1).toInt from by omega), (show 0 ≤ r4_q43702.1.toInt ∧ r4_q43702.1.toInt ≤ 1 from ⟨by omega, by omega⟩), h_r4_q43702_3, trivial⟩
      · have l_1 := il_1
        refine wq_b (tt_fX12_right hN I0 L0 M0 (1 : Int32) (1 : Int32) ⟨by omega, by omega⟩ k_I0) (fun r5_q43704 h_r5_q43704 => ?_)
        obtain ⟨h_r5_q43704_0, h_r5_q43704_1, h_r5_q43704_2, h_r5_q43704_3, -⟩ := h_r5_q43704
        have t_43705 := KX12.i1 h_r5_q43704_3
        refine wq_bz (by omega) ?_
        exact wq_s ⟨(show (r5_q43704.1.toInt = 0 ∨ (r5_q43704.1.toInt = 1 ∧ 0 ≤ x1.toInt ∧ x1.toInt ≤ 6 ∧ x1.toInt < (r5_q43704.2.1 1).toInt ∧ 0 ≤ x2.toInt ∧ x2.toInt ≤ 21599)) from by omega), (show (r5_q43704.2.1 1).toInt = (I0 1).toInt from by omega), (show 0 ≤ r5_q43704.1.toInt ∧ r5_q43704.1.toInt ≤ 1 from ⟨by omega, by omega⟩), h_r5_q43704_3, trivial⟩

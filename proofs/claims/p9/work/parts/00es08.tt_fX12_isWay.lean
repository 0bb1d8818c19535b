set_option maxHeartbeats 4000000 in
theorem tt_fX12_isWay {N : Nat} (hN : 3000000000 ≤ N) (I0 : Nat → Int32) (L0 : Int64) (M0 : Nat → Nat → Int32) (x1 : Int32) (x2 : Int32) (k_I0 : KX12 I0 M0) : wq (fX12_isWay N I0 L0 M0 x1 x2) (fun r => (r.1.toInt = 0 ∨ (r.1.toInt = 1 ∧ ((0 ≤ x1.toInt ∧ x1.toInt ≤ 1) ∨ (x1.toInt = 2 ∧ 0 ≤ x2.toInt ∧ x2.toInt ≤ 6 ∧ x2.toInt < (r.2.1 1).toInt)))) ∧ (r.2.1 1).toInt = (I0 1).toInt ∧ (0 ≤ r.1.toInt ∧ r.1.toInt ≤ 1) ∧ KX12 r.2.1 r.2.2.2 ∧ True) := by
  unfold fX12_isWay
  have b_46944 := i32b x1
  have l_0 := il_0
  have l_2 := il_2
  refine wq_b (tt_fX12_within hN x1 (0 : Int32) (2 : Int32)) (fun r1_q46945 h_r1_q46945 => ?_)
  obtain ⟨h_r1_q46945_0, h_r1_q46945_1, -⟩ := h_r1_q46945
  refine wq_eq (fun hc_46946 => ?_) (fun hc_46947 => ?_)
  · have l_1 := il_1
    refine wq_b (tt_fX12_right hN I0 L0 M0 (0 : Int32) (1 : Int32) ⟨by omega, by omega⟩ k_I0) (fun r2_q46948 h_r2_q46948 => ?_)
    obtain ⟨h_r2_q46948_0, h_r2_q46948_1, h_r2_q46948_2, h_r2_q46948_3, -⟩ := h_r2_q46948
    have t_46949 := KX12.i1 h_r2_q46948_3
    have t_46950 := KX12.i1 k_I0
    refine wq_bz (by omega) ?_
    have b_46951 := i32b x2
    exact wq_s ⟨(show (r2_q46948.1.toInt = 0 ∨ (r2_q46948.1.toInt = 1 ∧ ((0 ≤ x1.toInt ∧ x1.toInt ≤ 1) ∨ (x1.toInt = 2 ∧ 0 ≤ x2.toInt ∧ x2.toInt ≤ 6 ∧ x2.toInt < (r2_q46948.2.1 1).toInt)))) from by omega), (show (r2_q46948.2.1 1).toInt = (I0 1).toInt from by omega), (show 0 ≤ r2_q46948.1.toInt ∧ r2_q46948.1.toInt ≤ 1 from ⟨by omega, by omega⟩), h_r2_q46948_3, trivial⟩
  · refine wq_lt (fun hc_46952 => ?_) (fun hc_46953 => ?_)
    · have l_1 := il_1
      refine wq_b (tt_fX12_right hN I0 L0 M0 (1 : Int32) (1 : Int32) ⟨by omega, by omega⟩ k_I0) (fun r3_q46954 h_r3_q46954 => ?_)
      obtain ⟨h_r3_q46954_0, h_r3_q46954_1, h_r3_q46954_2, h_r3_q46954_3, -⟩ := h_r3_q46954
      have t_46955 := KX12.i1 h_r3_q46954_3
      have t_46956 := KX12.i1 k_I0
      refine wq_bz (by omega) ?_
      have b_46957 := i32b x2
      exact wq_s ⟨(show (r3_q46954.1.toInt = 0 ∨ (r3_q46954.1.toInt = 1 ∧ ((0 ≤ x1.toInt ∧ x1.toInt ≤ 1) ∨ (x1.toInt = 2 ∧ 0 ≤ x2.toInt ∧ x2.toInt ≤ 6 ∧ x2.toInt < (r3_q46954.2.1 1).toInt)))) from by omega), (show (r3_q46954.2.1 1).toInt = (I0 1).toInt from by omega), (show 0 ≤ r3_q46954.1.toInt ∧ r3_q46954.1.toInt ≤ 1 from ⟨by omega, by omega⟩), h_r3_q46954_3, trivial⟩
    · have b_46958 := i32b x2
      refine wq_lt (fun hc_46959 => ?_) (fun hc_46960 => ?_)
      · have l_1 := il_1
        refine wq_b (tt_fX12_right hN I0 L0 M0 (0 : Int32) (1 : Int32) ⟨by omega, by omega⟩ k_I0) (fun r4_q46961 h_r4_q46961 => ?_)
        obtain ⟨h_r4_q46961_0, h_r4_q46961_1, h_r4_q46961_2, h_r4_q46961_3, -⟩ := h_r4_q46961
        have t_46962 := KX12.i1 h_r4_q46961_3
        have t_46963 := KX12.i1 k_I0
        refine wq_bz (by omega) ?_
        exact wq_s ⟨(show (r4_q46961.1.toInt = 0 ∨ (r4_q46961.1.toInt = 1 ∧ ((0 ≤ x1.toInt ∧ x1.toInt ≤ 1) ∨ (x1.toInt = 2 ∧ 0 ≤ x2.toInt ∧ x2.toInt ≤ 6 ∧ x2.toInt < (r4_q46961.2.1 1).toInt)))) from by omega), (show (r4_q46961.2.1 1).toInt = (I0 1).toInt from by omega), (show 0 ≤ r4_q46961.1.toInt ∧ r4_q46961.1.toInt ≤ 1 from ⟨by omega, by omega⟩), h_r4_q46961_3, trivial⟩
      · have t_46964 := KX12.i1 k_I0
        refine wq_le (fun hc_46965 => ?_) (fun hc_46966 => ?_)
        · have l_1 := il_1
          refine wq_b (tt_fX12_right hN I0 L0 M0 (0 : Int32) (1 : Int32) ⟨by omega, by omega⟩ k_I0) (fun r5_q46967 h_r5_q46967 => ?_)
          obtain ⟨h_r5_q46967_0, h_r5_q46967_1, h_r5_q46967_2, h_r5_q46967_3, -⟩ := h_r5_q46967
          have t_46968 := KX12.i1 h_r5_q46967_3
          refine wq_bz (by omega) ?_
          exact wq_s ⟨(show (r5_q46967.1.toInt = 0 ∨ (r5_q46967.1.toInt = 1 ∧ ((0 ≤ x1.toInt ∧ x1.toInt ≤ 1) ∨ (x1.toInt = 2 ∧ 0 ≤ x2.toInt ∧ x2.toInt ≤ 6 ∧ x2.toInt < (r5_q46967.2.1 1).toInt)))) from by omega), (show (r5_q46967.2.1 1).toInt = (I0 1).toInt from by omega), (show 0 ≤ r5_q46967.1.toInt ∧ r5_q46967.1.toInt ≤ 1 from ⟨by omega, by omega⟩), h_r5_q46967_3, trivial⟩
        · have l_1 := il_1
          refine wq_b (tt_fX12_right hN I0 L0 M0 (1 : Int32) (1 : Int32) ⟨by omega, by omega⟩ k_I0) (fun r6_q46969 h_r6_q46969 => ?_)
          obtain ⟨h_r6_q46969_0, h_r6_q46969_1, h_r6_q46969_2, h_r6_q46969_3, -⟩ := h_r6_q46969
          have t_46970 := KX12.i1 h_r6_q46969_3
          refine wq_bz (by omega) ?_
          exact wq_s ⟨(show (r6_q46969.1.toInt = 0 ∨ (r6_q46969.1.toInt = 1 ∧ ((0 ≤ x1.toInt ∧ x1.toInt ≤ 1) ∨ (x1.toInt = 2 ∧ 0 ≤ x2.toInt ∧ x2.toInt ≤ 6 ∧ x2.toInt < (r6_q46969.2.1 1).toInt)))) from by omega), (show (r6_q46969.2.1 1).toInt = (I0 1).toInt from by omega), (show 0 ≤ r6_q46969.1.toInt ∧ r6_q46969.1.toInt ≤ 1 from ⟨by omega, by omega⟩), h_r6_q46969_3, trivial⟩

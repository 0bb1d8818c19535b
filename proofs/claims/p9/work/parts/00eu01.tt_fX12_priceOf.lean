set_option maxHeartbeats 4000000 in
theorem tt_fX12_priceOf {N : Nat} (hN : 3000000000 ≤ N) (I0 : Nat → Int32) (L0 : Int64) (M0 : Nat → Nat → Int32) (x1 : Int32) (x2 : Int32) (x3 : Int32) (h_x1 : -1 ≤ x1.toInt ∧ x1.toInt ≤ 389) (h_x2 : -1 ≤ x2.toInt ∧ x2.toInt ≤ 389) (k_I0 : KX12 I0 M0) : wq (fX12_priceOf N I0 L0 M0 x1 x2 x3) (fun r => (0 ≤ r.toInt ∧ r.toInt ≤ 4) ∧ True) := by
  unfold fX12_priceOf
  refine wq_eq (fun hc_52120 => ?_) (fun hc_52121 => ?_)
  · have l_0 := il_0
    exact wq_s ⟨(show 0 ≤ (0 : Int32).toInt ∧ (0 : Int32).toInt ≤ 4 from ⟨by omega, by omega⟩), trivial⟩
  · have l_m1 := il_m1
    refine wq_eq (fun hc_52122 => ?_) (fun hc_52123 => ?_)
    · have l_1 := il_1
      exact wq_s ⟨(show 0 ≤ (1 : Int32).toInt ∧ (1 : Int32).toInt ≤ 4 from ⟨by omega, by omega⟩), trivial⟩
    · refine wq_eq (fun hc_52124 => ?_) (fun hc_52125 => ?_)
      · have l_4 := il_4
        exact wq_s ⟨(show 0 ≤ (4 : Int32).toInt ∧ (4 : Int32).toInt ≤ 4 from ⟨by omega, by omega⟩), trivial⟩
      · have b_52126 := i32b x3
        have l_21 := il_21
        refine wq_eq (fun hc_52127 => ?_) (fun hc_52128 => ?_)
        · have l_3 := il_3
          exact wq_s ⟨(show 0 ≤ (3 : Int32).toInt ∧ (3 : Int32).toInt ≤ 4 from ⟨by omega, by omega⟩), trivial⟩
        · refine wq_b (tt_fX12_costOf hN I0 L0 M0 x2 x1 ⟨by omega, by omega⟩ k_I0) (fun r1_q52129 h_r1_q52129 => ?_)
          obtain ⟨h_r1_q52129_0, -⟩ := h_r1_q52129
          have l_1 := il_1
          refine wq_eq (fun hc_52130 => ?_) (fun hc_52131 => ?_)
          · exact wq_s ⟨(show 0 ≤ (1 : Int32).toInt ∧ (1 : Int32).toInt ≤ 4 from ⟨by omega, by omega⟩), trivial⟩
          · have l_3 := il_3
            exact wq_s ⟨(show 0 ≤ (3 : Int32).toInt ∧ (3 : Int32).toInt ≤ 4 from ⟨by omega, by omega⟩), trivial⟩

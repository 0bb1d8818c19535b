set_option maxHeartbeats 4000000 in
theorem tt_fX12_beside {N : Nat} (hN : 3000000000 ≤ N) (I0 : Nat → Int32) (L0 : Int64) (M0 : Nat → Nat → Int32) (x1 : Int32) (x2 : Int32) (h_x1 : 0 ≤ x1.toInt ∧ x1.toInt ≤ 389) (k_I0 : KX12 I0 M0) : wq (fX12_beside N I0 L0 M0 x1 x2) (fun r => (0 ≤ r.toInt ∧ r.toInt ≤ 9) ∧ True) := by
  unfold fX12_beside
  have b_27025 := i32b x2
  refine wq_eq (fun hc_27026 => ?_) (fun hc_27027 => ?_)
  · have l_0 := il_0
    exact wq_s ⟨(show 0 ≤ (0 : Int32).toInt ∧ (0 : Int32).toInt ≤ 9 from ⟨by omega, by omega⟩), trivial⟩
  · have l_30 := il_30
    have t_27028 := ia_div x1 (30 : Int32) 30 il_30 (by decide) (by omega)
    have t_27029 := i32b x2
    have t_27030 := ia_div2 x2 (30 : Int32) 30 il_30 (by decide)
    refine wq_eq (fun hc_27031 => ?_) (fun hc_27032 => ?_)
    · have t_27033 := ia_rem x1 (30 : Int32) 30 il_30 (by decide) (by omega)
      have t_27034 := ia_rem2 x2 (30 : Int32) 30 il_30 (by decide)
      refine wq_b (tt_fX12_isHand hN I0 L0 M0 (x1 - ((x1 / (30 : Int32)) * (30 : Int32))) (x2 - ((x2 / (30 : Int32)) * (30 : Int32))) k_I0) (fun r2_q27035 h_r2_q27035 => ?_)
      obtain ⟨h_r2_q27035_0, -⟩ := h_r2_q27035
      have l_0 := il_0
      refine wq_eq (fun hc_27036 => ?_) (fun hc_27037 => ?_)
      · have l_9 := il_9
        exact wq_s ⟨(show 0 ≤ (9 : Int32).toInt ∧ (9 : Int32).toInt ≤ 9 from ⟨by omega, by omega⟩), trivial⟩
      · have l_1 := il_1
        exact wq_s ⟨(show 0 ≤ (1 : Int32).toInt ∧ (1 : Int32).toInt ≤ 9 from ⟨by omega, by omega⟩), trivial⟩
    · have t_27038 := ia_rem x1 (30 : Int32) 30 il_30 (by decide) (by omega)
      have t_27039 := ia_rem2 x2 (30 : Int32) 30 il_30 (by decide)
      refine wq_eq (fun hc_27040 => ?_) (fun hc_27041 => ?_)
      · refine wq_b (tt_fX12_isHand hN I0 L0 M0 (x1 / (30 : Int32)) (x2 / (30 : Int32)) k_I0) (fun r1_q27042 h_r1_q27042 => ?_)
        obtain ⟨h_r1_q27042_0, -⟩ := h_r1_q27042
        have l_0 := il_0
        refine wq_eq (fun hc_27043 => ?_) (fun hc_27044 => ?_)
        · have l_9 := il_9
          exact wq_s ⟨(show 0 ≤ (9 : Int32).toInt ∧ (9 : Int32).toInt ≤ 9 from ⟨by omega, by omega⟩), trivial⟩
        · have l_2 := il_2
          exact wq_s ⟨(show 0 ≤ (2 : Int32).toInt ∧ (2 : Int32).toInt ≤ 9 from ⟨by omega, by omega⟩), trivial⟩
      · have l_9 := il_9
        exact wq_s ⟨(show 0 ≤ (9 : Int32).toInt ∧ (9 : Int32).toInt ≤ 9 from ⟨by omega, by omega⟩), trivial⟩
set_option maxHeartbeats 4000000 in
theorem tt_fX12_costOf {N : Nat} (hN : 3000000000 ≤ N) (I0 : Nat → Int32) (L0 : Int64) (M0 : Nat → Nat → Int32) (x1 : Int32) (x2 : Int32) (h_x1 : 0 ≤ x1.toInt ∧ x1.toInt ≤ 389) (k_I0 : KX12 I0 M0) : wq (fX12_costOf N I0 L0 M0 x1 x2) (fun r => (0 ≤ r.toInt ∧ r.toInt ≤ 9) ∧ True) := by
  unfold fX12_costOf
  have b_27069 := i32b x2
  refine wq_b (tt_fX12_beside hN I0 L0 M0 x1 x2 ⟨by omega, by omega⟩ k_I0) (fun r1_q27070 h_r1_q27070 => ?_)
  obtain ⟨h_r1_q27070_0, -⟩ := h_r1_q27070
  have l_2 := il_2
  refine wq_eq (fun hc_27071 => ?_) (fun hc_27072 => ?_)
  · have l_1 := il_1
    exact wq_s ⟨(show 0 ≤ (1 : Int32).toInt ∧ (1 : Int32).toInt ≤ 9 from ⟨by omega, by omega⟩), trivial⟩
  · exact wq_s ⟨(show 0 ≤ r1_q27070.toInt ∧ r1_q27070.toInt ≤ 9 from ⟨by omega, by omega⟩), trivial⟩
set_option maxHeartbeats 4000000 in
theorem tt_fX12_costOn_L37 {N : Nat} (hN : 3000000000 ≤ N) (I0 : Nat → Int32) (L0 : Int64) (M0 : Nat → Nat → Int32) (x1 : Int32) (x2 : Int32) (x3 : Int32) (x4 : Int32) (h_x1 : 0 ≤ x1.toInt ∧ x1.toInt ≤ 119) (h_x2 : 0 ≤ x2.toInt ∧ x2.toInt ≤ 3) (k_I0 : KX12 I0 M0)  : ∀ (fu : Nat) (y37_5 : Int32) (y37_6 : Int32), (0 ≤ y37_5.toInt ∧ y37_5.toInt ≤ 93) → (0 ≤ y37_6.toInt ∧ y37_6.toInt ≤ 7) → (y37_5.toInt ≤ 30 + 9 * y37_6.toInt) → (7 - y37_6.toInt) < (fu : Int) → wq (fX12_costOn_L37 N I0 L0 M0 x1 x2 x3 x4 fu y37_5 y37_6) (fun r => (0 ≤ r.toInt ∧ r.toInt ≤ 93) ∧ True) := by
  intro fu
  induction fu with
  | zero => intro y37_5 y37_6 h_y37_5 h_y37_6 hl_2 hm; exfalso; omega
  | succ fu ih =>
    intro y37_5 y37_6 h_y37_5 h_y37_6 hl_2 hm
    rw [fX12_costOn_L37.eq_2]
    have l_7 := il_7
    refine wq_le (fun hc_27436 => ?_) (fun hc_27437 => ?_)
    · exact wq_s ⟨(show 0 ≤ y37_5.toInt ∧ y37_5.toInt ≤ 93 from ⟨by omega, by omega⟩), trivial⟩
    · have b_27438 := i32b x4
      refine wq_lt (fun hc_27439 => ?_) (fun hc_27440 => ?_)
      · exact wq_s ⟨(show 0 ≤ y37_5.toInt ∧ y37_5.toInt ≤ 93 from ⟨by omega, by omega⟩), trivial⟩
      · refine wq_b (tt_fX12_at hN I0 L0 M0 x1 y37_6 ⟨by omega, by omega⟩ ⟨by omega, by omega⟩ k_I0) (fun r1_q27441 h_r1_q27441 => ?_)
        obtain ⟨h_r1_q27441_0, h_r1_q27441_1, h_r1_q27441_2, -⟩ := h_r1_q27441
        have l_m1 := il_m1
        refine wq_eq (fun hc_27442 => ?_) (fun hc_27443 => ?_)
        · have l_1 := il_1
          have t_27445 := ia_add y37_6 (1 : Int32) (by omega) (by omega)
          refine wq_v (fun v2_q27444 h_v2_q27444 => ?_)
          have t_v2_q27444 := congrArg Int32.toInt h_v2_q27444
          exact ih y37_5 v2_q27444 ⟨by omega, by omega⟩ ⟨by omega, by omega⟩ (by omega) (by omega)
        · refine wq_b (tt_fX12_at hN I0 L0 M0 x1 y37_6 ⟨by omega, by omega⟩ ⟨by omega, by omega⟩ k_I0) (fun r3_q27446 h_r3_q27446 => ?_)
          obtain ⟨h_r3_q27446_0, h_r3_q27446_1, h_r3_q27446_2, -⟩ := h_r3_q27446
          have b_27447 := i32b x3
          refine wq_b (tt_fX12_placeOn hN I0 L0 M0 x2 y37_6 x3 ⟨by omega, by omega⟩ ⟨by omega, by omega⟩ k_I0) (fun r4_q27448 h_r4_q27448 => ?_)
          obtain ⟨-⟩ := h_r4_q27448
          have b_27449 := i32b r4_q27448
          have l_60 := il_60
          have t_27450 := i32b r4_q27448
          have t_27451 := ia_div2 r4_q27448 (60 : Int32) 60 il_60 (by decide)
          refine wq_b (tt_fX12_costOf hN I0 L0 M0 r3_q27446 (r4_q27448 / (60 : Int32)) ⟨by omega, by omega⟩ k_I0) (fun r5_q27452 h_r5_q27452 => ?_)
          obtain ⟨h_r5_q27452_0, -⟩ := h_r5_q27452
          have t_27454 := ia_add y37_5 r5_q27452 (by omega) (by omega)
          refine wq_v (fun v6_q27453 h_v6_q27453 => ?_)
          have t_v6_q27453 := congrArg Int32.toInt h_v6_q27453
          have l_1 := il_1
          have t_27456 := ia_add y37_6 (1 : Int32) (by omega) (by omega)
          refine wq_v (fun v7_q27455 h_v7_q27455 => ?_)
          have t_v7_q27455 := congrArg Int32.toInt h_v7_q27455
          exact ih v6_q27453 v7_q27455 ⟨by omega, by omega⟩ ⟨by omega, by omega⟩ (by omega) (by omega)
set_option maxHeartbeats 4000000 in
theorem tt_fX12_costOn {N : Nat} (hN : 3000000000 ≤ N) (I0 : Nat → Int32) (L0 : Int64) (M0 : Nat → Nat → Int32) (x1 : Int32) (x2 : Int32) (x3 : Int32) (x4 : Int32) (h_x1 : 0 ≤ x1.toInt ∧ x1.toInt ≤ 119) (h_x2 : 0 ≤ x2.toInt ∧ x2.toInt ≤ 3) (k_I0 : KX12 I0 M0) : wq (fX12_costOn N I0 L0 M0 x1 x2 x3 x4) (fun r => (0 ≤ r.toInt ∧ r.toInt ≤ 93) ∧ True) := by
  unfold fX12_costOn
  have l_21 := il_21
  refine wq_b (tt_fX12_at hN I0 L0 M0 x1 (21 : Int32) ⟨by omega, by omega⟩ ⟨by omega, by omega⟩ k_I0) (fun r8_q27457 h_r8_q27457 => ?_)
  obtain ⟨h_r8_q27457_0, h_r8_q27457_1, h_r8_q27457_2, -⟩ := h_r8_q27457
  have l_m1 := il_m1
  refine wq_eq (fun hc_27458 => ?_) (fun hc_27459 => ?_)
  · unfold fX12_costOn_J31
    unfold fX12_costOn_J32
    have b_27460 := i32b x3
    have b_27461 := i32b x4
    have l_0 := il_0
    exact tt_fX12_costOn_L37 hN I0 L0 M0 x1 x2 x3 x4 ⟨by omega, by omega⟩ ⟨by omega, by omega⟩ k_I0 N (0 : Int32) (0 : Int32) ⟨by omega, by omega⟩ ⟨by omega, by omega⟩ (by omega) (by omega)
  · refine wq_b (tt_fX12_at hN I0 L0 M0 x1 (21 : Int32) ⟨by omega, by omega⟩ ⟨by omega, by omega⟩ k_I0) (fun r9b_q27462 h_r9b_q27462 => ?_)
    obtain ⟨h_r9b_q27462_0, h_r9b_q27462_1, h_r9b_q27462_2, -⟩ := h_r9b_q27462
    have b_27463 := i32b x3
    have l_365 := il_365
    have t_27464 := ia_rem2 x3 (365 : Int32) 365 il_365 (by decide)
    refine wq_eq (fun hc_27465 => ?_) (fun hc_27466 => ?_)
    · unfold fX12_costOn_J31
      unfold fX12_costOn_J32
      have b_27467 := i32b x4
      have l_0 := il_0
      exact tt_fX12_costOn_L37 hN I0 L0 M0 x1 x2 x3 x4 ⟨by omega, by omega⟩ ⟨by omega, by omega⟩ k_I0 N (0 : Int32) (0 : Int32) ⟨by omega, by omega⟩ ⟨by omega, by omega⟩ (by omega) (by omega)
    · unfold fX12_costOn_J32
      have b_27468 := i32b x4
      have l_30 := il_30
      have l_0 := il_0
      exact tt_fX12_costOn_L37 hN I0 L0 M0 x1 x2 x3 x4 ⟨by omega, by omega⟩ ⟨by omega, by omega⟩ k_I0 N (30 : Int32) (0 : Int32) ⟨by omega, by omega⟩ ⟨by omega, by omega⟩ (by omega) (by omega)
set_option maxHeartbeats 4000000 in
theorem tt_fX12_cost {N : Nat} (hN : 3000000000 ≤ N) (I0 : Nat → Int32) (L0 : Int64) (M0 : Nat → Nat → Int32) (x1 : Int32) (x2 : Int32) (x3 : Int32) (x4 : Int32) (k_I0 : KX12 I0 M0) : wq (fX12_cost N I0 L0 M0 x1 x2 x3 x4) (fun r => (0 ≤ r.1.toInt ∧ r.1.toInt ≤ 93) ∧ KX12 r.2.1 r.2.2.2 ∧ True) := by
  unfold fX12_cost
  have b_27691 := i32b x1
  have b_27692 := i32b x2
  refine wq_b (tt_fX12_isWheel hN I0 L0 M0 x1 x2 k_I0) (fun r3_q27693 h_r3_q27693 => ?_)
  obtain ⟨h_r3_q27693_0, h_r3_q27693_1, h_r3_q27693_2, h_r3_q27693_3, -⟩ := h_r3_q27693
  have t_27694 := KX12.i1 h_r3_q27693_3
  have t_27695 := KX12.i1 k_I0
  have l_0 := il_0
  refine wq_eq (fun hc_27696 => ?_) (fun hc_27697 => ?_)
  · exact wq_s ⟨(show 0 ≤ (0 : Int32).toInt ∧ (0 : Int32).toInt ≤ 93 from ⟨by omega, by omega⟩), h_r3_q27693_3, trivial⟩
  · have b_27698 := i32b x3
    have l_3 := il_3
    refine wq_b (tt_fX12_within hN x3 (0 : Int32) (3 : Int32)) (fun r4_q27699 h_r4_q27699 => ?_)
    obtain ⟨h_r4_q27699_0, h_r4_q27699_1, -⟩ := h_r4_q27699
    refine wq_eq (fun hc_27700 => ?_) (fun hc_27701 => ?_)
    · unfold fX12_cost_J34
      unfold fX12_cost_J35
      have l_1 := il_1
      refine wq_b (tt_fX12_right hN r3_q27693.2.1 r3_q27693.2.2.1 r3_q27693.2.2.2 (0 : Int32) (1 : Int32) ⟨by omega, by omega⟩ h_r3_q27693_3) (fun r1_q27702 h_r1_q27702 => ?_)
      obtain ⟨h_r1_q27702_0, h_r1_q27702_1, h_r1_q27702_2, h_r1_q27702_3, -⟩ := h_r1_q27702
      have t_27703 := KX12.i1 h_r1_q27702_3
      refine wq_eq (fun hc_27704 => ?_) (fun hc_27705 => ?_)
      · exact wq_s ⟨(show 0 ≤ (0 : Int32).toInt ∧ (0 : Int32).toInt ≤ 93 from ⟨by omega, by omega⟩), h_r1_q27702_3, trivial⟩
      · have l_20 := il_20
        have t_27706 := ia_mul (20 : Int32) (20) il_20 x1 (by omega) (by omega)
        have t_27707 := ia_add ((20 : Int32) * x1) x2 (by omega) (by omega)
        have b_27708 := i32b x4
        have l_999 := il_999
        refine wq_b (tt_fX12_costOn hN r1_q27702.2.1 r1_q27702.2.2.1 r1_q27702.2.2.2 (((20 : Int32) * x1) + x2) x3 x4 (999 : Int32) ⟨by omega, by omega⟩ ⟨by omega, by omega⟩ h_r1_q27702_3) (fun r2_q27709 h_r2_q27709 => ?_)
        obtain ⟨h_r2_q27709_0, -⟩ := h_r2_q27709
        exact wq_s ⟨(show 0 ≤ r2_q27709.toInt ∧ r2_q27709.toInt ≤ 93 from ⟨by omega, by omega⟩), h_r1_q27702_3, trivial⟩
    · have b_27710 := i32b x4
      have l_1000000 := il_1000000
      refine wq_b (tt_fX12_within hN x4 (0 : Int32) (1000000 : Int32)) (fun r5_q27711 h_r5_q27711 => ?_)
      obtain ⟨h_r5_q27711_0, h_r5_q27711_1, -⟩ := h_r5_q27711
      refine wq_eq (fun hc_27712 => ?_) (fun hc_27713 => ?_)
      · unfold fX12_cost_J34
        unfold fX12_cost_J35
        have l_1 := il_1
        refine wq_b (tt_fX12_right hN r3_q27693.2.1 r3_q27693.2.2.1 r3_q27693.2.2.2 (0 : Int32) (1 : Int32) ⟨by omega, by omega⟩ h_r3_q27693_3) (fun r1_q27714 h_r1_q27714 => ?_)
        obtain ⟨h_r1_q27714_0, h_r1_q27714_1, h_r1_q27714_2, h_r1_q27714_3, -⟩ := h_r1_q27714
        have t_27715 := KX12.i1 h_r1_q27714_3
        refine wq_eq (fun hc_27716 => ?_) (fun hc_27717 => ?_)
        · exact wq_s ⟨(show 0 ≤ (0 : Int32).toInt ∧ (0 : Int32).toInt ≤ 93 from ⟨by omega, by omega⟩), h_r1_q27714_3, trivial⟩
        · have l_20 := il_20
          have t_27718 := ia_mul (20 : Int32) (20) il_20 x1 (by omega) (by omega)
          have t_27719 := ia_add ((20 : Int32) * x1) x2 (by omega) (by omega)
          have l_999 := il_999
          refine wq_b (tt_fX12_costOn hN r1_q27714.2.1 r1_q27714.2.2.1 r1_q27714.2.2.2 (((20 : Int32) * x1) + x2) x3 x4 (999 : Int32) ⟨by omega, by omega⟩ ⟨by omega, by omega⟩ h_r1_q27714_3) (fun r2_q27720 h_r2_q27720 => ?_)
          obtain ⟨h_r2_q27720_0, -⟩ := h_r2_q27720
          exact wq_s ⟨(show 0 ≤ r2_q27720.toInt ∧ r2_q27720.toInt ≤ 93 from ⟨by omega, by omega⟩), h_r1_q27714_3, trivial⟩
      · unfold fX12_cost_J35
        have l_1 := il_1
        refine wq_b (tt_fX12_right hN r3_q27693.2.1 r3_q27693.2.2.1 r3_q27693.2.2.2 (1 : Int32) (1 : Int32) ⟨by omega, by omega⟩ h_r3_q27693_3) (fun r1_q27721 h_r1_q27721 => ?_)
        obtain ⟨h_r1_q27721_0, h_r1_q27721_1, h_r1_q27721_2, h_r1_q27721_3, -⟩ := h_r1_q27721
        have t_27722 := KX12.i1 h_r1_q27721_3
        refine wq_eq (fun hc_27723 => ?_) (fun hc_27724 => ?_)
        · exact wq_s ⟨(show 0 ≤ (0 : Int32).toInt ∧ (0 : Int32).toInt ≤ 93 from ⟨by omega, by omega⟩), h_r1_q27721_3, trivial⟩
        · have l_20 := il_20
          have t_27725 := ia_mul (20 : Int32) (20) il_20 x1 (by omega) (by omega)
          have t_27726 := ia_add ((20 : Int32) * x1) x2 (by omega) (by omega)
          have l_999 := il_999
          refine wq_b (tt_fX12_costOn hN r1_q27721.2.1 r1_q27721.2.2.1 r1_q27721.2.2.2 (((20 : Int32) * x1) + x2) x3 x4 (999 : Int32) ⟨by omega, by omega⟩ ⟨by omega, by omega⟩ h_r1_q27721_3) (fun r2_q27727 h_r2_q27727 => ?_)
          obtain ⟨h_r2_q27727_0, -⟩ := h_r2_q27727
          exact wq_s ⟨(show 0 ≤ r2_q27727.toInt ∧ r2_q27727.toInt ≤ 93 from ⟨by omega, by omega⟩), h_r1_q27721_3, trivial⟩
set_option maxHeartbeats 4000000 in
theorem tt_fX12_isSpan {N : Nat} (hN : 3000000000 ≤ N) (I0 : Nat → Int32) (L0 : Int64) (M0 : Nat → Nat → Int32) (x1 : Int32) (x2 : Int32) (k_I0 : KX12 I0 M0) : wq (fX12_isSpan N I0 L0 M0 x1 x2) (fun r => (r.1.toInt = 0 ∨ (r.1.toInt = 1 ∧ 0 ≤ x1.toInt ∧ x1.toInt ≤ 1000000 ∧ 0 ≤ x2.toInt ∧ x2.toInt ≤ 50000 ∧ x1.toInt + x2.toInt ≤ 1000000)) ∧ (r.2.1 1).toInt = (I0 1).toInt ∧ (0 ≤ r.1.toInt ∧ r.1.toInt ≤ 1) ∧ KX12 r.2.1 r.2.2.2 ∧ True) := by
  unfold fX12_isSpan
  have b_27884 := i32b x1
  have l_0 := il_0
  have l_1000000 := il_1000000
  refine wq_b (tt_fX12_within hN x1 (0 : Int32) (1000000 : Int32)) (fun r2_q27885 h_r2_q27885 => ?_)
  obtain ⟨h_r2_q27885_0, h_r2_q27885_1, -⟩ := h_r2_q27885
  have l_1 := il_1
  refine wq_b (tt_fX12_right hN I0 L0 M0 r2_q27885 (1 : Int32) ⟨by omega, by omega⟩ k_I0) (fun r3_q27886 h_r3_q27886 => ?_)
  obtain ⟨h_r3_q27886_0, h_r3_q27886_1, h_r3_q27886_2, h_r3_q27886_3, -⟩ := h_r3_q27886
  have t_27887 := KX12.i1 h_r3_q27886_3
  have t_27888 := KX12.i1 k_I0
  refine wq_eq (fun hc_27889 => ?_) (fun hc_27890 => ?_)
  · have b_27891 := i32b x2
    exact wq_s ⟨(show ((0 : Int32).toInt = 0 ∨ ((0 : Int32).toInt = 1 ∧ 0 ≤ x1.toInt ∧ x1.toInt ≤ 1000000 ∧ 0 ≤ x2.toInt ∧ x2.toInt ≤ 50000 ∧ x1.toInt + x2.toInt ≤ 1000000)) from by omega), (show (r3_q27886.2.1 1).toInt = (I0 1).toInt from by omega), (show 0 ≤ (0 : Int32).toInt ∧ (0 : Int32).toInt ≤ 1 from ⟨by omega, by omega⟩), h_r3_q27886_3, trivial⟩
  · have b_27892 := i32b x2
    have l_50000 := il_50000
    refine wq_b (tt_fX12_within hN x2 (0 : Int32) (50000 : Int32)) (fun r4_q27893 h_r4_q27893 => ?_)
    obtain ⟨h_r4_q27893_0, h_r4_q27893_1, -⟩ := h_r4_q27893
    refine wq_eq (fun hc_27894 => ?_) (fun hc_27895 => ?_)
    · unfold fX12_isSpan_J39
      have l_2 := il_2
      refine wq_b (tt_fX12_right hN r3_q27886.2.1 r3_q27886.2.2.1 r3_q27886.2.2.2 (0 : Int32) (2 : Int32) ⟨by omega, by omega⟩ h_r3_q27886_3) (fun r1_q27896 h_r1_q27896 => ?_)
      obtain ⟨h_r1_q27896_0, h_r1_q27896_1, h_r1_q27896_2, h_r1_q27896_3, -⟩ := h_r1_q27896
      have t_27897 := KX12.i1 h_r1_q27896_3
      refine wq_eq (fun hc_27898 => ?_) (fun hc_27899 => ?_)
      · exact wq_s ⟨(show ((0 : Int32).toInt = 0 ∨ ((0 : Int32).toInt = 1 ∧ 0 ≤ x1.toInt ∧ x1.toInt ≤ 1000000 ∧ 0 ≤ x2.toInt ∧ x2.toInt ≤ 50000 ∧ x1.toInt + x2.toInt ≤ 1000000)) from by omega), (show (r1_q27896.2.1 1).toInt = (I0 1).toInt from by omega), (show 0 ≤ (0 : Int32).toInt ∧ (0 : Int32).toInt ≤ 1 from ⟨by omega, by omega⟩), h_r1_q27896_3, trivial⟩
      · exact wq_s ⟨(show ((1 : Int32).toInt = 0 ∨ ((1 : Int32).toInt = 1 ∧ 0 ≤ x1.toInt ∧ x1.toInt ≤ 1000000 ∧ 0 ≤ x2.toInt ∧ x2.toInt ≤ 50000 ∧ x1.toInt + x2.toInt ≤ 1000000)) from by omega), (show (r1_q27896.2.1 1).toInt = (I0 1).toInt from by omega), (show 0 ≤ (1 : Int32).toInt ∧ (1 : Int32).toInt ≤ 1 from ⟨by omega, by omega⟩), h_r1_q27896_3, trivial⟩
    · have t_27900 := ia_add x1 x2 (by omega) (by omega)
      refine wq_lt (fun hc_27901 => ?_) (fun hc_27902 => ?_)
      · unfold fX12_isSpan_J39
        have l_2 := il_2
        refine wq_b (tt_fX12_right hN r3_q27886.2.1 r3_q27886.2.2.1 r3_q27886.2.2.2 (0 : Int32) (2 : Int32) ⟨by omega, by omega⟩ h_r3_q27886_3) (fun r1_q27903 h_r1_q27903 => ?_)
        obtain ⟨h_r1_q27903_0, h_r1_q27903_1, h_r1_q27903_2, h_r1_q27903_3, -⟩ := h_r1_q27903
        have t_27904 := KX12.i1 h_r1_q27903_3
        refine wq_eq (fun hc_27905 => ?_) (fun hc_27906 => ?_)
        · exact wq_s ⟨(show ((0 : Int32).toInt = 0 ∨ ((0 : Int32).toInt = 1 ∧ 0 ≤ x1.toInt ∧ x1.toInt ≤ 1000000 ∧ 0 ≤ x2.toInt ∧ x2.toInt ≤ 50000 ∧ x1.toInt + x2.toInt ≤ 1000000)) from by omega), (show (r1_q27903.2.1 1).toInt = (I0 1).toInt from by omega), (show 0 ≤ (0 : Int32).toInt ∧ (0 : Int32).toInt ≤ 1 from ⟨by omega, by omega⟩), h_r1_q27903_3, trivial⟩
        · exact wq_s ⟨(show ((1 : Int32).toInt = 0 ∨ ((1 : Int32).toInt = 1 ∧ 0 ≤ x1.toInt ∧ x1.toInt ≤ 1000000 ∧ 0 ≤ x2.toInt ∧ x2.toInt ≤ 50000 ∧ x1.toInt + x2.toInt ≤ 1000000)) from by omega), (show (r1_q27903.2.1 1).toInt = (I0 1).toInt from by omega), (show 0 ≤ (1 : Int32).toInt ∧ (1 : Int32).toInt ≤ 1 from ⟨by omega, by omega⟩), h_r1_q27903_3, trivial⟩
      · have l_2 := il_2
        refine wq_b (tt_fX12_right hN r3_q27886.2.1 r3_q27886.2.2.1 r3_q27886.2.2.2 (1 : Int32) (2 : Int32) ⟨by omega, by omega⟩ h_r3_q27886_3) (fun r5_q27907 h_r5_q27907 => ?_)
        obtain ⟨h_r5_q27907_0, h_r5_q27907_1, h_r5_q27907_2, h_r5_q27907_3, -⟩ := h_r5_q27907
        have t_27908 := KX12.i1 h_r5_q27907_3
        refine wq_eq (fun hc_27909 => ?_) (fun hc_27910 => ?_)
        · exact wq_s ⟨(show ((0 : Int32).toInt = 0 ∨ ((0 : Int32).toInt = 1 ∧ 0 ≤ x1.toInt ∧ x1.toInt ≤ 1000000 ∧ 0 ≤ x2.toInt ∧ x2.toInt ≤ 50000 ∧ x1.toInt + x2.toInt ≤ 1000000)) from by omega), (show (r5_q27907.2.1 1).toInt = (I0 1).toInt from by omega), (show 0 ≤ (0 : Int32).toInt ∧ (0 : Int32).toInt ≤ 1 from ⟨by omega, by omega⟩), h_r5_q27907_3, trivial⟩
        · exact wq_s ⟨(show ((1 : Int32).toInt = 0 ∨ ((1 : Int32).toInt = 1 ∧ 0 ≤ x1.toInt ∧ x1.toInt ≤ 1000000 ∧ 0 ≤ x2.toInt ∧ x2.toInt ≤ 50000 ∧ x1.toInt + x2.toInt ≤ 1000000)) from by omega), (show (r5_q27907.2.1 1).toInt = (I0 1).toInt from by omega), (show 0 ≤ (1 : Int32).toInt ∧ (1 : Int32).toInt ≤ 1 from ⟨by omega, by omega⟩), h_r5_q27907_3, trivial⟩
set_option maxHeartbeats 4000000 in
theorem tt_fX12_best_L45 {N : Nat} (hN : 3000000000 ≤ N) (x1 : Int32) (x2 : Int32) (x3 : Int32) (x4 : Int32) (x5 : Int32) (h_x1 : 0 ≤ x1.toInt ∧ x1.toInt ≤ 5) (h_x2 : 0 ≤ x2.toInt ∧ x2.toInt ≤ 19) (h_x3 : 0 ≤ x3.toInt ∧ x3.toInt ≤ 3) (h_x4 : 0 ≤ x4.toInt ∧ x4.toInt ≤ 1000000) (h_x5 : 0 ≤ x5.toInt ∧ x5.toInt ≤ 50000)  : ∀ (fu : Nat) (I0_l45 : (Nat → Int32)) (L0_l45 : Int64) (M0_l45 : (Nat → Nat → Int32)) (y45_6 : Int32) (y45_7 : Int32), (0 ≤ y45_6.toInt ∧ y45_6.toInt ≤ 999) → (0 ≤ y45_7.toInt ∧ y45_7.toInt ≤ 1050001) → (KX12 I0_l45 M0_l45) → (x4.toInt ≤ y45_7.toInt) → ((y45_6.toInt = 999 ∨ (0 ≤ (I0_l45 15).toInt ∧ (I0_l45 15).toInt ≤ y45_7.toInt - x4.toInt))) → (1050001 - y45_7.toInt) < (fu : Int) → wq (fX12_best_L45 N x1 x2 x3 x4 x5 fu I0_l45 L0_l45 M0_l45 y45_6 y45_7) (fun r => (0 ≤ r.1.toInt ∧ r.1.toInt ≤ 999) ∧ KX12 r.2.1 r.2.2.2 ∧ True) := by
  intro fu
  induction fu with
  | zero => intro I0_l45 L0_l45 M0_l45 y45_6 y45_7 h_y45_6 h_y45_7 k_I0_l45 hl_3 hl_4 hm; exfalso; omega
  | succ fu ih =>
    intro I0_l45 L0_l45 M0_l45 y45_6 y45_7 h_y45_6 h_y45_7 k_I0_l45 hl_3 hl_4 hm
    rw [fX12_best_L45.eq_2]
    have t_28345 := ia_add x4 x5 (by omega) (by omega)
    refine wq_lt (fun hc_28346 => ?_) (fun hc_28347 => ?_)
    · exact wq_s ⟨(show 0 ≤ y45_6.toInt ∧ y45_6.toInt ≤ 999 from ⟨by omega, by omega⟩), k_I0_l45, trivial⟩
    · have l_20 := il_20
      have t_28348 := ia_mul (20 : Int32) (20) il_20 x1 (by omega) (by omega)
      have t_28349 := ia_add ((20 : Int32) * x1) x2 (by omega) (by omega)
      refine wq_b (tt_fX12_costOn hN I0_l45 L0_l45 M0_l45 (((20 : Int32) * x1) + x2) x3 y45_7 y45_6 ⟨by omega, by omega⟩ ⟨by omega, by omega⟩ k_I0_l45) (fun r8_q28350 h_r8_q28350 => ?_)
      obtain ⟨h_r8_q28350_0, -⟩ := h_r8_q28350
      refine wq_le (fun hc_28351 => ?_) (fun hc_28352 => ?_)
      · refine wq_le (fun hc_28353 => ?_) (fun hc_28354 => ?_)
        · unfold fX12_best_J94
          refine wq_le (fun hc_28355 => ?_) (fun hc_28356 => ?_)
          · unfold fX12_best_J118
            refine wq_v (fun I0_5_q28357 h_I0_5_q28357 => ?_)
            have k_I0_5_q28357 : KX12 I0_5_q28357 M0_l45 := by rw [h_I0_5_q28357]; exact KX12.si15 k_I0_l45
            have l_1 := il_1
            have t_28359 := ia_add y45_7 (1 : Int32) (by omega) (by omega)
            refine wq_v (fun v6_q28358 h_v6_q28358 => ?_)
            have t_v6_q28358 := congrArg Int32.toInt h_v6_q28358
            have t_28360 := ia_add (I0_l45 15) (1 : Int32) (by omega) (by omega)
            have t_28361 : (I0_5_q28357 15).toInt = ((I0_l45 15) + (1 : Int32)).toInt := by rw [h_I0_5_q28357]; rfl
            exact ih I0_5_q28357 L0_l45 M0_l45 r8_q28350 v6_q28358 ⟨by omega, by omega⟩ ⟨by omega, by omega⟩ k_I0_5_q28357 (by omega) (by omega) (by omega)
          · refine wq_in (n := 20) ⟨by omega, by omega⟩ ?_
            refine wq_v (fun M0_7_q28362 h_M0_7_q28362 => ?_)
            have k_M0_7_q28362 : KX12 I0_l45 M0_7_q28362 := by rw [h_M0_7_q28362]; exact KX12.sm17 k_I0_l45
            unfold fX12_best_J118
            refine wq_v (fun I0_5_q28363 h_I0_5_q28363 => ?_)
            have k_I0_5_q28363 : KX12 I0_5_q28363 M0_7_q28362 := by rw [h_I0_5_q28363]; exact KX12.si15 k_M0_7_q28362
            have l_1 := il_1
            have t_28365 := ia_add y45_7 (1 : Int32) (by omega) (by omega)
            refine wq_v (fun v6_q28364 h_v6_q28364 => ?_)
            have t_v6_q28364 := congrArg Int32.toInt h_v6_q28364
            have t_28366 := ia_add (I0_l45 15) (1 : Int32) (by omega) (by omega)
            have t_28367 : (I0_5_q28363 15).toInt = ((I0_l45 15) + (1 : Int32)).toInt := by rw [h_I0_5_q28363]; rfl
            exact ih I0_5_q28363 L0_l45 M0_7_q28362 r8_q28350 v6_q28364 ⟨by omega, by omega⟩ ⟨by omega, by omega⟩ k_I0_5_q28363 (by omega) (by omega) (by omega)
        · refine wq_v (fun I0_9_q28368 h_I0_9_q28368 => ?_)
          have k_I0_9_q28368 : KX12 I0_9_q28368 M0_l45 := by rw [h_I0_9_q28368]; exact KX12.si15 k_I0_l45
          unfold fX12_best_J94
          have l_0 := il_0
          have t_28369 : (I0_9_q28368 15).toInt = (0 : Int32).toInt := by rw [h_I0_9_q28368]; rfl
          refine wq_le (fun hc_28370 => ?_) (fun hc_28371 => ?_)
          · exfalso; omega
          · refine wq_in (n := 20) ⟨by omega, by omega⟩ ?_
            refine wq_v (fun M0_7_q28372 h_M0_7_q28372 => ?_)
            have k_M0_7_q28372 : KX12 I0_9_q28368 M0_7_q28372 := by rw [h_M0_7_q28372]; exact KX12.sm17 k_I0_9_q28368
            unfold fX12_best_J118
            refine wq_v (fun I0_5_q28373 h_I0_5_q28373 => ?_)
            have k_I0_5_q28373 : KX12 I0_5_q28373 M0_7_q28372 := by rw [h_I0_5_q28373]; exact KX12.si15 k_M0_7_q28372
            have l_1 := il_1
            have t_28375 := ia_add y45_7 (1 : Int32) (by omega) (by omega)
            refine wq_v (fun v6_q28374 h_v6_q28374 => ?_)
            have t_v6_q28374 := congrArg Int32.toInt h_v6_q28374
            have t_28376 := ia_add (I0_9_q28368 15) (1 : Int32) (by omega) (by omega)
            have t_28377 : (I0_5_q28373 15).toInt = ((I0_9_q28368 15) + (1 : Int32)).toInt := by rw [h_I0_5_q28373]; rfl
            exact ih I0_5_q28373 L0_l45 M0_7_q28372 r8_q28350 v6_q28374 ⟨by omega, by omega⟩ ⟨by omega, by omega⟩ k_I0_5_q28373 (by omega) (by omega) (by omega)
      · have l_1 := il_1
        have t_28379 := ia_add y45_7 (1 : Int32) (by omega) (by omega)
        refine wq_v (fun v10_q28378 h_v10_q28378 => ?_)
        have t_v10_q28378 := congrArg Int32.toInt h_v10_q28378
        exact ih I0_l45 L0_l45 M0_l45 y45_6 v10_q28378 ⟨by omega, by omega⟩ ⟨by omega, by omega⟩ k_I0_l45 (by omega) (by omega) (by omega)
set_option maxHeartbeats 4000000 in
theorem tt_fX12_best {N : Nat} (hN : 3000000000 ≤ N) (I0 : Nat → Int32) (L0 : Int64) (M0 : Nat → Nat → Int32) (x1 : Int32) (x2 : Int32) (x3 : Int32) (x4 : Int32) (x5 : Int32) (k_I0 : KX12 I0 M0) : wq (fX12_best N I0 L0 M0 x1 x2 x3 x4 x5) (fun r => (0 ≤ r.1.toInt ∧ r.1.toInt ≤ 999) ∧ KX12 r.2.1 r.2.2.2 ∧ True) := by
  unfold fX12_best
  have b_28380 := i32b x1
  have b_28381 := i32b x2
  refine wq_b (tt_fX12_isWheel hN I0 L0 M0 x1 x2 k_I0) (fun r1_q28382 h_r1_q28382 => ?_)
  obtain ⟨h_r1_q28382_0, h_r1_q28382_1, h_r1_q28382_2, h_r1_q28382_3, -⟩ := h_r1_q28382
  have t_28383 := KX12.i1 h_r1_q28382_3
  have t_28384 := KX12.i1 k_I0
  have l_0 := il_0
  refine wq_eq (fun hc_28385 => ?_) (fun hc_28386 => ?_)
  · exact wq_s ⟨(show 0 ≤ (0 : Int32).toInt ∧ (0 : Int32).toInt ≤ 999 from ⟨by omega, by omega⟩), h_r1_q28382_3, trivial⟩
  · have b_28387 := i32b x3
    have l_3 := il_3
    refine wq_b (tt_fX12_within hN x3 (0 : Int32) (3 : Int32)) (fun r2_q28388 h_r2_q28388 => ?_)
    obtain ⟨h_r2_q28388_0, h_r2_q28388_1, -⟩ := h_r2_q28388
    have l_1 := il_1
    refine wq_b (tt_fX12_right hN r1_q28382.2.1 r1_q28382.2.2.1 r1_q28382.2.2.2 r2_q28388 (1 : Int32) ⟨by omega, by omega⟩ h_r1_q28382_3) (fun r3_q28389 h_r3_q28389 => ?_)
    obtain ⟨h_r3_q28389_0, h_r3_q28389_1, h_r3_q28389_2, h_r3_q28389_3, -⟩ := h_r3_q28389
    have t_28390 := KX12.i1 h_r3_q28389_3
    refine wq_eq (fun hc_28391 => ?_) (fun hc_28392 => ?_)
    · exact wq_s ⟨(show 0 ≤ (0 : Int32).toInt ∧ (0 : Int32).toInt ≤ 999 from ⟨by omega, by omega⟩), h_r3_q28389_3, trivial⟩
    · have b_28393 := i32b x4
      have b_28394 := i32b x5
      refine wq_b (tt_fX12_isSpan hN r3_q28389.2.1 r3_q28389.2.2.1 r3_q28389.2.2.2 x4 x5 h_r3_q28389_3) (fun r4_q28395 h_r4_q28395 => ?_)
      obtain ⟨h_r4_q28395_0, h_r4_q28395_1, h_r4_q28395_2, h_r4_q28395_3, -⟩ := h_r4_q28395
      have t_28396 := KX12.i1 h_r4_q28395_3
      refine wq_eq (fun hc_28397 => ?_) (fun hc_28398 => ?_)
      · exact wq_s ⟨(show 0 ≤ (0 : Int32).toInt ∧ (0 : Int32).toInt ≤ 999 from ⟨by omega, by omega⟩), h_r4_q28395_3, trivial⟩
      · have l_999 := il_999
        exact tt_fX12_best_L45 hN x1 x2 x3 x4 x5 ⟨by omega, by omega⟩ ⟨by omega, by omega⟩ ⟨by omega, by omega⟩ ⟨by omega, by omega⟩ ⟨by omega, by omega⟩ N r4_q28395.2.1 r4_q28395.2.2.1 r4_q28395.2.2.2 (999 : Int32) x4 ⟨by omega, by omega⟩ ⟨by omega, by omega⟩ h_r4_q28395_3 (by omega) (by omega) (by omega)
set_option maxHeartbeats 4000000 in
theorem tt_fX12_day {N : Nat} (hN : 3000000000 ≤ N) (I0 : Nat → Int32) (L0 : Int64) (M0 : Nat → Nat → Int32) (x1 : Int32) (k_I0 : KX12 I0 M0) : wq (fX12_day N I0 L0 M0 x1) (fun r => KX12 r.2.1 r.2.2.2 ∧ True) := by
  unfold fX12_day
  refine wq_v (fun I0_2_q28711 h_I0_2_q28711 => ?_)
  have k_I0_2_q28711 : KX12 I0_2_q28711 M0 := by rw [h_I0_2_q28711]; exact KX12.si0 k_I0
  have t_28712 : (I0_2_q28711 15).toInt = (I0 15).toInt := by rw [h_I0_2_q28711]; rfl
  have l_m1 := il_m1
  refine wq_eq (fun hc_28713 => ?_) (fun hc_28714 => ?_)
  · unfold fX12_day_J37
    unfold fX12_day_J38
    have l_0 := il_0
    have l_1 := il_1
    refine wq_b (tt_fX12_right hN I0_2_q28711 L0 M0 (0 : Int32) (1 : Int32) ⟨by omega, by omega⟩ k_I0_2_q28711) (fun r1_q28715 h_r1_q28715 => ?_)
    obtain ⟨h_r1_q28715_0, h_r1_q28715_1, h_r1_q28715_2, h_r1_q28715_3, -⟩ := h_r1_q28715
    have t_28716 := KX12.i1 h_r1_q28715_3
    have t_28717 := KX12.i1 k_I0
    have t_28718 : (I0_2_q28711 1).toInt = (I0 1).toInt := by rw [h_I0_2_q28711]; rfl
    refine wq_eq (fun hc_28719 => ?_) (fun hc_28720 => ?_)
    · exact wq_s ⟨h_r1_q28715_3, trivial⟩
    · have b_28721 := i32b x1
      refine wq_eq (fun hc_28722 => ?_) (fun hc_28723 => ?_)
      · exact wq_s ⟨h_r1_q28715_3, trivial⟩
      · refine wq_in (n := 20) ⟨by omega, by omega⟩ ?_
        exact wq_s ⟨h_r1_q28715_3, trivial⟩
  · have b_28724 := i32b x1
    refine wq_lt (fun hc_28725 => ?_) (fun hc_28726 => ?_)
    · unfold fX12_day_J37
      unfold fX12_day_J38
      have l_0 := il_0
      have l_1 := il_1
      refine wq_b (tt_fX12_right hN I0_2_q28711 L0 M0 (0 : Int32) (1 : Int32) ⟨by omega, by omega⟩ k_I0_2_q28711) (fun r1_q28727 h_r1_q28727 => ?_)
      obtain ⟨h_r1_q28727_0, h_r1_q28727_1, h_r1_q28727_2, h_r1_q28727_3, -⟩ := h_r1_q28727
      have t_28728 := KX12.i1 h_r1_q28727_3
      have t_28729 := KX12.i1 k_I0
      have t_28730 : (I0_2_q28711 1).toInt = (I0 1).toInt := by rw [h_I0_2_q28711]; rfl
      refine wq_eq (fun hc_28731 => ?_) (fun hc_28732 => ?_)
      · exact wq_s ⟨h_r1_q28727_3, trivial⟩
      · refine wq_eq (fun hc_28733 => ?_) (fun hc_28734 => ?_)
        · exfalso; omega
        · refine wq_in (n := 20) ⟨by omega, by omega⟩ ?_
          exact wq_s ⟨h_r1_q28727_3, trivial⟩
    · refine wq_le (fun hc_28735 => ?_) (fun hc_28736 => ?_)
      · unfold fX12_day_J37
        unfold fX12_day_J38
        have l_0 := il_0
        have l_1 := il_1
        refine wq_b (tt_fX12_right hN I0_2_q28711 L0 M0 (0 : Int32) (1 : Int32) ⟨by omega, by omega⟩ k_I0_2_q28711) (fun r1_q28737 h_r1_q28737 => ?_)
        obtain ⟨h_r1_q28737_0, h_r1_q28737_1, h_r1_q28737_2, h_r1_q28737_3, -⟩ := h_r1_q28737
        have t_28738 := KX12.i1 h_r1_q28737_3
        have t_28739 := KX12.i1 k_I0
        have t_28740 : (I0_2_q28711 1).toInt = (I0 1).toInt := by rw [h_I0_2_q28711]; rfl
        refine wq_eq (fun hc_28741 => ?_) (fun hc_28742 => ?_)
        · exact wq_s ⟨h_r1_q28737_3, trivial⟩
        · refine wq_eq (fun hc_28743 => ?_) (fun hc_28744 => ?_)
          · exact wq_s ⟨h_r1_q28737_3, trivial⟩
          · refine wq_in (n := 20) ⟨by omega, by omega⟩ ?_
            exact wq_s ⟨h_r1_q28737_3, trivial⟩
      · have l_20 := il_20
        refine wq_le (fun hc_28745 => ?_) (fun hc_28746 => ?_)
        · unfold fX12_day_J37
          unfold fX12_day_J38
          have l_0 := il_0
          have l_1 := il_1
          refine wq_b (tt_fX12_right hN I0_2_q28711 L0 M0 (0 : Int32) (1 : Int32) ⟨by omega, by omega⟩ k_I0_2_q28711) (fun r1_q28747 h_r1_q28747 => ?_)
          obtain ⟨h_r1_q28747_0, h_r1_q28747_1, h_r1_q28747_2, h_r1_q28747_3, -⟩ := h_r1_q28747
          have t_28748 := KX12.i1 h_r1_q28747_3
          have t_28749 := KX12.i1 k_I0
          have t_28750 : (I0_2_q28711 1).toInt = (I0 1).toInt := by rw [h_I0_2_q28711]; rfl
          refine wq_eq (fun hc_28751 => ?_) (fun hc_28752 => ?_)
          · exact wq_s ⟨h_r1_q28747_3, trivial⟩
          · refine wq_eq (fun hc_28753 => ?_) (fun hc_28754 => ?_)
            · exfalso; omega
            · refine wq_in (n := 20) ⟨by omega, by omega⟩ ?_
              exact wq_s ⟨h_r1_q28747_3, trivial⟩
        · unfold fX12_day_J38
          have l_1 := il_1
          refine wq_b (tt_fX12_right hN I0_2_q28711 L0 M0 (1 : Int32) (1 : Int32) ⟨by omega, by omega⟩ k_I0_2_q28711) (fun r1_q28755 h_r1_q28755 => ?_)
          obtain ⟨h_r1_q28755_0, h_r1_q28755_1, h_r1_q28755_2, h_r1_q28755_3, -⟩ := h_r1_q28755
          have t_28756 := KX12.i1 h_r1_q28755_3
          have t_28757 := KX12.i1 k_I0
          have t_28758 : (I0_2_q28711 1).toInt = (I0 1).toInt := by rw [h_I0_2_q28711]; rfl
          have l_0 := il_0
          refine wq_eq (fun hc_28759 => ?_) (fun hc_28760 => ?_)
          · exact wq_s ⟨h_r1_q28755_3, trivial⟩
          · refine wq_eq (fun hc_28761 => ?_) (fun hc_28762 => ?_)
            · exact wq_s ⟨h_r1_q28755_3, trivial⟩
            · refine wq_in (n := 20) ⟨by omega, by omega⟩ ?_
              exact wq_s ⟨h_r1_q28755_3, trivial⟩
set_option maxHeartbeats 4000000 in
theorem tt_fX12_whose_L64 {N : Nat} (hN : 3000000000 ≤ N) (x1 : Int32) (x2 : Int32) (x3 : Int32) (x4 : Int32) (x5 : Int32) (y50_6 : Int32) (y50_7 : Int32) (y50_8 : Int32) (y50_9 : Int32) (g50 : (Nat → Int32) → Int64 → (Nat → Nat → Int32) → Int32 → Int32 → Int32 → Int32 → Option (Int32 × (Nat → Int32) × Int64 × (Nat → Nat → Int32))) (h_x1 : 0 ≤ x1.toInt ∧ x1.toInt ≤ 5) (h_x2 : 0 ≤ x2.toInt ∧ x2.toInt ≤ 19) (h_x3 : 0 ≤ x3.toInt ∧ x3.toInt ≤ 1000000) (h_x4 : 0 ≤ x4.toInt ∧ x4.toInt ≤ 50000) (h_x5 : 0 ≤ x5.toInt ∧ x5.toInt ≤ 2) (h_y50_6 : 0 ≤ y50_6.toInt ∧ y50_6.toInt ≤ 999) (h_y50_7 : -1 ≤ y50_7.toInt ∧ y50_7.toInt ≤ 3) (h_y50_9 : 0 ≤ y50_9.toInt ∧ y50_9.toInt ≤ 3) (hg50 : ∀ (q0 : (Nat → Int32)) (q1 : Int64) (q2 : (Nat → Nat → Int32)) (q3 : Int32) (q4 : Int32) (q5 : Int32) (q6 : Int32), (0 ≤ q3.toInt ∧ q3.toInt ≤ 999) → (-1 ≤ q4.toInt ∧ q4.toInt ≤ 3) → (0 ≤ q6.toInt ∧ q6.toInt ≤ 4) → (KX12 q0 q2) → (y50_9.toInt < q6.toInt) → wq (g50 q0 q1 q2 q3 q4 q5 q6) (fun r => KX12 r.2.1 r.2.2.2 ∧ True)) : ∀ (fu : Nat) (I0_l64 : (Nat → Int32)) (L0_l64 : Int64) (M0_l64 : (Nat → Nat → Int32)) (y64_10 : Int32) (y64_11 : Int32), (0 ≤ y64_10.toInt ∧ y64_10.toInt ≤ 999) → (0 ≤ y64_11.toInt ∧ y64_11.toInt ≤ 1050001) → (KX12 I0_l64 M0_l64) → (1050001 - y64_11.toInt) < (fu : Int) → wq (fX12_whose_L64 N x1 x2 x3 x4 x5 y50_6 y50_7 y50_8 y50_9 g50 fu I0_l64 L0_l64 M0_l64 y64_10 y64_11) (fun r => KX12 r.2.1 r.2.2.2 ∧ True) := by
  intro fu
  induction fu with
  | zero => intro I0_l64 L0_l64 M0_l64 y64_10 y64_11 h_y64_10 h_y64_11 k_I0_l64 hm; exfalso; omega
  | succ fu ih =>
    intro I0_l64 L0_l64 M0_l64 y64_10 y64_11 h_y64_10 h_y64_11 k_I0_l64 hm
    rw [fX12_whose_L64.eq_2]
    have t_30133 := ia_add x3 x4 (by omega) (by omega)
    refine wq_lt (fun hc_30134 => ?_) (fun hc_30135 => ?_)
    · refine wq_le (fun hc_30136 => ?_) (fun hc_30137 => ?_)
      · refine wq_le (fun hc_30138 => ?_) (fun hc_30139 => ?_)
        · unfold fX12_whose_J138
          refine wq_le (fun hc_30140 => ?_) (fun hc_30141 => ?_)
          · have l_1 := il_1
            have t_30143 := ia_add y50_9 (1 : Int32) (by omega) (by omega)
            refine wq_v (fun v5_q30142 h_v5_q30142 => ?_)
            have t_v5_q30142 := congrArg Int32.toInt h_v5_q30142
            have b_30144 := i32b y50_8
            exact hg50 I0_l64 L0_l64 M0_l64 y64_10 y50_7 (y50_8 + (1 : Int32)) v5_q30142 ⟨by omega, by omega⟩ ⟨by omega, by omega⟩ ⟨by omega, by omega⟩ k_I0_l64 (by omega)
          · have l_1 := il_1
            have t_30146 := ia_add y50_9 (1 : Int32) (by omega) (by omega)
            refine wq_v (fun v6_q30145 h_v6_q30145 => ?_)
            have t_v6_q30145 := congrArg Int32.toInt h_v6_q30145
            have b_30147 := i32b y50_8
            exact hg50 I0_l64 L0_l64 M0_l64 y64_10 y50_9 (y50_8 + (1 : Int32)) v6_q30145 ⟨by omega, by omega⟩ ⟨by omega, by omega⟩ ⟨by omega, by omega⟩ k_I0_l64 (by omega)
        · unfold fX12_whose_J138
          refine wq_le (fun hc_30148 => ?_) (fun hc_30149 => ?_)
          · have l_1 := il_1
            have t_30151 := ia_add y50_9 (1 : Int32) (by omega) (by omega)
            refine wq_v (fun v5_q30150 h_v5_q30150 => ?_)
            have t_v5_q30150 := congrArg Int32.toInt h_v5_q30150
            exact hg50 I0_l64 L0_l64 M0_l64 y64_10 y50_7 (1 : Int32) v5_q30150 ⟨by omega, by omega⟩ ⟨by omega, by omega⟩ ⟨by omega, by omega⟩ k_I0_l64 (by omega)
          · have l_1 := il_1
            have t_30153 := ia_add y50_9 (1 : Int32) (by omega) (by omega)
            refine wq_v (fun v6_q30152 h_v6_q30152 => ?_)
            have t_v6_q30152 := congrArg Int32.toInt h_v6_q30152
            exact hg50 I0_l64 L0_l64 M0_l64 y64_10 y50_9 (1 : Int32) v6_q30152 ⟨by omega, by omega⟩ ⟨by omega, by omega⟩ ⟨by omega, by omega⟩ k_I0_l64 (by omega)
      · have l_1 := il_1
        have t_30155 := ia_add y50_9 (1 : Int32) (by omega) (by omega)
        refine wq_v (fun v7_q30154 h_v7_q30154 => ?_)
        have t_v7_q30154 := congrArg Int32.toInt h_v7_q30154
        have b_30156 := i32b y50_8
        exact hg50 I0_l64 L0_l64 M0_l64 y50_6 y50_7 y50_8 v7_q30154 ⟨by omega, by omega⟩ ⟨by omega, by omega⟩ ⟨by omega, by omega⟩ k_I0_l64 (by omega)
    · have l_20 := il_20
      have t_30157 := ia_mul (20 : Int32) (20) il_20 x1 (by omega) (by omega)
      have t_30158 := ia_add ((20 : Int32) * x1) x2 (by omega) (by omega)
      refine wq_b (tt_fX12_costOn hN I0_l64 L0_l64 M0_l64 (((20 : Int32) * x1) + x2) y50_9 y64_11 y64_10 ⟨by omega, by omega⟩ ⟨by omega, by omega⟩ k_I0_l64) (fun r8_q30159 h_r8_q30159 => ?_)
      obtain ⟨h_r8_q30159_0, -⟩ := h_r8_q30159
      refine wq_le (fun hc_30160 => ?_) (fun hc_30161 => ?_)
      · have l_1 := il_1
        have t_30163 := ia_add y64_11 (1 : Int32) (by omega) (by omega)
        refine wq_v (fun v9_q30162 h_v9_q30162 => ?_)
        have t_v9_q30162 := congrArg Int32.toInt h_v9_q30162
        exact ih I0_l64 L0_l64 M0_l64 y64_10 v9_q30162 ⟨by omega, by omega⟩ ⟨by omega, by omega⟩ k_I0_l64 (by omega)
      · have l_1 := il_1
        have t_30165 := ia_add y64_11 (1 : Int32) (by omega) (by omega)
        refine wq_v (fun v10_q30164 h_v10_q30164 => ?_)
        have t_v10_q30164 := congrArg Int32.toInt h_v10_q30164
        exact ih I0_l64 L0_l64 M0_l64 r8_q30159 v10_q30164 ⟨by omega, by omega⟩ ⟨by omega, by omega⟩ k_I0_l64 (by omega)
set_option maxHeartbeats 4000000 in
theorem tt_fX12_whose_L50 {N : Nat} (hN : 3000000000 ≤ N) (x1 : Int32) (x2 : Int32) (x3 : Int32) (x4 : Int32) (x5 : Int32) (h_x1 : 0 ≤ x1.toInt ∧ x1.toInt ≤ 5) (h_x2 : 0 ≤ x2.toInt ∧ x2.toInt ≤ 19) (h_x3 : 0 ≤ x3.toInt ∧ x3.toInt ≤ 1000000) (h_x4 : 0 ≤ x4.toInt ∧ x4.toInt ≤ 50000) (h_x5 : 0 ≤ x5.toInt ∧ x5.toInt ≤ 2)  : ∀ (fu : Nat) (I0_l50 : (Nat → Int32)) (L0_l50 : Int64) (M0_l50 : (Nat → Nat → Int32)) (y50_6 : Int32) (y50_7 : Int32) (y50_8 : Int32) (y50_9 : Int32), (0 ≤ y50_6.toInt ∧ y50_6.toInt ≤ 999) → (-1 ≤ y50_7.toInt ∧ y50_7.toInt ≤ 3) → (0 ≤ y50_9.toInt ∧ y50_9.toInt ≤ 4) → (KX12 I0_l50 M0_l50) → (4 - y50_9.toInt) < (fu : Int) → wq (fX12_whose_L50 N x1 x2 x3 x4 x5 fu I0_l50 L0_l50 M0_l50 y50_6 y50_7 y50_8 y50_9) (fun r => KX12 r.2.1 r.2.2.2 ∧ True) := by
  intro fu
  induction fu with
  | zero => intro I0_l50 L0_l50 M0_l50 y50_6 y50_7 y50_8 y50_9 h_y50_6 h_y50_7 h_y50_9 k_I0_l50 hm; exfalso; omega
  | succ fu ih =>
    intro I0_l50 L0_l50 M0_l50 y50_6 y50_7 y50_8 y50_9 h_y50_6 h_y50_7 h_y50_9 k_I0_l50 hm
    rw [fX12_whose_L50.eq_2]
    have l_4 := il_4
    refine wq_le (fun hc_30166 => ?_) (fun hc_30167 => ?_)
    · have l_0 := il_0
      refine wq_eq (fun hc_30168 => ?_) (fun hc_30169 => ?_)
      · exact wq_s ⟨k_I0_l50, trivial⟩
      · have l_1 := il_1
        refine wq_eq (fun hc_30170 => ?_) (fun hc_30171 => ?_)
        · exact wq_s ⟨k_I0_l50, trivial⟩
        · have b_30172 := i32b y50_8
          exact wq_s ⟨k_I0_l50, trivial⟩
    · have b_30173 := i32b y50_8
      have l_999 := il_999
      exact tt_fX12_whose_L64 hN x1 x2 x3 x4 x5 y50_6 y50_7 y50_8 y50_9 _ ⟨by omega, by omega⟩ ⟨by omega, by omega⟩ ⟨by omega, by omega⟩ ⟨by omega, by omega⟩ ⟨by omega, by omega⟩ ⟨by omega, by omega⟩ ⟨by omega, by omega⟩ ⟨by omega, by omega⟩ (fun q0 q1 q2 q3 q4 q5 q6 hq0 hq1 hq2 hq3 hq4 => ih q0 q1 q2 q3 q4 q5 q6 hq0 hq1 hq2 hq3 (by omega)) N I0_l50 L0_l50 M0_l50 (999 : Int32) x3 ⟨by omega, by omega⟩ ⟨by omega, by omega⟩ k_I0_l50 (by omega)
set_option maxHeartbeats 4000000 in
theorem tt_fX12_whose {N : Nat} (hN : 3000000000 ≤ N) (I0 : Nat → Int32) (L0 : Int64) (M0 : Nat → Nat → Int32) (x1 : Int32) (x2 : Int32) (x3 : Int32) (x4 : Int32) (x5 : Int32) (k_I0 : KX12 I0 M0) : wq (fX12_whose N I0 L0 M0 x1 x2 x3 x4 x5) (fun r => KX12 r.2.1 r.2.2.2 ∧ True) := by
  unfold fX12_whose
  have b_30174 := i32b x1
  have b_30175 := i32b x2
  refine wq_b (tt_fX12_isWheel hN I0 L0 M0 x1 x2 k_I0) (fun r1_q30176 h_r1_q30176 => ?_)
  obtain ⟨h_r1_q30176_0, h_r1_q30176_1, h_r1_q30176_2, h_r1_q30176_3, -⟩ := h_r1_q30176
  have t_30177 := KX12.i1 h_r1_q30176_3
  have t_30178 := KX12.i1 k_I0
  have l_0 := il_0
  refine wq_eq (fun hc_30179 => ?_) (fun hc_30180 => ?_)
  · exact wq_s ⟨h_r1_q30176_3, trivial⟩
  · have b_30181 := i32b x5
    have l_2 := il_2
    refine wq_b (tt_fX12_within hN x5 (0 : Int32) (2 : Int32)) (fun r2_q30182 h_r2_q30182 => ?_)
    obtain ⟨h_r2_q30182_0, h_r2_q30182_1, -⟩ := h_r2_q30182
    have l_1 := il_1
    refine wq_b (tt_fX12_right hN r1_q30176.2.1 r1_q30176.2.2.1 r1_q30176.2.2.2 r2_q30182 (1 : Int32) ⟨by omega, by omega⟩ h_r1_q30176_3) (fun r3_q30183 h_r3_q30183 => ?_)
    obtain ⟨h_r3_q30183_0, h_r3_q30183_1, h_r3_q30183_2, h_r3_q30183_3, -⟩ := h_r3_q30183
    have t_30184 := KX12.i1 h_r3_q30183_3
    refine wq_eq (fun hc_30185 => ?_) (fun hc_30186 => ?_)
    · exact wq_s ⟨h_r3_q30183_3, trivial⟩
    · have b_30187 := i32b x3
      have b_30188 := i32b x4
      refine wq_b (tt_fX12_isSpan hN r3_q30183.2.1 r3_q30183.2.2.1 r3_q30183.2.2.2 x3 x4 h_r3_q30183_3) (fun r4_q30189 h_r4_q30189 => ?_)
      obtain ⟨h_r4_q30189_0, h_r4_q30189_1, h_r4_q30189_2, h_r4_q30189_3, -⟩ := h_r4_q30189
      have t_30190 := KX12.i1 h_r4_q30189_3
      refine wq_eq (fun hc_30191 => ?_) (fun hc_30192 => ?_)
      · exact wq_s ⟨h_r4_q30189_3, trivial⟩
      · have l_999 := il_999
        have l_m1 := il_m1
        exact tt_fX12_whose_L50 hN x1 x2 x3 x4 x5 ⟨by omega, by omega⟩ ⟨by omega, by omega⟩ ⟨by omega, by omega⟩ ⟨by omega, by omega⟩ ⟨by omega, by omega⟩ N r4_q30189.2.1 r4_q30189.2.2.1 r4_q30189.2.2.2 (999 : Int32) ((-1) : Int32) (0 : Int32) (0 : Int32) ⟨by omega, by omega⟩ ⟨by omega, by omega⟩ ⟨by omega, by omega⟩ h_r4_q30189_3 (by omega)
set_option maxHeartbeats 4000000 in
theorem tt_fX12_isMixed_L41 {N : Nat} (hN : 3000000000 ≤ N) (I0 : Nat → Int32) (L0 : Int64) (M0 : Nat → Nat → Int32) (x1 : Int32) (x2 : Int32) (y9_3 : Int32) (y9_5 : Int32) (g9 : Int32 → Int32 → Int32 → Option (Int32)) (h_x1 : 0 ≤ x1.toInt ∧ x1.toInt ≤ 119) (h_y9_5 : 0 ≤ y9_5.toInt ∧ y9_5.toInt ≤ 6) (k_I0 : KX12 I0 M0) (hg9 : ∀ (q0 : Int32) (q1 : Int32) (q2 : Int32), (0 ≤ q1.toInt ∧ q1.toInt ≤ 1) → (0 ≤ q2.toInt ∧ q2.toInt ≤ 7) → (y9_5.toInt < q2.toInt) → wq (g9 q0 q1 q2) (fun r => (0 ≤ r.toInt ∧ r.toInt ≤ 1) ∧ True)) : ∀ (fu : Nat) (y41_6 : Int32) (y41_7 : Int32), (0 ≤ y41_6.toInt ∧ y41_6.toInt ≤ 255) → (0 ≤ y41_7.toInt ∧ y41_7.toInt ≤ 4) → (4 - y41_7.toInt) < (fu : Int) → wq (fX12_isMixed_L41 N I0 L0 M0 x1 x2 y9_3 y9_5 g9 fu y41_6 y41_7) (fun r => (0 ≤ r.toInt ∧ r.toInt ≤ 1) ∧ True) := by
  intro fu
  induction fu with
  | zero => intro y41_6 y41_7 h_y41_6 h_y41_7 hm; exfalso; omega
  | succ fu ih =>
    intro y41_6 y41_7 h_y41_6 h_y41_7 hm
    rw [fX12_isMixed_L41.eq_2]
    have l_4 := il_4
    refine wq_le (fun hc_30687 => ?_) (fun hc_30688 => ?_)
    · refine wq_v (fun v2_q30689 h_v2_q30689 => ?_)
      have t_v2_q30689 := congrArg Int32.toInt h_v2_q30689
      have l_0 := il_0
      refine wq_eq (fun hc_30690 => ?_) (fun hc_30691 => ?_)
      · have l_1 := il_1
        have t_30693 := ia_add y9_5 (1 : Int32) (by omega) (by omega)
        refine wq_v (fun v3_q30692 h_v3_q30692 => ?_)
        have t_v3_q30692 := congrArg Int32.toInt h_v3_q30692
        have b_30694 := i32b v2_q30689
        exact hg9 v2_q30689 (0 : Int32) v3_q30692 ⟨by omega, by omega⟩ ⟨by omega, by omega⟩ (by omega)
      · have l_1 := il_1
        have t_30696 := ia_add y9_5 (1 : Int32) (by omega) (by omega)
        refine wq_v (fun v4_q30695 h_v4_q30695 => ?_)
        have t_v4_q30695 := congrArg Int32.toInt h_v4_q30695
        have b_30697 := i32b v2_q30689
        exact hg9 v2_q30689 (1 : Int32) v4_q30695 ⟨by omega, by omega⟩ ⟨by omega, by omega⟩ (by omega)
    · have b_30698 := i32b x2
      refine wq_b (tt_fX12_placeOn hN I0 L0 M0 y41_7 y9_5 x2 ⟨by omega, by omega⟩ ⟨by omega, by omega⟩ k_I0) (fun r5_q30699 h_r5_q30699 => ?_)
      obtain ⟨-⟩ := h_r5_q30699
      refine wq_b (tt_fX12_at hN I0 L0 M0 x1 y9_5 ⟨by omega, by omega⟩ ⟨by omega, by omega⟩ k_I0) (fun r6_q30700 h_r6_q30700 => ?_)
      obtain ⟨h_r6_q30700_0, h_r6_q30700_1, h_r6_q30700_2, -⟩ := h_r6_q30700
      have b_30701 := i32b r5_q30699
      have l_60 := il_60
      have t_30702 := i32b r5_q30699
      have t_30703 := ia_div2 r5_q30699 (60 : Int32) 60 il_60 (by decide)
      refine wq_eq (fun hc_30704 => ?_) (fun hc_30705 => ?_)
      · have t_30707 := or_sh y41_6 y41_7 ⟨by omega, by omega⟩ ⟨by omega, by omega⟩
        refine wq_v (fun v8_q30706 h_v8_q30706 => ?_)
        have t_v8_q30706 := congrArg Int32.toInt h_v8_q30706
        have l_1 := il_1
        have t_30709 := ia_add y41_7 (1 : Int32) (by omega) (by omega)
        refine wq_v (fun v9_q30708 h_v9_q30708 => ?_)
        have t_v9_q30708 := congrArg Int32.toInt h_v9_q30708
        exact ih v8_q30706 v9_q30708 ⟨by omega, by omega⟩ ⟨by omega, by omega⟩ (by omega)
      · have l_1 := il_1
        have t_30711 := ia_add y41_7 (1 : Int32) (by omega) (by omega)
        refine wq_v (fun v7_q30710 h_v7_q30710 => ?_)
        have t_v7_q30710 := congrArg Int32.toInt h_v7_q30710
        exact ih y41_6 v7_q30710 ⟨by omega, by omega⟩ ⟨by omega, by omega⟩ (by omega)
set_option maxHeartbeats 4000000 in
theorem tt_fX12_isMixed_L9 {N : Nat} (hN : 3000000000 ≤ N) (I0 : Nat → Int32) (L0 : Int64) (M0 : Nat → Nat → Int32) (x1 : Int32) (x2 : Int32) (h_x1 : 0 ≤ x1.toInt ∧ x1.toInt ≤ 119) (k_I0 : KX12 I0 M0)  : ∀ (fu : Nat) (y9_3 : Int32) (y9_4 : Int32) (y9_5 : Int32), (0 ≤ y9_4.toInt ∧ y9_4.toInt ≤ 1) → (0 ≤ y9_5.toInt ∧ y9_5.toInt ≤ 7) → (7 - y9_5.toInt) < (fu : Int) → wq (fX12_isMixed_L9 N I0 L0 M0 x1 x2 fu y9_3 y9_4 y9_5) (fun r => (0 ≤ r.toInt ∧ r.toInt ≤ 1) ∧ True) := by
  intro fu
  induction fu with
  | zero => intro y9_3 y9_4 y9_5 h_y9_4 h_y9_5 hm; exfalso; omega
  | succ fu ih =>
    intro y9_3 y9_4 y9_5 h_y9_4 h_y9_5 hm
    rw [fX12_isMixed_L9.eq_2]
    have l_7 := il_7
    refine wq_le (fun hc_30712 => ?_) (fun hc_30713 => ?_)
    · unfold fX12_isMixed_J107
      have l_0 := il_0
      refine wq_eq (fun hc_30714 => ?_) (fun hc_30715 => ?_)
      · exact wq_s ⟨(show 0 ≤ (0 : Int32).toInt ∧ (0 : Int32).toInt ≤ 1 from ⟨by omega, by omega⟩), trivial⟩
      · have b_30716 := i32b y9_3
        refine wq_eq (fun hc_30717 => ?_) (fun hc_30718 => ?_)
        · have l_1 := il_1
          exact wq_s ⟨(show 0 ≤ (1 : Int32).toInt ∧ (1 : Int32).toInt ≤ 1 from ⟨by omega, by omega⟩), trivial⟩
        · exact wq_s ⟨(show 0 ≤ (0 : Int32).toInt ∧ (0 : Int32).toInt ≤ 1 from ⟨by omega, by omega⟩), trivial⟩
    · have l_0 := il_0
      refine wq_eq (fun hc_30719 => ?_) (fun hc_30720 => ?_)
      · unfold fX12_isMixed_J107
        refine wq_eq (fun hc_30721 => ?_) (fun hc_30722 => ?_)
        · exact wq_s ⟨(show 0 ≤ (0 : Int32).toInt ∧ (0 : Int32).toInt ≤ 1 from ⟨by omega, by omega⟩), trivial⟩
        · exfalso; omega
      · refine wq_b (tt_fX12_at hN I0 L0 M0 x1 y9_5 ⟨by omega, by omega⟩ ⟨by omega, by omega⟩ k_I0) (fun r1_q30723 h_r1_q30723 => ?_)
        obtain ⟨h_r1_q30723_0, h_r1_q30723_1, h_r1_q30723_2, -⟩ := h_r1_q30723
        have l_m1 := il_m1
        refine wq_eq (fun hc_30724 => ?_) (fun hc_30725 => ?_)
        · have l_1 := il_1
          have t_30727 := ia_add y9_5 (1 : Int32) (by omega) (by omega)
          refine wq_v (fun v10_q30726 h_v10_q30726 => ?_)
          have t_v10_q30726 := congrArg Int32.toInt h_v10_q30726
          have b_30728 := i32b y9_3
          exact ih y9_3 y9_4 v10_q30726 ⟨by omega, by omega⟩ ⟨by omega, by omega⟩ (by omega)
        · have b_30729 := i32b x2
          have b_30730 := i32b y9_3
          exact tt_fX12_isMixed_L41 hN I0 L0 M0 x1 x2 y9_3 y9_5 _ ⟨by omega, by omega⟩ ⟨by omega, by omega⟩ k_I0 (fun q0 q1 q2 hq0 hq1 hq2 => ih q0 q1 q2 hq0 hq1 (by omega)) N (0 : Int32) (0 : Int32) ⟨by omega, by omega⟩ ⟨by omega, by omega⟩ (by omega)
set_option maxHeartbeats 4000000 in
theorem tt_fX12_isMixed {N : Nat} (hN : 3000000000 ≤ N) (I0 : Nat → Int32) (L0 : Int64) (M0 : Nat → Nat → Int32) (x1 : Int32) (x2 : Int32) (h_x1 : 0 ≤ x1.toInt ∧ x1.toInt ≤ 119) (k_I0 : KX12 I0 M0) : wq (fX12_isMixed N I0 L0 M0 x1 x2) (fun r => (0 ≤ r.toInt ∧ r.toInt ≤ 1) ∧ True) := by
  unfold fX12_isMixed
  have b_30731 := i32b x2
  have l_15 := il_15
  have l_1 := il_1
  have l_0 := il_0
  exact tt_fX12_isMixed_L9 hN I0 L0 M0 x1 x2 ⟨by omega, by omega⟩ k_I0 N (15 : Int32) (1 : Int32) (0 : Int32) ⟨by omega, by omega⟩ ⟨by omega, by omega⟩ (by omega)
set_option maxHeartbeats 4000000 in
theorem tt_fX12_mixed_L27 {N : Nat} (hN : 3000000000 ≤ N) (x1 : Int32) (x2 : Int32) (x3 : Int32) (x4 : Int32) (h_x1 : 0 ≤ x1.toInt ∧ x1.toInt ≤ 5) (h_x2 : 0 ≤ x2.toInt ∧ x2.toInt ≤ 19) (h_x3 : 0 ≤ x3.toInt ∧ x3.toInt ≤ 1000000) (h_x4 : 0 ≤ x4.toInt ∧ x4.toInt ≤ 50000)  : ∀ (fu : Nat) (I0_l27 : (Nat → Int32)) (L0_l27 : Int64) (M0_l27 : (Nat → Nat → Int32)) (y27_5 : Int32) (y27_6 : Int32), (0 ≤ y27_6.toInt ∧ y27_6.toInt ≤ 1050001) → (KX12 I0_l27 M0_l27) → (1050001 - y27_6.toInt) < (fu : Int) → wq (fX12_mixed_L27 N x1 x2 x3 x4 fu I0_l27 L0_l27 M0_l27 y27_5 y27_6) (fun r => KX12 r.2.1 r.2.2.2 ∧ True) := by
  intro fu
  induction fu with
  | zero => intro I0_l27 L0_l27 M0_l27 y27_5 y27_6 h_y27_6 k_I0_l27 hm; exfalso; omega
  | succ fu ih =>
    intro I0_l27 L0_l27 M0_l27 y27_5 y27_6 h_y27_6 k_I0_l27 hm
    rw [fX12_mixed_L27.eq_2]
    have t_31306 := ia_add x3 x4 (by omega) (by omega)
    refine wq_lt (fun hc_31307 => ?_) (fun hc_31308 => ?_)
    · have b_31309 := i32b y27_5
      exact wq_s ⟨k_I0_l27, trivial⟩
    · have l_20 := il_20
      have t_31310 := ia_mul (20 : Int32) (20) il_20 x1 (by omega) (by omega)
      have t_31311 := ia_add ((20 : Int32) * x1) x2 (by omega) (by omega)
      refine wq_b (tt_fX12_isMixed hN I0_l27 L0_l27 M0_l27 (((20 : Int32) * x1) + x2) y27_6 ⟨by omega, by omega⟩ k_I0_l27) (fun r3_q31312 h_r3_q31312 => ?_)
      obtain ⟨h_r3_q31312_0, -⟩ := h_r3_q31312
      have l_0 := il_0
      refine wq_eq (fun hc_31313 => ?_) (fun hc_31314 => ?_)
      · have l_1 := il_1
        have t_31316 := ia_add y27_6 (1 : Int32) (by omega) (by omega)
        refine wq_v (fun v4_q31315 h_v4_q31315 => ?_)
        have t_v4_q31315 := congrArg Int32.toInt h_v4_q31315
        have b_31317 := i32b y27_5
        exact ih I0_l27 L0_l27 M0_l27 y27_5 v4_q31315 ⟨by omega, by omega⟩ k_I0_l27 (by omega)
      · have b_31319 := i32b y27_5
        have l_1 := il_1
        refine wq_v (fun v5_q31318 h_v5_q31318 => ?_)
        have t_v5_q31318 := congrArg Int32.toInt h_v5_q31318
        have t_31321 := ia_add y27_6 (1 : Int32) (by omega) (by omega)
        refine wq_v (fun v6_q31320 h_v6_q31320 => ?_)
        have t_v6_q31320 := congrArg Int32.toInt h_v6_q31320
        have b_31322 := i32b v5_q31318
        exact ih I0_l27 L0_l27 M0_l27 v5_q31318 v6_q31320 ⟨by omega, by omega⟩ k_I0_l27 (by omega)
set_option maxHeartbeats 4000000 in
theorem tt_fX12_mixed {N : Nat} (hN : 3000000000 ≤ N) (I0 : Nat → Int32) (L0 : Int64) (M0 : Nat → Nat → Int32) (x1 : Int32) (x2 : Int32) (x3 : Int32) (x4 : Int32) (k_I0 : KX12 I0 M0) : wq (fX12_mixed N I0 L0 M0 x1 x2 x3 x4) (fun r => KX12 r.2.1 r.2.2.2 ∧ True) := by
  unfold fX12_mixed
  have b_31323 := i32b x1
  have b_31324 := i32b x2
  refine wq_b (tt_fX12_isWheel hN I0 L0 M0 x1 x2 k_I0) (fun r1_q31325 h_r1_q31325 => ?_)
  obtain ⟨h_r1_q31325_0, h_r1_q31325_1, h_r1_q31325_2, h_r1_q31325_3, -⟩ := h_r1_q31325
  have t_31326 := KX12.i1 h_r1_q31325_3
  have t_31327 := KX12.i1 k_I0
  have l_0 := il_0
  refine wq_eq (fun hc_31328 => ?_) (fun hc_31329 => ?_)
  · exact wq_s ⟨h_r1_q31325_3, trivial⟩
  · have b_31330 := i32b x3
    have b_31331 := i32b x4
    refine wq_b (tt_fX12_isSpan hN r1_q31325.2.1 r1_q31325.2.2.1 r1_q31325.2.2.2 x3 x4 h_r1_q31325_3) (fun r2_q31332 h_r2_q31332 => ?_)
    obtain ⟨h_r2_q31332_0, h_r2_q31332_1, h_r2_q31332_2, h_r2_q31332_3, -⟩ := h_r2_q31332
    have t_31333 := KX12.i1 h_r2_q31332_3
    refine wq_eq (fun hc_31334 => ?_) (fun hc_31335 => ?_)
    · exact wq_s ⟨h_r2_q31332_3, trivial⟩
    · exact tt_fX12_mixed_L27 hN x1 x2 x3 x4 ⟨by omega, by omega⟩ ⟨by omega, by omega⟩ ⟨by omega, by omega⟩ ⟨by omega, by omega⟩ N r2_q31332.2.1 r2_q31332.2.2.1 r2_q31332.2.2.2 (0 : Int32) x3 ⟨by omega, by omega⟩ h_r2_q31332_3 (by omega)
set_option maxHeartbeats 4000000 in
theorem tt_fX12_seek {N : Nat} (hN : 3000000000 ≤ N) (I0 : Nat → Int32) (L0 : Int64) (M0 : Nat → Nat → Int32) (x1 : Int32) (x2 : Int32) (x3 : Int32) (x4 : Int32) (k_I0 : KX12 I0 M0) : wq (fX12_seek N I0 L0 M0 x1 x2 x3 x4) (fun r => KX12 r.1 r.2.2 ∧ True) := by
  unfold fX12_seek
  have b_31626 := i32b x1
  have b_31627 := i32b x2
  refine wq_b (tt_fX12_isWheel hN I0 L0 M0 x1 x2 k_I0) (fun r10_q31628 h_r10_q31628 => ?_)
  obtain ⟨h_r10_q31628_0, h_r10_q31628_1, h_r10_q31628_2, h_r10_q31628_3, -⟩ := h_r10_q31628
  have t_31629 := KX12.i1 h_r10_q31628_3
  have t_31630 := KX12.i1 k_I0
  have l_0 := il_0
  refine wq_eq (fun hc_31631 => ?_) (fun hc_31632 => ?_)
  · exact wq_s ⟨h_r10_q31628_3, trivial⟩
  · have b_31633 := i32b x3
    have l_3 := il_3
    refine wq_b (tt_fX12_within hN x3 (0 : Int32) (3 : Int32)) (fun r11_q31634 h_r11_q31634 => ?_)
    obtain ⟨h_r11_q31634_0, h_r11_q31634_1, -⟩ := h_r11_q31634
    refine wq_eq (fun hc_31635 => ?_) (fun hc_31636 => ?_)
    · unfold fX12_seek_J34
      unfold fX12_seek_J35
      have l_1 := il_1
      refine wq_b (tt_fX12_right hN r10_q31628.2.1 r10_q31628.2.2.1 r10_q31628.2.2.2 (0 : Int32) (1 : Int32) ⟨by omega, by omega⟩ h_r10_q31628_3) (fun r1_q31637 h_r1_q31637 => ?_)
      obtain ⟨h_r1_q31637_0, h_r1_q31637_1, h_r1_q31637_2, h_r1_q31637_3, -⟩ := h_r1_q31637
      have t_31638 := KX12.i1 h_r1_q31637_3
      refine wq_eq (fun hc_31639 => ?_) (fun hc_31640 => ?_)
      · exact wq_s ⟨h_r1_q31637_3, trivial⟩
      · refine wq_v (fun I0_2_q31641 h_I0_2_q31641 => ?_)
        have k_I0_2_q31641 : KX12 I0_2_q31641 r1_q31637.2.2.2 := by rw [h_I0_2_q31641]; exact KX12.si16 h_r1_q31637_3 ⟨by omega, by omega⟩
        refine wq_in (n := 7) ⟨by omega, by omega⟩ ?_
        refine wq_v (fun M0_3_q31642 h_M0_3_q31642 => ?_)
        have l_20 := il_20
        have t_31643 := ia_mul (20 : Int32) (20) il_20 x1 (by omega) (by omega)
        have t_31644 := ia_add ((20 : Int32) * x1) x2 (by omega) (by omega)
        have k_M0_3_q31642 : KX12 I0_2_q31641 M0_3_q31642 := by rw [h_M0_3_q31642]; exact KX12.sm18 k_I0_2_q31641 (SR.um (KX12.ese k_I0_2_q31641) (fun _ => ⟨by omega, by omega⟩) (fun q => absurd q (by decide)) (fun q => absurd q (by decide)))
        refine wq_in (n := 7) ⟨by omega, by omega⟩ ?_
        refine wq_v (fun M0_4_q31645 h_M0_4_q31645 => ?_)
        have k_M0_4_q31645 : KX12 I0_2_q31641 M0_4_q31645 := by rw [h_M0_4_q31645]; exact KX12.sm18 k_M0_3_q31642 (SR.um (KX12.ese k_M0_3_q31642) (fun q => absurd q (by decide)) (fun _ => ⟨by omega, by omega⟩) (fun q => absurd q (by decide)))
        have l_2 := il_2
        refine wq_in (n := 7) ⟨by omega, by omega⟩ ?_
        refine wq_v (fun M0_5_q31646 h_M0_5_q31646 => ?_)
        have b_31647 := i32b x4
        have k_M0_5_q31646 : KX12 I0_2_q31641 M0_5_q31646 := by rw [h_M0_5_q31646]; exact KX12.sm18 k_M0_4_q31645 (SR.um (KX12.ese k_M0_4_q31645) (fun q => absurd q (by decide)) (fun q => absurd q (by decide)) (fun _ => ⟨by omega, by omega⟩))
        refine wq_in (n := 7) ⟨by omega, by omega⟩ ?_
        refine wq_v (fun M0_6_q31648 h_M0_6_q31648 => ?_)
        have k_M0_6_q31648 : KX12 I0_2_q31641 M0_6_q31648 := by rw [h_M0_6_q31648]; exact KX12.sm18 k_M0_5_q31646 (SR.um (KX12.ese k_M0_5_q31646) (fun q => absurd q (by decide)) (fun q => absurd q (by decide)) (fun q => absurd q (by decide)))
        have l_4 := il_4
        refine wq_in (n := 7) ⟨by omega, by omega⟩ ?_
        refine wq_v (fun M0_7_q31649 h_M0_7_q31649 => ?_)
        have k_M0_7_q31649 : KX12 I0_2_q31641 M0_7_q31649 := by rw [h_M0_7_q31649]; exact KX12.sm18 k_M0_6_q31648 (SR.um (KX12.ese k_M0_6_q31648) (fun q => absurd q (by decide)) (fun q => absurd q (by decide)) (fun q => absurd q (by decide)))
        have l_5 := il_5
        refine wq_in (n := 7) ⟨by omega, by omega⟩ ?_
        refine wq_v (fun M0_8_q31650 h_M0_8_q31650 => ?_)
        have k_M0_8_q31650 : KX12 I0_2_q31641 M0_8_q31650 := by rw [h_M0_8_q31650]; exact KX12.sm18 k_M0_7_q31649 (SR.um (KX12.ese k_M0_7_q31649) (fun q => absurd q (by decide)) (fun q => absurd q (by decide)) (fun q => absurd q (by decide)))
        have l_6 := il_6
        refine wq_in (n := 7) ⟨by omega, by omega⟩ ?_
        refine wq_v (fun M0_9_q31651 h_M0_9_q31651 => ?_)
        have k_M0_9_q31651 : KX12 I0_2_q31641 M0_9_q31651 := by rw [h_M0_9_q31651]; exact KX12.sm18 k_M0_8_q31650 (SR.um (KX12.ese k_M0_8_q31650) (fun q => absurd q (by decide)) (fun q => absurd q (by decide)) (fun q => absurd q (by decide)))
        exact wq_s ⟨k_M0_9_q31651, trivial⟩
    · have b_31652 := i32b x4
      have l_1000000 := il_1000000
      refine wq_b (tt_fX12_within hN x4 (0 : Int32) (1000000 : Int32)) (fun r12_q31653 h_r12_q31653 => ?_)
      obtain ⟨h_r12_q31653_0, h_r12_q31653_1, -⟩ := h_r12_q31653
      refine wq_eq (fun hc_31654 => ?_) (fun hc_31655 => ?_)
      · unfold fX12_seek_J34
        unfold fX12_seek_J35
        have l_1 := il_1
        refine wq_b (tt_fX12_right hN r10_q31628.2.1 r10_q31628.2.2.1 r10_q31628.2.2.2 (0 : Int32) (1 : Int32) ⟨by omega, by omega⟩ h_r10_q31628_3) (fun r1_q31656 h_r1_q31656 => ?_)
        obtain ⟨h_r1_q31656_0, h_r1_q31656_1, h_r1_q31656_2, h_r1_q31656_3, -⟩ := h_r1_q31656
        have t_31657 := KX12.i1 h_r1_q31656_3
        refine wq_eq (fun hc_31658 => ?_) (fun hc_31659 => ?_)
        · exact wq_s ⟨h_r1_q31656_3, trivial⟩
        · refine wq_v (fun I0_2_q31660 h_I0_2_q31660 => ?_)
          have k_I0_2_q31660 : KX12 I0_2_q31660 r1_q31656.2.2.2 := by rw [h_I0_2_q31660]; exact KX12.si16 h_r1_q31656_3 ⟨by omega, by omega⟩
          refine wq_in (n := 7) ⟨by omega, by omega⟩ ?_
          refine wq_v (fun M0_3_q31661 h_M0_3_q31661 => ?_)
          have l_20 := il_20
          have t_31662 := ia_mul (20 : Int32) (20) il_20 x1 (by omega) (by omega)
          have t_31663 := ia_add ((20 : Int32) * x1) x2 (by omega) (by omega)
          have k_M0_3_q31661 : KX12 I0_2_q31660 M0_3_q31661 := by rw [h_M0_3_q31661]; exact KX12.sm18 k_I0_2_q31660 (SR.um (KX12.ese k_I0_2_q31660) (fun _ => ⟨by omega, by omega⟩) (fun q => absurd q (by decide)) (fun q => absurd q (by decide)))
          refine wq_in (n := 7) ⟨by omega, by omega⟩ ?_
          refine wq_v (fun M0_4_q31664 h_M0_4_q31664 => ?_)
          have k_M0_4_q31664 : KX12 I0_2_q31660 M0_4_q31664 := by rw [h_M0_4_q31664]; exact KX12.sm18 k_M0_3_q31661 (SR.um (KX12.ese k_M0_3_q31661) (fun q => absurd q (by decide)) (fun _ => ⟨by omega, by omega⟩) (fun q => absurd q (by decide)))
          have l_2 := il_2
          refine wq_in (n := 7) ⟨by omega, by omega⟩ ?_
          refine wq_v (fun M0_5_q31665 h_M0_5_q31665 => ?_)
          have k_M0_5_q31665 : KX12 I0_2_q31660 M0_5_q31665 := by rw [h_M0_5_q31665]; exact KX12.sm18 k_M0_4_q31664 (SR.um (KX12.ese k_M0_4_q31664) (fun q => absurd q (by decide)) (fun q => absurd q (by decide)) (fun _ => ⟨by omega, by omega⟩))
          refine wq_in (n := 7) ⟨by omega, by omega⟩ ?_
          refine wq_v (fun M0_6_q31666 h_M0_6_q31666 => ?_)
          have k_M0_6_q31666 : KX12 I0_2_q31660 M0_6_q31666 := by rw [h_M0_6_q31666]; exact KX12.sm18 k_M0_5_q31665 (SR.um (KX12.ese k_M0_5_q31665) (fun q => absurd q (by decide)) (fun q => absurd q (by decide)) (fun q => absurd q (by decide)))
          have l_4 := il_4
          refine wq_in (n := 7) ⟨by omega, by omega⟩ ?_
          refine wq_v (fun M0_7_q31667 h_M0_7_q31667 => ?_)
          have k_M0_7_q31667 : KX12 I0_2_q31660 M0_7_q31667 := by rw [h_M0_7_q31667]; exact KX12.sm18 k_M0_6_q31666 (SR.um (KX12.ese k_M0_6_q31666) (fun q => absurd q (by decide)) (fun q => absurd q (by decide)) (fun q => absurd q (by decide)))
          have l_5 := il_5
          refine wq_in (n := 7) ⟨by omega, by omega⟩ ?_
          refine wq_v (fun M0_8_q31668 h_M0_8_q31668 => ?_)
          have k_M0_8_q31668 : KX12 I0_2_q31660 M0_8_q31668 := by rw [h_M0_8_q31668]; exact KX12.sm18 k_M0_7_q31667 (SR.um (KX12.ese k_M0_7_q31667) (fun q => absurd q (by decide)) (fun q => absurd q (by decide)) (fun q => absurd q (by decide)))
          have l_6 := il_6
          refine wq_in (n := 7) ⟨by omega, by omega⟩ ?_
          refine wq_v (fun M0_9_q31669 h_M0_9_q31669 => ?_)
          have k_M0_9_q31669 : KX12 I0_2_q31660 M0_9_q31669 := by rw [h_M0_9_q31669]; exact KX12.sm18 k_M0_8_q31668 (SR.um (KX12.ese k_M0_8_q31668) (fun q => absurd q (by decide)) (fun q => absurd q (by decide)) (fun q => absurd q (by decide)))
          exact wq_s ⟨k_M0_9_q31669, trivial⟩
      · unfold fX12_seek_J35
        have l_1 := il_1
        refine wq_b (tt_fX12_right hN r10_q31628.2.1 r10_q31628.2.2.1 r10_q31628.2.2.2 (1 : Int32) (1 : Int32) ⟨by omega, by omega⟩ h_r10_q31628_3) (fun r1_q31670 h_r1_q31670 => ?_)
        obtain ⟨h_r1_q31670_0, h_r1_q31670_1, h_r1_q31670_2, h_r1_q31670_3, -⟩ := h_r1_q31670
        have t_31671 := KX12.i1 h_r1_q31670_3
        refine wq_eq (fun hc_31672 => ?_) (fun hc_31673 => ?_)
        · exact wq_s ⟨h_r1_q31670_3, trivial⟩
        · refine wq_v (fun I0_2_q31674 h_I0_2_q31674 => ?_)
          have k_I0_2_q31674 : KX12 I0_2_q31674 r1_q31670.2.2.2 := by rw [h_I0_2_q31674]; exact KX12.si16 h_r1_q31670_3 ⟨by omega, by omega⟩
          refine wq_in (n := 7) ⟨by omega, by omega⟩ ?_
          refine wq_v (fun M0_3_q31675 h_M0_3_q31675 => ?_)
          have l_20 := il_20
          have t_31676 := ia_mul (20 : Int32) (20) il_20 x1 (by omega) (by omega)
          have t_31677 := ia_add ((20 : Int32) * x1) x2 (by omega) (by omega)
          have k_M0_3_q31675 : KX12 I0_2_q31674 M0_3_q31675 := by rw [h_M0_3_q31675]; exact KX12.sm18 k_I0_2_q31674 (SR.um (KX12.ese k_I0_2_q31674) (fun _ => ⟨by omega, by omega⟩) (fun q => absurd q (by decide)) (fun q => absurd q (by decide)))
          refine wq_in (n := 7) ⟨by omega, by omega⟩ ?_
          refine wq_v (fun M0_4_q31678 h_M0_4_q31678 => ?_)
          have k_M0_4_q31678 : KX12 I0_2_q31674 M0_4_q31678 := by rw [h_M0_4_q31678]; exact KX12.sm18 k_M0_3_q31675 (SR.um (KX12.ese k_M0_3_q31675) (fun q => absurd q (by decide)) (fun _ => ⟨by omega, by omega⟩) (fun q => absurd q (by decide)))
          have l_2 := il_2
          refine wq_in (n := 7) ⟨by omega, by omega⟩ ?_
          refine wq_v (fun M0_5_q31679 h_M0_5_q31679 => ?_)
          have k_M0_5_q31679 : KX12 I0_2_q31674 M0_5_q31679 := by rw [h_M0_5_q31679]; exact KX12.sm18 k_M0_4_q31678 (SR.um (KX12.ese k_M0_4_q31678) (fun q => absurd q (by decide)) (fun q => absurd q (by decide)) (fun _ => ⟨by omega, by omega⟩))
          refine wq_in (n := 7) ⟨by omega, by omega⟩ ?_
          refine wq_v (fun M0_6_q31680 h_M0_6_q31680 => ?_)
          have k_M0_6_q31680 : KX12 I0_2_q31674 M0_6_q31680 := by rw [h_M0_6_q31680]; exact KX12.sm18 k_M0_5_q31679 (SR.um (KX12.ese k_M0_5_q31679) (fun q => absurd q (by decide)) (fun q => absurd q (by decide)) (fun q => absurd q (by decide)))
          have l_4 := il_4
          refine wq_in (n := 7) ⟨by omega, by omega⟩ ?_
          refine wq_v (fun M0_7_q31681 h_M0_7_q31681 => ?_)
          have k_M0_7_q31681 : KX12 I0_2_q31674 M0_7_q31681 := by rw [h_M0_7_q31681]; exact KX12.sm18 k_M0_6_q31680 (SR.um (KX12.ese k_M0_6_q31680) (fun q => absurd q (by decide)) (fun q => absurd q (by decide)) (fun q => absurd q (by decide)))
          have l_5 := il_5
          refine wq_in (n := 7) ⟨by omega, by omega⟩ ?_
          refine wq_v (fun M0_8_q31682 h_M0_8_q31682 => ?_)
          have k_M0_8_q31682 : KX12 I0_2_q31674 M0_8_q31682 := by rw [h_M0_8_q31682]; exact KX12.sm18 k_M0_7_q31681 (SR.um (KX12.ese k_M0_7_q31681) (fun q => absurd q (by decide)) (fun q => absurd q (by decide)) (fun q => absurd q (by decide)))
          have l_6 := il_6
          refine wq_in (n := 7) ⟨by omega, by omega⟩ ?_
          refine wq_v (fun M0_9_q31683 h_M0_9_q31683 => ?_)
          have k_M0_9_q31683 : KX12 I0_2_q31674 M0_9_q31683 := by rw [h_M0_9_q31683]; exact KX12.sm18 k_M0_8_q31682 (SR.um (KX12.ese k_M0_8_q31682) (fun q => absurd q (by decide)) (fun q => absurd q (by decide)) (fun q => absurd q (by decide)))
          exact wq_s ⟨k_M0_9_q31683, trivial⟩
set_option maxHeartbeats 4000000 in
theorem tt_fX12_on_L37 {N : Nat} (hN : 3000000000 ≤ N) (x1 : Int32) (h_x1 : 0 ≤ x1.toInt ∧ x1.toInt ≤ 50000)  : ∀ (fu : Nat) (I0_l37 : (Nat → Int32)) (L0_l37 : Int64) (M0_l37 : (Nat → Nat → Int32)) (y37_2 : Int32), (0 ≤ y37_2.toInt ∧ y37_2.toInt ≤ 50000) → (KX12 I0_l37 M0_l37) → (50000 - y37_2.toInt) < (fu : Int) → wq (fX12_on_L37 N x1 fu I0_l37 L0_l37 M0_l37 y37_2) (fun r => (0 ≤ r.1.toInt ∧ r.1.toInt ≤ 50000) ∧ KX12 r.2.1 r.2.2.2 ∧ True) := by
  intro fu
  induction fu with
  | zero => intro I0_l37 L0_l37 M0_l37 y37_2 h_y37_2 k_I0_l37 hm; exfalso; omega
  | succ fu ih =>
    intro I0_l37 L0_l37 M0_l37 y37_2 h_y37_2 k_I0_l37 hm
    rw [fX12_on_L37.eq_2]
    refine wq_le (fun hc_33970 => ?_) (fun hc_33971 => ?_)
    · exact wq_s ⟨(show 0 ≤ y37_2.toInt ∧ y37_2.toInt ≤ 50000 from ⟨by omega, by omega⟩), k_I0_l37, trivial⟩
    · have l_2 := il_2
      refine wq_in (n := 7) ⟨by omega, by omega⟩ ?_
      have l_1000000 := il_1000000
      have t_33972 : 0 ≤ (M0_l37 18 (2 : Int32).toNatClampNeg).toInt ∧ (M0_l37 18 (2 : Int32).toNatClampNeg).toInt ≤ 1000001 := (KX12.ese k_I0_l37).2.2
      refine wq_lt (fun hc_33973 => ?_) (fun hc_33974 => ?_)
      · exact wq_s ⟨(show 0 ≤ y37_2.toInt ∧ y37_2.toInt ≤ 50000 from ⟨by omega, by omega⟩), k_I0_l37, trivial⟩
      · refine wq_in (n := 7) ⟨by omega, by omega⟩ ?_
        refine wq_v (fun v13_q33975 h_v13_q33975 => ?_)
        have t_v13_q33975 := congrArg Int32.toInt h_v13_q33975
        have l_0 := il_0
        refine wq_in (n := 7) ⟨by omega, by omega⟩ ?_
        have l_1 := il_1
        refine wq_in (n := 7) ⟨by omega, by omega⟩ ?_
        have l_3 := il_3
        refine wq_in (n := 7) ⟨by omega, by omega⟩ ?_
        have l_m1 := il_m1
        refine wq_eq (fun hc_33976 => ?_) (fun hc_33977 => ?_)
        · unfold fX12_on_J96
          have t_33978 : 0 ≤ (M0_l37 18 (0 : Int32).toNatClampNeg).toInt ∧ (M0_l37 18 (0 : Int32).toNatClampNeg).toInt ≤ 119 := (KX12.ese k_I0_l37).1
          have t_33979 : 0 ≤ (M0_l37 18 (1 : Int32).toNatClampNeg).toInt ∧ (M0_l37 18 (1 : Int32).toNatClampNeg).toInt ≤ 3 := (KX12.ese k_I0_l37).2.1
          have l_999 := il_999
          refine wq_b (tt_fX12_costOn hN I0_l37 L0_l37 M0_l37 (M0_l37 18 (0 : Int32).toNatClampNeg) (M0_l37 18 (1 : Int32).toNatClampNeg) v13_q33975 (999 : Int32) ⟨by omega, by omega⟩ ⟨by omega, by omega⟩ k_I0_l37) (fun r12_q33980 h_r12_q33980 => ?_)
          obtain ⟨h_r12_q33980_0, -⟩ := h_r12_q33980
          refine wq_in (n := 7) ⟨by omega, by omega⟩ ?_
          refine wq_eq (fun hc_33981 => ?_) (fun hc_33982 => ?_)
          · unfold fX12_on_J122
            refine wq_in (n := 7) ⟨by omega, by omega⟩ ?_
            refine wq_v (fun M0_9_q33983 h_M0_9_q33983 => ?_)
            have k_M0_9_q33983 : KX12 I0_l37 M0_9_q33983 := by rw [h_M0_9_q33983]; exact KX12.sm18 k_I0_l37 (SR.um (KX12.ese k_I0_l37) (fun q => absurd q (by decide)) (fun q => absurd q (by decide)) (fun q => absurd q (by decide)))
            have l_4 := il_4
            refine wq_in (n := 7) ⟨by omega, by omega⟩ ?_
            refine wq_v (fun M0_10_q33984 h_M0_10_q33984 => ?_)
            have k_M0_10_q33984 : KX12 I0_l37 M0_10_q33984 := by rw [h_M0_10_q33984]; exact KX12.sm18 k_M0_9_q33983 (SR.um (KX12.ese k_M0_9_q33983) (fun q => absurd q (by decide)) (fun q => absurd q (by decide)) (fun q => absurd q (by decide)))
            have l_5 := il_5
            refine wq_in (n := 7) ⟨by omega, by omega⟩ ?_
            refine wq_v (fun M0_11_q33985 h_M0_11_q33985 => ?_)
            have k_M0_11_q33985 : KX12 I0_l37 M0_11_q33985 := by rw [h_M0_11_q33985]; exact KX12.sm18 k_M0_10_q33984 (SR.um (KX12.ese k_M0_10_q33984) (fun q => absurd q (by decide)) (fun q => absurd q (by decide)) (fun q => absurd q (by decide)))
            unfold fX12_on_J144
            refine wq_in (n := 7) ⟨by omega, by omega⟩ ?_
            have t_33986 : (M0_9_q33983 18 (3 : Int32).toNatClampNeg).toInt = r12_q33980.toInt := by rw [h_M0_9_q33983]; rfl
            have t_33987 : (M0_10_q33984 18 (3 : Int32).toNatClampNeg).toInt = (M0_9_q33983 18 (3 : Int32).toNatClampNeg).toInt := by rw [h_M0_10_q33984]; rfl
            have t_33988 : (M0_11_q33985 18 (3 : Int32).toNatClampNeg).toInt = (M0_10_q33984 18 (3 : Int32).toNatClampNeg).toInt := by rw [h_M0_11_q33985]; rfl
            refine wq_eq (fun hc_33989 => ?_) (fun hc_33990 => ?_)
            · refine wq_in (n := 7) ⟨by omega, by omega⟩ ?_
              refine wq_in (n := 7) ⟨by omega, by omega⟩ ?_
              refine wq_v (fun M0_7_q33991 h_M0_7_q33991 => ?_)
              have k_M0_7_q33991 : KX12 I0_l37 M0_7_q33991 := by rw [h_M0_7_q33991]; exact KX12.sm18 k_M0_11_q33985 (SR.um (KX12.ese k_M0_11_q33985) (fun q => absurd q (by decide)) (fun q => absurd q (by decide)) (fun q => absurd q (by decide)))
              have l_6 := il_6
              refine wq_in (n := 7) ⟨by omega, by omega⟩ ?_
              refine wq_v (fun M0_8_q33992 h_M0_8_q33992 => ?_)
              have k_M0_8_q33992 : KX12 I0_l37 M0_8_q33992 := by rw [h_M0_8_q33992]; exact KX12.sm18 k_M0_7_q33991 (SR.um (KX12.ese k_M0_7_q33991) (fun q => absurd q (by decide)) (fun q => absurd q (by decide)) (fun q => absurd q (by decide)))
              unfold fX12_on_J173
              refine wq_in (n := 7) ⟨by omega, by omega⟩ ?_
              refine wq_in (n := 7) ⟨by omega, by omega⟩ ?_
              refine wq_v (fun M0_5_q33993 h_M0_5_q33993 => ?_)
              have t_33994 : (M0_9_q33983 18 (2 : Int32).toNatClampNeg).toInt = (M0_l37 18 (2 : Int32).toNatClampNeg).toInt := by rw [h_M0_9_q33983]; rfl
              have t_33995 : (M0_10_q33984 18 (2 : Int32).toNatClampNeg).toInt = (M0_9_q33983 18 (2 : Int32).toNatClampNeg).toInt := by rw [h_M0_10_q33984]; rfl
              have t_33996 : (M0_11_q33985 18 (2 : Int32).toNatClampNeg).toInt = (M0_10_q33984 18 (2 : Int32).toNatClampNeg).toInt := by rw [h_M0_11_q33985]; rfl
              have t_33997 : (M0_7_q33991 18 (2 : Int32).toNatClampNeg).toInt = (M0_11_q33985 18 (2 : Int32).toNatClampNeg).toInt := by rw [h_M0_7_q33991]; rfl
              have t_33998 : (M0_8_q33992 18 (2 : Int32).toNatClampNeg).toInt = (M0_7_q33991 18 (2 : Int32).toNatClampNeg).toInt := by rw [h_M0_8_q33992]; rfl
              have t_33999 := ia_add (M0_8_q33992 18 (2 : Int32).toNatClampNeg) (1 : Int32) (by omega) (by omega)
              have k_M0_5_q33993 : KX12 I0_l37 M0_5_q33993 := by rw [h_M0_5_q33993]; exact KX12.sm18 k_M0_8_q33992 (SR.um (KX12.ese k_M0_8_q33992) (fun q => absurd q (by decide)) (fun q => absurd q (by decide)) (fun _ => ⟨by omega, by omega⟩))
              have t_34001 := ia_add y37_2 (1 : Int32) (by omega) (by omega)
              refine wq_v (fun v6_q34000 h_v6_q34000 => ?_)
              have t_v6_q34000 := congrArg Int32.toInt h_v6_q34000
              exact ih I0_l37 L0_l37 M0_5_q33993 v6_q34000 ⟨by omega, by omega⟩ k_M0_5_q33993 (by omega)
            · unfold fX12_on_J173
              refine wq_in (n := 7) ⟨by omega, by omega⟩ ?_
              refine wq_in (n := 7) ⟨by omega, by omega⟩ ?_
              refine wq_v (fun M0_5_q34002 h_M0_5_q34002 => ?_)
              have t_34003 : (M0_9_q33983 18 (2 : Int32).toNatClampNeg).toInt = (M0_l37 18 (2 : Int32).toNatClampNeg).toInt := by rw [h_M0_9_q33983]; rfl
              have t_34004 : (M0_10_q33984 18 (2 : Int32).toNatClampNeg).toInt = (M0_9_q33983 18 (2 : Int32).toNatClampNeg).toInt := by rw [h_M0_10_q33984]; rfl
              have t_34005 : (M0_11_q33985 18 (2 : Int32).toNatClampNeg).toInt = (M0_10_q33984 18 (2 : Int32).toNatClampNeg).toInt := by rw [h_M0_11_q33985]; rfl
              have t_34006 := ia_add (M0_11_q33985 18 (2 : Int32).toNatClampNeg) (1 : Int32) (by omega) (by omega)
              have k_M0_5_q34002 : KX12 I0_l37 M0_5_q34002 := by rw [h_M0_5_q34002]; exact KX12.sm18 k_M0_11_q33985 (SR.um (KX12.ese k_M0_11_q33985) (fun q => absurd q (by decide)) (fun q => absurd q (by decide)) (fun _ => ⟨by omega, by omega⟩))
              have t_34008 := ia_add y37_2 (1 : Int32) (by omega) (by omega)
              refine wq_v (fun v6_q34007 h_v6_q34007 => ?_)
              have t_v6_q34007 := congrArg Int32.toInt h_v6_q34007
              exact ih I0_l37 L0_l37 M0_5_q34002 v6_q34007 ⟨by omega, by omega⟩ k_M0_5_q34002 (by omega)
          · exfalso; omega
        · refine wq_in (n := 7) ⟨by omega, by omega⟩ ?_
          unfold fX12_on_J96
          have t_34009 : 0 ≤ (M0_l37 18 (0 : Int32).toNatClampNeg).toInt ∧ (M0_l37 18 (0 : Int32).toNatClampNeg).toInt ≤ 119 := (KX12.ese k_I0_l37).1
          have t_34010 : 0 ≤ (M0_l37 18 (1 : Int32).toNatClampNeg).toInt ∧ (M0_l37 18 (1 : Int32).toNatClampNeg).toInt ≤ 3 := (KX12.ese k_I0_l37).2.1
          refine wq_b (tt_fX12_costOn hN I0_l37 L0_l37 M0_l37 (M0_l37 18 (0 : Int32).toNatClampNeg) (M0_l37 18 (1 : Int32).toNatClampNeg) v13_q33975 (M0_l37 18 (3 : Int32).toNatClampNeg) ⟨by omega, by omega⟩ ⟨by omega, by omega⟩ k_I0_l37) (fun r12_q34011 h_r12_q34011 => ?_)
          obtain ⟨h_r12_q34011_0, -⟩ := h_r12_q34011
          refine wq_in (n := 7) ⟨by omega, by omega⟩ ?_
          refine wq_eq (fun hc_34012 => ?_) (fun hc_34013 => ?_)
          · unfold fX12_on_J122
            refine wq_in (n := 7) ⟨by omega, by omega⟩ ?_
            refine wq_v (fun M0_9_q34014 h_M0_9_q34014 => ?_)
            have k_M0_9_q34014 : KX12 I0_l37 M0_9_q34014 := by rw [h_M0_9_q34014]; exact KX12.sm18 k_I0_l37 (SR.um (KX12.ese k_I0_l37) (fun q => absurd q (by decide)) (fun q => absurd q (by decide)) (fun q => absurd q (by decide)))
            have l_4 := il_4
            refine wq_in (n := 7) ⟨by omega, by omega⟩ ?_
            refine wq_v (fun M0_10_q34015 h_M0_10_q34015 => ?_)
            have k_M0_10_q34015 : KX12 I0_l37 M0_10_q34015 := by rw [h_M0_10_q34015]; exact KX12.sm18 k_M0_9_q34014 (SR.um (KX12.ese k_M0_9_q34014) (fun q => absurd q (by decide)) (fun q => absurd q (by decide)) (fun q => absurd q (by decide)))
            have l_5 := il_5
            refine wq_in (n := 7) ⟨by omega, by omega⟩ ?_
            refine wq_v (fun M0_11_q34016 h_M0_11_q34016 => ?_)
            have k_M0_11_q34016 : KX12 I0_l37 M0_11_q34016 := by rw [h_M0_11_q34016]; exact KX12.sm18 k_M0_10_q34015 (SR.um (KX12.ese k_M0_10_q34015) (fun q => absurd q (by decide)) (fun q => absurd q (by decide)) (fun q => absurd q (by decide)))
            unfold fX12_on_J144
            refine wq_in (n := 7) ⟨by omega, by omega⟩ ?_
            have t_34017 : (M0_9_q34014 18 (3 : Int32).toNatClampNeg).toInt = r12_q34011.toInt := by rw [h_M0_9_q34014]; rfl
            have t_34018 : (M0_10_q34015 18 (3 : Int32).toNatClampNeg).toInt = (M0_9_q34014 18 (3 : Int32).toNatClampNeg).toInt := by rw [h_M0_10_q34015]; rfl
            have t_34019 : (M0_11_q34016 18 (3 : Int32).toNatClampNeg).toInt = (M0_10_q34015 18 (3 : Int32).toNatClampNeg).toInt := by rw [h_M0_11_q34016]; rfl
            refine wq_eq (fun hc_34020 => ?_) (fun hc_34021 => ?_)
            · refine wq_in (n := 7) ⟨by omega, by omega⟩ ?_
              refine wq_in (n := 7) ⟨by omega, by omega⟩ ?_
              refine wq_v (fun M0_7_q34022 h_M0_7_q34022 => ?_)
              have k_M0_7_q34022 : KX12 I0_l37 M0_7_q34022 := by rw [h_M0_7_q34022]; exact KX12.sm18 k_M0_11_q34016 (SR.um (KX12.ese k_M0_11_q34016) (fun q => absurd q (by decide)) (fun q => absurd q (by decide)) (fun q => absurd q (by decide)))
              have l_6 := il_6
              refine wq_in (n := 7) ⟨by omega, by omega⟩ ?_
              refine wq_v (fun M0_8_q34023 h_M0_8_q34023 => ?_)
              have k_M0_8_q34023 : KX12 I0_l37 M0_8_q34023 := by rw [h_M0_8_q34023]; exact KX12.sm18 k_M0_7_q34022 (SR.um (KX12.ese k_M0_7_q34022) (fun q => absurd q (by decide)) (fun q => absurd q (by decide)) (fun q => absurd q (by decide)))
              unfold fX12_on_J173
              refine wq_in (n := 7) ⟨by omega, by omega⟩ ?_
              refine wq_in (n := 7) ⟨by omega, by omega⟩ ?_
              refine wq_v (fun M0_5_q34024 h_M0_5_q34024 => ?_)
              have t_34025 : (M0_9_q34014 18 (2 : Int32).toNatClampNeg).toInt = (M0_l37 18 (2 : Int32).toNatClampNeg).toInt := by rw [h_M0_9_q34014]; rfl
              have t_34026 : (M0_10_q34015 18 (2 : Int32).toNatClampNeg).toInt = (M0_9_q34014 18 (2 : Int32).toNatClampNeg).toInt := by rw [h_M0_10_q34015]; rfl
              have t_34027 : (M0_11_q34016 18 (2 : Int32).toNatClampNeg).toInt = (M0_10_q34015 18 (2 : Int32).toNatClampNeg).toInt := by rw [h_M0_11_q34016]; rfl
              have t_34028 : (M0_7_q34022 18 (2 : Int32).toNatClampNeg).toInt = (M0_11_q34016 18 (2 : Int32).toNatClampNeg).toInt := by rw [h_M0_7_q34022]; rfl
              have t_34029 : (M0_8_q34023 18 (2 : Int32).toNatClampNeg).toInt = (M0_7_q34022 18 (2 : Int32).toNatClampNeg).toInt := by rw [h_M0_8_q34023]; rfl
              have t_34030 := ia_add (M0_8_q34023 18 (2 : Int32).toNatClampNeg) (1 : Int32) (by omega) (by omega)
              have k_M0_5_q34024 : KX12 I0_l37 M0_5_q34024 := by rw [h_M0_5_q34024]; exact KX12.sm18 k_M0_8_q34023 (SR.um (KX12.ese k_M0_8_q34023) (fun q => absurd q (by decide)) (fun q => absurd q (by decide)) (fun _ => ⟨by omega, by omega⟩))
              have t_34032 := ia_add y37_2 (1 : Int32) (by omega) (by omega)
              refine wq_v (fun v6_q34031 h_v6_q34031 => ?_)
              have t_v6_q34031 := congrArg Int32.toInt h_v6_q34031
              exact ih I0_l37 L0_l37 M0_5_q34024 v6_q34031 ⟨by omega, by omega⟩ k_M0_5_q34024 (by omega)
            · unfold fX12_on_J173
              refine wq_in (n := 7) ⟨by omega, by omega⟩ ?_
              refine wq_in (n := 7) ⟨by omega, by omega⟩ ?_
              refine wq_v (fun M0_5_q34033 h_M0_5_q34033 => ?_)
              have t_34034 : (M0_9_q34014 18 (2 : Int32).toNatClampNeg).toInt = (M0_l37 18 (2 : Int32).toNatClampNeg).toInt := by rw [h_M0_9_q34014]; rfl
              have t_34035 : (M0_10_q34015 18 (2 : Int32).toNatClampNeg).toInt = (M0_9_q34014 18 (2 : Int32).toNatClampNeg).toInt := by rw [h_M0_10_q34015]; rfl
              have t_34036 : (M0_11_q34016 18 (2 : Int32).toNatClampNeg).toInt = (M0_10_q34015 18 (2 : Int32).toNatClampNeg).toInt := by rw [h_M0_11_q34016]; rfl
              have t_34037 := ia_add (M0_11_q34016 18 (2 : Int32).toNatClampNeg) (1 : Int32) (by omega) (by omega)
              have k_M0_5_q34033 : KX12 I0_l37 M0_5_q34033 := by rw [h_M0_5_q34033]; exact KX12.sm18 k_M0_11_q34016 (SR.um (KX12.ese k_M0_11_q34016) (fun q => absurd q (by decide)) (fun q => absurd q (by decide)) (fun _ => ⟨by omega, by omega⟩))
              have t_34039 := ia_add y37_2 (1 : Int32) (by omega) (by omega)
              refine wq_v (fun v6_q34038 h_v6_q34038 => ?_)
              have t_v6_q34038 := congrArg Int32.toInt h_v6_q34038
              exact ih I0_l37 L0_l37 M0_5_q34033 v6_q34038 ⟨by omega, by omega⟩ k_M0_5_q34033 (by omega)
          · refine wq_in (n := 7) ⟨by omega, by omega⟩ ?_
            refine wq_le (fun hc_34040 => ?_) (fun hc_34041 => ?_)
            · unfold fX12_on_J144
              refine wq_in (n := 7) ⟨by omega, by omega⟩ ?_
              refine wq_eq (fun hc_34042 => ?_) (fun hc_34043 => ?_)
              · have l_4 := il_4
                refine wq_in (n := 7) ⟨by omega, by omega⟩ ?_
                refine wq_in (n := 7) ⟨by omega, by omega⟩ ?_
                refine wq_v (fun M0_7_q34044 h_M0_7_q34044 => ?_)
                have k_M0_7_q34044 : KX12 I0_l37 M0_7_q34044 := by rw [h_M0_7_q34044]; exact KX12.sm18 k_I0_l37 (SR.um (KX12.ese k_I0_l37) (fun q => absurd q (by decide)) (fun q => absurd q (by decide)) (fun q => absurd q (by decide)))
                have l_6 := il_6
                refine wq_in (n := 7) ⟨by omega, by omega⟩ ?_
                refine wq_v (fun M0_8_q34045 h_M0_8_q34045 => ?_)
                have k_M0_8_q34045 : KX12 I0_l37 M0_8_q34045 := by rw [h_M0_8_q34045]; exact KX12.sm18 k_M0_7_q34044 (SR.um (KX12.ese k_M0_7_q34044) (fun q => absurd q (by decide)) (fun q => absurd q (by decide)) (fun q => absurd q (by decide)))
                unfold fX12_on_J173
                refine wq_in (n := 7) ⟨by omega, by omega⟩ ?_
                refine wq_in (n := 7) ⟨by omega, by omega⟩ ?_
                refine wq_v (fun M0_5_q34046 h_M0_5_q34046 => ?_)
                have t_34047 : (M0_7_q34044 18 (2 : Int32).toNatClampNeg).toInt = (M0_l37 18 (2 : Int32).toNatClampNeg).toInt := by rw [h_M0_7_q34044]; rfl
                have t_34048 : (M0_8_q34045 18 (2 : Int32).toNatClampNeg).toInt = (M0_7_q34044 18 (2 : Int32).toNatClampNeg).toInt := by rw [h_M0_8_q34045]; rfl
                have t_34049 := ia_add (M0_8_q34045 18 (2 : Int32).toNatClampNeg) (1 : Int32) (by omega) (by omega)
                have k_M0_5_q34046 : KX12 I0_l37 M0_5_q34046 := by rw [h_M0_5_q34046]; exact KX12.sm18 k_M0_8_q34045 (SR.um (KX12.ese k_M0_8_q34045) (fun q => absurd q (by decide)) (fun q => absurd q (by decide)) (fun _ => ⟨by omega, by omega⟩))
                have t_34051 := ia_add y37_2 (1 : Int32) (by omega) (by omega)
                refine wq_v (fun v6_q34050 h_v6_q34050 => ?_)
                have t_v6_q34050 := congrArg Int32.toInt h_v6_q34050
                exact ih I0_l37 L0_l37 M0_5_q34046 v6_q34050 ⟨by omega, by omega⟩ k_M0_5_q34046 (by omega)
              · unfold fX12_on_J173
                refine wq_in (n := 7) ⟨by omega, by omega⟩ ?_
                refine wq_in (n := 7) ⟨by omega, by omega⟩ ?_
                refine wq_v (fun M0_5_q34052 h_M0_5_q34052 => ?_)
                have t_34053 := ia_add (M0_l37 18 (2 : Int32).toNatClampNeg) (1 : Int32) (by omega) (by omega)
                have k_M0_5_q34052 : KX12 I0_l37 M0_5_q34052 := by rw [h_M0_5_q34052]; exact KX12.sm18 k_I0_l37 (SR.um (KX12.ese k_I0_l37) (fun q => absurd q (by decide)) (fun q => absurd q (by decide)) (fun _ => ⟨by omega, by omega⟩))
                have t_34055 := ia_add y37_2 (1 : Int32) (by omega) (by omega)
                refine wq_v (fun v6_q34054 h_v6_q34054 => ?_)
                have t_v6_q34054 := congrArg Int32.toInt h_v6_q34054
                exact ih I0_l37 L0_l37 M0_5_q34052 v6_q34054 ⟨by omega, by omega⟩ k_M0_5_q34052 (by omega)
            · unfold fX12_on_J122
              refine wq_in (n := 7) ⟨by omega, by omega⟩ ?_
              refine wq_v (fun M0_9_q34056 h_M0_9_q34056 => ?_)
              have k_M0_9_q34056 : KX12 I0_l37 M0_9_q34056 := by rw [h_M0_9_q34056]; exact KX12.sm18 k_I0_l37 (SR.um (KX12.ese k_I0_l37) (fun q => absurd q (by decide)) (fun q => absurd q (by decide)) (fun q => absurd q (by decide)))
              have l_4 := il_4
              refine wq_in (n := 7) ⟨by omega, by omega⟩ ?_
              refine wq_v (fun M0_10_q34057 h_M0_10_q34057 => ?_)
              have k_M0_10_q34057 : KX12 I0_l37 M0_10_q34057 := by rw [h_M0_10_q34057]; exact KX12.sm18 k_M0_9_q34056 (SR.um (KX12.ese k_M0_9_q34056) (fun q => absurd q (by decide)) (fun q => absurd q (by decide)) (fun q => absurd q (by decide)))
              have l_5 := il_5
              refine wq_in (n := 7) ⟨by omega, by omega⟩ ?_
              refine wq_v (fun M0_11_q34058 h_M0_11_q34058 => ?_)
              have k_M0_11_q34058 : KX12 I0_l37 M0_11_q34058 := by rw [h_M0_11_q34058]; exact KX12.sm18 k_M0_10_q34057 (SR.um (KX12.ese k_M0_10_q34057) (fun q => absurd q (by decide)) (fun q => absurd q (by decide)) (fun q => absurd q (by decide)))
              unfold fX12_on_J144
              refine wq_in (n := 7) ⟨by omega, by omega⟩ ?_
              have t_34059 : (M0_9_q34056 18 (3 : Int32).toNatClampNeg).toInt = r12_q34011.toInt := by rw [h_M0_9_q34056]; rfl
              have t_34060 : (M0_10_q34057 18 (3 : Int32).toNatClampNeg).toInt = (M0_9_q34056 18 (3 : Int32).toNatClampNeg).toInt := by rw [h_M0_10_q34057]; rfl
              have t_34061 : (M0_11_q34058 18 (3 : Int32).toNatClampNeg).toInt = (M0_10_q34057 18 (3 : Int32).toNatClampNeg).toInt := by rw [h_M0_11_q34058]; rfl
              refine wq_eq (fun hc_34062 => ?_) (fun hc_34063 => ?_)
              · refine wq_in (n := 7) ⟨by omega, by omega⟩ ?_
                refine wq_in (n := 7) ⟨by omega, by omega⟩ ?_
                refine wq_v (fun M0_7_q34064 h_M0_7_q34064 => ?_)
                have k_M0_7_q34064 : KX12 I0_l37 M0_7_q34064 := by rw [h_M0_7_q34064]; exact KX12.sm18 k_M0_11_q34058 (SR.um (KX12.ese k_M0_11_q34058) (fun q => absurd q (by decide)) (fun q => absurd q (by decide)) (fun q => absurd q (by decide)))
                have l_6 := il_6
                refine wq_in (n := 7) ⟨by omega, by omega⟩ ?_
                refine wq_v (fun M0_8_q34065 h_M0_8_q34065 => ?_)
                have k_M0_8_q34065 : KX12 I0_l37 M0_8_q34065 := by rw [h_M0_8_q34065]; exact KX12.sm18 k_M0_7_q34064 (SR.um (KX12.ese k_M0_7_q34064) (fun q => absurd q (by decide)) (fun q => absurd q (by decide)) (fun q => absurd q (by decide)))
                unfold fX12_on_J173
                refine wq_in (n := 7) ⟨by omega, by omega⟩ ?_
                refine wq_in (n := 7) ⟨by omega, by omega⟩ ?_
                refine wq_v (fun M0_5_q34066 h_M0_5_q34066 => ?_)
                have t_34067 : (M0_9_q34056 18 (2 : Int32).toNatClampNeg).toInt = (M0_l37 18 (2 : Int32).toNatClampNeg).toInt := by rw [h_M0_9_q34056]; rfl
                have t_34068 : (M0_10_q34057 18 (2 : Int32).toNatClampNeg).toInt = (M0_9_q34056 18 (2 : Int32).toNatClampNeg).toInt := by rw [h_M0_10_q34057]; rfl
                have t_34069 : (M0_11_q34058 18 (2 : Int32).toNatClampNeg).toInt = (M0_10_q34057 18 (2 : Int32).toNatClampNeg).toInt := by rw [h_M0_11_q34058]; rfl
                have t_34070 : (M0_7_q34064 18 (2 : Int32).toNatClampNeg).toInt = (M0_11_q34058 18 (2 : Int32).toNatClampNeg).toInt := by rw [h_M0_7_q34064]; rfl
                have t_34071 : (M0_8_q34065 18 (2 : Int32).toNatClampNeg).toInt = (M0_7_q34064 18 (2 : Int32).toNatClampNeg).toInt := by rw [h_M0_8_q34065]; rfl
                have t_34072 := ia_add (M0_8_q34065 18 (2 : Int32).toNatClampNeg) (1 : Int32) (by omega) (by omega)
                have k_M0_5_q34066 : KX12 I0_l37 M0_5_q34066 := by rw [h_M0_5_q34066]; exact KX12.sm18 k_M0_8_q34065 (SR.um (KX12.ese k_M0_8_q34065) (fun q => absurd q (by decide)) (fun q => absurd q (by decide)) (fun _ => ⟨by omega, by omega⟩))
                have t_34074 := ia_add y37_2 (1 : Int32) (by omega) (by omega)
                refine wq_v (fun v6_q34073 h_v6_q34073 => ?_)
                have t_v6_q34073 := congrArg Int32.toInt h_v6_q34073
                exact ih I0_l37 L0_l37 M0_5_q34066 v6_q34073 ⟨by omega, by omega⟩ k_M0_5_q34066 (by omega)
              · unfold fX12_on_J173
                refine wq_in (n := 7) ⟨by omega, by omega⟩ ?_
                refine wq_in (n := 7) ⟨by omega, by omega⟩ ?_
                refine wq_v (fun M0_5_q34075 h_M0_5_q34075 => ?_)
                have t_34076 : (M0_9_q34056 18 (2 : Int32).toNatClampNeg).toInt = (M0_l37 18 (2 : Int32).toNatClampNeg).toInt := by rw [h_M0_9_q34056]; rfl
                have t_34077 : (M0_10_q34057 18 (2 : Int32).toNatClampNeg).toInt = (M0_9_q34056 18 (2 : Int32).toNatClampNeg).toInt := by rw [h_M0_10_q34057]; rfl
                have t_34078 : (M0_11_q34058 18 (2 : Int32).toNatClampNeg).toInt = (M0_10_q34057 18 (2 : Int32).toNatClampNeg).toInt := by rw [h_M0_11_q34058]; rfl
                have t_34079 := ia_add (M0_11_q34058 18 (2 : Int32).toNatClampNeg) (1 : Int32) (by omega) (by omega)
                have k_M0_5_q34075 : KX12 I0_l37 M0_5_q34075 := by rw [h_M0_5_q34075]; exact KX12.sm18 k_M0_11_q34058 (SR.um (KX12.ese k_M0_11_q34058) (fun q => absurd q (by decide)) (fun q => absurd q (by decide)) (fun _ => ⟨by omega, by omega⟩))
                have t_34081 := ia_add y37_2 (1 : Int32) (by omega) (by omega)
                refine wq_v (fun v6_q34080 h_v6_q34080 => ?_)
                have t_v6_q34080 := congrArg Int32.toInt h_v6_q34080
                exact ih I0_l37 L0_l37 M0_5_q34075 v6_q34080 ⟨by omega, by omega⟩ k_M0_5_q34075 (by omega)
set_option maxHeartbeats 4000000 in
theorem tt_fX12_on {N : Nat} (hN : 3000000000 ≤ N) (I0 : Nat → Int32) (L0 : Int64) (M0 : Nat → Nat → Int32) (x1 : Int32) (k_I0 : KX12 I0 M0) : wq (fX12_on N I0 L0 M0 x1) (fun r => (0 ≤ r.1.toInt ∧ r.1.toInt ≤ 50000) ∧ KX12 r.2.1 r.2.2.2 ∧ True) := by
  unfold fX12_on
  refine wq_v (fun I0_1_q34082 h_I0_1_q34082 => ?_)
  have k_I0_1_q34082 : KX12 I0_1_q34082 M0 := by rw [h_I0_1_q34082]; exact KX12.si0 k_I0
  have t_34083 := KX12.i16 k_I0
  have t_34084 : (I0_1_q34082 16).toInt = (I0 16).toInt := by rw [h_I0_1_q34082]; rfl
  have l_1 := il_1
  refine wq_b (tt_fX12_right hN I0_1_q34082 L0 M0 (I0_1_q34082 16) (1 : Int32) ⟨by omega, by omega⟩ k_I0_1_q34082) (fun r2_q34085 h_r2_q34085 => ?_)
  obtain ⟨h_r2_q34085_0, h_r2_q34085_1, h_r2_q34085_2, h_r2_q34085_3, -⟩ := h_r2_q34085
  have t_34086 := KX12.i1 h_r2_q34085_3
  have t_34087 := KX12.i1 k_I0
  have t_34088 : (I0_1_q34082 1).toInt = (I0 1).toInt := by rw [h_I0_1_q34082]; rfl
  have l_0 := il_0
  refine wq_eq (fun hc_34089 => ?_) (fun hc_34090 => ?_)
  · exact wq_s ⟨(show 0 ≤ (0 : Int32).toInt ∧ (0 : Int32).toInt ≤ 50000 from ⟨by omega, by omega⟩), h_r2_q34085_3, trivial⟩
  · have b_34091 := i32b x1
    have l_50000 := il_50000
    refine wq_b (tt_fX12_within hN x1 (0 : Int32) (50000 : Int32)) (fun r3_q34092 h_r3_q34092 => ?_)
    obtain ⟨h_r3_q34092_0, h_r3_q34092_1, -⟩ := h_r3_q34092
    have l_2 := il_2
    refine wq_b (tt_fX12_right hN r2_q34085.2.1 r2_q34085.2.2.1 r2_q34085.2.2.2 r3_q34092 (2 : Int32) ⟨by omega, by omega⟩ h_r2_q34085_3) (fun r4_q34093 h_r4_q34093 => ?_)
    obtain ⟨h_r4_q34093_0, h_r4_q34093_1, h_r4_q34093_2, h_r4_q34093_3, -⟩ := h_r4_q34093
    have t_34094 := KX12.i1 h_r4_q34093_3
    refine wq_eq (fun hc_34095 => ?_) (fun hc_34096 => ?_)
    · exact wq_s ⟨(show 0 ≤ (0 : Int32).toInt ∧ (0 : Int32).toInt ≤ 50000 from ⟨by omega, by omega⟩), h_r4_q34093_3, trivial⟩
    · exact tt_fX12_on_L37 hN x1 ⟨by omega, by omega⟩ N r4_q34093.2.1 r4_q34093.2.2.1 r4_q34093.2.2.2 (0 : Int32) ⟨by omega, by omega⟩ h_r4_q34093_3 (by omega)
set_option maxHeartbeats 4000000 in
theorem tt_fX12_held {N : Nat} (hN : 3000000000 ≤ N) (I0 : Nat → Int32) (L0 : Int64) (M0 : Nat → Nat → Int32) (x1 : Int32) (k_I0 : KX12 I0 M0) : wq (fX12_held N I0 L0 M0 x1) (fun r => KX12 r.2.1 r.2.2.2 ∧ True) := by
  unfold fX12_held
  refine wq_v (fun I0_2_q34271 h_I0_2_q34271 => ?_)
  have k_I0_2_q34271 : KX12 I0_2_q34271 M0 := by rw [h_I0_2_q34271]; exact KX12.si0 k_I0
  have t_34272 := KX12.i16 k_I0
  have t_34273 : (I0_2_q34271 16).toInt = (I0 16).toInt := by rw [h_I0_2_q34271]; rfl
  have l_0 := il_0
  refine wq_eq (fun hc_34274 => ?_) (fun hc_34275 => ?_)
  · unfold fX12_held_J26
    unfold fX12_held_J27
    have l_1 := il_1
    refine wq_b (tt_fX12_right hN I0_2_q34271 L0 M0 (0 : Int32) (1 : Int32) ⟨by omega, by omega⟩ k_I0_2_q34271) (fun r1_q34276 h_r1_q34276 => ?_)
    obtain ⟨h_r1_q34276_0, h_r1_q34276_1, h_r1_q34276_2, h_r1_q34276_3, -⟩ := h_r1_q34276
    have t_34277 := KX12.i1 h_r1_q34276_3
    have t_34278 := KX12.i1 k_I0
    have t_34279 : (I0_2_q34271 1).toInt = (I0 1).toInt := by rw [h_I0_2_q34271]; rfl
    refine wq_eq (fun hc_34280 => ?_) (fun hc_34281 => ?_)
    · exact wq_s ⟨h_r1_q34276_3, trivial⟩
    · have l_2 := il_2
      have b_34282 := i32b x1
      refine wq_in (n := 7) ⟨by omega, by omega⟩ ?_
      exact wq_s ⟨h_r1_q34276_3, trivial⟩
  · have b_34283 := i32b x1
    have l_4 := il_4
    refine wq_b (tt_fX12_within hN x1 (0 : Int32) (4 : Int32)) (fun r3_q34284 h_r3_q34284 => ?_)
    obtain ⟨h_r3_q34284_0, h_r3_q34284_1, -⟩ := h_r3_q34284
    refine wq_eq (fun hc_34285 => ?_) (fun hc_34286 => ?_)
    · unfold fX12_held_J26
      unfold fX12_held_J27
      have l_1 := il_1
      refine wq_b (tt_fX12_right hN I0_2_q34271 L0 M0 (0 : Int32) (1 : Int32) ⟨by omega, by omega⟩ k_I0_2_q34271) (fun r1_q34287 h_r1_q34287 => ?_)
      obtain ⟨h_r1_q34287_0, h_r1_q34287_1, h_r1_q34287_2, h_r1_q34287_3, -⟩ := h_r1_q34287
      have t_34288 := KX12.i1 h_r1_q34287_3
      have t_34289 := KX12.i1 k_I0
      have t_34290 : (I0_2_q34271 1).toInt = (I0 1).toInt := by rw [h_I0_2_q34271]; rfl
      refine wq_eq (fun hc_34291 => ?_) (fun hc_34292 => ?_)
      · exact wq_s ⟨h_r1_q34287_3, trivial⟩
      · have l_2 := il_2
        refine wq_in (n := 7) ⟨by omega, by omega⟩ ?_
        exact wq_s ⟨h_r1_q34287_3, trivial⟩
    · unfold fX12_held_J27
      have l_1 := il_1
      refine wq_b (tt_fX12_right hN I0_2_q34271 L0 M0 (1 : Int32) (1 : Int32) ⟨by omega, by omega⟩ k_I0_2_q34271) (fun r1_q34293 h_r1_q34293 => ?_)
      obtain ⟨h_r1_q34293_0, h_r1_q34293_1, h_r1_q34293_2, h_r1_q34293_3, -⟩ := h_r1_q34293
      have t_34294 := KX12.i1 h_r1_q34293_3
      have t_34295 := KX12.i1 k_I0
      have t_34296 : (I0_2_q34271 1).toInt = (I0 1).toInt := by rw [h_I0_2_q34271]; rfl
      refine wq_eq (fun hc_34297 => ?_) (fun hc_34298 => ?_)
      · exact wq_s ⟨h_r1_q34293_3, trivial⟩
      · have l_2 := il_2
        have t_34299 := ia_add (2 : Int32) x1 (by omega) (by omega)
        refine wq_in (n := 7) ⟨by omega, by omega⟩ ?_
        exact wq_s ⟨h_r1_q34293_3, trivial⟩
theorem tt_fX12_image {N : Nat} (hN : 3000000000 ≤ N) (I0 : Nat → Int32) (L0 : Int64) (M0 : Nat → Nat → Int32) (k_I0 : KX12 I0 M0) : wq (fX12_image N I0 L0 M0) (fun r => KX12 r.2.1 r.2.2.2 ∧ True) := by
  unfold fX12_image
  refine wq_v (fun I1 e1 => ?_)
  have k1 : KX12 I1 M0 := by rw [e1]; exact KX12.si0 k_I0
  refine wq_eq (fun hc => wq_s ⟨k1, trivial⟩) (fun hc => ?_)
  refine wq_v (fun I2 e2 => ?_)
  have k2 : KX12 I2 M0 := by rw [e2]; exact KX12.si17 k1 ⟨by decide, by decide⟩
  rw [tt_copies hN 7 (M0 18) 7 (M0 19) (by omega) (by decide), Option.bind_some]
  refine wq_v (fun M4 e4 => ?_)
  rw [e4]
  exact wq_s ⟨KX12.sf19 k2 ⟨k_I0.ese.1, k_I0.ese.2.1, k_I0.ese.2.2⟩, trivial⟩
theorem tt_fX12_restore {N : Nat} (hN : 3000000000 ≤ N) (I0 : Nat → Int32) (L0 : Int64) (M0 : Nat → Nat → Int32) (k_I0 : KX12 I0 M0) : wq (fX12_restore N I0 L0 M0) (fun r => KX12 r.2.1 r.2.2.2 ∧ True) := by
  unfold fX12_restore
  refine wq_v (fun I1 e1 => ?_)
  have k1 : KX12 I1 M0 := by rw [e1]; exact KX12.si0 k_I0
  refine wq_eq (fun hc => wq_s ⟨k1, trivial⟩) (fun hc => ?_)
  refine wq_v (fun I2 e2 => ?_)
  have k2 : KX12 I2 M0 := by rw [e2]; exact KX12.si16 k1 ⟨by decide, by decide⟩
  rw [tt_copies hN 7 (M0 19) 7 (M0 18) (by omega) (by decide), Option.bind_some]
  refine wq_v (fun M4 e4 => ?_)
  rw [e4]
  exact wq_s ⟨KX12.sf18 k2 ⟨k_I0.esi.1, k_I0.esi.2.1, k_I0.esi.2.2⟩, trivial⟩

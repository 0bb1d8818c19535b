set_option maxHeartbeats 4000000 in
theorem tt_fX12_beside {N : Nat} (hN : 3000000000 ≤ N) (I0 : Nat → Int32) (L0 : Int64) (M0 : Nat → Nat → Int32) (x1 : Int32) (x2 : Int32) (h_x1 : 0 ≤ x1.toInt ∧ x1.toInt ≤ 389) (k_I0 : KX12 I0 M0) : wq (fX12_beside N I0 L0 M0 x1 x2) (fun r => (0 ≤ r.toInt ∧ r.toInt ≤ 9) ∧ True) := by
  unfold fX12_beside
  have b_27025 := i32b x2
  refine wq_eq (fun hc_27026 => ?_) (fun hc_27027 => ?_)
  · have l_0 := il_0
    exact wq_s ⟨(show 0 ≤ (0 : Int32).toInt ∧ (0 : Int32).toInt ≤ 9 from ⟨by omega, by omega⟩), trivial⟩
  · have l_30 := il_30
    have t_27028 := ia_div x1 (30 : Int32) 30 il_30 (by decide) (by omega)
    have t_27029 := i32b x2
    have t_27030 := ia_div2 x2 (30 : Int32) 30 il_30 (by decide)
    refine wq_eq (fun hc_27031 => ?_) (fun hc_27032 => ?_)
    · have t_27033 := ia_rem x1 (30 : Int32) 30 il_30 (by decide) (by omega)
      have t_27034 := ia_rem2 x2 (30 : Int32) 30 il_30 (by decide)
      refine wq_b (tt_fX12_isHand hN I0 L0 M0 (x1 - ((x1 / (30 : Int32)) * (30 : Int32))) (x2 - ((x2 / (30 : Int32)) * (30 : Int32))) k_I0) (fun r2_q27035 h_r2_q27035 => ?_)
      obtain ⟨h_r2_q27035_0, -⟩ := h_r2_q27035
      have l_0 := il_0
      refine wq_eq (fun hc_27036 => ?_) (fun hc_27037 => ?_)
      · have l_9 := il_9
        exact wq_s ⟨(show 0 ≤ (9 : Int32).toInt ∧ (9 : Int32).toInt ≤ 9 from ⟨by omega, by omega⟩), trivial⟩
      · have l_1 := il_1
        exact wq_s ⟨(show 0 ≤ (1 : Int32).toInt ∧ (1 : Int32).toInt ≤ 9 from ⟨by omega, by omega⟩), trivial⟩
    · have t_27038 := ia_rem x1 (30 : Int32) 30 il_30 (by decide) (by omega)
      have t_27039 := ia_rem2 x2 (30 : Int32) 30 il_30 (by decide)
      refine wq_eq (fun hc_27040 => ?_) (fun hc_27041 => ?_)
      · refine wq_b (tt_fX12_isHand hN I0 L0 M0 (x1 / (30 : Int32)) (x2 / (30 : Int32)) k_I0) (fun r1_q27042 h_r1_q27042 => ?_)
        obtain ⟨h_r1_q27042_0, -⟩ := h_r1_q27042
        have l_0 := il_0
        refine wq_eq (fun hc_27043 => ?_) (fun hc_27044 => ?_)
        · have l_9 := il_9
          exact wq_s ⟨(show 0 ≤ (9 : Int32).toInt ∧ (9 : Int32).toInt ≤ 9 from ⟨by omega, by omega⟩), trivial⟩
        · have l_2 := il_2
          exact wq_s ⟨(show 0 ≤ (2 : Int32).toInt ∧ (2 : Int32).toInt ≤ 9 from ⟨by omega, by omega⟩), trivial⟩
      · have l_9 := il_9
        exact wq_s ⟨(show 0 ≤ (9 : Int32).toInt ∧ (9 : Int32).toInt ≤ 9 from ⟨by omega, by omega⟩), trivial⟩
set_option maxHeartbeats 4000000 in
theorem tt_fX12_costOf {N : Nat} (hN : 3000000000 ≤ N) (I0 : Nat → Int32) (L0 : Int64) (M0 : Nat → Nat → Int32) (x1 : Int32) (x2 : Int32) (h_x1 : 0 ≤ x1.toInt ∧ x1.toInt ≤ 389) (k_I0 : KX12 I0 M0) : wq (fX12_costOf N I0 L0 M0 x1 x2) (fun r => (0 ≤ r.toInt ∧ r.toInt ≤ 9) ∧ True) := by
  unfold fX12_costOf
  have b_27069 := i32b x2
  refine wq_b (tt_fX12_beside hN I0 L0 M0 x1 x2 ⟨by omega, by omega⟩ k_I0) (fun r1_q27070 h_r1_q27070 => ?_)
  obtain ⟨h_r1_q27070_0, -⟩ := h_r1_q27070
  have l_2 := il_2
  refine wq_eq (fun hc_27071 => ?_) (fun hc_27072 => ?_)
  · have l_1 := il_1
    exact wq_s ⟨(show 0 ≤ (1 : Int32).toInt ∧ (1 : Int32).toInt ≤ 9 from ⟨by omega, by omega⟩), trivial⟩
  · exact wq_s ⟨(show 0 ≤ r1_q27070.toInt ∧ r1_q27070.toInt ≤ 9 from ⟨by omega, by omega⟩), trivial⟩
set_option maxHeartbeats 4000000 in
theorem tt_fX12_costOn_L37 {N : Nat} (hN : 3000000000 ≤ N) (I0 : Nat → Int32) (L0 : Int64) (M0 : Nat → Nat → Int32) (x1 : Int32) (x2 : Int32) (x3 : Int32) (x4 : Int32) (h_x1 : 0 ≤ x1.toInt ∧ x1.toInt ≤ 119) (h_x2 : 0 ≤ x2.toInt ∧ x2.toInt ≤ 3) (k_I0 : KX12 I0 M0)  : ∀ (fu : Nat) (y37_5 : Int32) (y37_6 : Int32), (0 ≤ y37_6.toInt ∧ y37_6.toInt ≤ 7) → (7 - y37_6.toInt) < (fu : Int) → wq (fX12_costOn_L37 N I0 L0 M0 x1 x2 x3 x4 fu y37_5 y37_6) (fun r => True) := by
  intro fu
  induction fu with
  | zero => intro y37_5 y37_6 h_y37_6 hm; exfalso; omega
  | succ fu ih =>
    intro y37_5 y37_6 h_y37_6 hm
    rw [fX12_costOn_L37.eq_2]
    have l_7 := il_7
    refine wq_le (fun hc_27516 => ?_) (fun hc_27517 => ?_)
    · have b_27518 := i32b y37_5
      exact wq_s trivial
    · have b_27519 := i32b x4
      have b_27520 := i32b y37_5
      refine wq_lt (fun hc_27521 => ?_) (fun hc_27522 => ?_)
      · exact wq_s trivial
      · refine wq_b (tt_fX12_at hN I0 L0 M0 x1 y37_6 ⟨by omega, by omega⟩ ⟨by omega, by omega⟩ k_I0) (fun r1_q27523 h_r1_q27523 => ?_)
        obtain ⟨h_r1_q27523_0, h_r1_q27523_1, h_r1_q27523_2, -⟩ := h_r1_q27523
        have l_m1 := il_m1
        refine wq_eq (fun hc_27524 => ?_) (fun hc_27525 => ?_)
        · have l_1 := il_1
          have t_27527 := ia_add y37_6 (1 : Int32) (by omega) (by omega)
          refine wq_v (fun v2_q27526 h_v2_q27526 => ?_)
          have t_v2_q27526 := congrArg Int32.toInt h_v2_q27526
          exact ih y37_5 v2_q27526 ⟨by omega, by omega⟩ (by omega)
        · refine wq_b (tt_fX12_at hN I0 L0 M0 x1 y37_6 ⟨by omega, by omega⟩ ⟨by omega, by omega⟩ k_I0) (fun r3_q27528 h_r3_q27528 => ?_)
          obtain ⟨h_r3_q27528_0, h_r3_q27528_1, h_r3_q27528_2, -⟩ := h_r3_q27528
          have b_27529 := i32b x3
          refine wq_b (tt_fX12_placeOn hN I0 L0 M0 x2 y37_6 x3 ⟨by omega, by omega⟩ ⟨by omega, by omega⟩ k_I0) (fun r4_q27530 h_r4_q27530 => ?_)
          obtain ⟨-⟩ := h_r4_q27530
          have b_27531 := i32b r4_q27530
          have l_60 := il_60
          have t_27532 := i32b r4_q27530
          have t_27533 := ia_div2 r4_q27530 (60 : Int32) 60 il_60 (by decide)
          refine wq_b (tt_fX12_costOf hN I0 L0 M0 r3_q27528 (r4_q27530 / (60 : Int32)) ⟨by omega, by omega⟩ k_I0) (fun r5_q27534 h_r5_q27534 => ?_)
          obtain ⟨h_r5_q27534_0, -⟩ := h_r5_q27534
          refine wq_v (fun v6_q27535 h_v6_q27535 => ?_)
          have t_v6_q27535 := congrArg Int32.toInt h_v6_q27535
          have l_1 := il_1
          have t_27537 := ia_add y37_6 (1 : Int32) (by omega) (by omega)
          refine wq_v (fun v7_q27536 h_v7_q27536 => ?_)
          have t_v7_q27536 := congrArg Int32.toInt h_v7_q27536
          have b_27538 := i32b v6_q27535
          exact ih v6_q27535 v7_q27536 ⟨by omega, by omega⟩ (by omega)
set_option maxHeartbeats 4000000 in
theorem tt_fX12_costOn {N : Nat} (hN : 3000000000 ≤ N) (I0 : Nat → Int32) (L0 : Int64) (M0 : Nat → Nat → Int32) (x1 : Int32) (x2 : Int32) (x3 : Int32) (x4 : Int32) (h_x1 : 0 ≤ x1.toInt ∧ x1.toInt ≤ 119) (h_x2 : 0 ≤ x2.toInt ∧ x2.toInt ≤ 3) (k_I0 : KX12 I0 M0) : wq (fX12_costOn N I0 L0 M0 x1 x2 x3 x4) (fun r => True) := by
  unfold fX12_costOn
  have l_21 := il_21
  refine wq_b (tt_fX12_at hN I0 L0 M0 x1 (21 : Int32) ⟨by omega, by omega⟩ ⟨by omega, by omega⟩ k_I0) (fun r8_q27539 h_r8_q27539 => ?_)
  obtain ⟨h_r8_q27539_0, h_r8_q27539_1, h_r8_q27539_2, -⟩ := h_r8_q27539
  have l_m1 := il_m1
  refine wq_eq (fun hc_27540 => ?_) (fun hc_27541 => ?_)
  · unfold fX12_costOn_J31
    unfold fX12_costOn_J32
    have b_27542 := i32b x3
    have b_27543 := i32b x4
    have l_0 := il_0
    exact tt_fX12_costOn_L37 hN I0 L0 M0 x1 x2 x3 x4 ⟨by omega, by omega⟩ ⟨by omega, by omega⟩ k_I0 N (0 : Int32) (0 : Int32) ⟨by omega, by omega⟩ (by omega)
  · refine wq_b (tt_fX12_at hN I0 L0 M0 x1 (21 : Int32) ⟨by omega, by omega⟩ ⟨by omega, by omega⟩ k_I0) (fun r9b_q27544 h_r9b_q27544 => ?_)
    obtain ⟨h_r9b_q27544_0, h_r9b_q27544_1, h_r9b_q27544_2, -⟩ := h_r9b_q27544
    have b_27545 := i32b x3
    have l_365 := il_365
    have t_27546 := ia_rem2 x3 (365 : Int32) 365 il_365 (by decide)
    refine wq_eq (fun hc_27547 => ?_) (fun hc_27548 => ?_)
    · unfold fX12_costOn_J31
      unfold fX12_costOn_J32
      have b_27549 := i32b x4
      have l_0 := il_0
      exact tt_fX12_costOn_L37 hN I0 L0 M0 x1 x2 x3 x4 ⟨by omega, by omega⟩ ⟨by omega, by omega⟩ k_I0 N (0 : Int32) (0 : Int32) ⟨by omega, by omega⟩ (by omega)
    · unfold fX12_costOn_J32
      have b_27550 := i32b x4
      have l_30 := il_30
      have l_0 := il_0
      exact tt_fX12_costOn_L37 hN I0 L0 M0 x1 x2 x3 x4 ⟨by omega, by omega⟩ ⟨by omega, by omega⟩ k_I0 N (30 : Int32) (0 : Int32) ⟨by omega, by omega⟩ (by omega)
set_option maxHeartbeats 4000000 in
theorem tt_fX12_cost {N : Nat} (hN : 3000000000 ≤ N) (I0 : Nat → Int32) (L0 : Int64) (M0 : Nat → Nat → Int32) (x1 : Int32) (x2 : Int32) (x3 : Int32) (x4 : Int32) (k_I0 : KX12 I0 M0) : wq (fX12_cost N I0 L0 M0 x1 x2 x3 x4) (fun r => KX12 r.2.1 r.2.2.2 ∧ True) := by
  unfold fX12_cost
  have b_27791 := i32b x1
  have b_27792 := i32b x2
  refine wq_b (tt_fX12_isWheel hN I0 L0 M0 x1 x2 k_I0) (fun r3_q27793 h_r3_q27793 => ?_)
  obtain ⟨h_r3_q27793_0, h_r3_q27793_1, h_r3_q27793_2, h_r3_q27793_3, -⟩ := h_r3_q27793
  have t_27794 := KX12.i1 h_r3_q27793_3
  have t_27795 := KX12.i1 k_I0
  have l_0 := il_0
  refine wq_eq (fun hc_27796 => ?_) (fun hc_27797 => ?_)
  · exact wq_s ⟨h_r3_q27793_3, trivial⟩
  · have b_27798 := i32b x3
    have l_3 := il_3
    refine wq_b (tt_fX12_within hN x3 (0 : Int32) (3 : Int32)) (fun r4_q27799 h_r4_q27799 => ?_)
    obtain ⟨h_r4_q27799_0, h_r4_q27799_1, -⟩ := h_r4_q27799
    refine wq_eq (fun hc_27800 => ?_) (fun hc_27801 => ?_)
    · unfold fX12_cost_J34
      unfold fX12_cost_J35
      have l_1 := il_1
      refine wq_b (tt_fX12_right hN r3_q27793.2.1 r3_q27793.2.2.1 r3_q27793.2.2.2 (0 : Int32) (1 : Int32) ⟨by omega, by omega⟩ h_r3_q27793_3) (fun r1_q27802 h_r1_q27802 => ?_)
      obtain ⟨h_r1_q27802_0, h_r1_q27802_1, h_r1_q27802_2, h_r1_q27802_3, -⟩ := h_r1_q27802
      have t_27803 := KX12.i1 h_r1_q27802_3
      refine wq_eq (fun hc_27804 => ?_) (fun hc_27805 => ?_)
      · exact wq_s ⟨h_r1_q27802_3, trivial⟩
      · have l_20 := il_20
        have t_27806 := ia_mul (20 : Int32) (20) il_20 x1 (by omega) (by omega)
        have t_27807 := ia_add ((20 : Int32) * x1) x2 (by omega) (by omega)
        have b_27808 := i32b x4
        have l_999 := il_999
        refine wq_b (tt_fX12_costOn hN r1_q27802.2.1 r1_q27802.2.2.1 r1_q27802.2.2.2 (((20 : Int32) * x1) + x2) x3 x4 (999 : Int32) ⟨by omega, by omega⟩ ⟨by omega, by omega⟩ h_r1_q27802_3) (fun r2_q27809 h_r2_q27809 => ?_)
        obtain ⟨-⟩ := h_r2_q27809
        have b_27810 := i32b r2_q27809
        exact wq_s ⟨h_r1_q27802_3, trivial⟩
    · have b_27811 := i32b x4
      have l_1000000 := il_1000000
      refine wq_b (tt_fX12_within hN x4 (0 : Int32) (1000000 : Int32)) (fun r5_q27812 h_r5_q27812 => ?_)
      obtain ⟨h_r5_q27812_0, h_r5_q27812_1, -⟩ := h_r5_q27812
      refine wq_eq (fun hc_27813 => ?_) (fun hc_27814 => ?_)
      · unfold fX12_cost_J34
        unfold fX12_cost_J35
        have l_1 := il_1
        refine wq_b (tt_fX12_right hN r3_q27793.2.1 r3_q27793.2.2.1 r3_q27793.2.2.2 (0 : Int32) (1 : Int32) ⟨by omega, by omega⟩ h_r3_q27793_3) (fun r1_q27815 h_r1_q27815 => ?_)
        obtain ⟨h_r1_q27815_0, h_r1_q27815_1, h_r1_q27815_2, h_r1_q27815_3, -⟩ := h_r1_q27815
        have t_27816 := KX12.i1 h_r1_q27815_3
        refine wq_eq (fun hc_27817 => ?_) (fun hc_27818 => ?_)
        · exact wq_s ⟨h_r1_q27815_3, trivial⟩
        · have l_20 := il_20
          have t_27819 := ia_mul (20 : Int32) (20) il_20 x1 (by omega) (by omega)
          have t_27820 := ia_add ((20 : Int32) * x1) x2 (by omega) (by omega)
          have l_999 := il_999
          refine wq_b (tt_fX12_costOn hN r1_q27815.2.1 r1_q27815.2.2.1 r1_q27815.2.2.2 (((20 : Int32) * x1) + x2) x3 x4 (999 : Int32) ⟨by omega, by omega⟩ ⟨by omega, by omega⟩ h_r1_q27815_3) (fun r2_q27821 h_r2_q27821 => ?_)
          obtain ⟨-⟩ := h_r2_q27821
          have b_27822 := i32b r2_q27821
          exact wq_s ⟨h_r1_q27815_3, trivial⟩
      · unfold fX12_cost_J35
        have l_1 := il_1
        refine wq_b (tt_fX12_right hN r3_q27793.2.1 r3_q27793.2.2.1 r3_q27793.2.2.2 (1 : Int32) (1 : Int32) ⟨by omega, by omega⟩ h_r3_q27793_3) (fun r1_q27823 h_r1_q27823 => ?_)
        obtain ⟨h_r1_q27823_0, h_r1_q27823_1, h_r1_q27823_2, h_r1_q27823_3, -⟩ := h_r1_q27823
        have t_27824 := KX12.i1 h_r1_q27823_3
        refine wq_eq (fun hc_27825 => ?_) (fun hc_27826 => ?_)
        · exact wq_s ⟨h_r1_q27823_3, trivial⟩
        · have l_20 := il_20
          have t_27827 := ia_mul (20 : Int32) (20) il_20 x1 (by omega) (by omega)
          have t_27828 := ia_add ((20 : Int32) * x1) x2 (by omega) (by omega)
          have l_999 := il_999
          refine wq_b (tt_fX12_costOn hN r1_q27823.2.1 r1_q27823.2.2.1 r1_q27823.2.2.2 (((20 : Int32) * x1) + x2) x3 x4 (999 : Int32) ⟨by omega, by omega⟩ ⟨by omega, by omega⟩ h_r1_q27823_3) (fun r2_q27829 h_r2_q27829 => ?_)
          obtain ⟨-⟩ := h_r2_q27829
          have b_27830 := i32b r2_q27829
          exact wq_s ⟨h_r1_q27823_3, trivial⟩
set_option maxHeartbeats 4000000 in
theorem tt_fX12_isSpan {N : Nat} (hN : 3000000000 ≤ N) (I0 : Nat → Int32) (L0 : Int64) (M0 : Nat → Nat → Int32) (x1 : Int32) (x2 : Int32) (k_I0 : KX12 I0 M0) : wq (fX12_isSpan N I0 L0 M0 x1 x2) (fun r => (r.1.toInt = 0 ∨ (r.1.toInt = 1 ∧ 0 ≤ x1.toInt ∧ x1.toInt ≤ 1000000 ∧ 0 ≤ x2.toInt ∧ x2.toInt ≤ 50000 ∧ x1.toInt + x2.toInt ≤ 1000000)) ∧ (r.2.1 1).toInt = (I0 1).toInt ∧ (0 ≤ r.1.toInt ∧ r.1.toInt ≤ 1) ∧ KX12 r.2.1 r.2.2.2 ∧ True) := by
  unfold fX12_isSpan
  have b_27987 := i32b x1
  have l_0 := il_0
  have l_1000000 := il_1000000
  refine wq_b (tt_fX12_within hN x1 (0 : Int32) (1000000 : Int32)) (fun r2_q27988 h_r2_q27988 => ?_)
  obtain ⟨h_r2_q27988_0, h_r2_q27988_1, -⟩ := h_r2_q27988
  have l_1 := il_1
  refine wq_b (tt_fX12_right hN I0 L0 M0 r2_q27988 (1 : Int32) ⟨by omega, by omega⟩ k_I0) (fun r3_q27989 h_r3_q27989 => ?_)
  obtain ⟨h_r3_q27989_0, h_r3_q27989_1, h_r3_q27989_2, h_r3_q27989_3, -⟩ := h_r3_q27989
  have t_27990 := KX12.i1 h_r3_q27989_3
  have t_27991 := KX12.i1 k_I0
  refine wq_eq (fun hc_27992 => ?_) (fun hc_27993 => ?_)
  · have b_27994 := i32b x2
    exact wq_s ⟨(show ((0 : Int32).toInt = 0 ∨ ((0 : Int32).toInt = 1 ∧ 0 ≤ x1.toInt ∧ x1.toInt ≤ 1000000 ∧ 0 ≤ x2.toInt ∧ x2.toInt ≤ 50000 ∧ x1.toInt + x2.toInt ≤ 1000000)) from by omega), (show (r3_q27989.2.1 1).toInt = (I0 1).toInt from by omega), (show 0 ≤ (0 : Int32).toInt ∧ (0 : Int32).toInt ≤ 1 from ⟨by omega, by omega⟩), h_r3_q27989_3, trivial⟩
  · have b_27995 := i32b x2
    have l_50000 := il_50000
    refine wq_b (tt_fX12_within hN x2 (0 : Int32) (50000 : Int32)) (fun r4_q27996 h_r4_q27996 => ?_)
    obtain ⟨h_r4_q27996_0, h_r4_q27996_1, -⟩ := h_r4_q27996
    refine wq_eq (fun hc_27997 => ?_) (fun hc_27998 => ?_)
    · unfold fX12_isSpan_J39
      have l_2 := il_2
      refine wq_b (tt_fX12_right hN r3_q27989.2.1 r3_q27989.2.2.1 r3_q27989.2.2.2 (0 : Int32) (2 : Int32) ⟨by omega, by omega⟩ h_r3_q27989_3) (fun r1_q27999 h_r1_q27999 => ?_)
      obtain ⟨h_r1_q27999_0, h_r1_q27999_1, h_r1_q27999_2, h_r1_q27999_3, -⟩ := h_r1_q27999
      have t_28000 := KX12.i1 h_r1_q27999_3
      refine wq_eq (fun hc_28001 => ?_) (fun hc_28002 => ?_)
      · exact wq_s ⟨(show ((0 : Int32).toInt = 0 ∨ ((0 : Int32).toInt = 1 ∧ 0 ≤ x1.toInt ∧ x1.toInt ≤ 1000000 ∧ 0 ≤ x2.toInt ∧ x2.toInt ≤ 50000 ∧ x1.toInt + x2.toInt ≤ 1000000)) from by omega), (show (r1_q27999.2.1 1).toInt = (I0 1).toInt from by omega), (show 0 ≤ (0 : Int32).toInt ∧ (0 : Int32).toInt ≤ 1 from ⟨by omega, by omega⟩), h_r1_q27999_3, trivial⟩
      · exact wq_s ⟨(show ((1 : Int32).toInt = 0 ∨ ((1 : Int32).toInt = 1 ∧ 0 ≤ x1.toInt ∧ x1.toInt ≤ 1000000 ∧ 0 ≤ x2.toInt ∧ x2.toInt ≤ 50000 ∧ x1.toInt + x2.toInt ≤ 1000000)) from by omega), (show (r1_q27999.2.1 1).toInt = (I0 1).toInt from by omega), (show 0 ≤ (1 : Int32).toInt ∧ (1 : Int32).toInt ≤ 1 from ⟨by omega, by omega⟩), h_r1_q27999_3, trivial⟩
    · have t_28003 := ia_add x1 x2 (by omega) (by omega)
      refine wq_lt (fun hc_28004 => ?_) (fun hc_28005 => ?_)
      · unfold fX12_isSpan_J39
        have l_2 := il_2
        refine wq_b (tt_fX12_right hN r3_q27989.2.1 r3_q27989.2.2.1 r3_q27989.2.2.2 (0 : Int32) (2 : Int32) ⟨by omega, by omega⟩ h_r3_q27989_3) (fun r1_q28006 h_r1_q28006 => ?_)
        obtain ⟨h_r1_q28006_0, h_r1_q28006_1, h_r1_q28006_2, h_r1_q28006_3, -⟩ := h_r1_q28006
        have t_28007 := KX12.i1 h_r1_q28006_3
        refine wq_eq (fun hc_28008 => ?_) (fun hc_28009 => ?_)
        · exact wq_s ⟨(show ((0 : Int32).toInt = 0 ∨ ((0 : Int32).toInt = 1 ∧ 0 ≤ x1.toInt ∧ x1.toInt ≤ 1000000 ∧ 0 ≤ x2.toInt ∧ x2.toInt ≤ 50000 ∧ x1.toInt + x2.toInt ≤ 1000000)) from by omega), (show (r1_q28006.2.1 1).toInt = (I0 1).toInt from by omega), (show 0 ≤ (0 : Int32).toInt ∧ (0 : Int32).toInt ≤ 1 from ⟨by omega, by omega⟩), h_r1_q28006_3, trivial⟩
        · exact wq_s ⟨(show ((1 : Int32).toInt = 0 ∨ ((1 : Int32).toInt = 1 ∧ 0 ≤ x1.toInt ∧ x1.toInt ≤ 1000000 ∧ 0 ≤ x2.toInt ∧ x2.toInt ≤ 50000 ∧ x1.toInt + x2.toInt ≤ 1000000)) from by omega), (show (r1_q28006.2.1 1).toInt = (I0 1).toInt from by omega), (show 0 ≤ (1 : Int32).toInt ∧ (1 : Int32).toInt ≤ 1 from ⟨by omega, by omega⟩), h_r1_q28006_3, trivial⟩
      · have l_2 := il_2
        refine wq_b (tt_fX12_right hN r3_q27989.2.1 r3_q27989.2.2.1 r3_q27989.2.2.2 (1 : Int32) (2 : Int32) ⟨by omega, by omega⟩ h_r3_q27989_3) (fun r5_q28010 h_r5_q28010 => ?_)
        obtain ⟨h_r5_q28010_0, h_r5_q28010_1, h_r5_q28010_2, h_r5_q28010_3, -⟩ := h_r5_q28010
        have t_28011 := KX12.i1 h_r5_q28010_3
        refine wq_eq (fun hc_28012 => ?_) (fun hc_28013 => ?_)
        · exact wq_s ⟨(show ((0 : Int32).toInt = 0 ∨ ((0 : Int32).toInt = 1 ∧ 0 ≤ x1.toInt ∧ x1.toInt ≤ 1000000 ∧ 0 ≤ x2.toInt ∧ x2.toInt ≤ 50000 ∧ x1.toInt + x2.toInt ≤ 1000000)) from by omega), (show (r5_q28010.2.1 1).toInt = (I0 1).toInt from by omega), (show 0 ≤ (0 : Int32).toInt ∧ (0 : Int32).toInt ≤ 1 from ⟨by omega, by omega⟩), h_r5_q28010_3, trivial⟩
        · exact wq_s ⟨(show ((1 : Int32).toInt = 0 ∨ ((1 : Int32).toInt = 1 ∧ 0 ≤ x1.toInt ∧ x1.toInt ≤ 1000000 ∧ 0 ≤ x2.toInt ∧ x2.toInt ≤ 50000 ∧ x1.toInt + x2.toInt ≤ 1000000)) from by omega), (show (r5_q28010.2.1 1).toInt = (I0 1).toInt from by omega), (show 0 ≤ (1 : Int32).toInt ∧ (1 : Int32).toInt ≤ 1 from ⟨by omega, by omega⟩), h_r5_q28010_3, trivial⟩
set_option maxHeartbeats 4000000 in
theorem tt_fX12_best_L45 {N : Nat} (hN : 3000000000 ≤ N) (x1 : Int32) (x2 : Int32) (x3 : Int32) (x4 : Int32) (x5 : Int32) (h_x1 : 0 ≤ x1.toInt ∧ x1.toInt ≤ 5) (h_x2 : 0 ≤ x2.toInt ∧ x2.toInt ≤ 19) (h_x3 : 0 ≤ x3.toInt ∧ x3.toInt ≤ 3) (h_x4 : 0 ≤ x4.toInt ∧ x4.toInt ≤ 1000000) (h_x5 : 0 ≤ x5.toInt ∧ x5.toInt ≤ 50000)  : ∀ (fu : Nat) (I0_l45 : (Nat → Int32)) (L0_l45 : Int64) (M0_l45 : (Nat → Nat → Int32)) (y45_6 : Int32) (y45_7 : Int32), (-2147483648 ≤ y45_6.toInt ∧ y45_6.toInt ≤ 999) → (0 ≤ y45_7.toInt ∧ y45_7.toInt ≤ 1050001) → (KX12 I0_l45 M0_l45) → (1050001 - y45_7.toInt) < (fu : Int) → wq (fX12_best_L45 N x1 x2 x3 x4 x5 fu I0_l45 L0_l45 M0_l45 y45_6 y45_7) (fun r => (-2147483648 ≤ r.1.toInt ∧ r.1.toInt ≤ 999) ∧ KX12 r.2.1 r.2.2.2 ∧ True) := by
  intro fu
  induction fu with
  | zero => intro I0_l45 L0_l45 M0_l45 y45_6 y45_7 h_y45_6 h_y45_7 k_I0_l45 hm; exfalso; omega
  | succ fu ih =>
    intro I0_l45 L0_l45 M0_l45 y45_6 y45_7 h_y45_6 h_y45_7 k_I0_l45 hm
    rw [fX12_best_L45.eq_2]
    have t_28473 := ia_add x4 x5 (by omega) (by omega)
    refine wq_lt (fun hc_28474 => ?_) (fun hc_28475 => ?_)
    · have b_28476 := i32b y45_6
      exact wq_s ⟨(show -2147483648 ≤ y45_6.toInt ∧ y45_6.toInt ≤ 999 from ⟨by omega, by omega⟩), k_I0_l45, trivial⟩
    · have l_20 := il_20
      have t_28477 := ia_mul (20 : Int32) (20) il_20 x1 (by omega) (by omega)
      have t_28478 := ia_add ((20 : Int32) * x1) x2 (by omega) (by omega)
      have b_28479 := i32b y45_6
      refine wq_b (tt_fX12_costOn hN I0_l45 L0_l45 M0_l45 (((20 : Int32) * x1) + x2) x3 y45_7 y45_6 ⟨by omega, by omega⟩ ⟨by omega, by omega⟩ k_I0_l45) (fun r8_q28480 h_r8_q28480 => ?_)
      obtain ⟨-⟩ := h_r8_q28480
      have b_28481 := i32b r8_q28480
      refine wq_le (fun hc_28482 => ?_) (fun hc_28483 => ?_)
      · refine wq_le (fun hc_28484 => ?_) (fun hc_28485 => ?_)
        · unfold fX12_best_J94
          refine wq_le (fun hc_28486 => ?_) (fun hc_28487 => ?_)
          · unfold fX12_best_J118
            refine wq_v (fun I0_5_q28488 h_I0_5_q28488 => ?_)
            have k_I0_5_q28488 : KX12 I0_5_q28488 M0_l45 := by rw [h_I0_5_q28488]; exact KX12.si15 k_I0_l45
            have l_1 := il_1
            have t_28490 := ia_add y45_7 (1 : Int32) (by omega) (by omega)
            refine wq_v (fun v6_q28489 h_v6_q28489 => ?_)
            have t_v6_q28489 := congrArg Int32.toInt h_v6_q28489
            exact ih I0_5_q28488 L0_l45 M0_l45 r8_q28480 v6_q28489 ⟨by omega, by omega⟩ ⟨by omega, by omega⟩ k_I0_5_q28488 (by omega)
          · refine wq_in (n := 20) ⟨by omega, by omega⟩ ?_
            refine wq_v (fun M0_7_q28491 h_M0_7_q28491 => ?_)
            have k_M0_7_q28491 : KX12 I0_l45 M0_7_q28491 := by rw [h_M0_7_q28491]; exact KX12.sm17 k_I0_l45
            unfold fX12_best_J118
            refine wq_v (fun I0_5_q28492 h_I0_5_q28492 => ?_)
            have k_I0_5_q28492 : KX12 I0_5_q28492 M0_7_q28491 := by rw [h_I0_5_q28492]; exact KX12.si15 k_M0_7_q28491
            have l_1 := il_1
            have t_28494 := ia_add y45_7 (1 : Int32) (by omega) (by omega)
            refine wq_v (fun v6_q28493 h_v6_q28493 => ?_)
            have t_v6_q28493 := congrArg Int32.toInt h_v6_q28493
            exact ih I0_5_q28492 L0_l45 M0_7_q28491 r8_q28480 v6_q28493 ⟨by omega, by omega⟩ ⟨by omega, by omega⟩ k_I0_5_q28492 (by omega)
        · refine wq_v (fun I0_9_q28495 h_I0_9_q28495 => ?_)
          have k_I0_9_q28495 : KX12 I0_9_q28495 M0_l45 := by rw [h_I0_9_q28495]; exact KX12.si15 k_I0_l45
          unfold fX12_best_J94
          have l_0 := il_0
          have t_28496 : (I0_9_q28495 15).toInt = (0 : Int32).toInt := by rw [h_I0_9_q28495]; rfl
          refine wq_le (fun hc_28497 => ?_) (fun hc_28498 => ?_)
          · exfalso; omega
          · refine wq_in (n := 20) ⟨by omega, by omega⟩ ?_
            refine wq_v (fun M0_7_q28499 h_M0_7_q28499 => ?_)
            have k_M0_7_q28499 : KX12 I0_9_q28495 M0_7_q28499 := by rw [h_M0_7_q28499]; exact KX12.sm17 k_I0_9_q28495
            unfold fX12_best_J118
            refine wq_v (fun I0_5_q28500 h_I0_5_q28500 => ?_)
            have k_I0_5_q28500 : KX12 I0_5_q28500 M0_7_q28499 := by rw [h_I0_5_q28500]; exact KX12.si15 k_M0_7_q28499
            have l_1 := il_1
            have t_28502 := ia_add y45_7 (1 : Int32) (by omega) (by omega)
            refine wq_v (fun v6_q28501 h_v6_q28501 => ?_)
            have t_v6_q28501 := congrArg Int32.toInt h_v6_q28501
            exact ih I0_5_q28500 L0_l45 M0_7_q28499 r8_q28480 v6_q28501 ⟨by omega, by omega⟩ ⟨by omega, by omega⟩ k_I0_5_q28500 (by omega)
      · have l_1 := il_1
        have t_28504 := ia_add y45_7 (1 : Int32) (by omega) (by omega)
        refine wq_v (fun v10_q28503 h_v10_q28503 => ?_)
        have t_v10_q28503 := congrArg Int32.toInt h_v10_q28503
        exact ih I0_l45 L0_l45 M0_l45 y45_6 v10_q28503 ⟨by omega, by omega⟩ ⟨by omega, by omega⟩ k_I0_l45 (by omega)
set_option maxHeartbeats 4000000 in
theorem tt_fX12_best {N : Nat} (hN : 3000000000 ≤ N) (I0 : Nat → Int32) (L0 : Int64) (M0 : Nat → Nat → Int32) (x1 : Int32) (x2 : Int32) (x3 : Int32) (x4 : Int32) (x5 : Int32) (k_I0 : KX12 I0 M0) : wq (fX12_best N I0 L0 M0 x1 x2 x3 x4 x5) (fun r => (-2147483648 ≤ r.1.toInt ∧ r.1.toInt ≤ 999) ∧ KX12 r.2.1 r.2.2.2 ∧ True) := by
  unfold fX12_best
  have b_28505 := i32b x1
  have b_28506 := i32b x2
  refine wq_b (tt_fX12_isWheel hN I0 L0 M0 x1 x2 k_I0) (fun r1_q28507 h_r1_q28507 => ?_)
  obtain ⟨h_r1_q28507_0, h_r1_q28507_1, h_r1_q28507_2, h_r1_q28507_3, -⟩ := h_r1_q28507
  have t_28508 := KX12.i1 h_r1_q28507_3
  have t_28509 := KX12.i1 k_I0
  have l_0 := il_0
  refine wq_eq (fun hc_28510 => ?_) (fun hc_28511 => ?_)
  · exact wq_s ⟨(show -2147483648 ≤ (0 : Int32).toInt ∧ (0 : Int32).toInt ≤ 999 from ⟨by omega, by omega⟩), h_r1_q28507_3, trivial⟩
  · have b_28512 := i32b x3
    have l_3 := il_3
    refine wq_b (tt_fX12_within hN x3 (0 : Int32) (3 : Int32)) (fun r2_q28513 h_r2_q28513 => ?_)
    obtain ⟨h_r2_q28513_0, h_r2_q28513_1, -⟩ := h_r2_q28513
    have l_1 := il_1
    refine wq_b (tt_fX12_right hN r1_q28507.2.1 r1_q28507.2.2.1 r1_q28507.2.2.2 r2_q28513 (1 : Int32) ⟨by omega, by omega⟩ h_r1_q28507_3) (fun r3_q28514 h_r3_q28514 => ?_)
    obtain ⟨h_r3_q28514_0, h_r3_q28514_1, h_r3_q28514_2, h_r3_q28514_3, -⟩ := h_r3_q28514
    have t_28515 := KX12.i1 h_r3_q28514_3
    refine wq_eq (fun hc_28516 => ?_) (fun hc_28517 => ?_)
    · exact wq_s ⟨(show -2147483648 ≤ (0 : Int32).toInt ∧ (0 : Int32).toInt ≤ 999 from ⟨by omega, by omega⟩), h_r3_q28514_3, trivial⟩
    · have b_28518 := i32b x4
      have b_28519 := i32b x5
      refine wq_b (tt_fX12_isSpan hN r3_q28514.2.1 r3_q28514.2.2.1 r3_q28514.2.2.2 x4 x5 h_r3_q28514_3) (fun r4_q28520 h_r4_q28520 => ?_)
      obtain ⟨h_r4_q28520_0, h_r4_q28520_1, h_r4_q28520_2, h_r4_q28520_3, -⟩ := h_r4_q28520
      have t_28521 := KX12.i1 h_r4_q28520_3
      refine wq_eq (fun hc_28522 => ?_) (fun hc_28523 => ?_)
      · exact wq_s ⟨(show -2147483648 ≤ (0 : Int32).toInt ∧ (0 : Int32).toInt ≤ 999 from ⟨by omega, by omega⟩), h_r4_q28520_3, trivial⟩
      · have l_999 := il_999
        exact tt_fX12_best_L45 hN x1 x2 x3 x4 x5 ⟨by omega, by omega⟩ ⟨by omega, by omega⟩ ⟨by omega, by omega⟩ ⟨by omega, by omega⟩ ⟨by omega, by omega⟩ N r4_q28520.2.1 r4_q28520.2.2.1 r4_q28520.2.2.2 (999 : Int32) x4 ⟨by omega, by omega⟩ ⟨by omega, by omega⟩ h_r4_q28520_3 (by omega)
set_option maxHeartbeats 4000000 in
theorem tt_fX12_day {N : Nat} (hN : 3000000000 ≤ N) (I0 : Nat → Int32) (L0 : Int64) (M0 : Nat → Nat → Int32) (x1 : Int32) (k_I0 : KX12 I0 M0) : wq (fX12_day N I0 L0 M0 x1) (fun r => KX12 r.2.1 r.2.2.2 ∧ True) := by
  unfold fX12_day
  refine wq_v (fun I0_2_q28836 h_I0_2_q28836 => ?_)
  have k_I0_2_q28836 : KX12 I0_2_q28836 M0 := by rw [h_I0_2_q28836]; exact KX12.si0 k_I0
  have t_28837 : (I0_2_q28836 15).toInt = (I0 15).toInt := by rw [h_I0_2_q28836]; rfl
  have l_m1 := il_m1
  refine wq_eq (fun hc_28838 => ?_) (fun hc_28839 => ?_)
  · unfold fX12_day_J37
    unfold fX12_day_J38
    have l_0 := il_0
    have l_1 := il_1
    refine wq_b (tt_fX12_right hN I0_2_q28836 L0 M0 (0 : Int32) (1 : Int32) ⟨by omega, by omega⟩ k_I0_2_q28836) (fun r1_q28840 h_r1_q28840 => ?_)
    obtain ⟨h_r1_q28840_0, h_r1_q28840_1, h_r1_q28840_2, h_r1_q28840_3, -⟩ := h_r1_q28840
    have t_28841 := KX12.i1 h_r1_q28840_3
    have t_28842 := KX12.i1 k_I0
    have t_28843 : (I0_2_q28836 1).toInt = (I0 1).toInt := by rw [h_I0_2_q28836]; rfl
    refine wq_eq (fun hc_28844 => ?_) (fun hc_28845 => ?_)
    · exact wq_s ⟨h_r1_q28840_3, trivial⟩
    · have b_28846 := i32b x1
      refine wq_eq (fun hc_28847 => ?_) (fun hc_28848 => ?_)
      · exact wq_s ⟨h_r1_q28840_3, trivial⟩
      · refine wq_in (n := 20) ⟨by omega, by omega⟩ ?_
        exact wq_s ⟨h_r1_q28840_3, trivial⟩
  · have b_28849 := i32b x1
    refine wq_lt (fun hc_28850 => ?_) (fun hc_28851 => ?_)
    · unfold fX12_day_J37
      unfold fX12_day_J38
      have l_0 := il_0
      have l_1 := il_1
      refine wq_b (tt_fX12_right hN I0_2_q28836 L0 M0 (0 : Int32) (1 : Int32) ⟨by omega, by omega⟩ k_I0_2_q28836) (fun r1_q28852 h_r1_q28852 => ?_)
      obtain ⟨h_r1_q28852_0, h_r1_q28852_1, h_r1_q28852_2, h_r1_q28852_3, -⟩ := h_r1_q28852
      have t_28853 := KX12.i1 h_r1_q28852_3
      have t_28854 := KX12.i1 k_I0
      have t_28855 : (I0_2_q28836 1).toInt = (I0 1).toInt := by rw [h_I0_2_q28836]; rfl
      refine wq_eq (fun hc_28856 => ?_) (fun hc_28857 => ?_)
      · exact wq_s ⟨h_r1_q28852_3, trivial⟩
      · refine wq_eq (fun hc_28858 => ?_) (fun hc_28859 => ?_)
        · exfalso; omega
        · refine wq_in (n := 20) ⟨by omega, by omega⟩ ?_
          exact wq_s ⟨h_r1_q28852_3, trivial⟩
    · refine wq_le (fun hc_28860 => ?_) (fun hc_28861 => ?_)
      · unfold fX12_day_J37
        unfold fX12_day_J38
        have l_0 := il_0
        have l_1 := il_1
        refine wq_b (tt_fX12_right hN I0_2_q28836 L0 M0 (0 : Int32) (1 : Int32) ⟨by omega, by omega⟩ k_I0_2_q28836) (fun r1_q28862 h_r1_q28862 => ?_)
        obtain ⟨h_r1_q28862_0, h_r1_q28862_1, h_r1_q28862_2, h_r1_q28862_3, -⟩ := h_r1_q28862
        have t_28863 := KX12.i1 h_r1_q28862_3
        have t_28864 := KX12.i1 k_I0
        have t_28865 : (I0_2_q28836 1).toInt = (I0 1).toInt := by rw [h_I0_2_q28836]; rfl
        refine wq_eq (fun hc_28866 => ?_) (fun hc_28867 => ?_)
        · exact wq_s ⟨h_r1_q28862_3, trivial⟩
        · refine wq_eq (fun hc_28868 => ?_) (fun hc_28869 => ?_)
          · exact wq_s ⟨h_r1_q28862_3, trivial⟩
          · refine wq_in (n := 20) ⟨by omega, by omega⟩ ?_
            exact wq_s ⟨h_r1_q28862_3, trivial⟩
      · have l_20 := il_20
        refine wq_le (fun hc_28870 => ?_) (fun hc_28871 => ?_)
        · unfold fX12_day_J37
          unfold fX12_day_J38
          have l_0 := il_0
          have l_1 := il_1
          refine wq_b (tt_fX12_right hN I0_2_q28836 L0 M0 (0 : Int32) (1 : Int32) ⟨by omega, by omega⟩ k_I0_2_q28836) (fun r1_q28872 h_r1_q28872 => ?_)
          obtain ⟨h_r1_q28872_0, h_r1_q28872_1, h_r1_q28872_2, h_r1_q28872_3, -⟩ := h_r1_q28872
          have t_28873 := KX12.i1 h_r1_q28872_3
          have t_28874 := KX12.i1 k_I0
          have t_28875 : (I0_2_q28836 1).toInt = (I0 1).toInt := by rw [h_I0_2_q28836]; rfl
          refine wq_eq (fun hc_28876 => ?_) (fun hc_28877 => ?_)
          · exact wq_s ⟨h_r1_q28872_3, trivial⟩
          · refine wq_eq (fun hc_28878 => ?_) (fun hc_28879 => ?_)
            · exfalso; omega
            · refine wq_in (n := 20) ⟨by omega, by omega⟩ ?_
              exact wq_s ⟨h_r1_q28872_3, trivial⟩
        · unfold fX12_day_J38
          have l_1 := il_1
          refine wq_b (tt_fX12_right hN I0_2_q28836 L0 M0 (1 : Int32) (1 : Int32) ⟨by omega, by omega⟩ k_I0_2_q28836) (fun r1_q28880 h_r1_q28880 => ?_)
          obtain ⟨h_r1_q28880_0, h_r1_q28880_1, h_r1_q28880_2, h_r1_q28880_3, -⟩ := h_r1_q28880
          have t_28881 := KX12.i1 h_r1_q28880_3
          have t_28882 := KX12.i1 k_I0
          have t_28883 : (I0_2_q28836 1).toInt = (I0 1).toInt := by rw [h_I0_2_q28836]; rfl
          have l_0 := il_0
          refine wq_eq (fun hc_28884 => ?_) (fun hc_28885 => ?_)
          · exact wq_s ⟨h_r1_q28880_3, trivial⟩
          · refine wq_eq (fun hc_28886 => ?_) (fun hc_28887 => ?_)
            · exact wq_s ⟨h_r1_q28880_3, trivial⟩
            · refine wq_in (n := 20) ⟨by omega, by omega⟩ ?_
              exact wq_s ⟨h_r1_q28880_3, trivial⟩
set_option maxHeartbeats 4000000 in
theorem tt_fX12_whose_L64 {N : Nat} (hN : 3000000000 ≤ N) (x1 : Int32) (x2 : Int32) (x3 : Int32) (x4 : Int32) (x5 : Int32) (y50_6 : Int32) (y50_7 : Int32) (y50_8 : Int32) (y50_9 : Int32) (g50 : (Nat → Int32) → Int64 → (Nat → Nat → Int32) → Int32 → Int32 → Int32 → Int32 → Option (Int32 × (Nat → Int32) × Int64 × (Nat → Nat → Int32))) (h_x1 : 0 ≤ x1.toInt ∧ x1.toInt ≤ 5) (h_x2 : 0 ≤ x2.toInt ∧ x2.toInt ≤ 19) (h_x3 : 0 ≤ x3.toInt ∧ x3.toInt ≤ 1000000) (h_x4 : 0 ≤ x4.toInt ∧ x4.toInt ≤ 50000) (h_x5 : 0 ≤ x5.toInt ∧ x5.toInt ≤ 2) (h_y50_6 : -2147483648 ≤ y50_6.toInt ∧ y50_6.toInt ≤ 999) (h_y50_7 : -1 ≤ y50_7.toInt ∧ y50_7.toInt ≤ 3) (h_y50_9 : 0 ≤ y50_9.toInt ∧ y50_9.toInt ≤ 3) (hg50 : ∀ (q0 : (Nat → Int32)) (q1 : Int64) (q2 : (Nat → Nat → Int32)) (q3 : Int32) (q4 : Int32) (q5 : Int32) (q6 : Int32), (-2147483648 ≤ q3.toInt ∧ q3.toInt ≤ 999) → (-1 ≤ q4.toInt ∧ q4.toInt ≤ 3) → (0 ≤ q6.toInt ∧ q6.toInt ≤ 4) → (KX12 q0 q2) → (y50_9.toInt < q6.toInt) → wq (g50 q0 q1 q2 q3 q4 q5 q6) (fun r => KX12 r.2.1 r.2.2.2 ∧ True)) : ∀ (fu : Nat) (I0_l64 : (Nat → Int32)) (L0_l64 : Int64) (M0_l64 : (Nat → Nat → Int32)) (y64_10 : Int32) (y64_11 : Int32), (-2147483648 ≤ y64_10.toInt ∧ y64_10.toInt ≤ 999) → (0 ≤ y64_11.toInt ∧ y64_11.toInt ≤ 1050001) → (KX12 I0_l64 M0_l64) → (1050001 - y64_11.toInt) < (fu : Int) → wq (fX12_whose_L64 N x1 x2 x3 x4 x5 y50_6 y50_7 y50_8 y50_9 g50 fu I0_l64 L0_l64 M0_l64 y64_10 y64_11) (fun r => KX12 r.2.1 r.2.2.2 ∧ True) := by
  intro fu
  induction fu with
  | zero => intro I0_l64 L0_l64 M0_l64 y64_10 y64_11 h_y64_10 h_y64_11 k_I0_l64 hm; exfalso; omega
  | succ fu ih =>
    intro I0_l64 L0_l64 M0_l64 y64_10 y64_11 h_y64_10 h_y64_11 k_I0_l64 hm
    rw [fX12_whose_L64.eq_2]
    have t_30394 := ia_add x3 x4 (by omega) (by omega)
    refine wq_lt (fun hc_30395 => ?_) (fun hc_30396 => ?_)
    · have b_30397 := i32b y64_10
      have b_30398 := i32b y50_6
      refine wq_le (fun hc_30399 => ?_) (fun hc_30400 => ?_)
      · refine wq_le (fun hc_30401 => ?_) (fun hc_30402 => ?_)
        · unfold fX12_whose_J138
          refine wq_le (fun hc_30403 => ?_) (fun hc_30404 => ?_)
          · have l_1 := il_1
            have t_30406 := ia_add y50_9 (1 : Int32) (by omega) (by omega)
            refine wq_v (fun v5_q30405 h_v5_q30405 => ?_)
            have t_v5_q30405 := congrArg Int32.toInt h_v5_q30405
            have b_30407 := i32b y50_8
            exact hg50 I0_l64 L0_l64 M0_l64 y64_10 y50_7 (y50_8 + (1 : Int32)) v5_q30405 ⟨by omega, by omega⟩ ⟨by omega, by omega⟩ ⟨by omega, by omega⟩ k_I0_l64 (by omega)
          · have l_1 := il_1
            have t_30409 := ia_add y50_9 (1 : Int32) (by omega) (by omega)
            refine wq_v (fun v6_q30408 h_v6_q30408 => ?_)
            have t_v6_q30408 := congrArg Int32.toInt h_v6_q30408
            have b_30410 := i32b y50_8
            exact hg50 I0_l64 L0_l64 M0_l64 y64_10 y50_9 (y50_8 + (1 : Int32)) v6_q30408 ⟨by omega, by omega⟩ ⟨by omega, by omega⟩ ⟨by omega, by omega⟩ k_I0_l64 (by omega)
        · unfold fX12_whose_J138
          refine wq_le (fun hc_30411 => ?_) (fun hc_30412 => ?_)
          · have l_1 := il_1
            have t_30414 := ia_add y50_9 (1 : Int32) (by omega) (by omega)
            refine wq_v (fun v5_q30413 h_v5_q30413 => ?_)
            have t_v5_q30413 := congrArg Int32.toInt h_v5_q30413
            exact hg50 I0_l64 L0_l64 M0_l64 y64_10 y50_7 (1 : Int32) v5_q30413 ⟨by omega, by omega⟩ ⟨by omega, by omega⟩ ⟨by omega, by omega⟩ k_I0_l64 (by omega)
          · have l_1 := il_1
            have t_30416 := ia_add y50_9 (1 : Int32) (by omega) (by omega)
            refine wq_v (fun v6_q30415 h_v6_q30415 => ?_)
            have t_v6_q30415 := congrArg Int32.toInt h_v6_q30415
            exact hg50 I0_l64 L0_l64 M0_l64 y64_10 y50_9 (1 : Int32) v6_q30415 ⟨by omega, by omega⟩ ⟨by omega, by omega⟩ ⟨by omega, by omega⟩ k_I0_l64 (by omega)
      · have l_1 := il_1
        have t_30418 := ia_add y50_9 (1 : Int32) (by omega) (by omega)
        refine wq_v (fun v7_q30417 h_v7_q30417 => ?_)
        have t_v7_q30417 := congrArg Int32.toInt h_v7_q30417
        have b_30419 := i32b y50_8
        exact hg50 I0_l64 L0_l64 M0_l64 y50_6 y50_7 y50_8 v7_q30417 ⟨by omega, by omega⟩ ⟨by omega, by omega⟩ ⟨by omega, by omega⟩ k_I0_l64 (by omega)
    · have l_20 := il_20
      have t_30420 := ia_mul (20 : Int32) (20) il_20 x1 (by omega) (by omega)
      have t_30421 := ia_add ((20 : Int32) * x1) x2 (by omega) (by omega)
      have b_30422 := i32b y64_10
      refine wq_b (tt_fX12_costOn hN I0_l64 L0_l64 M0_l64 (((20 : Int32) * x1) + x2) y50_9 y64_11 y64_10 ⟨by omega, by omega⟩ ⟨by omega, by omega⟩ k_I0_l64) (fun r8_q30423 h_r8_q30423 => ?_)
      obtain ⟨-⟩ := h_r8_q30423
      have b_30424 := i32b r8_q30423
      refine wq_le (fun hc_30425 => ?_) (fun hc_30426 => ?_)
      · have l_1 := il_1
        have t_30428 := ia_add y64_11 (1 : Int32) (by omega) (by omega)
        refine wq_v (fun v9_q30427 h_v9_q30427 => ?_)
        have t_v9_q30427 := congrArg Int32.toInt h_v9_q30427
        exact ih I0_l64 L0_l64 M0_l64 y64_10 v9_q30427 ⟨by omega, by omega⟩ ⟨by omega, by omega⟩ k_I0_l64 (by omega)
      · have l_1 := il_1
        have t_30430 := ia_add y64_11 (1 : Int32) (by omega) (by omega)
        refine wq_v (fun v10_q30429 h_v10_q30429 => ?_)
        have t_v10_q30429 := congrArg Int32.toInt h_v10_q30429
        exact ih I0_l64 L0_l64 M0_l64 r8_q30423 v10_q30429 ⟨by omega, by omega⟩ ⟨by omega, by omega⟩ k_I0_l64 (by omega)
set_option maxHeartbeats 4000000 in
theorem tt_fX12_whose_L50 {N : Nat} (hN : 3000000000 ≤ N) (x1 : Int32) (x2 : Int32) (x3 : Int32) (x4 : Int32) (x5 : Int32) (h_x1 : 0 ≤ x1.toInt ∧ x1.toInt ≤ 5) (h_x2 : 0 ≤ x2.toInt ∧ x2.toInt ≤ 19) (h_x3 : 0 ≤ x3.toInt ∧ x3.toInt ≤ 1000000) (h_x4 : 0 ≤ x4.toInt ∧ x4.toInt ≤ 50000) (h_x5 : 0 ≤ x5.toInt ∧ x5.toInt ≤ 2)  : ∀ (fu : Nat) (I0_l50 : (Nat → Int32)) (L0_l50 : Int64) (M0_l50 : (Nat → Nat → Int32)) (y50_6 : Int32) (y50_7 : Int32) (y50_8 : Int32) (y50_9 : Int32), (-2147483648 ≤ y50_6.toInt ∧ y50_6.toInt ≤ 999) → (-1 ≤ y50_7.toInt ∧ y50_7.toInt ≤ 3) → (0 ≤ y50_9.toInt ∧ y50_9.toInt ≤ 4) → (KX12 I0_l50 M0_l50) → (4 - y50_9.toInt) < (fu : Int) → wq (fX12_whose_L50 N x1 x2 x3 x4 x5 fu I0_l50 L0_l50 M0_l50 y50_6 y50_7 y50_8 y50_9) (fun r => KX12 r.2.1 r.2.2.2 ∧ True) := by
  intro fu
  induction fu with
  | zero => intro I0_l50 L0_l50 M0_l50 y50_6 y50_7 y50_8 y50_9 h_y50_6 h_y50_7 h_y50_9 k_I0_l50 hm; exfalso; omega
  | succ fu ih =>
    intro I0_l50 L0_l50 M0_l50 y50_6 y50_7 y50_8 y50_9 h_y50_6 h_y50_7 h_y50_9 k_I0_l50 hm
    rw [fX12_whose_L50.eq_2]
    have l_4 := il_4
    refine wq_le (fun hc_30431 => ?_) (fun hc_30432 => ?_)
    · have l_0 := il_0
      refine wq_eq (fun hc_30433 => ?_) (fun hc_30434 => ?_)
      · exact wq_s ⟨k_I0_l50, trivial⟩
      · have l_1 := il_1
        refine wq_eq (fun hc_30435 => ?_) (fun hc_30436 => ?_)
        · have b_30437 := i32b y50_6
          exact wq_s ⟨k_I0_l50, trivial⟩
        · have b_30438 := i32b y50_8
          exact wq_s ⟨k_I0_l50, trivial⟩
    · have b_30439 := i32b y50_6
      have b_30440 := i32b y50_8
      have l_999 := il_999
      exact tt_fX12_whose_L64 hN x1 x2 x3 x4 x5 y50_6 y50_7 y50_8 y50_9 _ ⟨by omega, by omega⟩ ⟨by omega, by omega⟩ ⟨by omega, by omega⟩ ⟨by omega, by omega⟩ ⟨by omega, by omega⟩ ⟨by omega, by omega⟩ ⟨by omega, by omega⟩ ⟨by omega, by omega⟩ (fun q0 q1 q2 q3 q4 q5 q6 hq0 hq1 hq2 hq3 hq4 => ih q0 q1 q2 q3 q4 q5 q6 hq0 hq1 hq2 hq3 (by omega)) N I0_l50 L0_l50 M0_l50 (999 : Int32) x3 ⟨by omega, by omega⟩ ⟨by omega, by omega⟩ k_I0_l50 (by omega)
set_option maxHeartbeats 4000000 in
theorem tt_fX12_whose {N : Nat} (hN : 3000000000 ≤ N) (I0 : Nat → Int32) (L0 : Int64) (M0 : Nat → Nat → Int32) (x1 : Int32) (x2 : Int32) (x3 : Int32) (x4 : Int32) (x5 : Int32) (k_I0 : KX12 I0 M0) : wq (fX12_whose N I0 L0 M0 x1 x2 x3 x4 x5) (fun r => KX12 r.2.1 r.2.2.2 ∧ True) := by
  unfold fX12_whose
  have b_30441 := i32b x1
  have b_30442 := i32b x2
  refine wq_b (tt_fX12_isWheel hN I0 L0 M0 x1 x2 k_I0) (fun r1_q30443 h_r1_q30443 => ?_)
  obtain ⟨h_r1_q30443_0, h_r1_q30443_1, h_r1_q30443_2, h_r1_q30443_3, -⟩ := h_r1_q30443
  have t_30444 := KX12.i1 h_r1_q30443_3
  have t_30445 := KX12.i1 k_I0
  have l_0 := il_0
  refine wq_eq (fun hc_30446 => ?_) (fun hc_30447 => ?_)
  · exact wq_s ⟨h_r1_q30443_3, trivial⟩
  · have b_30448 := i32b x5
    have l_2 := il_2
    refine wq_b (tt_fX12_within hN x5 (0 : Int32) (2 : Int32)) (fun r2_q30449 h_r2_q30449 => ?_)
    obtain ⟨h_r2_q30449_0, h_r2_q30449_1, -⟩ := h_r2_q30449
    have l_1 := il_1
    refine wq_b (tt_fX12_right hN r1_q30443.2.1 r1_q30443.2.2.1 r1_q30443.2.2.2 r2_q30449 (1 : Int32) ⟨by omega, by omega⟩ h_r1_q30443_3) (fun r3_q30450 h_r3_q30450 => ?_)
    obtain ⟨h_r3_q30450_0, h_r3_q30450_1, h_r3_q30450_2, h_r3_q30450_3, -⟩ := h_r3_q30450
    have t_30451 := KX12.i1 h_r3_q30450_3
    refine wq_eq (fun hc_30452 => ?_) (fun hc_30453 => ?_)
    · exact wq_s ⟨h_r3_q30450_3, trivial⟩
    · have b_30454 := i32b x3
      have b_30455 := i32b x4
      refine wq_b (tt_fX12_isSpan hN r3_q30450.2.1 r3_q30450.2.2.1 r3_q30450.2.2.2 x3 x4 h_r3_q30450_3) (fun r4_q30456 h_r4_q30456 => ?_)
      obtain ⟨h_r4_q30456_0, h_r4_q30456_1, h_r4_q30456_2, h_r4_q30456_3, -⟩ := h_r4_q30456
      have t_30457 := KX12.i1 h_r4_q30456_3
      refine wq_eq (fun hc_30458 => ?_) (fun hc_30459 => ?_)
      · exact wq_s ⟨h_r4_q30456_3, trivial⟩
      · have l_999 := il_999
        have l_m1 := il_m1
        exact tt_fX12_whose_L50 hN x1 x2 x3 x4 x5 ⟨by omega, by omega⟩ ⟨by omega, by omega⟩ ⟨by omega, by omega⟩ ⟨by omega, by omega⟩ ⟨by omega, by omega⟩ N r4_q30456.2.1 r4_q30456.2.2.1 r4_q30456.2.2.2 (999 : Int32) ((-1) : Int32) (0 : Int32) (0 : Int32) ⟨by omega, by omega⟩ ⟨by omega, by omega⟩ ⟨by omega, by omega⟩ h_r4_q30456_3 (by omega)
set_option maxHeartbeats 4000000 in
theorem tt_fX12_isMixed_L41 {N : Nat} (hN : 3000000000 ≤ N) (I0 : Nat → Int32) (L0 : Int64) (M0 : Nat → Nat → Int32) (x1 : Int32) (x2 : Int32) (y9_3 : Int32) (y9_5 : Int32) (g9 : Int32 → Int32 → Int32 → Option (Int32)) (h_x1 : 0 ≤ x1.toInt ∧ x1.toInt ≤ 119) (h_y9_5 : 0 ≤ y9_5.toInt ∧ y9_5.toInt ≤ 6) (k_I0 : KX12 I0 M0) (hg9 : ∀ (q0 : Int32) (q1 : Int32) (q2 : Int32), (0 ≤ q1.toInt ∧ q1.toInt ≤ 1) → (0 ≤ q2.toInt ∧ q2.toInt ≤ 7) → (y9_5.toInt < q2.toInt) → wq (g9 q0 q1 q2) (fun r => (0 ≤ r.toInt ∧ r.toInt ≤ 1) ∧ True)) : ∀ (fu : Nat) (y41_6 : Int32) (y41_7 : Int32), (0 ≤ y41_6.toInt ∧ y41_6.toInt ≤ 255) → (0 ≤ y41_7.toInt ∧ y41_7.toInt ≤ 4) → (4 - y41_7.toInt) < (fu : Int) → wq (fX12_isMixed_L41 N I0 L0 M0 x1 x2 y9_3 y9_5 g9 fu y41_6 y41_7) (fun r => (0 ≤ r.toInt ∧ r.toInt ≤ 1) ∧ True) := by
  intro fu
  induction fu with
  | zero => intro y41_6 y41_7 h_y41_6 h_y41_7 hm; exfalso; omega
  | succ fu ih =>
    intro y41_6 y41_7 h_y41_6 h_y41_7 hm
    rw [fX12_isMixed_L41.eq_2]
    have l_4 := il_4
    refine wq_le (fun hc_30954 => ?_) (fun hc_30955 => ?_)
    · refine wq_v (fun v2_q30956 h_v2_q30956 => ?_)
      have t_v2_q30956 := congrArg Int32.toInt h_v2_q30956
      have l_0 := il_0
      refine wq_eq (fun hc_30957 => ?_) (fun hc_30958 => ?_)
      · have l_1 := il_1
        have t_30960 := ia_add y9_5 (1 : Int32) (by omega) (by omega)
        refine wq_v (fun v3_q30959 h_v3_q30959 => ?_)
        have t_v3_q30959 := congrArg Int32.toInt h_v3_q30959
        have b_30961 := i32b v2_q30956
        exact hg9 v2_q30956 (0 : Int32) v3_q30959 ⟨by omega, by omega⟩ ⟨by omega, by omega⟩ (by omega)
      · have l_1 := il_1
        have t_30963 := ia_add y9_5 (1 : Int32) (by omega) (by omega)
        refine wq_v (fun v4_q30962 h_v4_q30962 => ?_)
        have t_v4_q30962 := congrArg Int32.toInt h_v4_q30962
        have b_30964 := i32b v2_q30956
        exact hg9 v2_q30956 (1 : Int32) v4_q30962 ⟨by omega, by omega⟩ ⟨by omega, by omega⟩ (by omega)
    · have b_30965 := i32b x2
      refine wq_b (tt_fX12_placeOn hN I0 L0 M0 y41_7 y9_5 x2 ⟨by omega, by omega⟩ ⟨by omega, by omega⟩ k_I0) (fun r5_q30966 h_r5_q30966 => ?_)
      obtain ⟨-⟩ := h_r5_q30966
      refine wq_b (tt_fX12_at hN I0 L0 M0 x1 y9_5 ⟨by omega, by omega⟩ ⟨by omega, by omega⟩ k_I0) (fun r6_q30967 h_r6_q30967 => ?_)
      obtain ⟨h_r6_q30967_0, h_r6_q30967_1, h_r6_q30967_2, -⟩ := h_r6_q30967
      have b_30968 := i32b r5_q30966
      have l_60 := il_60
      have t_30969 := i32b r5_q30966
      have t_30970 := ia_div2 r5_q30966 (60 : Int32) 60 il_60 (by decide)
      refine wq_eq (fun hc_30971 => ?_) (fun hc_30972 => ?_)
      · have t_30974 := or_sh y41_6 y41_7 ⟨by omega, by omega⟩ ⟨by omega, by omega⟩
        refine wq_v (fun v8_q30973 h_v8_q30973 => ?_)
        have t_v8_q30973 := congrArg Int32.toInt h_v8_q30973
        have l_1 := il_1
        have t_30976 := ia_add y41_7 (1 : Int32) (by omega) (by omega)
        refine wq_v (fun v9_q30975 h_v9_q30975 => ?_)
        have t_v9_q30975 := congrArg Int32.toInt h_v9_q30975
        exact ih v8_q30973 v9_q30975 ⟨by omega, by omega⟩ ⟨by omega, by omega⟩ (by omega)
      · have l_1 := il_1
        have t_30978 := ia_add y41_7 (1 : Int32) (by omega) (by omega)
        refine wq_v (fun v7_q30977 h_v7_q30977 => ?_)
        have t_v7_q30977 := congrArg Int32.toInt h_v7_q30977
        exact ih y41_6 v7_q30977 ⟨by omega, by omega⟩ ⟨by omega, by omega⟩ (by omega)
set_option maxHeartbeats 4000000 in
theorem tt_fX12_isMixed_L9 {N : Nat} (hN : 3000000000 ≤ N) (I0 : Nat → Int32) (L0 : Int64) (M0 : Nat → Nat → Int32) (x1 : Int32) (x2 : Int32) (h_x1 : 0 ≤ x1.toInt ∧ x1.toInt ≤ 119) (k_I0 : KX12 I0 M0)  : ∀ (fu : Nat) (y9_3 : Int32) (y9_4 : Int32) (y9_5 : Int32), (0 ≤ y9_4.toInt ∧ y9_4.toInt ≤ 1) → (0 ≤ y9_5.toInt ∧ y9_5.toInt ≤ 7) → (7 - y9_5.toInt) < (fu : Int) → wq (fX12_isMixed_L9 N I0 L0 M0 x1 x2 fu y9_3 y9_4 y9_5) (fun r => (0 ≤ r.toInt ∧ r.toInt ≤ 1) ∧ True) := by
  intro fu
  induction fu with
  | zero => intro y9_3 y9_4 y9_5 h_y9_4 h_y9_5 hm; exfalso; omega
  | succ fu ih =>
    intro y9_3 y9_4 y9_5 h_y9_4 h_y9_5 hm
    rw [fX12_isMixed_L9.eq_2]
    have l_7 := il_7
    refine wq_le (fun hc_30979 => ?_) (fun hc_30980 => ?_)
    · unfold fX12_isMixed_J107
      have l_0 := il_0
      refine wq_eq (fun hc_30981 => ?_) (fun hc_30982 => ?_)
      · exact wq_s ⟨(show 0 ≤ (0 : Int32).toInt ∧ (0 : Int32).toInt ≤ 1 from ⟨by omega, by omega⟩), trivial⟩
      · have b_30983 := i32b y9_3
        refine wq_eq (fun hc_30984 => ?_) (fun hc_30985 => ?_)
        · have l_1 := il_1
          exact wq_s ⟨(show 0 ≤ (1 : Int32).toInt ∧ (1 : Int32).toInt ≤ 1 from ⟨by omega, by omega⟩), trivial⟩
        · exact wq_s ⟨(show 0 ≤ (0 : Int32).toInt ∧ (0 : Int32).toInt ≤ 1 from ⟨by omega, by omega⟩), trivial⟩
    · have l_0 := il_0
      refine wq_eq (fun hc_30986 => ?_) (fun hc_30987 => ?_)
      · unfold fX12_isMixed_J107
        refine wq_eq (fun hc_30988 => ?_) (fun hc_30989 => ?_)
        · exact wq_s ⟨(show 0 ≤ (0 : Int32).toInt ∧ (0 : Int32).toInt ≤ 1 from ⟨by omega, by omega⟩), trivial⟩
        · exfalso; omega
      · refine wq_b (tt_fX12_at hN I0 L0 M0 x1 y9_5 ⟨by omega, by omega⟩ ⟨by omega, by omega⟩ k_I0) (fun r1_q30990 h_r1_q30990 => ?_)
        obtain ⟨h_r1_q30990_0, h_r1_q30990_1, h_r1_q30990_2, -⟩ := h_r1_q30990
        have l_m1 := il_m1
        refine wq_eq (fun hc_30991 => ?_) (fun hc_30992 => ?_)
        · have l_1 := il_1
          have t_30994 := ia_add y9_5 (1 : Int32) (by omega) (by omega)
          refine wq_v (fun v10_q30993 h_v10_q30993 => ?_)
          have t_v10_q30993 := congrArg Int32.toInt h_v10_q30993
          have b_30995 := i32b y9_3
          exact ih y9_3 y9_4 v10_q30993 ⟨by omega, by omega⟩ ⟨by omega, by omega⟩ (by omega)
        · have b_30996 := i32b x2
          have b_30997 := i32b y9_3
          exact tt_fX12_isMixed_L41 hN I0 L0 M0 x1 x2 y9_3 y9_5 _ ⟨by omega, by omega⟩ ⟨by omega, by omega⟩ k_I0 (fun q0 q1 q2 hq0 hq1 hq2 => ih q0 q1 q2 hq0 hq1 (by omega)) N (0 : Int32) (0 : Int32) ⟨by omega, by omega⟩ ⟨by omega, by omega⟩ (by omega)
set_option maxHeartbeats 4000000 in
theorem tt_fX12_isMixed {N : Nat} (hN : 3000000000 ≤ N) (I0 : Nat → Int32) (L0 : Int64) (M0 : Nat → Nat → Int32) (x1 : Int32) (x2 : Int32) (h_x1 : 0 ≤ x1.toInt ∧ x1.toInt ≤ 119) (k_I0 : KX12 I0 M0) : wq (fX12_isMixed N I0 L0 M0 x1 x2) (fun r => (0 ≤ r.toInt ∧ r.toInt ≤ 1) ∧ True) := by
  unfold fX12_isMixed
  have b_30998 := i32b x2
  have l_15 := il_15
  have l_1 := il_1
  have l_0 := il_0
  exact tt_fX12_isMixed_L9 hN I0 L0 M0 x1 x2 ⟨by omega, by omega⟩ k_I0 N (15 : Int32) (1 : Int32) (0 : Int32) ⟨by omega, by omega⟩ ⟨by omega, by omega⟩ (by omega)
set_option maxHeartbeats 4000000 in
theorem tt_fX12_mixed_L27 {N : Nat} (hN : 3000000000 ≤ N) (x1 : Int32) (x2 : Int32) (x3 : Int32) (x4 : Int32) (h_x1 : 0 ≤ x1.toInt ∧ x1.toInt ≤ 5) (h_x2 : 0 ≤ x2.toInt ∧ x2.toInt ≤ 19) (h_x3 : 0 ≤ x3.toInt ∧ x3.toInt ≤ 1000000) (h_x4 : 0 ≤ x4.toInt ∧ x4.toInt ≤ 50000)  : ∀ (fu : Nat) (I0_l27 : (Nat → Int32)) (L0_l27 : Int64) (M0_l27 : (Nat → Nat → Int32)) (y27_5 : Int32) (y27_6 : Int32), (0 ≤ y27_6.toInt ∧ y27_6.toInt ≤ 1050001) → (KX12 I0_l27 M0_l27) → (1050001 - y27_6.toInt) < (fu : Int) → wq (fX12_mixed_L27 N x1 x2 x3 x4 fu I0_l27 L0_l27 M0_l27 y27_5 y27_6) (fun r => KX12 r.2.1 r.2.2.2 ∧ True) := by
  intro fu
  induction fu with
  | zero => intro I0_l27 L0_l27 M0_l27 y27_5 y27_6 h_y27_6 k_I0_l27 hm; exfalso; omega
  | succ fu ih =>
    intro I0_l27 L0_l27 M0_l27 y27_5 y27_6 h_y27_6 k_I0_l27 hm
    rw [fX12_mixed_L27.eq_2]
    have t_31573 := ia_add x3 x4 (by omega) (by omega)
    refine wq_lt (fun hc_31574 => ?_) (fun hc_31575 => ?_)
    · have b_31576 := i32b y27_5
      exact wq_s ⟨k_I0_l27, trivial⟩
    · have l_20 := il_20
      have t_31577 := ia_mul (20 : Int32) (20) il_20 x1 (by omega) (by omega)
      have t_31578 := ia_add ((20 : Int32) * x1) x2 (by omega) (by omega)
      refine wq_b (tt_fX12_isMixed hN I0_l27 L0_l27 M0_l27 (((20 : Int32) * x1) + x2) y27_6 ⟨by omega, by omega⟩ k_I0_l27) (fun r3_q31579 h_r3_q31579 => ?_)
      obtain ⟨h_r3_q31579_0, -⟩ := h_r3_q31579
      have l_0 := il_0
      refine wq_eq (fun hc_31580 => ?_) (fun hc_31581 => ?_)
      · have l_1 := il_1
        have t_31583 := ia_add y27_6 (1 : Int32) (by omega) (by omega)
        refine wq_v (fun v4_q31582 h_v4_q31582 => ?_)
        have t_v4_q31582 := congrArg Int32.toInt h_v4_q31582
        have b_31584 := i32b y27_5
        exact ih I0_l27 L0_l27 M0_l27 y27_5 v4_q31582 ⟨by omega, by omega⟩ k_I0_l27 (by omega)
      · have b_31586 := i32b y27_5
        have l_1 := il_1
        refine wq_v (fun v5_q31585 h_v5_q31585 => ?_)
        have t_v5_q31585 := congrArg Int32.toInt h_v5_q31585
        have t_31588 := ia_add y27_6 (1 : Int32) (by omega) (by omega)
        refine wq_v (fun v6_q31587 h_v6_q31587 => ?_)
        have t_v6_q31587 := congrArg Int32.toInt h_v6_q31587
        have b_31589 := i32b v5_q31585
        exact ih I0_l27 L0_l27 M0_l27 v5_q31585 v6_q31587 ⟨by omega, by omega⟩ k_I0_l27 (by omega)
set_option maxHeartbeats 4000000 in
theorem tt_fX12_mixed {N : Nat} (hN : 3000000000 ≤ N) (I0 : Nat → Int32) (L0 : Int64) (M0 : Nat → Nat → Int32) (x1 : Int32) (x2 : Int32) (x3 : Int32) (x4 : Int32) (k_I0 : KX12 I0 M0) : wq (fX12_mixed N I0 L0 M0 x1 x2 x3 x4) (fun r => KX12 r.2.1 r.2.2.2 ∧ True) := by
  unfold fX12_mixed
  have b_31590 := i32b x1
  have b_31591 := i32b x2
  refine wq_b (tt_fX12_isWheel hN I0 L0 M0 x1 x2 k_I0) (fun r1_q31592 h_r1_q31592 => ?_)
  obtain ⟨h_r1_q31592_0, h_r1_q31592_1, h_r1_q31592_2, h_r1_q31592_3, -⟩ := h_r1_q31592
  have t_31593 := KX12.i1 h_r1_q31592_3
  have t_31594 := KX12.i1 k_I0
  have l_0 := il_0
  refine wq_eq (fun hc_31595 => ?_) (fun hc_31596 => ?_)
  · exact wq_s ⟨h_r1_q31592_3, trivial⟩
  · have b_31597 := i32b x3
    have b_31598 := i32b x4
    refine wq_b (tt_fX12_isSpan hN r1_q31592.2.1 r1_q31592.2.2.1 r1_q31592.2.2.2 x3 x4 h_r1_q31592_3) (fun r2_q31599 h_r2_q31599 => ?_)
    obtain ⟨h_r2_q31599_0, h_r2_q31599_1, h_r2_q31599_2, h_r2_q31599_3, -⟩ := h_r2_q31599
    have t_31600 := KX12.i1 h_r2_q31599_3
    refine wq_eq (fun hc_31601 => ?_) (fun hc_31602 => ?_)
    · exact wq_s ⟨h_r2_q31599_3, trivial⟩
    · exact tt_fX12_mixed_L27 hN x1 x2 x3 x4 ⟨by omega, by omega⟩ ⟨by omega, by omega⟩ ⟨by omega, by omega⟩ ⟨by omega, by omega⟩ N r2_q31599.2.1 r2_q31599.2.2.1 r2_q31599.2.2.2 (0 : Int32) x3 ⟨by omega, by omega⟩ h_r2_q31599_3 (by omega)
set_option maxHeartbeats 4000000 in
theorem tt_fX12_seek {N : Nat} (hN : 3000000000 ≤ N) (I0 : Nat → Int32) (L0 : Int64) (M0 : Nat → Nat → Int32) (x1 : Int32) (x2 : Int32) (x3 : Int32) (x4 : Int32) (k_I0 : KX12 I0 M0) : wq (fX12_seek N I0 L0 M0 x1 x2 x3 x4) (fun r => KX12 r.1 r.2.2 ∧ True) := by
  unfold fX12_seek
  have b_31893 := i32b x1
  have b_31894 := i32b x2
  refine wq_b (tt_fX12_isWheel hN I0 L0 M0 x1 x2 k_I0) (fun r10_q31895 h_r10_q31895 => ?_)
  obtain ⟨h_r10_q31895_0, h_r10_q31895_1, h_r10_q31895_2, h_r10_q31895_3, -⟩ := h_r10_q31895
  have t_31896 := KX12.i1 h_r10_q31895_3
  have t_31897 := KX12.i1 k_I0
  have l_0 := il_0
  refine wq_eq (fun hc_31898 => ?_) (fun hc_31899 => ?_)
  · exact wq_s ⟨h_r10_q31895_3, trivial⟩
  · have b_31900 := i32b x3
    have l_3 := il_3
    refine wq_b (tt_fX12_within hN x3 (0 : Int32) (3 : Int32)) (fun r11_q31901 h_r11_q31901 => ?_)
    obtain ⟨h_r11_q31901_0, h_r11_q31901_1, -⟩ := h_r11_q31901
    refine wq_eq (fun hc_31902 => ?_) (fun hc_31903 => ?_)
    · unfold fX12_seek_J34
      unfold fX12_seek_J35
      have l_1 := il_1
      refine wq_b (tt_fX12_right hN r10_q31895.2.1 r10_q31895.2.2.1 r10_q31895.2.2.2 (0 : Int32) (1 : Int32) ⟨by omega, by omega⟩ h_r10_q31895_3) (fun r1_q31904 h_r1_q31904 => ?_)
      obtain ⟨h_r1_q31904_0, h_r1_q31904_1, h_r1_q31904_2, h_r1_q31904_3, -⟩ := h_r1_q31904
      have t_31905 := KX12.i1 h_r1_q31904_3
      refine wq_eq (fun hc_31906 => ?_) (fun hc_31907 => ?_)
      · exact wq_s ⟨h_r1_q31904_3, trivial⟩
      · refine wq_v (fun I0_2_q31908 h_I0_2_q31908 => ?_)
        have k_I0_2_q31908 : KX12 I0_2_q31908 r1_q31904.2.2.2 := by rw [h_I0_2_q31908]; exact KX12.si16 h_r1_q31904_3 ⟨by omega, by omega⟩
        refine wq_in (n := 7) ⟨by omega, by omega⟩ ?_
        refine wq_v (fun M0_3_q31909 h_M0_3_q31909 => ?_)
        have l_20 := il_20
        have t_31910 := ia_mul (20 : Int32) (20) il_20 x1 (by omega) (by omega)
        have t_31911 := ia_add ((20 : Int32) * x1) x2 (by omega) (by omega)
        have k_M0_3_q31909 : KX12 I0_2_q31908 M0_3_q31909 := by rw [h_M0_3_q31909]; exact KX12.sm18 k_I0_2_q31908 (SR.um (KX12.ese k_I0_2_q31908) (fun _ => ⟨by omega, by omega⟩) (fun q => absurd q (by decide)) (fun q => absurd q (by decide)))
        refine wq_in (n := 7) ⟨by omega, by omega⟩ ?_
        refine wq_v (fun M0_4_q31912 h_M0_4_q31912 => ?_)
        have k_M0_4_q31912 : KX12 I0_2_q31908 M0_4_q31912 := by rw [h_M0_4_q31912]; exact KX12.sm18 k_M0_3_q31909 (SR.um (KX12.ese k_M0_3_q31909) (fun q => absurd q (by decide)) (fun _ => ⟨by omega, by omega⟩) (fun q => absurd q (by decide)))
        have l_2 := il_2
        refine wq_in (n := 7) ⟨by omega, by omega⟩ ?_
        refine wq_v (fun M0_5_q31913 h_M0_5_q31913 => ?_)
        have b_31914 := i32b x4
        have k_M0_5_q31913 : KX12 I0_2_q31908 M0_5_q31913 := by rw [h_M0_5_q31913]; exact KX12.sm18 k_M0_4_q31912 (SR.um (KX12.ese k_M0_4_q31912) (fun q => absurd q (by decide)) (fun q => absurd q (by decide)) (fun _ => ⟨by omega, by omega⟩))
        refine wq_in (n := 7) ⟨by omega, by omega⟩ ?_
        refine wq_v (fun M0_6_q31915 h_M0_6_q31915 => ?_)
        have k_M0_6_q31915 : KX12 I0_2_q31908 M0_6_q31915 := by rw [h_M0_6_q31915]; exact KX12.sm18 k_M0_5_q31913 (SR.um (KX12.ese k_M0_5_q31913) (fun q => absurd q (by decide)) (fun q => absurd q (by decide)) (fun q => absurd q (by decide)))
        have l_4 := il_4
        refine wq_in (n := 7) ⟨by omega, by omega⟩ ?_
        refine wq_v (fun M0_7_q31916 h_M0_7_q31916 => ?_)
        have k_M0_7_q31916 : KX12 I0_2_q31908 M0_7_q31916 := by rw [h_M0_7_q31916]; exact KX12.sm18 k_M0_6_q31915 (SR.um (KX12.ese k_M0_6_q31915) (fun q => absurd q (by decide)) (fun q => absurd q (by decide)) (fun q => absurd q (by decide)))
        have l_5 := il_5
        refine wq_in (n := 7) ⟨by omega, by omega⟩ ?_
        refine wq_v (fun M0_8_q31917 h_M0_8_q31917 => ?_)
        have k_M0_8_q31917 : KX12 I0_2_q31908 M0_8_q31917 := by rw [h_M0_8_q31917]; exact KX12.sm18 k_M0_7_q31916 (SR.um (KX12.ese k_M0_7_q31916) (fun q => absurd q (by decide)) (fun q => absurd q (by decide)) (fun q => absurd q (by decide)))
        have l_6 := il_6
        refine wq_in (n := 7) ⟨by omega, by omega⟩ ?_
        refine wq_v (fun M0_9_q31918 h_M0_9_q31918 => ?_)
        have k_M0_9_q31918 : KX12 I0_2_q31908 M0_9_q31918 := by rw [h_M0_9_q31918]; exact KX12.sm18 k_M0_8_q31917 (SR.um (KX12.ese k_M0_8_q31917) (fun q => absurd q (by decide)) (fun q => absurd q (by decide)) (fun q => absurd q (by decide)))
        exact wq_s ⟨k_M0_9_q31918, trivial⟩
    · have b_31919 := i32b x4
      have l_1000000 := il_1000000
      refine wq_b (tt_fX12_within hN x4 (0 : Int32) (1000000 : Int32)) (fun r12_q31920 h_r12_q31920 => ?_)
      obtain ⟨h_r12_q31920_0, h_r12_q31920_1, -⟩ := h_r12_q31920
      refine wq_eq (fun hc_31921 => ?_) (fun hc_31922 => ?_)
      · unfold fX12_seek_J34
        unfold fX12_seek_J35
        have l_1 := il_1
        refine wq_b (tt_fX12_right hN r10_q31895.2.1 r10_q31895.2.2.1 r10_q31895.2.2.2 (0 : Int32) (1 : Int32) ⟨by omega, by omega⟩ h_r10_q31895_3) (fun r1_q31923 h_r1_q31923 => ?_)
        obtain ⟨h_r1_q31923_0, h_r1_q31923_1, h_r1_q31923_2, h_r1_q31923_3, -⟩ := h_r1_q31923
        have t_31924 := KX12.i1 h_r1_q31923_3
        refine wq_eq (fun hc_31925 => ?_) (fun hc_31926 => ?_)
        · exact wq_s ⟨h_r1_q31923_3, trivial⟩
        · refine wq_v (fun I0_2_q31927 h_I0_2_q31927 => ?_)
          have k_I0_2_q31927 : KX12 I0_2_q31927 r1_q31923.2.2.2 := by rw [h_I0_2_q31927]; exact KX12.si16 h_r1_q31923_3 ⟨by omega, by omega⟩
          refine wq_in (n := 7) ⟨by omega, by omega⟩ ?_
          refine wq_v (fun M0_3_q31928 h_M0_3_q31928 => ?_)
          have l_20 := il_20
          have t_31929 := ia_mul (20 : Int32) (20) il_20 x1 (by omega) (by omega)
          have t_31930 := ia_add ((20 : Int32) * x1) x2 (by omega) (by omega)
          have k_M0_3_q31928 : KX12 I0_2_q31927 M0_3_q31928 := by rw [h_M0_3_q31928]; exact KX12.sm18 k_I0_2_q31927 (SR.um (KX12.ese k_I0_2_q31927) (fun _ => ⟨by omega, by omega⟩) (fun q => absurd q (by decide)) (fun q => absurd q (by decide)))
          refine wq_in (n := 7) ⟨by omega, by omega⟩ ?_
          refine wq_v (fun M0_4_q31931 h_M0_4_q31931 => ?_)
          have k_M0_4_q31931 : KX12 I0_2_q31927 M0_4_q31931 := by rw [h_M0_4_q31931]; exact KX12.sm18 k_M0_3_q31928 (SR.um (KX12.ese k_M0_3_q31928) (fun q => absurd q (by decide)) (fun _ => ⟨by omega, by omega⟩) (fun q => absurd q (by decide)))
          have l_2 := il_2
          refine wq_in (n := 7) ⟨by omega, by omega⟩ ?_
          refine wq_v (fun M0_5_q31932 h_M0_5_q31932 => ?_)
          have k_M0_5_q31932 : KX12 I0_2_q31927 M0_5_q31932 := by rw [h_M0_5_q31932]; exact KX12.sm18 k_M0_4_q31931 (SR.um (KX12.ese k_M0_4_q31931) (fun q => absurd q (by decide)) (fun q => absurd q (by decide)) (fun _ => ⟨by omega, by omega⟩))
          refine wq_in (n := 7) ⟨by omega, by omega⟩ ?_
          refine wq_v (fun M0_6_q31933 h_M0_6_q31933 => ?_)
          have k_M0_6_q31933 : KX12 I0_2_q31927 M0_6_q31933 := by rw [h_M0_6_q31933]; exact KX12.sm18 k_M0_5_q31932 (SR.um (KX12.ese k_M0_5_q31932) (fun q => absurd q (by decide)) (fun q => absurd q (by decide)) (fun q => absurd q (by decide)))
          have l_4 := il_4
          refine wq_in (n := 7) ⟨by omega, by omega⟩ ?_
          refine wq_v (fun M0_7_q31934 h_M0_7_q31934 => ?_)
          have k_M0_7_q31934 : KX12 I0_2_q31927 M0_7_q31934 := by rw [h_M0_7_q31934]; exact KX12.sm18 k_M0_6_q31933 (SR.um (KX12.ese k_M0_6_q31933) (fun q => absurd q (by decide)) (fun q => absurd q (by decide)) (fun q => absurd q (by decide)))
          have l_5 := il_5
          refine wq_in (n := 7) ⟨by omega, by omega⟩ ?_
          refine wq_v (fun M0_8_q31935 h_M0_8_q31935 => ?_)
          have k_M0_8_q31935 : KX12 I0_2_q31927 M0_8_q31935 := by rw [h_M0_8_q31935]; exact KX12.sm18 k_M0_7_q31934 (SR.um (KX12.ese k_M0_7_q31934) (fun q => absurd q (by decide)) (fun q => absurd q (by decide)) (fun q => absurd q (by decide)))
          have l_6 := il_6
          refine wq_in (n := 7) ⟨by omega, by omega⟩ ?_
          refine wq_v (fun M0_9_q31936 h_M0_9_q31936 => ?_)
          have k_M0_9_q31936 : KX12 I0_2_q31927 M0_9_q31936 := by rw [h_M0_9_q31936]; exact KX12.sm18 k_M0_8_q31935 (SR.um (KX12.ese k_M0_8_q31935) (fun q => absurd q (by decide)) (fun q => absurd q (by decide)) (fun q => absurd q (by decide)))
          exact wq_s ⟨k_M0_9_q31936, trivial⟩
      · unfold fX12_seek_J35
        have l_1 := il_1
        refine wq_b (tt_fX12_right hN r10_q31895.2.1 r10_q31895.2.2.1 r10_q31895.2.2.2 (1 : Int32) (1 : Int32) ⟨by omega, by omega⟩ h_r10_q31895_3) (fun r1_q31937 h_r1_q31937 => ?_)
        obtain ⟨h_r1_q31937_0, h_r1_q31937_1, h_r1_q31937_2, h_r1_q31937_3, -⟩ := h_r1_q31937
        have t_31938 := KX12.i1 h_r1_q31937_3
        refine wq_eq (fun hc_31939 => ?_) (fun hc_31940 => ?_)
        · exact wq_s ⟨h_r1_q31937_3, trivial⟩
        · refine wq_v (fun I0_2_q31941 h_I0_2_q31941 => ?_)
          have k_I0_2_q31941 : KX12 I0_2_q31941 r1_q31937.2.2.2 := by rw [h_I0_2_q31941]; exact KX12.si16 h_r1_q31937_3 ⟨by omega, by omega⟩
          refine wq_in (n := 7) ⟨by omega, by omega⟩ ?_
          refine wq_v (fun M0_3_q31942 h_M0_3_q31942 => ?_)
          have l_20 := il_20
          have t_31943 := ia_mul (20 : Int32) (20) il_20 x1 (by omega) (by omega)
          have t_31944 := ia_add ((20 : Int32) * x1) x2 (by omega) (by omega)
          have k_M0_3_q31942 : KX12 I0_2_q31941 M0_3_q31942 := by rw [h_M0_3_q31942]; exact KX12.sm18 k_I0_2_q31941 (SR.um (KX12.ese k_I0_2_q31941) (fun _ => ⟨by omega, by omega⟩) (fun q => absurd q (by decide)) (fun q => absurd q (by decide)))
          refine wq_in (n := 7) ⟨by omega, by omega⟩ ?_
          refine wq_v (fun M0_4_q31945 h_M0_4_q31945 => ?_)
          have k_M0_4_q31945 : KX12 I0_2_q31941 M0_4_q31945 := by rw [h_M0_4_q31945]; exact KX12.sm18 k_M0_3_q31942 (SR.um (KX12.ese k_M0_3_q31942) (fun q => absurd q (by decide)) (fun _ => ⟨by omega, by omega⟩) (fun q => absurd q (by decide)))
          have l_2 := il_2
          refine wq_in (n := 7) ⟨by omega, by omega⟩ ?_
          refine wq_v (fun M0_5_q31946 h_M0_5_q31946 => ?_)
          have k_M0_5_q31946 : KX12 I0_2_q31941 M0_5_q31946 := by rw [h_M0_5_q31946]; exact KX12.sm18 k_M0_4_q31945 (SR.um (KX12.ese k_M0_4_q31945) (fun q => absurd q (by decide)) (fun q => absurd q (by decide)) (fun _ => ⟨by omega, by omega⟩))
          refine wq_in (n := 7) ⟨by omega, by omega⟩ ?_
          refine wq_v (fun M0_6_q31947 h_M0_6_q31947 => ?_)
          have k_M0_6_q31947 : KX12 I0_2_q31941 M0_6_q31947 := by rw [h_M0_6_q31947]; exact KX12.sm18 k_M0_5_q31946 (SR.um (KX12.ese k_M0_5_q31946) (fun q => absurd q (by decide)) (fun q => absurd q (by decide)) (fun q => absurd q (by decide)))
          have l_4 := il_4
          refine wq_in (n := 7) ⟨by omega, by omega⟩ ?_
          refine wq_v (fun M0_7_q31948 h_M0_7_q31948 => ?_)
          have k_M0_7_q31948 : KX12 I0_2_q31941 M0_7_q31948 := by rw [h_M0_7_q31948]; exact KX12.sm18 k_M0_6_q31947 (SR.um (KX12.ese k_M0_6_q31947) (fun q => absurd q (by decide)) (fun q => absurd q (by decide)) (fun q => absurd q (by decide)))
          have l_5 := il_5
          refine wq_in (n := 7) ⟨by omega, by omega⟩ ?_
          refine wq_v (fun M0_8_q31949 h_M0_8_q31949 => ?_)
          have k_M0_8_q31949 : KX12 I0_2_q31941 M0_8_q31949 := by rw [h_M0_8_q31949]; exact KX12.sm18 k_M0_7_q31948 (SR.um (KX12.ese k_M0_7_q31948) (fun q => absurd q (by decide)) (fun q => absurd q (by decide)) (fun q => absurd q (by decide)))
          have l_6 := il_6
          refine wq_in (n := 7) ⟨by omega, by omega⟩ ?_
          refine wq_v (fun M0_9_q31950 h_M0_9_q31950 => ?_)
          have k_M0_9_q31950 : KX12 I0_2_q31941 M0_9_q31950 := by rw [h_M0_9_q31950]; exact KX12.sm18 k_M0_8_q31949 (SR.um (KX12.ese k_M0_8_q31949) (fun q => absurd q (by decide)) (fun q => absurd q (by decide)) (fun q => absurd q (by decide)))
          exact wq_s ⟨k_M0_9_q31950, trivial⟩
set_option maxHeartbeats 4000000 in
theorem tt_fX12_on_L37 {N : Nat} (hN : 3000000000 ≤ N) (x1 : Int32) (h_x1 : 0 ≤ x1.toInt ∧ x1.toInt ≤ 50000)  : ∀ (fu : Nat) (I0_l37 : (Nat → Int32)) (L0_l37 : Int64) (M0_l37 : (Nat → Nat → Int32)) (y37_2 : Int32), (0 ≤ y37_2.toInt ∧ y37_2.toInt ≤ 50000) → (KX12 I0_l37 M0_l37) → (50000 - y37_2.toInt) < (fu : Int) → wq (fX12_on_L37 N x1 fu I0_l37 L0_l37 M0_l37 y37_2) (fun r => (0 ≤ r.1.toInt ∧ r.1.toInt ≤ 50000) ∧ KX12 r.2.1 r.2.2.2 ∧ True) := by
  intro fu
  induction fu with
  | zero => intro I0_l37 L0_l37 M0_l37 y37_2 h_y37_2 k_I0_l37 hm; exfalso; omega
  | succ fu ih =>
    intro I0_l37 L0_l37 M0_l37 y37_2 h_y37_2 k_I0_l37 hm
    rw [fX12_on_L37.eq_2]
    refine wq_le (fun hc_33787 => ?_) (fun hc_33788 => ?_)
    · exact wq_s ⟨(show 0 ≤ y37_2.toInt ∧ y37_2.toInt ≤ 50000 from ⟨by omega, by omega⟩), k_I0_l37, trivial⟩
    · have l_2 := il_2
      refine wq_in (n := 7) ⟨by omega, by omega⟩ ?_
      have l_1000000 := il_1000000
      have t_33789 : 0 ≤ (M0_l37 18 (2 : Int32).toNatClampNeg).toInt ∧ (M0_l37 18 (2 : Int32).toNatClampNeg).toInt ≤ 1000001 := (KX12.ese k_I0_l37).2.2
      refine wq_lt (fun hc_33790 => ?_) (fun hc_33791 => ?_)
      · exact wq_s ⟨(show 0 ≤ y37_2.toInt ∧ y37_2.toInt ≤ 50000 from ⟨by omega, by omega⟩), k_I0_l37, trivial⟩
      · refine wq_in (n := 7) ⟨by omega, by omega⟩ ?_
        refine wq_v (fun v13_q33792 h_v13_q33792 => ?_)
        have t_v13_q33792 := congrArg Int32.toInt h_v13_q33792
        have l_0 := il_0
        refine wq_in (n := 7) ⟨by omega, by omega⟩ ?_
        have l_1 := il_1
        refine wq_in (n := 7) ⟨by omega, by omega⟩ ?_
        have l_3 := il_3
        refine wq_in (n := 7) ⟨by omega, by omega⟩ ?_
        have l_m1 := il_m1
        refine wq_eq (fun hc_33793 => ?_) (fun hc_33794 => ?_)
        · unfold fX12_on_J96
          have t_33795 : 0 ≤ (M0_l37 18 (0 : Int32).toNatClampNeg).toInt ∧ (M0_l37 18 (0 : Int32).toNatClampNeg).toInt ≤ 119 := (KX12.ese k_I0_l37).1
          have t_33796 : 0 ≤ (M0_l37 18 (1 : Int32).toNatClampNeg).toInt ∧ (M0_l37 18 (1 : Int32).toNatClampNeg).toInt ≤ 3 := (KX12.ese k_I0_l37).2.1
          have l_999 := il_999
          refine wq_b (tt_fX12_costOn hN I0_l37 L0_l37 M0_l37 (M0_l37 18 (0 : Int32).toNatClampNeg) (M0_l37 18 (1 : Int32).toNatClampNeg) v13_q33792 (999 : Int32) ⟨by omega, by omega⟩ ⟨by omega, by omega⟩ k_I0_l37) (fun r12_q33797 h_r12_q33797 => ?_)
          obtain ⟨-⟩ := h_r12_q33797
          refine wq_in (n := 7) ⟨by omega, by omega⟩ ?_
          refine wq_eq (fun hc_33798 => ?_) (fun hc_33799 => ?_)
          · unfold fX12_on_J122
            refine wq_in (n := 7) ⟨by omega, by omega⟩ ?_
            refine wq_v (fun M0_9_q33800 h_M0_9_q33800 => ?_)
            have k_M0_9_q33800 : KX12 I0_l37 M0_9_q33800 := by rw [h_M0_9_q33800]; exact KX12.sm18 k_I0_l37 (SR.um (KX12.ese k_I0_l37) (fun q => absurd q (by decide)) (fun q => absurd q (by decide)) (fun q => absurd q (by decide)))
            have l_4 := il_4
            refine wq_in (n := 7) ⟨by omega, by omega⟩ ?_
            refine wq_v (fun M0_10_q33801 h_M0_10_q33801 => ?_)
            have k_M0_10_q33801 : KX12 I0_l37 M0_10_q33801 := by rw [h_M0_10_q33801]; exact KX12.sm18 k_M0_9_q33800 (SR.um (KX12.ese k_M0_9_q33800) (fun q => absurd q (by decide)) (fun q => absurd q (by decide)) (fun q => absurd q (by decide)))
            have l_5 := il_5
            refine wq_in (n := 7) ⟨by omega, by omega⟩ ?_
            refine wq_v (fun M0_11_q33802 h_M0_11_q33802 => ?_)
            have k_M0_11_q33802 : KX12 I0_l37 M0_11_q33802 := by rw [h_M0_11_q33802]; exact KX12.sm18 k_M0_10_q33801 (SR.um (KX12.ese k_M0_10_q33801) (fun q => absurd q (by decide)) (fun q => absurd q (by decide)) (fun q => absurd q (by decide)))
            unfold fX12_on_J144
            refine wq_in (n := 7) ⟨by omega, by omega⟩ ?_
            have b_33803 := i32b r12_q33797
            refine wq_eq (fun hc_33804 => ?_) (fun hc_33805 => ?_)
            · refine wq_in (n := 7) ⟨by omega, by omega⟩ ?_
              refine wq_in (n := 7) ⟨by omega, by omega⟩ ?_
              refine wq_v (fun M0_7_q33806 h_M0_7_q33806 => ?_)
              have k_M0_7_q33806 : KX12 I0_l37 M0_7_q33806 := by rw [h_M0_7_q33806]; exact KX12.sm18 k_M0_11_q33802 (SR.um (KX12.ese k_M0_11_q33802) (fun q => absurd q (by decide)) (fun q => absurd q (by decide)) (fun q => absurd q (by decide)))
              have l_6 := il_6
              refine wq_in (n := 7) ⟨by omega, by omega⟩ ?_
              refine wq_v (fun M0_8_q33807 h_M0_8_q33807 => ?_)
              have k_M0_8_q33807 : KX12 I0_l37 M0_8_q33807 := by rw [h_M0_8_q33807]; exact KX12.sm18 k_M0_7_q33806 (SR.um (KX12.ese k_M0_7_q33806) (fun q => absurd q (by decide)) (fun q => absurd q (by decide)) (fun q => absurd q (by decide)))
              unfold fX12_on_J173
              refine wq_in (n := 7) ⟨by omega, by omega⟩ ?_
              refine wq_in (n := 7) ⟨by omega, by omega⟩ ?_
              refine wq_v (fun M0_5_q33808 h_M0_5_q33808 => ?_)
              have t_33809 : 0 ≤ (M0_8_q33807 18 (2 : Int32).toNatClampNeg).toInt ∧ (M0_8_q33807 18 (2 : Int32).toNatClampNeg).toInt ≤ 1000001 := (KX12.ese k_M0_8_q33807).2.2
              have t_33810 := ia_add (M0_8_q33807 18 (2 : Int32).toNatClampNeg) (1 : Int32) (by omega) (by omega)
              have k_M0_5_q33808 : KX12 I0_l37 M0_5_q33808 := by rw [h_M0_5_q33808]; exact KX12.sm18 k_M0_8_q33807 (SR.um (KX12.ese k_M0_8_q33807) (fun q => absurd q (by decide)) (fun q => absurd q (by decide)) (fun _ => ⟨by omega, by omega⟩))
              have t_33812 := ia_add y37_2 (1 : Int32) (by omega) (by omega)
              refine wq_v (fun v6_q33811 h_v6_q33811 => ?_)
              have t_v6_q33811 := congrArg Int32.toInt h_v6_q33811
              exact ih I0_l37 L0_l37 M0_5_q33808 v6_q33811 ⟨by omega, by omega⟩ k_M0_5_q33808 (by omega)
            · unfold fX12_on_J173
              refine wq_in (n := 7) ⟨by omega, by omega⟩ ?_
              refine wq_in (n := 7) ⟨by omega, by omega⟩ ?_
              refine wq_v (fun M0_5_q33813 h_M0_5_q33813 => ?_)
              have t_33814 : 0 ≤ (M0_11_q33802 18 (2 : Int32).toNatClampNeg).toInt ∧ (M0_11_q33802 18 (2 : Int32).toNatClampNeg).toInt ≤ 1000001 := (KX12.ese k_M0_11_q33802).2.2
              have t_33815 := ia_add (M0_11_q33802 18 (2 : Int32).toNatClampNeg) (1 : Int32) (by omega) (by omega)
              have k_M0_5_q33813 : KX12 I0_l37 M0_5_q33813 := by rw [h_M0_5_q33813]; exact KX12.sm18 k_M0_11_q33802 (SR.um (KX12.ese k_M0_11_q33802) (fun q => absurd q (by decide)) (fun q => absurd q (by decide)) (fun _ => ⟨by omega, by omega⟩))
              have t_33817 := ia_add y37_2 (1 : Int32) (by omega) (by omega)
              refine wq_v (fun v6_q33816 h_v6_q33816 => ?_)
              have t_v6_q33816 := congrArg Int32.toInt h_v6_q33816
              exact ih I0_l37 L0_l37 M0_5_q33813 v6_q33816 ⟨by omega, by omega⟩ k_M0_5_q33813 (by omega)
          · exfalso; omega
        · refine wq_in (n := 7) ⟨by omega, by omega⟩ ?_
          unfold fX12_on_J96
          have t_33818 : 0 ≤ (M0_l37 18 (0 : Int32).toNatClampNeg).toInt ∧ (M0_l37 18 (0 : Int32).toNatClampNeg).toInt ≤ 119 := (KX12.ese k_I0_l37).1
          have t_33819 : 0 ≤ (M0_l37 18 (1 : Int32).toNatClampNeg).toInt ∧ (M0_l37 18 (1 : Int32).toNatClampNeg).toInt ≤ 3 := (KX12.ese k_I0_l37).2.1
          refine wq_b (tt_fX12_costOn hN I0_l37 L0_l37 M0_l37 (M0_l37 18 (0 : Int32).toNatClampNeg) (M0_l37 18 (1 : Int32).toNatClampNeg) v13_q33792 (M0_l37 18 (3 : Int32).toNatClampNeg) ⟨by omega, by omega⟩ ⟨by omega, by omega⟩ k_I0_l37) (fun r12_q33820 h_r12_q33820 => ?_)
          obtain ⟨-⟩ := h_r12_q33820
          refine wq_in (n := 7) ⟨by omega, by omega⟩ ?_
          refine wq_eq (fun hc_33821 => ?_) (fun hc_33822 => ?_)
          · unfold fX12_on_J122
            refine wq_in (n := 7) ⟨by omega, by omega⟩ ?_
            refine wq_v (fun M0_9_q33823 h_M0_9_q33823 => ?_)
            have k_M0_9_q33823 : KX12 I0_l37 M0_9_q33823 := by rw [h_M0_9_q33823]; exact KX12.sm18 k_I0_l37 (SR.um (KX12.ese k_I0_l37) (fun q => absurd q (by decide)) (fun q => absurd q (by decide)) (fun q => absurd q (by decide)))
            have l_4 := il_4
            refine wq_in (n := 7) ⟨by omega, by omega⟩ ?_
            refine wq_v (fun M0_10_q33824 h_M0_10_q33824 => ?_)
            have k_M0_10_q33824 : KX12 I0_l37 M0_10_q33824 := by rw [h_M0_10_q33824]; exact KX12.sm18 k_M0_9_q33823 (SR.um (KX12.ese k_M0_9_q33823) (fun q => absurd q (by decide)) (fun q => absurd q (by decide)) (fun q => absurd q (by decide)))
            have l_5 := il_5
            refine wq_in (n := 7) ⟨by omega, by omega⟩ ?_
            refine wq_v (fun M0_11_q33825 h_M0_11_q33825 => ?_)
            have k_M0_11_q33825 : KX12 I0_l37 M0_11_q33825 := by rw [h_M0_11_q33825]; exact KX12.sm18 k_M0_10_q33824 (SR.um (KX12.ese k_M0_10_q33824) (fun q => absurd q (by decide)) (fun q => absurd q (by decide)) (fun q => absurd q (by decide)))
            unfold fX12_on_J144
            refine wq_in (n := 7) ⟨by omega, by omega⟩ ?_
            have b_33826 := i32b r12_q33820
            refine wq_eq (fun hc_33827 => ?_) (fun hc_33828 => ?_)
            · refine wq_in (n := 7) ⟨by omega, by omega⟩ ?_
              refine wq_in (n := 7) ⟨by omega, by omega⟩ ?_
              refine wq_v (fun M0_7_q33829 h_M0_7_q33829 => ?_)
              have k_M0_7_q33829 : KX12 I0_l37 M0_7_q33829 := by rw [h_M0_7_q33829]; exact KX12.sm18 k_M0_11_q33825 (SR.um (KX12.ese k_M0_11_q33825) (fun q => absurd q (by decide)) (fun q => absurd q (by decide)) (fun q => absurd q (by decide)))
              have l_6 := il_6
              refine wq_in (n := 7) ⟨by omega, by omega⟩ ?_
              refine wq_v (fun M0_8_q33830 h_M0_8_q33830 => ?_)
              have k_M0_8_q33830 : KX12 I0_l37 M0_8_q33830 := by rw [h_M0_8_q33830]; exact KX12.sm18 k_M0_7_q33829 (SR.um (KX12.ese k_M0_7_q33829) (fun q => absurd q (by decide)) (fun q => absurd q (by decide)) (fun q => absurd q (by decide)))
              unfold fX12_on_J173
              refine wq_in (n := 7) ⟨by omega, by omega⟩ ?_
              refine wq_in (n := 7) ⟨by omega, by omega⟩ ?_
              refine wq_v (fun M0_5_q33831 h_M0_5_q33831 => ?_)
              have t_33832 : 0 ≤ (M0_8_q33830 18 (2 : Int32).toNatClampNeg).toInt ∧ (M0_8_q33830 18 (2 : Int32).toNatClampNeg).toInt ≤ 1000001 := (KX12.ese k_M0_8_q33830).2.2
              have t_33833 := ia_add (M0_8_q33830 18 (2 : Int32).toNatClampNeg) (1 : Int32) (by omega) (by omega)
              have k_M0_5_q33831 : KX12 I0_l37 M0_5_q33831 := by rw [h_M0_5_q33831]; exact KX12.sm18 k_M0_8_q33830 (SR.um (KX12.ese k_M0_8_q33830) (fun q => absurd q (by decide)) (fun q => absurd q (by decide)) (fun _ => ⟨by omega, by omega⟩))
              have t_33835 := ia_add y37_2 (1 : Int32) (by omega) (by omega)
              refine wq_v (fun v6_q33834 h_v6_q33834 => ?_)
              have t_v6_q33834 := congrArg Int32.toInt h_v6_q33834
              exact ih I0_l37 L0_l37 M0_5_q33831 v6_q33834 ⟨by omega, by omega⟩ k_M0_5_q33831 (by omega)
            · unfold fX12_on_J173
              refine wq_in (n := 7) ⟨by omega, by omega⟩ ?_
              refine wq_in (n := 7) ⟨by omega, by omega⟩ ?_
              refine wq_v (fun M0_5_q33836 h_M0_5_q33836 => ?_)
              have t_33837 : 0 ≤ (M0_11_q33825 18 (2 : Int32).toNatClampNeg).toInt ∧ (M0_11_q33825 18 (2 : Int32).toNatClampNeg).toInt ≤ 1000001 := (KX12.ese k_M0_11_q33825).2.2
              have t_33838 := ia_add (M0_11_q33825 18 (2 : Int32).toNatClampNeg) (1 : Int32) (by omega) (by omega)
              have k_M0_5_q33836 : KX12 I0_l37 M0_5_q33836 := by rw [h_M0_5_q33836]; exact KX12.sm18 k_M0_11_q33825 (SR.um (KX12.ese k_M0_11_q33825) (fun q => absurd q (by decide)) (fun q => absurd q (by decide)) (fun _ => ⟨by omega, by omega⟩))
              have t_33840 := ia_add y37_2 (1 : Int32) (by omega) (by omega)
              refine wq_v (fun v6_q33839 h_v6_q33839 => ?_)
              have t_v6_q33839 := congrArg Int32.toInt h_v6_q33839
              exact ih I0_l37 L0_l37 M0_5_q33836 v6_q33839 ⟨by omega, by omega⟩ k_M0_5_q33836 (by omega)
          · refine wq_in (n := 7) ⟨by omega, by omega⟩ ?_
            have b_33841 := i32b r12_q33820
            refine wq_le (fun hc_33842 => ?_) (fun hc_33843 => ?_)
            · unfold fX12_on_J144
              refine wq_in (n := 7) ⟨by omega, by omega⟩ ?_
              refine wq_eq (fun hc_33844 => ?_) (fun hc_33845 => ?_)
              · have l_4 := il_4
                refine wq_in (n := 7) ⟨by omega, by omega⟩ ?_
                refine wq_in (n := 7) ⟨by omega, by omega⟩ ?_
                refine wq_v (fun M0_7_q33846 h_M0_7_q33846 => ?_)
                have k_M0_7_q33846 : KX12 I0_l37 M0_7_q33846 := by rw [h_M0_7_q33846]; exact KX12.sm18 k_I0_l37 (SR.um (KX12.ese k_I0_l37) (fun q => absurd q (by decide)) (fun q => absurd q (by decide)) (fun q => absurd q (by decide)))
                have l_6 := il_6
                refine wq_in (n := 7) ⟨by omega, by omega⟩ ?_
                refine wq_v (fun M0_8_q33847 h_M0_8_q33847 => ?_)
                have k_M0_8_q33847 : KX12 I0_l37 M0_8_q33847 := by rw [h_M0_8_q33847]; exact KX12.sm18 k_M0_7_q33846 (SR.um (KX12.ese k_M0_7_q33846) (fun q => absurd q (by decide)) (fun q => absurd q (by decide)) (fun q => absurd q (by decide)))
                unfold fX12_on_J173
                refine wq_in (n := 7) ⟨by omega, by omega⟩ ?_
                refine wq_in (n := 7) ⟨by omega, by omega⟩ ?_
                refine wq_v (fun M0_5_q33848 h_M0_5_q33848 => ?_)
                have t_33849 : 0 ≤ (M0_8_q33847 18 (2 : Int32).toNatClampNeg).toInt ∧ (M0_8_q33847 18 (2 : Int32).toNatClampNeg).toInt ≤ 1000001 := (KX12.ese k_M0_8_q33847).2.2
                have t_33850 := ia_add (M0_8_q33847 18 (2 : Int32).toNatClampNeg) (1 : Int32) (by omega) (by omega)
                have k_M0_5_q33848 : KX12 I0_l37 M0_5_q33848 := by rw [h_M0_5_q33848]; exact KX12.sm18 k_M0_8_q33847 (SR.um (KX12.ese k_M0_8_q33847) (fun q => absurd q (by decide)) (fun q => absurd q (by decide)) (fun _ => ⟨by omega, by omega⟩))
                have t_33852 := ia_add y37_2 (1 : Int32) (by omega) (by omega)
                refine wq_v (fun v6_q33851 h_v6_q33851 => ?_)
                have t_v6_q33851 := congrArg Int32.toInt h_v6_q33851
                exact ih I0_l37 L0_l37 M0_5_q33848 v6_q33851 ⟨by omega, by omega⟩ k_M0_5_q33848 (by omega)
              · unfold fX12_on_J173
                refine wq_in (n := 7) ⟨by omega, by omega⟩ ?_
                refine wq_in (n := 7) ⟨by omega, by omega⟩ ?_
                refine wq_v (fun M0_5_q33853 h_M0_5_q33853 => ?_)
                have t_33854 := ia_add (M0_l37 18 (2 : Int32).toNatClampNeg) (1 : Int32) (by omega) (by omega)
                have k_M0_5_q33853 : KX12 I0_l37 M0_5_q33853 := by rw [h_M0_5_q33853]; exact KX12.sm18 k_I0_l37 (SR.um (KX12.ese k_I0_l37) (fun q => absurd q (by decide)) (fun q => absurd q (by decide)) (fun _ => ⟨by omega, by omega⟩))
                have t_33856 := ia_add y37_2 (1 : Int32) (by omega) (by omega)
                refine wq_v (fun v6_q33855 h_v6_q33855 => ?_)
                have t_v6_q33855 := congrArg Int32.toInt h_v6_q33855
                exact ih I0_l37 L0_l37 M0_5_q33853 v6_q33855 ⟨by omega, by omega⟩ k_M0_5_q33853 (by omega)
            · unfold fX12_on_J122
              refine wq_in (n := 7) ⟨by omega, by omega⟩ ?_
              refine wq_v (fun M0_9_q33857 h_M0_9_q33857 => ?_)
              have k_M0_9_q33857 : KX12 I0_l37 M0_9_q33857 := by rw [h_M0_9_q33857]; exact KX12.sm18 k_I0_l37 (SR.um (KX12.ese k_I0_l37) (fun q => absurd q (by decide)) (fun q => absurd q (by decide)) (fun q => absurd q (by decide)))
              have l_4 := il_4
              refine wq_in (n := 7) ⟨by omega, by omega⟩ ?_
              refine wq_v (fun M0_10_q33858 h_M0_10_q33858 => ?_)
              have k_M0_10_q33858 : KX12 I0_l37 M0_10_q33858 := by rw [h_M0_10_q33858]; exact KX12.sm18 k_M0_9_q33857 (SR.um (KX12.ese k_M0_9_q33857) (fun q => absurd q (by decide)) (fun q => absurd q (by decide)) (fun q => absurd q (by decide)))
              have l_5 := il_5
              refine wq_in (n := 7) ⟨by omega, by omega⟩ ?_
              refine wq_v (fun M0_11_q33859 h_M0_11_q33859 => ?_)
              have k_M0_11_q33859 : KX12 I0_l37 M0_11_q33859 := by rw [h_M0_11_q33859]; exact KX12.sm18 k_M0_10_q33858 (SR.um (KX12.ese k_M0_10_q33858) (fun q => absurd q (by decide)) (fun q => absurd q (by decide)) (fun q => absurd q (by decide)))
              unfold fX12_on_J144
              refine wq_in (n := 7) ⟨by omega, by omega⟩ ?_
              refine wq_eq (fun hc_33860 => ?_) (fun hc_33861 => ?_)
              · refine wq_in (n := 7) ⟨by omega, by omega⟩ ?_
                refine wq_in (n := 7) ⟨by omega, by omega⟩ ?_
                refine wq_v (fun M0_7_q33862 h_M0_7_q33862 => ?_)
                have k_M0_7_q33862 : KX12 I0_l37 M0_7_q33862 := by rw [h_M0_7_q33862]; exact KX12.sm18 k_M0_11_q33859 (SR.um (KX12.ese k_M0_11_q33859) (fun q => absurd q (by decide)) (fun q => absurd q (by decide)) (fun q => absurd q (by decide)))
                have l_6 := il_6
                refine wq_in (n := 7) ⟨by omega, by omega⟩ ?_
                refine wq_v (fun M0_8_q33863 h_M0_8_q33863 => ?_)
                have k_M0_8_q33863 : KX12 I0_l37 M0_8_q33863 := by rw [h_M0_8_q33863]; exact KX12.sm18 k_M0_7_q33862 (SR.um (KX12.ese k_M0_7_q33862) (fun q => absurd q (by decide)) (fun q => absurd q (by decide)) (fun q => absurd q (by decide)))
                unfold fX12_on_J173
                refine wq_in (n := 7) ⟨by omega, by omega⟩ ?_
                refine wq_in (n := 7) ⟨by omega, by omega⟩ ?_
                refine wq_v (fun M0_5_q33864 h_M0_5_q33864 => ?_)
                have t_33865 : 0 ≤ (M0_8_q33863 18 (2 : Int32).toNatClampNeg).toInt ∧ (M0_8_q33863 18 (2 : Int32).toNatClampNeg).toInt ≤ 1000001 := (KX12.ese k_M0_8_q33863).2.2
                have t_33866 := ia_add (M0_8_q33863 18 (2 : Int32).toNatClampNeg) (1 : Int32) (by omega) (by omega)
                have k_M0_5_q33864 : KX12 I0_l37 M0_5_q33864 := by rw [h_M0_5_q33864]; exact KX12.sm18 k_M0_8_q33863 (SR.um (KX12.ese k_M0_8_q33863) (fun q => absurd q (by decide)) (fun q => absurd q (by decide)) (fun _ => ⟨by omega, by omega⟩))
                have t_33868 := ia_add y37_2 (1 : Int32) (by omega) (by omega)
                refine wq_v (fun v6_q33867 h_v6_q33867 => ?_)
                have t_v6_q33867 := congrArg Int32.toInt h_v6_q33867
                exact ih I0_l37 L0_l37 M0_5_q33864 v6_q33867 ⟨by omega, by omega⟩ k_M0_5_q33864 (by omega)
              · unfold fX12_on_J173
                refine wq_in (n := 7) ⟨by omega, by omega⟩ ?_
                refine wq_in (n := 7) ⟨by omega, by omega⟩ ?_
                refine wq_v (fun M0_5_q33869 h_M0_5_q33869 => ?_)
                have t_33870 : 0 ≤ (M0_11_q33859 18 (2 : Int32).toNatClampNeg).toInt ∧ (M0_11_q33859 18 (2 : Int32).toNatClampNeg).toInt ≤ 1000001 := (KX12.ese k_M0_11_q33859).2.2
                have t_33871 := ia_add (M0_11_q33859 18 (2 : Int32).toNatClampNeg) (1 : Int32) (by omega) (by omega)
                have k_M0_5_q33869 : KX12 I0_l37 M0_5_q33869 := by rw [h_M0_5_q33869]; exact KX12.sm18 k_M0_11_q33859 (SR.um (KX12.ese k_M0_11_q33859) (fun q => absurd q (by decide)) (fun q => absurd q (by decide)) (fun _ => ⟨by omega, by omega⟩))
                have t_33873 := ia_add y37_2 (1 : Int32) (by omega) (by omega)
                refine wq_v (fun v6_q33872 h_v6_q33872 => ?_)
                have t_v6_q33872 := congrArg Int32.toInt h_v6_q33872
                exact ih I0_l37 L0_l37 M0_5_q33869 v6_q33872 ⟨by omega, by omega⟩ k_M0_5_q33869 (by omega)
set_option maxHeartbeats 4000000 in
theorem tt_fX12_on {N : Nat} (hN : 3000000000 ≤ N) (I0 : Nat → Int32) (L0 : Int64) (M0 : Nat → Nat → Int32) (x1 : Int32) (k_I0 : KX12 I0 M0) : wq (fX12_on N I0 L0 M0 x1) (fun r => (0 ≤ r.1.toInt ∧ r.1.toInt ≤ 50000) ∧ KX12 r.2.1 r.2.2.2 ∧ True) := by
  unfold fX12_on
  refine wq_v (fun I0_1_q33874 h_I0_1_q33874 => ?_)
  have k_I0_1_q33874 : KX12 I0_1_q33874 M0 := by rw [h_I0_1_q33874]; exact KX12.si0 k_I0
  have t_33875 := KX12.i16 k_I0
  have t_33876 : (I0_1_q33874 16).toInt = (I0 16).toInt := by rw [h_I0_1_q33874]; rfl
  have l_1 := il_1
  refine wq_b (tt_fX12_right hN I0_1_q33874 L0 M0 (I0_1_q33874 16) (1 : Int32) ⟨by omega, by omega⟩ k_I0_1_q33874) (fun r2_q33877 h_r2_q33877 => ?_)
  obtain ⟨h_r2_q33877_0, h_r2_q33877_1, h_r2_q33877_2, h_r2_q33877_3, -⟩ := h_r2_q33877
  have t_33878 := KX12.i1 h_r2_q33877_3
  have t_33879 := KX12.i1 k_I0
  have t_33880 : (I0_1_q33874 1).toInt = (I0 1).toInt := by rw [h_I0_1_q33874]; rfl
  have l_0 := il_0
  refine wq_eq (fun hc_33881 => ?_) (fun hc_33882 => ?_)
  · exact wq_s ⟨(show 0 ≤ (0 : Int32).toInt ∧ (0 : Int32).toInt ≤ 50000 from ⟨by omega, by omega⟩), h_r2_q33877_3, trivial⟩
  · have b_33883 := i32b x1
    have l_50000 := il_50000
    refine wq_b (tt_fX12_within hN x1 (0 : Int32) (50000 : Int32)) (fun r3_q33884 h_r3_q33884 => ?_)
    obtain ⟨h_r3_q33884_0, h_r3_q33884_1, -⟩ := h_r3_q33884
    have l_2 := il_2
    refine wq_b (tt_fX12_right hN r2_q33877.2.1 r2_q33877.2.2.1 r2_q33877.2.2.2 r3_q33884 (2 : Int32) ⟨by omega, by omega⟩ h_r2_q33877_3) (fun r4_q33885 h_r4_q33885 => ?_)
    obtain ⟨h_r4_q33885_0, h_r4_q33885_1, h_r4_q33885_2, h_r4_q33885_3, -⟩ := h_r4_q33885
    have t_33886 := KX12.i1 h_r4_q33885_3
    refine wq_eq (fun hc_33887 => ?_) (fun hc_33888 => ?_)
    · exact wq_s ⟨(show 0 ≤ (0 : Int32).toInt ∧ (0 : Int32).toInt ≤ 50000 from ⟨by omega, by omega⟩), h_r4_q33885_3, trivial⟩
    · exact tt_fX12_on_L37 hN x1 ⟨by omega, by omega⟩ N r4_q33885.2.1 r4_q33885.2.2.1 r4_q33885.2.2.2 (0 : Int32) ⟨by omega, by omega⟩ h_r4_q33885_3 (by omega)
set_option maxHeartbeats 4000000 in
theorem tt_fX12_held {N : Nat} (hN : 3000000000 ≤ N) (I0 : Nat → Int32) (L0 : Int64) (M0 : Nat → Nat → Int32) (x1 : Int32) (k_I0 : KX12 I0 M0) : wq (fX12_held N I0 L0 M0 x1) (fun r => KX12 r.2.1 r.2.2.2 ∧ True) := by
  unfold fX12_held
  refine wq_v (fun I0_2_q34063 h_I0_2_q34063 => ?_)
  have k_I0_2_q34063 : KX12 I0_2_q34063 M0 := by rw [h_I0_2_q34063]; exact KX12.si0 k_I0
  have t_34064 := KX12.i16 k_I0
  have t_34065 : (I0_2_q34063 16).toInt = (I0 16).toInt := by rw [h_I0_2_q34063]; rfl
  have l_0 := il_0
  refine wq_eq (fun hc_34066 => ?_) (fun hc_34067 => ?_)
  · unfold fX12_held_J26
    unfold fX12_held_J27
    have l_1 := il_1
    refine wq_b (tt_fX12_right hN I0_2_q34063 L0 M0 (0 : Int32) (1 : Int32) ⟨by omega, by omega⟩ k_I0_2_q34063) (fun r1_q34068 h_r1_q34068 => ?_)
    obtain ⟨h_r1_q34068_0, h_r1_q34068_1, h_r1_q34068_2, h_r1_q34068_3, -⟩ := h_r1_q34068
    have t_34069 := KX12.i1 h_r1_q34068_3
    have t_34070 := KX12.i1 k_I0
    have t_34071 : (I0_2_q34063 1).toInt = (I0 1).toInt := by rw [h_I0_2_q34063]; rfl
    refine wq_eq (fun hc_34072 => ?_) (fun hc_34073 => ?_)
    · exact wq_s ⟨h_r1_q34068_3, trivial⟩
    · have l_2 := il_2
      have b_34074 := i32b x1
      refine wq_in (n := 7) ⟨by omega, by omega⟩ ?_
      exact wq_s ⟨h_r1_q34068_3, trivial⟩
  · have b_34075 := i32b x1
    have l_4 := il_4
    refine wq_b (tt_fX12_within hN x1 (0 : Int32) (4 : Int32)) (fun r3_q34076 h_r3_q34076 => ?_)
    obtain ⟨h_r3_q34076_0, h_r3_q34076_1, -⟩ := h_r3_q34076
    refine wq_eq (fun hc_34077 => ?_) (fun hc_34078 => ?_)
    · unfold fX12_held_J26
      unfold fX12_held_J27
      have l_1 := il_1
      refine wq_b (tt_fX12_right hN I0_2_q34063 L0 M0 (0 : Int32) (1 : Int32) ⟨by omega, by omega⟩ k_I0_2_q34063) (fun r1_q34079 h_r1_q34079 => ?_)
      obtain ⟨h_r1_q34079_0, h_r1_q34079_1, h_r1_q34079_2, h_r1_q34079_3, -⟩ := h_r1_q34079
      have t_34080 := KX12.i1 h_r1_q34079_3
      have t_34081 := KX12.i1 k_I0
      have t_34082 : (I0_2_q34063 1).toInt = (I0 1).toInt := by rw [h_I0_2_q34063]; rfl
      refine wq_eq (fun hc_34083 => ?_) (fun hc_34084 => ?_)
      · exact wq_s ⟨h_r1_q34079_3, trivial⟩
      · have l_2 := il_2
        refine wq_in (n := 7) ⟨by omega, by omega⟩ ?_
        exact wq_s ⟨h_r1_q34079_3, trivial⟩
    · unfold fX12_held_J27
      have l_1 := il_1
      refine wq_b (tt_fX12_right hN I0_2_q34063 L0 M0 (1 : Int32) (1 : Int32) ⟨by omega, by omega⟩ k_I0_2_q34063) (fun r1_q34085 h_r1_q34085 => ?_)
      obtain ⟨h_r1_q34085_0, h_r1_q34085_1, h_r1_q34085_2, h_r1_q34085_3, -⟩ := h_r1_q34085
      have t_34086 := KX12.i1 h_r1_q34085_3
      have t_34087 := KX12.i1 k_I0
      have t_34088 : (I0_2_q34063 1).toInt = (I0 1).toInt := by rw [h_I0_2_q34063]; rfl
      refine wq_eq (fun hc_34089 => ?_) (fun hc_34090 => ?_)
      · exact wq_s ⟨h_r1_q34085_3, trivial⟩
      · have l_2 := il_2
        have t_34091 := ia_add (2 : Int32) x1 (by omega) (by omega)
        refine wq_in (n := 7) ⟨by omega, by omega⟩ ?_
        exact wq_s ⟨h_r1_q34085_3, trivial⟩
theorem tt_fX12_image {N : Nat} (hN : 3000000000 ≤ N) (I0 : Nat → Int32) (L0 : Int64) (M0 : Nat → Nat → Int32) (k_I0 : KX12 I0 M0) : wq (fX12_image N I0 L0 M0) (fun r => KX12 r.2.1 r.2.2.2 ∧ True) := by
  unfold fX12_image
  refine wq_v (fun I1 e1 => ?_)
  have k1 : KX12 I1 M0 := by rw [e1]; exact KX12.si0 k_I0
  refine wq_eq (fun hc => wq_s ⟨k1, trivial⟩) (fun hc => ?_)
  refine wq_v (fun I2 e2 => ?_)
  have k2 : KX12 I2 M0 := by rw [e2]; exact KX12.si17 k1 ⟨by decide, by decide⟩
  rw [tt_copies hN 7 (M0 18) 7 (M0 19) (by omega) (by decide), Option.bind_some]
  refine wq_v (fun M4 e4 => ?_)
  rw [e4]
  exact wq_s ⟨KX12.sf19 k2 ⟨k_I0.ese.1, k_I0.ese.2.1, k_I0.ese.2.2⟩, trivial⟩
theorem tt_fX12_restore {N : Nat} (hN : 3000000000 ≤ N) (I0 : Nat → Int32) (L0 : Int64) (M0 : Nat → Nat → Int32) (k_I0 : KX12 I0 M0) : wq (fX12_restore N I0 L0 M0) (fun r => KX12 r.2.1 r.2.2.2 ∧ True) := by
  unfold fX12_restore
  refine wq_v (fun I1 e1 => ?_)
  have k1 : KX12 I1 M0 := by rw [e1]; exact KX12.si0 k_I0
  refine wq_eq (fun hc => wq_s ⟨k1, trivial⟩) (fun hc => ?_)
  refine wq_v (fun I2 e2 => ?_)
  have k2 : KX12 I2 M0 := by rw [e2]; exact KX12.si16 k1 ⟨by decide, by decide⟩
  rw [tt_copies hN 7 (M0 19) 7 (M0 18) (by omega) (by decide), Option.bind_some]
  refine wq_v (fun M4 e4 => ?_)
  rw [e4]
  exact wq_s ⟨KX12.sf18 k2 ⟨k_I0.esi.1, k_I0.esi.2.1, k_I0.esi.2.2⟩, trivial⟩

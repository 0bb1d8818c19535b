set_option maxHeartbeats 4000000 in
theorem tt_fX12_riseOf {N : Nat} (hN : 3000000000 ≤ N) (I0 : Nat → Int32) (L0 : Int64) (M0 : Nat → Nat → Int32) (x1 : Int32) (x2 : Int32) (x3 : Int32) (h_x1 : 0 ≤ x1.toInt ∧ x1.toInt ≤ 6) (h_x2 : -60 ≤ x2.toInt ∧ x2.toInt ≤ 21599) (h_x3 : 0 ≤ x3.toInt ∧ x3.toInt ≤ 359) (k_I0 : KX12 I0 M0) (hr_4 : x1.toInt < (I0 1).toInt) : wq (fX12_riseOf N I0 L0 M0 x1 x2 x3) (fun r => True) := by
  unfold fX12_riseOf
  refine wq_b (tt_fX12_climbOf hN I0 L0 M0 x1 x2 ⟨by omega, by omega⟩ ⟨by omega, by omega⟩ k_I0) (fun r1_q43819 h_r1_q43819 => ?_)
  obtain ⟨-⟩ := h_r1_q43819
  have b_43820 := i32b r1_q43819
  have l_18000 := il_18000
  have t_43821 := ia_mul (18000 : Int32) (18000) il_18000 x3 (by omega) (by omega)
  have l_6480000 := il_6480000
  have t_43822 := ia_rem2 (r1_q43819 + ((18000 : Int32) * x3)) (6480000 : Int32) 6480000 il_6480000 (by decide)
  have t_43823 := KX12.i1 k_I0
  refine wq_b (tt_fX12_placeOf hN I0 L0 M0 x1 ((r1_q43819 + ((18000 : Int32) * x3)) - (((r1_q43819 + ((18000 : Int32) * x3)) / (6480000 : Int32)) * (6480000 : Int32))) ⟨by omega, by omega⟩ k_I0 (by omega) (by omega)) (fun r2_q43824 h_r2_q43824 => ?_)
  obtain ⟨-⟩ := h_r2_q43824
  have b_43825 := i32b r2_q43824
  exact wq_s trivial
set_option maxHeartbeats 4000000 in
theorem tt_fX12_rise {N : Nat} (hN : 3000000000 ≤ N) (I0 : Nat → Int32) (L0 : Int64) (M0 : Nat → Nat → Int32) (x1 : Int32) (x2 : Int32) (x3 : Int32) (k_I0 : KX12 I0 M0) : wq (fX12_rise N I0 L0 M0 x1 x2 x3) (fun r => KX12 r.2.1 r.2.2.2 ∧ True) := by
  unfold fX12_rise
  refine wq_v (fun I0_1_q43928 h_I0_1_q43928 => ?_)
  have k_I0_1_q43928 : KX12 I0_1_q43928 M0 := by rw [h_I0_1_q43928]; exact KX12.si0 k_I0
  have b_43929 := i32b x1
  have b_43930 := i32b x2
  refine wq_b (tt_fX12_isClimate hN I0_1_q43928 L0 M0 x1 x2 k_I0_1_q43928) (fun r2_q43931 h_r2_q43931 => ?_)
  obtain ⟨h_r2_q43931_0, h_r2_q43931_1, h_r2_q43931_2, h_r2_q43931_3, -⟩ := h_r2_q43931
  have t_43932 := KX12.i1 h_r2_q43931_3
  have t_43933 := KX12.i1 k_I0
  have t_43934 : (I0_1_q43928 1).toInt = (I0 1).toInt := by rw [h_I0_1_q43928]; rfl
  have l_0 := il_0
  refine wq_eq (fun hc_43935 => ?_) (fun hc_43936 => ?_)
  · exact wq_s ⟨h_r2_q43931_3, trivial⟩
  · have b_43937 := i32b x3
    have l_359 := il_359
    refine wq_b (tt_fX12_within hN x3 (0 : Int32) (359 : Int32)) (fun r3_q43938 h_r3_q43938 => ?_)
    obtain ⟨h_r3_q43938_0, h_r3_q43938_1, -⟩ := h_r3_q43938
    have l_1 := il_1
    refine wq_b (tt_fX12_right hN r2_q43931.2.1 r2_q43931.2.2.1 r2_q43931.2.2.2 r3_q43938 (1 : Int32) ⟨by omega, by omega⟩ h_r2_q43931_3) (fun r4_q43939 h_r4_q43939 => ?_)
    obtain ⟨h_r4_q43939_0, h_r4_q43939_1, h_r4_q43939_2, h_r4_q43939_3, -⟩ := h_r4_q43939
    have t_43940 := KX12.i1 h_r4_q43939_3
    refine wq_eq (fun hc_43941 => ?_) (fun hc_43942 => ?_)
    · exact wq_s ⟨h_r4_q43939_3, trivial⟩
    · refine wq_b (tt_fX12_riseOf hN r4_q43939.2.1 r4_q43939.2.2.1 r4_q43939.2.2.2 x1 x2 x3 ⟨by omega, by omega⟩ ⟨by omega, by omega⟩ ⟨by omega, by omega⟩ h_r4_q43939_3 (by omega)) (fun r5_q43943 h_r5_q43943 => ?_)
      obtain ⟨-⟩ := h_r5_q43943
      have b_43944 := i32b r5_q43943
      exact wq_s ⟨h_r4_q43939_3, trivial⟩
set_option maxHeartbeats 4000000 in
theorem tt_fX12_middleOf {N : Nat} (hN : 3000000000 ≤ N) (I0 : Nat → Int32) (L0 : Int64) (M0 : Nat → Nat → Int32) (x1 : Int32) (x2 : Int32) (h_x1 : 0 ≤ x1.toInt ∧ x1.toInt ≤ 6) (h_x2 : -60 ≤ x2.toInt ∧ x2.toInt ≤ 21599) (k_I0 : KX12 I0 M0) (hr_3 : x1.toInt < (I0 1).toInt) : wq (fX12_middleOf N I0 L0 M0 x1 x2) (fun r => True) := by
  unfold fX12_middleOf
  refine wq_b (tt_fX12_climbOf hN I0 L0 M0 x1 x2 ⟨by omega, by omega⟩ ⟨by omega, by omega⟩ k_I0) (fun r1_q43975 h_r1_q43975 => ?_)
  obtain ⟨-⟩ := h_r1_q43975
  have l_0 := il_0
  have b_43976 := i32b r1_q43975
  have l_6480000 := il_6480000
  have l_1620000 := il_1620000
  have t_43977 := ia_rem2 ((r1_q43975 + (6480000 : Int32)) - (1620000 : Int32)) (6480000 : Int32) 6480000 il_6480000 (by decide)
  have t_43978 := KX12.i1 k_I0
  refine wq_b (tt_fX12_placeOf hN I0 L0 M0 (0 : Int32) (((r1_q43975 + (6480000 : Int32)) - (1620000 : Int32)) - ((((r1_q43975 + (6480000 : Int32)) - (1620000 : Int32)) / (6480000 : Int32)) * (6480000 : Int32))) ⟨by omega, by omega⟩ k_I0 (by omega) (by omega)) (fun r2_q43979 h_r2_q43979 => ?_)
  obtain ⟨-⟩ := h_r2_q43979
  have b_43980 := i32b r2_q43979
  exact wq_s trivial
set_option maxHeartbeats 4000000 in
theorem tt_fX12_middle {N : Nat} (hN : 3000000000 ≤ N) (I0 : Nat → Int32) (L0 : Int64) (M0 : Nat → Nat → Int32) (x1 : Int32) (x2 : Int32) (k_I0 : KX12 I0 M0) : wq (fX12_middle N I0 L0 M0 x1 x2) (fun r => KX12 r.2.1 r.2.2.2 ∧ True) := by
  unfold fX12_middle
  refine wq_v (fun I0_1_q44047 h_I0_1_q44047 => ?_)
  have k_I0_1_q44047 : KX12 I0_1_q44047 M0 := by rw [h_I0_1_q44047]; exact KX12.si0 k_I0
  have b_44048 := i32b x1
  have b_44049 := i32b x2
  refine wq_b (tt_fX12_isClimate hN I0_1_q44047 L0 M0 x1 x2 k_I0_1_q44047) (fun r2_q44050 h_r2_q44050 => ?_)
  obtain ⟨h_r2_q44050_0, h_r2_q44050_1, h_r2_q44050_2, h_r2_q44050_3, -⟩ := h_r2_q44050
  have t_44051 := KX12.i1 h_r2_q44050_3
  have t_44052 := KX12.i1 k_I0
  have t_44053 : (I0_1_q44047 1).toInt = (I0 1).toInt := by rw [h_I0_1_q44047]; rfl
  have l_0 := il_0
  refine wq_eq (fun hc_44054 => ?_) (fun hc_44055 => ?_)
  · exact wq_s ⟨h_r2_q44050_3, trivial⟩
  · refine wq_b (tt_fX12_middleOf hN r2_q44050.2.1 r2_q44050.2.2.1 r2_q44050.2.2.2 x1 x2 ⟨by omega, by omega⟩ ⟨by omega, by omega⟩ h_r2_q44050_3 (by omega)) (fun r3_q44056 h_r3_q44056 => ?_)
    obtain ⟨-⟩ := h_r3_q44056
    have b_44057 := i32b r3_q44056
    exact wq_s ⟨h_r2_q44050_3, trivial⟩
set_option maxHeartbeats 4000000 in
theorem tt_fX12_isHour {N : Nat} (hN : 3000000000 ≤ N) (I0 : Nat → Int32) (L0 : Int64) (M0 : Nat → Nat → Int32) (x1 : Int32) (x2 : Int32) (x3 : Int32) (h_x1 : 0 ≤ x1.toInt ∧ x1.toInt ≤ 119) (h_x2 : 0 ≤ x2.toInt ∧ x2.toInt ≤ 6) (h_x3 : 0 ≤ x3.toInt ∧ x3.toInt ≤ 359) (k_I0 : KX12 I0 M0) (hr_4 : x2.toInt < (I0 1).toInt) : wq (fX12_isHour N I0 L0 M0 x1 x2 x3) (fun r => (0 ≤ r.toInt ∧ r.toInt ≤ 1) ∧ True) := by
  unfold fX12_isHour
  have l_0 := il_0
  refine wq_b (tt_fX12_at hN I0 L0 M0 x1 (0 : Int32) ⟨by omega, by omega⟩ ⟨by omega, by omega⟩ k_I0) (fun r1_q44112 h_r1_q44112 => ?_)
  obtain ⟨h_r1_q44112_0, h_r1_q44112_1, h_r1_q44112_2, -⟩ := h_r1_q44112
  have l_60 := il_60
  have t_44113 := ia_mul (60 : Int32) (60) il_60 r1_q44112 (by omega) (by omega)
  have t_44114 := KX12.i1 k_I0
  refine wq_b (tt_fX12_riseOf hN I0 L0 M0 x2 ((60 : Int32) * r1_q44112) x3 ⟨by omega, by omega⟩ ⟨by omega, by omega⟩ ⟨by omega, by omega⟩ k_I0 (by omega)) (fun r2_q44115 h_r2_q44115 => ?_)
  obtain ⟨-⟩ := h_r2_q44115
  have l_7 := il_7
  refine wq_b (tt_fX12_at hN I0 L0 M0 x1 (7 : Int32) ⟨by omega, by omega⟩ ⟨by omega, by omega⟩ k_I0) (fun r3_q44116 h_r3_q44116 => ?_)
  obtain ⟨h_r3_q44116_0, h_r3_q44116_1, h_r3_q44116_2, -⟩ := h_r3_q44116
  have b_44117 := i32b r2_q44115
  have t_44118 := i32b r2_q44115
  have t_44119 := ia_div2 r2_q44115 (60 : Int32) 60 il_60 (by decide)
  refine wq_eq (fun hc_44120 => ?_) (fun hc_44121 => ?_)
  · have l_1 := il_1
    exact wq_s ⟨(show 0 ≤ (1 : Int32).toInt ∧ (1 : Int32).toInt ≤ 1 from ⟨by omega, by omega⟩), trivial⟩
  · exact wq_s ⟨(show 0 ≤ (0 : Int32).toInt ∧ (0 : Int32).toInt ≤ 1 from ⟨by omega, by omega⟩), trivial⟩
set_option maxHeartbeats 4000000 in
theorem tt_fX12_hour_L67 {N : Nat} (hN : 3000000000 ≤ N) (x1 : Int32) (x2 : Int32) (x3 : Int32) (y61_4 : Int32) (y61_5 : Int32) (h_x1 : 0 ≤ x1.toInt ∧ x1.toInt ≤ 5) (h_x2 : 0 ≤ x2.toInt ∧ x2.toInt ≤ 19) (h_y61_4 : 0 ≤ y61_4.toInt ∧ y61_4.toInt ≤ 119) (h_y61_5 : 0 ≤ y61_5.toInt ∧ y61_5.toInt ≤ 1)  : ∀ (fu : Nat) (I0_l67 : (Nat → Int32)) (L0_l67 : Int64) (M0_l67 : (Nat → Nat → Int32)) (y67_6 : Int32) (y67_7 : Int32), (0 ≤ y67_7.toInt ∧ y67_7.toInt ≤ 2520) → (KX12 I0_l67 M0_l67) → (2520 - y67_7.toInt) < (fu : Int) → wq (fX12_hour_L67 N x1 x2 x3 y61_4 y61_5 fu I0_l67 L0_l67 M0_l67 y67_6 y67_7) (fun r => KX12 r.2.1 r.2.2.2 ∧ True) := by
  intro fu
  induction fu with
  | zero => intro I0_l67 L0_l67 M0_l67 y67_6 y67_7 h_y67_7 k_I0_l67 hm; exfalso; omega
  | succ fu ih =>
    intro I0_l67 L0_l67 M0_l67 y67_6 y67_7 h_y67_7 k_I0_l67 hm
    rw [fX12_hour_L67.eq_2]
    have t_45659 := KX12.i1 k_I0_l67
    have l_360 := il_360
    have t_45660 := ia_mul (360 : Int32) (360) il_360 (I0_l67 1) (by omega) (by omega)
    refine wq_le (fun hc_45661 => ?_) (fun hc_45662 => ?_)
    · unfold fX12_hour_J127
      have b_45663 := i32b x3
      have l_m1 := il_m1
      refine wq_eq (fun hc_45664 => ?_) (fun hc_45665 => ?_)
      · have l_1 := il_1
        refine wq_b (tt_fX12_right hN I0_l67 L0_l67 M0_l67 (1 : Int32) (1 : Int32) ⟨by omega, by omega⟩ k_I0_l67) (fun r2_q45666 h_r2_q45666 => ?_)
        obtain ⟨h_r2_q45666_0, h_r2_q45666_1, h_r2_q45666_2, h_r2_q45666_3, -⟩ := h_r2_q45666
        have t_45667 := KX12.i1 h_r2_q45666_3
        have l_0 := il_0
        refine wq_eq (fun hc_45668 => ?_) (fun hc_45669 => ?_)
        · exact wq_s ⟨h_r2_q45666_3, trivial⟩
        · have b_45670 := i32b y67_6
          exact wq_s ⟨h_r2_q45666_3, trivial⟩
      · have l_0 := il_0
        have l_1 := il_1
        refine wq_b (tt_fX12_right hN I0_l67 L0_l67 M0_l67 (0 : Int32) (1 : Int32) ⟨by omega, by omega⟩ k_I0_l67) (fun r1_q45671 h_r1_q45671 => ?_)
        obtain ⟨h_r1_q45671_0, h_r1_q45671_1, h_r1_q45671_2, h_r1_q45671_3, -⟩ := h_r1_q45671
        have t_45672 := KX12.i1 h_r1_q45671_3
        refine wq_eq (fun hc_45673 => ?_) (fun hc_45674 => ?_)
        · exact wq_s ⟨h_r1_q45671_3, trivial⟩
        · have b_45675 := i32b y67_6
          exact wq_s ⟨h_r1_q45671_3, trivial⟩
    · have l_0 := il_0
      refine wq_eq (fun hc_45676 => ?_) (fun hc_45677 => ?_)
      · unfold fX12_hour_J127
        have b_45678 := i32b x3
        have l_m1 := il_m1
        refine wq_eq (fun hc_45679 => ?_) (fun hc_45680 => ?_)
        · have l_1 := il_1
          refine wq_b (tt_fX12_right hN I0_l67 L0_l67 M0_l67 (1 : Int32) (1 : Int32) ⟨by omega, by omega⟩ k_I0_l67) (fun r2_q45681 h_r2_q45681 => ?_)
          obtain ⟨h_r2_q45681_0, h_r2_q45681_1, h_r2_q45681_2, h_r2_q45681_3, -⟩ := h_r2_q45681
          have t_45682 := KX12.i1 h_r2_q45681_3
          refine wq_eq (fun hc_45683 => ?_) (fun hc_45684 => ?_)
          · exact wq_s ⟨h_r2_q45681_3, trivial⟩
          · have b_45685 := i32b y67_6
            exact wq_s ⟨h_r2_q45681_3, trivial⟩
        · have l_1 := il_1
          refine wq_b (tt_fX12_right hN I0_l67 L0_l67 M0_l67 (0 : Int32) (1 : Int32) ⟨by omega, by omega⟩ k_I0_l67) (fun r1_q45686 h_r1_q45686 => ?_)
          obtain ⟨h_r1_q45686_0, h_r1_q45686_1, h_r1_q45686_2, h_r1_q45686_3, -⟩ := h_r1_q45686
          have t_45687 := KX12.i1 h_r1_q45686_3
          refine wq_eq (fun hc_45688 => ?_) (fun hc_45689 => ?_)
          · exact wq_s ⟨h_r1_q45686_3, trivial⟩
          · have b_45690 := i32b y67_6
            exact wq_s ⟨h_r1_q45686_3, trivial⟩
      · have t_45691 := ia_div y67_7 (360 : Int32) 360 il_360 (by decide) (by omega)
        have t_45692 := ia_rem y67_7 (360 : Int32) 360 il_360 (by decide) (by omega)
        refine wq_b (tt_fX12_isHour hN I0_l67 L0_l67 M0_l67 y61_4 (y67_7 / (360 : Int32)) (y67_7 - ((y67_7 / (360 : Int32)) * (360 : Int32))) ⟨by omega, by omega⟩ ⟨by omega, by omega⟩ ⟨by omega, by omega⟩ k_I0_l67 (by omega)) (fun r3_q45693 h_r3_q45693 => ?_)
        obtain ⟨h_r3_q45693_0, -⟩ := h_r3_q45693
        refine wq_eq (fun hc_45694 => ?_) (fun hc_45695 => ?_)
        · have l_1 := il_1
          have t_45697 := ia_add y67_7 (1 : Int32) (by omega) (by omega)
          refine wq_v (fun v6_q45696 h_v6_q45696 => ?_)
          have t_v6_q45696 := congrArg Int32.toInt h_v6_q45696
          have b_45698 := i32b y67_6
          exact ih I0_l67 L0_l67 M0_l67 y67_6 v6_q45696 ⟨by omega, by omega⟩ k_I0_l67 (by omega)
        · have b_45699 := i32b y67_6
          have b_45700 := i32b x3
          refine wq_eq (fun hc_45701 => ?_) (fun hc_45702 => ?_)
          · exact wq_s ⟨k_I0_l67, trivial⟩
          · have l_1 := il_1
            refine wq_v (fun v4_q45703 h_v4_q45703 => ?_)
            have t_v4_q45703 := congrArg Int32.toInt h_v4_q45703
            have t_45705 := ia_add y67_7 (1 : Int32) (by omega) (by omega)
            refine wq_v (fun v5_q45704 h_v5_q45704 => ?_)
            have t_v5_q45704 := congrArg Int32.toInt h_v5_q45704
            have b_45706 := i32b v4_q45703
            exact ih I0_l67 L0_l67 M0_l67 v4_q45703 v5_q45704 ⟨by omega, by omega⟩ k_I0_l67 (by omega)
set_option maxHeartbeats 4000000 in
theorem tt_fX12_hour {N : Nat} (hN : 3000000000 ≤ N) (I0 : Nat → Int32) (L0 : Int64) (M0 : Nat → Nat → Int32) (x1 : Int32) (x2 : Int32) (x3 : Int32) (k_I0 : KX12 I0 M0) : wq (fX12_hour N I0 L0 M0 x1 x2 x3) (fun r => KX12 r.2.1 r.2.2.2 ∧ True) := by
  unfold fX12_hour
  have b_45707 := i32b x1
  have b_45708 := i32b x2
  refine wq_b (tt_fX12_isWheel hN I0 L0 M0 x1 x2 k_I0) (fun r7_q45709 h_r7_q45709 => ?_)
  obtain ⟨h_r7_q45709_0, h_r7_q45709_1, h_r7_q45709_2, h_r7_q45709_3, -⟩ := h_r7_q45709
  have t_45710 := KX12.i1 h_r7_q45709_3
  have t_45711 := KX12.i1 k_I0
  have l_0 := il_0
  refine wq_eq (fun hc_45712 => ?_) (fun hc_45713 => ?_)
  · exact wq_s ⟨h_r7_q45709_3, trivial⟩
  · have l_20 := il_20
    have t_45715 := ia_mul (20 : Int32) (20) il_20 x1 (by omega) (by omega)
    have t_45716 := ia_add ((20 : Int32) * x1) x2 (by omega) (by omega)
    refine wq_v (fun v8_q45714 h_v8_q45714 => ?_)
    have t_v8_q45714 := congrArg Int32.toInt h_v8_q45714
    refine wq_b (tt_fX12_at hN r7_q45709.2.1 r7_q45709.2.2.1 r7_q45709.2.2.2 v8_q45714 (0 : Int32) ⟨by omega, by omega⟩ ⟨by omega, by omega⟩ h_r7_q45709_3) (fun r9b_q45717 h_r9b_q45717 => ?_)
    obtain ⟨h_r9b_q45717_0, h_r9b_q45717_1, h_r9b_q45717_2, -⟩ := h_r9b_q45717
    have l_m1 := il_m1
    refine wq_eq (fun hc_45718 => ?_) (fun hc_45719 => ?_)
    · unfold fX12_hour_J46
      unfold fX12_hour_J47
      refine wq_eq (fun hc_45720 => ?_) (fun hc_45721 => ?_)
      · have b_45722 := i32b x3
        refine wq_eq (fun hc_45723 => ?_) (fun hc_45724 => ?_)
        · exact wq_s ⟨h_r7_q45709_3, trivial⟩
        · unfold fX12_hour_J61
          exact tt_fX12_hour_L67 hN x1 x2 x3 v8_q45714 (0 : Int32) ⟨by omega, by omega⟩ ⟨by omega, by omega⟩ ⟨by omega, by omega⟩ ⟨by omega, by omega⟩ N r7_q45709.2.1 r7_q45709.2.2.1 r7_q45709.2.2.2 (0 : Int32) (0 : Int32) ⟨by omega, by omega⟩ h_r7_q45709_3 (by omega)
      · exfalso; omega
    · have l_7 := il_7
      refine wq_b (tt_fX12_at hN r7_q45709.2.1 r7_q45709.2.2.1 r7_q45709.2.2.2 v8_q45714 (7 : Int32) ⟨by omega, by omega⟩ ⟨by omega, by omega⟩ h_r7_q45709_3) (fun r10_q45725 h_r10_q45725 => ?_)
      obtain ⟨h_r10_q45725_0, h_r10_q45725_1, h_r10_q45725_2, -⟩ := h_r10_q45725
      refine wq_eq (fun hc_45726 => ?_) (fun hc_45727 => ?_)
      · unfold fX12_hour_J46
        unfold fX12_hour_J47
        refine wq_eq (fun hc_45728 => ?_) (fun hc_45729 => ?_)
        · have b_45730 := i32b x3
          refine wq_eq (fun hc_45731 => ?_) (fun hc_45732 => ?_)
          · exact wq_s ⟨h_r7_q45709_3, trivial⟩
          · unfold fX12_hour_J61
            exact tt_fX12_hour_L67 hN x1 x2 x3 v8_q45714 (0 : Int32) ⟨by omega, by omega⟩ ⟨by omega, by omega⟩ ⟨by omega, by omega⟩ ⟨by omega, by omega⟩ N r7_q45709.2.1 r7_q45709.2.2.1 r7_q45709.2.2.2 (0 : Int32) (0 : Int32) ⟨by omega, by omega⟩ h_r7_q45709_3 (by omega)
        · exfalso; omega
      · unfold fX12_hour_J47
        have l_1 := il_1
        refine wq_eq (fun hc_45733 => ?_) (fun hc_45734 => ?_)
        · exfalso; omega
        · unfold fX12_hour_J61
          have b_45735 := i32b x3
          exact tt_fX12_hour_L67 hN x1 x2 x3 v8_q45714 (1 : Int32) ⟨by omega, by omega⟩ ⟨by omega, by omega⟩ ⟨by omega, by omega⟩ ⟨by omega, by omega⟩ N r7_q45709.2.1 r7_q45709.2.2.1 r7_q45709.2.2.2 (0 : Int32) (0 : Int32) ⟨by omega, by omega⟩ h_r7_q45709_3 (by omega)
set_option maxHeartbeats 4000000 in
theorem tt_fX12_houseAt {N : Nat} (hN : 3000000000 ≤ N) (I0 : Nat → Int32) (L0 : Int64) (M0 : Nat → Nat → Int32) (x1 : Int32) (x2 : Int32) (x3 : Int32) (x4 : Int32) (h_x1 : -1 ≤ x1.toInt ∧ x1.toInt ≤ 359) (h_x4 : 1 ≤ x4.toInt ∧ x4.toInt ≤ 12) (k_I0 : KX12 I0 M0) (hr_3 : ((0 ≤ x2.toInt ∧ x2.toInt ≤ 1) ∨ (0 ≤ x3.toInt ∧ x3.toInt < (I0 1).toInt))) : wq (fX12_houseAt N I0 L0 M0 x1 x2 x3 x4) (fun r => (-359 ≤ r.toInt ∧ r.toInt ≤ 359) ∧ True) := by
  unfold fX12_houseAt
  have b_46642 := i32b x2
  have l_0 := il_0
  refine wq_eq (fun hc_46643 => ?_) (fun hc_46644 => ?_)
  · have l_30 := il_30
    have t_46645 := ia_div2 x1 (30 : Int32) 30 il_30 (by decide)
    have t_46646 := ia_add (x1 / (30 : Int32)) x4 (by omega) (by omega)
    have l_1 := il_1
    have t_46647 := ia_sub ((x1 / (30 : Int32)) + x4) (1 : Int32) (by omega) (by omega)
    have l_12 := il_12
    have t_46648 := ia_rem (((x1 / (30 : Int32)) + x4) - (1 : Int32)) (12 : Int32) 12 il_12 (by decide) (by omega)
    have t_46649 := ia_mul (30 : Int32) (30) il_30 ((((x1 / (30 : Int32)) + x4) - (1 : Int32)) - (((((x1 / (30 : Int32)) + x4) - (1 : Int32)) / (12 : Int32)) * (12 : Int32))) (by omega) (by omega)
    exact wq_s ⟨(show -359 ≤ ((30 : Int32) * ((((x1 / (30 : Int32)) + x4) - (1 : Int32)) - (((((x1 / (30 : Int32)) + x4) - (1 : Int32)) / (12 : Int32)) * (12 : Int32)))).toInt ∧ ((30 : Int32) * ((((x1 / (30 : Int32)) + x4) - (1 : Int32)) - (((((x1 / (30 : Int32)) + x4) - (1 : Int32)) / (12 : Int32)) * (12 : Int32)))).toInt ≤ 359 from ⟨by omega, by omega⟩), trivial⟩
  · have l_1 := il_1
    refine wq_eq (fun hc_46650 => ?_) (fun hc_46651 => ?_)
    · have t_46652 := ia_sub x4 (1 : Int32) (by omega) (by omega)
      have l_30 := il_30
      have t_46653 := ia_mul (30 : Int32) (30) il_30 (x4 - (1 : Int32)) (by omega) (by omega)
      have t_46654 := ia_add x1 ((30 : Int32) * (x4 - (1 : Int32))) (by omega) (by omega)
      have l_360 := il_360
      have t_46655 := ia_rem2 (x1 + ((30 : Int32) * (x4 - (1 : Int32)))) (360 : Int32) 360 il_360 (by decide)
      exact wq_s ⟨(show -359 ≤ ((x1 + ((30 : Int32) * (x4 - (1 : Int32)))) - (((x1 + ((30 : Int32) * (x4 - (1 : Int32)))) / (360 : Int32)) * (360 : Int32))).toInt ∧ ((x1 + ((30 : Int32) * (x4 - (1 : Int32)))) - (((x1 + ((30 : Int32) * (x4 - (1 : Int32)))) / (360 : Int32)) * (360 : Int32))).toInt ≤ 359 from ⟨by omega, by omega⟩), trivial⟩
    · have b_46656 := i32b x3
      have l_60 := il_60
      have t_46657 := ia_mul (60 : Int32) (60) il_60 x1 (by omega) (by omega)
      have t_46658 := KX12.i1 k_I0
      refine wq_b (tt_fX12_middleOf hN I0 L0 M0 x3 ((60 : Int32) * x1) ⟨by omega, by omega⟩ ⟨by omega, by omega⟩ k_I0 (by omega)) (fun r1_q46659 h_r1_q46659 => ?_)
      obtain ⟨-⟩ := h_r1_q46659
      have b_46661 := i32b r1_q46659
      have t_46662 := i32b r1_q46659
      have t_46663 := ia_div2 r1_q46659 (60 : Int32) 60 il_60 (by decide)
      refine wq_v (fun v2_q46660 h_v2_q46660 => ?_)
      have t_v2_q46660 := congrArg Int32.toInt h_v2_q46660
      have t_46665 := ia_sub x1 v2_q46660 (by omega) (by omega)
      have l_360 := il_360
      have t_46666 := ia_add (x1 - v2_q46660) (360 : Int32) (by omega) (by omega)
      have t_46667 := ia_rem2 ((x1 - v2_q46660) + (360 : Int32)) (360 : Int32) 360 il_360 (by decide)
      refine wq_v (fun v3_q46664 h_v3_q46664 => ?_)
      have t_v3_q46664 := congrArg Int32.toInt h_v3_q46664
      have l_180 := il_180
      have t_46669 := ia_add v2_q46660 (180 : Int32) (by omega) (by omega)
      have t_46670 := ia_sub (v2_q46660 + (180 : Int32)) x1 (by omega) (by omega)
      have t_46671 := ia_add ((v2_q46660 + (180 : Int32)) - x1) (360 : Int32) (by omega) (by omega)
      have t_46672 := ia_rem2 (((v2_q46660 + (180 : Int32)) - x1) + (360 : Int32)) (360 : Int32) 360 il_360 (by decide)
      refine wq_v (fun v4_q46668 h_v4_q46668 => ?_)
      have t_v4_q46668 := congrArg Int32.toInt h_v4_q46668
      have bv2 : -35800000 ≤ v2_q46660.toInt ∧ v2_q46660.toInt ≤ 35800000 := ⟨by omega, by omega⟩
      have bv3 : -359 ≤ v3_q46664.toInt ∧ v3_q46664.toInt ≤ 359 := ⟨by omega, by omega⟩
      have bv4 : -359 ≤ v4_q46668.toInt ∧ v4_q46668.toInt ≤ 359 := ⟨by omega, by omega⟩
      clear t_46657 b_46661 t_46662 t_46663 t_46665 t_46666 t_46667 t_46669 t_46670 t_46671 t_46672 t_v2_q46660 t_v3_q46664 t_v4_q46668
      have l_3 := il_3
      refine wq_le (fun hc_46673 => ?_) (fun hc_46674 => ?_)
      · unfold fX12_houseAt_J110
        unfold fX12_houseAt_J112
        refine wq_eq (fun hc_46675 => ?_) (fun hc_46676 => ?_)
        · unfold fX12_houseAt_J195
          refine wq_eq (fun hc_46677 => ?_) (fun hc_46678 => ?_)
          · have t_46679 := ia_rem2 x1 (360 : Int32) 360 il_360 (by decide)
            exact wq_s ⟨(show -359 ≤ (x1 - ((x1 / (360 : Int32)) * (360 : Int32))).toInt ∧ (x1 - ((x1 / (360 : Int32)) * (360 : Int32))).toInt ≤ 359 from ⟨by omega, by omega⟩), trivial⟩
          · have t_46680 := ia_add x1 (180 : Int32) (by omega) (by omega)
            have t_46681 := ia_rem (x1 + (180 : Int32)) (360 : Int32) 360 il_360 (by decide) (by omega)
            exact wq_s ⟨(show -359 ≤ ((x1 + (180 : Int32)) - (((x1 + (180 : Int32)) / (360 : Int32)) * (360 : Int32))).toInt ∧ ((x1 + (180 : Int32)) - (((x1 + (180 : Int32)) / (360 : Int32)) * (360 : Int32))).toInt ≤ 359 from ⟨by omega, by omega⟩), trivial⟩
        · have l_10 := il_10
          refine wq_eq (fun hc_46682 => ?_) (fun hc_46683 => ?_)
          · exfalso; omega
          · have l_11 := il_11
            refine wq_eq (fun hc_46684 => ?_) (fun hc_46685 => ?_)
            · exfalso; omega
            · have l_12 := il_12
              refine wq_eq (fun hc_46686 => ?_) (fun hc_46687 => ?_)
              · exfalso; omega
              · have l_2 := il_2
                refine wq_eq (fun hc_46688 => ?_) (fun hc_46689 => ?_)
                · unfold fX12_houseAt_J195
                  refine wq_eq (fun hc_46690 => ?_) (fun hc_46691 => ?_)
                  · have t_46692 := ia_div2 v4_q46668 (3 : Int32) 3 il_3 (by decide)
                    have t_46693 := ia_add x1 (v4_q46668 / (3 : Int32)) (by omega) (by omega)
                    have t_46694 := ia_rem2 (x1 + (v4_q46668 / (3 : Int32))) (360 : Int32) 360 il_360 (by decide)
                    exact wq_s ⟨(show -359 ≤ ((x1 + (v4_q46668 / (3 : Int32))) - (((x1 + (v4_q46668 / (3 : Int32))) / (360 : Int32)) * (360 : Int32))).toInt ∧ ((x1 + (v4_q46668 / (3 : Int32))) - (((x1 + (v4_q46668 / (3 : Int32))) / (360 : Int32)) * (360 : Int32))).toInt ≤ 359 from ⟨by omega, by omega⟩), trivial⟩
                  · have t_46695 := ia_div2 v4_q46668 (3 : Int32) 3 il_3 (by decide)
                    have t_46696 := ia_add x1 (v4_q46668 / (3 : Int32)) (by omega) (by omega)
                    have t_46697 := ia_add (x1 + (v4_q46668 / (3 : Int32))) (180 : Int32) (by omega) (by omega)
                    have t_46698 := ia_rem ((x1 + (v4_q46668 / (3 : Int32))) + (180 : Int32)) (360 : Int32) 360 il_360 (by decide) (by omega)
                    exact wq_s ⟨(show -359 ≤ (((x1 + (v4_q46668 / (3 : Int32))) + (180 : Int32)) - ((((x1 + (v4_q46668 / (3 : Int32))) + (180 : Int32)) / (360 : Int32)) * (360 : Int32))).toInt ∧ (((x1 + (v4_q46668 / (3 : Int32))) + (180 : Int32)) - ((((x1 + (v4_q46668 / (3 : Int32))) + (180 : Int32)) / (360 : Int32)) * (360 : Int32))).toInt ≤ 359 from ⟨by omega, by omega⟩), trivial⟩
                · unfold fX12_houseAt_J195
                  refine wq_eq (fun hc_46699 => ?_) (fun hc_46700 => ?_)
                  · have t_46701 := ia_mul (2 : Int32) (2) il_2 v4_q46668 (by omega) (by omega)
                    have t_46702 := ia_div2 ((2 : Int32) * v4_q46668) (3 : Int32) 3 il_3 (by decide)
                    have t_46703 := ia_add x1 (((2 : Int32) * v4_q46668) / (3 : Int32)) (by omega) (by omega)
                    have t_46704 := ia_rem2 (x1 + (((2 : Int32) * v4_q46668) / (3 : Int32))) (360 : Int32) 360 il_360 (by decide)
                    exact wq_s ⟨(show -359 ≤ ((x1 + (((2 : Int32) * v4_q46668) / (3 : Int32))) - (((x1 + (((2 : Int32) * v4_q46668) / (3 : Int32))) / (360 : Int32)) * (360 : Int32))).toInt ∧ ((x1 + (((2 : Int32) * v4_q46668) / (3 : Int32))) - (((x1 + (((2 : Int32) * v4_q46668) / (3 : Int32))) / (360 : Int32)) * (360 : Int32))).toInt ≤ 359 from ⟨by omega, by omega⟩), trivial⟩
                  · have t_46705 := ia_mul (2 : Int32) (2) il_2 v4_q46668 (by omega) (by omega)
                    have t_46706 := ia_div2 ((2 : Int32) * v4_q46668) (3 : Int32) 3 il_3 (by decide)
                    have t_46707 := ia_add x1 (((2 : Int32) * v4_q46668) / (3 : Int32)) (by omega) (by omega)
                    have t_46708 := ia_add (x1 + (((2 : Int32) * v4_q46668) / (3 : Int32))) (180 : Int32) (by omega) (by omega)
                    have t_46709 := ia_rem2 ((x1 + (((2 : Int32) * v4_q46668) / (3 : Int32))) + (180 : Int32)) (360 : Int32) 360 il_360 (by decide)
                    exact wq_s ⟨(show -359 ≤ (((x1 + (((2 : Int32) * v4_q46668) / (3 : Int32))) + (180 : Int32)) - ((((x1 + (((2 : Int32) * v4_q46668) / (3 : Int32))) + (180 : Int32)) / (360 : Int32)) * (360 : Int32))).toInt ∧ (((x1 + (((2 : Int32) * v4_q46668) / (3 : Int32))) + (180 : Int32)) - ((((x1 + (((2 : Int32) * v4_q46668) / (3 : Int32))) + (180 : Int32)) / (360 : Int32)) * (360 : Int32))).toInt ≤ 359 from ⟨by omega, by omega⟩), trivial⟩
      · have l_10 := il_10
        refine wq_le (fun hc_46710 => ?_) (fun hc_46711 => ?_)
        · unfold fX12_houseAt_J110
          unfold fX12_houseAt_J112
          refine wq_eq (fun hc_46712 => ?_) (fun hc_46713 => ?_)
          · exfalso; omega
          · refine wq_eq (fun hc_46714 => ?_) (fun hc_46715 => ?_)
            · unfold fX12_houseAt_J195
              refine wq_eq (fun hc_46716 => ?_) (fun hc_46717 => ?_)
              · have t_46718 := ia_rem2 v2_q46660 (360 : Int32) 360 il_360 (by decide)
                exact wq_s ⟨(show -359 ≤ (v2_q46660 - ((v2_q46660 / (360 : Int32)) * (360 : Int32))).toInt ∧ (v2_q46660 - ((v2_q46660 / (360 : Int32)) * (360 : Int32))).toInt ≤ 359 from ⟨by omega, by omega⟩), trivial⟩
              · have t_46719 := ia_rem2 (v2_q46660 + (180 : Int32)) (360 : Int32) 360 il_360 (by decide)
                exact wq_s ⟨(show -359 ≤ ((v2_q46660 + (180 : Int32)) - (((v2_q46660 + (180 : Int32)) / (360 : Int32)) * (360 : Int32))).toInt ∧ ((v2_q46660 + (180 : Int32)) - (((v2_q46660 + (180 : Int32)) / (360 : Int32)) * (360 : Int32))).toInt ≤ 359 from ⟨by omega, by omega⟩), trivial⟩
            · have l_11 := il_11
              refine wq_eq (fun hc_46720 => ?_) (fun hc_46721 => ?_)
              · unfold fX12_houseAt_J195
                refine wq_eq (fun hc_46722 => ?_) (fun hc_46723 => ?_)
                · have t_46724 := ia_div2 v3_q46664 (3 : Int32) 3 il_3 (by decide)
                  have t_46725 := ia_add v2_q46660 (v3_q46664 / (3 : Int32)) (by omega) (by omega)
                  have t_46726 := ia_rem2 (v2_q46660 + (v3_q46664 / (3 : Int32))) (360 : Int32) 360 il_360 (by decide)
                  exact wq_s ⟨(show -359 ≤ ((v2_q46660 + (v3_q46664 / (3 : Int32))) - (((v2_q46660 + (v3_q46664 / (3 : Int32))) / (360 : Int32)) * (360 : Int32))).toInt ∧ ((v2_q46660 + (v3_q46664 / (3 : Int32))) - (((v2_q46660 + (v3_q46664 / (3 : Int32))) / (360 : Int32)) * (360 : Int32))).toInt ≤ 359 from ⟨by omega, by omega⟩), trivial⟩
                · have t_46727 := ia_div2 v3_q46664 (3 : Int32) 3 il_3 (by decide)
                  have t_46728 := ia_add v2_q46660 (v3_q46664 / (3 : Int32)) (by omega) (by omega)
                  have t_46729 := ia_add (v2_q46660 + (v3_q46664 / (3 : Int32))) (180 : Int32) (by omega) (by omega)
                  have t_46730 := ia_rem2 ((v2_q46660 + (v3_q46664 / (3 : Int32))) + (180 : Int32)) (360 : Int32) 360 il_360 (by decide)
                  exact wq_s ⟨(show -359 ≤ (((v2_q46660 + (v3_q46664 / (3 : Int32))) + (180 : Int32)) - ((((v2_q46660 + (v3_q46664 / (3 : Int32))) + (180 : Int32)) / (360 : Int32)) * (360 : Int32))).toInt ∧ (((v2_q46660 + (v3_q46664 / (3 : Int32))) + (180 : Int32)) - ((((v2_q46660 + (v3_q46664 / (3 : Int32))) + (180 : Int32)) / (360 : Int32)) * (360 : Int32))).toInt ≤ 359 from ⟨by omega, by omega⟩), trivial⟩
              · have l_12 := il_12
                refine wq_eq (fun hc_46731 => ?_) (fun hc_46732 => ?_)
                · unfold fX12_houseAt_J195
                  refine wq_eq (fun hc_46733 => ?_) (fun hc_46734 => ?_)
                  · have l_2 := il_2
                    have t_46735 := ia_mul (2 : Int32) (2) il_2 v3_q46664 (by omega) (by omega)
                    have t_46736 := ia_div2 ((2 : Int32) * v3_q46664) (3 : Int32) 3 il_3 (by decide)
                    have t_46737 := ia_add v2_q46660 (((2 : Int32) * v3_q46664) / (3 : Int32)) (by omega) (by omega)
                    have t_46738 := ia_rem2 (v2_q46660 + (((2 : Int32) * v3_q46664) / (3 : Int32))) (360 : Int32) 360 il_360 (by decide)
                    exact wq_s ⟨(show -359 ≤ ((v2_q46660 + (((2 : Int32) * v3_q46664) / (3 : Int32))) - (((v2_q46660 + (((2 : Int32) * v3_q46664) / (3 : Int32))) / (360 : Int32)) * (360 : Int32))).toInt ∧ ((v2_q46660 + (((2 : Int32) * v3_q46664) / (3 : Int32))) - (((v2_q46660 + (((2 : Int32) * v3_q46664) / (3 : Int32))) / (360 : Int32)) * (360 : Int32))).toInt ≤ 359 from ⟨by omega, by omega⟩), trivial⟩
                  · have l_2 := il_2
                    have t_46739 := ia_mul (2 : Int32) (2) il_2 v3_q46664 (by omega) (by omega)
                    have t_46740 := ia_div2 ((2 : Int32) * v3_q46664) (3 : Int32) 3 il_3 (by decide)
                    have t_46741 := ia_add v2_q46660 (((2 : Int32) * v3_q46664) / (3 : Int32)) (by omega) (by omega)
                    have t_46742 := ia_add (v2_q46660 + (((2 : Int32) * v3_q46664) / (3 : Int32))) (180 : Int32) (by omega) (by omega)
                    have t_46743 := ia_rem2 ((v2_q46660 + (((2 : Int32) * v3_q46664) / (3 : Int32))) + (180 : Int32)) (360 : Int32) 360 il_360 (by decide)
                    exact wq_s ⟨(show -359 ≤ (((v2_q46660 + (((2 : Int32) * v3_q46664) / (3 : Int32))) + (180 : Int32)) - ((((v2_q46660 + (((2 : Int32) * v3_q46664) / (3 : Int32))) + (180 : Int32)) / (360 : Int32)) * (360 : Int32))).toInt ∧ (((v2_q46660 + (((2 : Int32) * v3_q46664) / (3 : Int32))) + (180 : Int32)) - ((((v2_q46660 + (((2 : Int32) * v3_q46664) / (3 : Int32))) + (180 : Int32)) / (360 : Int32)) * (360 : Int32))).toInt ≤ 359 from ⟨by omega, by omega⟩), trivial⟩
                · exfalso; omega
        · unfold fX12_houseAt_J112
          have l_5 := il_5
          have t_46744 := ia_add x4 (5 : Int32) (by omega) (by omega)
          have l_12 := il_12
          have t_46745 := ia_rem (x4 + (5 : Int32)) (12 : Int32) 12 il_12 (by decide) (by omega)
          have t_46746 := ia_add ((x4 + (5 : Int32)) - (((x4 + (5 : Int32)) / (12 : Int32)) * (12 : Int32))) (1 : Int32) (by omega) (by omega)
          refine wq_eq (fun hc_46747 => ?_) (fun hc_46748 => ?_)
          · unfold fX12_houseAt_J195
            refine wq_eq (fun hc_46749 => ?_) (fun hc_46750 => ?_)
            · exfalso; omega
            · have t_46751 := ia_add x1 (180 : Int32) (by omega) (by omega)
              have t_46752 := ia_rem (x1 + (180 : Int32)) (360 : Int32) 360 il_360 (by decide) (by omega)
              exact wq_s ⟨(show -359 ≤ ((x1 + (180 : Int32)) - (((x1 + (180 : Int32)) / (360 : Int32)) * (360 : Int32))).toInt ∧ ((x1 + (180 : Int32)) - (((x1 + (180 : Int32)) / (360 : Int32)) * (360 : Int32))).toInt ≤ 359 from ⟨by omega, by omega⟩), trivial⟩
          · refine wq_eq (fun hc_46753 => ?_) (fun hc_46754 => ?_)
            · unfold fX12_houseAt_J195
              refine wq_eq (fun hc_46755 => ?_) (fun hc_46756 => ?_)
              · exfalso; omega
              · have t_46757 := ia_rem2 (v2_q46660 + (180 : Int32)) (360 : Int32) 360 il_360 (by decide)
                exact wq_s ⟨(show -359 ≤ ((v2_q46660 + (180 : Int32)) - (((v2_q46660 + (180 : Int32)) / (360 : Int32)) * (360 : Int32))).toInt ∧ ((v2_q46660 + (180 : Int32)) - (((v2_q46660 + (180 : Int32)) / (360 : Int32)) * (360 : Int32))).toInt ≤ 359 from ⟨by omega, by omega⟩), trivial⟩
            · have l_11 := il_11
              refine wq_eq (fun hc_46758 => ?_) (fun hc_46759 => ?_)
              · unfold fX12_houseAt_J195
                refine wq_eq (fun hc_46760 => ?_) (fun hc_46761 => ?_)
                · exfalso; omega
                · have t_46762 := ia_div2 v3_q46664 (3 : Int32) 3 il_3 (by decide)
                  have t_46763 := ia_add v2_q46660 (v3_q46664 / (3 : Int32)) (by omega) (by omega)
                  have t_46764 := ia_add (v2_q46660 + (v3_q46664 / (3 : Int32))) (180 : Int32) (by omega) (by omega)
                  have t_46765 := ia_rem2 ((v2_q46660 + (v3_q46664 / (3 : Int32))) + (180 : Int32)) (360 : Int32) 360 il_360 (by decide)
                  exact wq_s ⟨(show -359 ≤ (((v2_q46660 + (v3_q46664 / (3 : Int32))) + (180 : Int32)) - ((((v2_q46660 + (v3_q46664 / (3 : Int32))) + (180 : Int32)) / (360 : Int32)) * (360 : Int32))).toInt ∧ (((v2_q46660 + (v3_q46664 / (3 : Int32))) + (180 : Int32)) - ((((v2_q46660 + (v3_q46664 / (3 : Int32))) + (180 : Int32)) / (360 : Int32)) * (360 : Int32))).toInt ≤ 359 from ⟨by omega, by omega⟩), trivial⟩
              · refine wq_eq (fun hc_46766 => ?_) (fun hc_46767 => ?_)
                · unfold fX12_houseAt_J195
                  refine wq_eq (fun hc_46768 => ?_) (fun hc_46769 => ?_)
                  · exfalso; omega
                  · have l_2 := il_2
                    have t_46770 := ia_mul (2 : Int32) (2) il_2 v3_q46664 (by omega) (by omega)
                    have t_46771 := ia_div2 ((2 : Int32) * v3_q46664) (3 : Int32) 3 il_3 (by decide)
                    have t_46772 := ia_add v2_q46660 (((2 : Int32) * v3_q46664) / (3 : Int32)) (by omega) (by omega)
                    have t_46773 := ia_add (v2_q46660 + (((2 : Int32) * v3_q46664) / (3 : Int32))) (180 : Int32) (by omega) (by omega)
                    have t_46774 := ia_rem2 ((v2_q46660 + (((2 : Int32) * v3_q46664) / (3 : Int32))) + (180 : Int32)) (360 : Int32) 360 il_360 (by decide)
                    exact wq_s ⟨(show -359 ≤ (((v2_q46660 + (((2 : Int32) * v3_q46664) / (3 : Int32))) + (180 : Int32)) - ((((v2_q46660 + (((2 : Int32) * v3_q46664) / (3 : Int32))) + (180 : Int32)) / (360 : Int32)) * (360 : Int32))).toInt ∧ (((v2_q46660 + (((2 : Int32) * v3_q46664) / (3 : Int32))) + (180 : Int32)) - ((((v2_q46660 + (((2 : Int32) * v3_q46664) / (3 : Int32))) + (180 : Int32)) / (360 : Int32)) * (360 : Int32))).toInt ≤ 359 from ⟨by omega, by omega⟩), trivial⟩
                · have l_2 := il_2
                  refine wq_eq (fun hc_46775 => ?_) (fun hc_46776 => ?_)
                  · unfold fX12_houseAt_J195
                    refine wq_eq (fun hc_46777 => ?_) (fun hc_46778 => ?_)
                    · exfalso; omega
                    · have t_46779 := ia_div2 v4_q46668 (3 : Int32) 3 il_3 (by decide)
                      have t_46780 := ia_add x1 (v4_q46668 / (3 : Int32)) (by omega) (by omega)
                      have t_46781 := ia_add (x1 + (v4_q46668 / (3 : Int32))) (180 : Int32) (by omega) (by omega)
                      have t_46782 := ia_rem ((x1 + (v4_q46668 / (3 : Int32))) + (180 : Int32)) (360 : Int32) 360 il_360 (by decide) (by omega)
                      exact wq_s ⟨(show -359 ≤ (((x1 + (v4_q46668 / (3 : Int32))) + (180 : Int32)) - ((((x1 + (v4_q46668 / (3 : Int32))) + (180 : Int32)) / (360 : Int32)) * (360 : Int32))).toInt ∧ (((x1 + (v4_q46668 / (3 : Int32))) + (180 : Int32)) - ((((x1 + (v4_q46668 / (3 : Int32))) + (180 : Int32)) / (360 : Int32)) * (360 : Int32))).toInt ≤ 359 from ⟨by omega, by omega⟩), trivial⟩
                  · unfold fX12_houseAt_J195
                    refine wq_eq (fun hc_46783 => ?_) (fun hc_46784 => ?_)
                    · have t_46785 := ia_mul (2 : Int32) (2) il_2 v4_q46668 (by omega) (by omega)
                      have t_46786 := ia_div2 ((2 : Int32) * v4_q46668) (3 : Int32) 3 il_3 (by decide)
                      have t_46787 := ia_add x1 (((2 : Int32) * v4_q46668) / (3 : Int32)) (by omega) (by omega)
                      have t_46788 := ia_rem2 (x1 + (((2 : Int32) * v4_q46668) / (3 : Int32))) (360 : Int32) 360 il_360 (by decide)
                      exact wq_s ⟨(show -359 ≤ ((x1 + (((2 : Int32) * v4_q46668) / (3 : Int32))) - (((x1 + (((2 : Int32) * v4_q46668) / (3 : Int32))) / (360 : Int32)) * (360 : Int32))).toInt ∧ ((x1 + (((2 : Int32) * v4_q46668) / (3 : Int32))) - (((x1 + (((2 : Int32) * v4_q46668) / (3 : Int32))) / (360 : Int32)) * (360 : Int32))).toInt ≤ 359 from ⟨by omega, by omega⟩), trivial⟩
                    · have t_46789 := ia_mul (2 : Int32) (2) il_2 v4_q46668 (by omega) (by omega)
                      have t_46790 := ia_div2 ((2 : Int32) * v4_q46668) (3 : Int32) 3 il_3 (by decide)
                      have t_46791 := ia_add x1 (((2 : Int32) * v4_q46668) / (3 : Int32)) (by omega) (by omega)
                      have t_46792 := ia_add (x1 + (((2 : Int32) * v4_q46668) / (3 : Int32))) (180 : Int32) (by omega) (by omega)
                      have t_46793 := ia_rem2 ((x1 + (((2 : Int32) * v4_q46668) / (3 : Int32))) + (180 : Int32)) (360 : Int32) 360 il_360 (by decide)
                      exact wq_s ⟨(show -359 ≤ (((x1 + (((2 : Int32) * v4_q46668) / (3 : Int32))) + (180 : Int32)) - ((((x1 + (((2 : Int32) * v4_q46668) / (3 : Int32))) + (180 : Int32)) / (360 : Int32)) * (360 : Int32))).toInt ∧ (((x1 + (((2 : Int32) * v4_q46668) / (3 : Int32))) + (180 : Int32)) - ((((x1 + (((2 : Int32) * v4_q46668) / (3 : Int32))) + (180 : Int32)) / (360 : Int32)) * (360 : Int32))).toInt ≤ 359 from ⟨by omega, by omega⟩), trivial⟩
set_option maxHeartbeats 4000000 in
theorem tt_fX12_isWay {N : Nat} (hN : 3000000000 ≤ N) (I0 : Nat → Int32) (L0 : Int64) (M0 : Nat → Nat → Int32) (x1 : Int32) (x2 : Int32) (k_I0 : KX12 I0 M0) : wq (fX12_isWay N I0 L0 M0 x1 x2) (fun r => (r.1.toInt = 0 ∨ (r.1.toInt = 1 ∧ ((0 ≤ x1.toInt ∧ x1.toInt ≤ 1) ∨ (x1.toInt = 2 ∧ 0 ≤ x2.toInt ∧ x2.toInt ≤ 6 ∧ x2.toInt < (r.2.1 1).toInt)))) ∧ (r.2.1 1).toInt = (I0 1).toInt ∧ (0 ≤ r.1.toInt ∧ r.1.toInt ≤ 1) ∧ KX12 r.2.1 r.2.2.2 ∧ True) := by
  unfold fX12_isWay
  have b_46944 := i32b x1
  have l_0 := il_0
  have l_2 := il_2
  refine wq_b (tt_fX12_within hN x1 (0 : Int32) (2 : Int32)) (fun r1_q46945 h_r1_q46945 => ?_)
  obtain ⟨h_r1_q46945_0, h_r1_q46945_1, -⟩ := h_r1_q46945
  refine wq_eq (fun hc_46946 => ?_) (fun hc_46947 => ?_)
  · have l_1 := il_1
    refine wq_b (tt_fX12_right hN I0 L0 M0 (0 : Int32) (1 : Int32) ⟨by omega, by omega⟩ k_I0) (fun r2_q46948 h_r2_q46948 => ?_)
    obtain ⟨h_r2_q46948_0, h_r2_q46948_1, h_r2_q46948_2, h_r2_q46948_3, -⟩ := h_r2_q46948
    have t_46949 := KX12.i1 h_r2_q46948_3
    have t_46950 := KX12.i1 k_I0
    refine wq_bz (by omega) ?_
    have b_46951 := i32b x2
    exact wq_s ⟨(show (r2_q46948.1.toInt = 0 ∨ (r2_q46948.1.toInt = 1 ∧ ((0 ≤ x1.toInt ∧ x1.toInt ≤ 1) ∨ (x1.toInt = 2 ∧ 0 ≤ x2.toInt ∧ x2.toInt ≤ 6 ∧ x2.toInt < (r2_q46948.2.1 1).toInt)))) from by omega), (show (r2_q46948.2.1 1).toInt = (I0 1).toInt from by omega), (show 0 ≤ r2_q46948.1.toInt ∧ r2_q46948.1.toInt ≤ 1 from ⟨by omega, by omega⟩), h_r2_q46948_3, trivial⟩
  · refine wq_lt (fun hc_46952 => ?_) (fun hc_46953 => ?_)
    · have l_1 := il_1
      refine wq_b (tt_fX12_right hN I0 L0 M0 (1 : Int32) (1 : Int32) ⟨by omega, by omega⟩ k_I0) (fun r3_q46954 h_r3_q46954 => ?_)
      obtain ⟨h_r3_q46954_0, h_r3_q46954_1, h_r3_q46954_2, h_r3_q46954_3, -⟩ := h_r3_q46954
      have t_46955 := KX12.i1 h_r3_q46954_3
      have t_46956 := KX12.i1 k_I0
      refine wq_bz (by omega) ?_
      have b_46957 := i32b x2
      exact wq_s ⟨(show (r3_q46954.1.toInt = 0 ∨ (r3_q46954.1.toInt = 1 ∧ ((0 ≤ x1.toInt ∧ x1.toInt ≤ 1) ∨ (x1.toInt = 2 ∧ 0 ≤ x2.toInt ∧ x2.toInt ≤ 6 ∧ x2.toInt < (r3_q46954.2.1 1).toInt)))) from by omega), (show (r3_q46954.2.1 1).toInt = (I0 1).toInt from by omega), (show 0 ≤ r3_q46954.1.toInt ∧ r3_q46954.1.toInt ≤ 1 from ⟨by omega, by omega⟩), h_r3_q46954_3, trivial⟩
    · have b_46958 := i32b x2
      refine wq_lt (fun hc_46959 => ?_) (fun hc_46960 => ?_)
      · have l_1 := il_1
        refine wq_b (tt_fX12_right hN I0 L0 M0 (0 : Int32) (1 : Int32) ⟨by omega, by omega⟩ k_I0) (fun r4_q46961 h_r4_q46961 => ?_)
        obtain ⟨h_r4_q46961_0, h_r4_q46961_1, h_r4_q46961_2, h_r4_q46961_3, -⟩ := h_r4_q46961
        have t_46962 := KX12.i1 h_r4_q46961_3
        have t_46963 := KX12.i1 k_I0
        refine wq_bz (by omega) ?_
        exact wq_s ⟨(show (r4_q46961.1.toInt = 0 ∨ (r4_q46961.1.toInt = 1 ∧ ((0 ≤ x1.toInt ∧ x1.toInt ≤ 1) ∨ (x1.toInt = 2 ∧ 0 ≤ x2.toInt ∧ x2.toInt ≤ 6 ∧ x2.toInt < (r4_q46961.2.1 1).toInt)))) from by omega), (show (r4_q46961.2.1 1).toInt = (I0 1).toInt from by omega), (show 0 ≤ r4_q46961.1.toInt ∧ r4_q46961.1.toInt ≤ 1 from ⟨by omega, by omega⟩), h_r4_q46961_3, trivial⟩
      · have t_46964 := KX12.i1 k_I0
        refine wq_le (fun hc_46965 => ?_) (fun hc_46966 => ?_)
        · have l_1 := il_1
          refine wq_b (tt_fX12_right hN I0 L0 M0 (0 : Int32) (1 : Int32) ⟨by omega, by omega⟩ k_I0) (fun r5_q46967 h_r5_q46967 => ?_)
          obtain ⟨h_r5_q46967_0, h_r5_q46967_1, h_r5_q46967_2, h_r5_q46967_3, -⟩ := h_r5_q46967
          have t_46968 := KX12.i1 h_r5_q46967_3
          refine wq_bz (by omega) ?_
          exact wq_s ⟨(show (r5_q46967.1.toInt = 0 ∨ (r5_q46967.1.toInt = 1 ∧ ((0 ≤ x1.toInt ∧ x1.toInt ≤ 1) ∨ (x1.toInt = 2 ∧ 0 ≤ x2.toInt ∧ x2.toInt ≤ 6 ∧ x2.toInt < (r5_q46967.2.1 1).toInt)))) from by omega), (show (r5_q46967.2.1 1).toInt = (I0 1).toInt from by omega), (show 0 ≤ r5_q46967.1.toInt ∧ r5_q46967.1.toInt ≤ 1 from ⟨by omega, by omega⟩), h_r5_q46967_3, trivial⟩
        · have l_1 := il_1
          refine wq_b (tt_fX12_right hN I0 L0 M0 (1 : Int32) (1 : Int32) ⟨by omega, by omega⟩ k_I0) (fun r6_q46969 h_r6_q46969 => ?_)
          obtain ⟨h_r6_q46969_0, h_r6_q46969_1, h_r6_q46969_2, h_r6_q46969_3, -⟩ := h_r6_q46969
          have t_46970 := KX12.i1 h_r6_q46969_3
          refine wq_bz (by omega) ?_
          exact wq_s ⟨(show (r6_q46969.1.toInt = 0 ∨ (r6_q46969.1.toInt = 1 ∧ ((0 ≤ x1.toInt ∧ x1.toInt ≤ 1) ∨ (x1.toInt = 2 ∧ 0 ≤ x2.toInt ∧ x2.toInt ≤ 6 ∧ x2.toInt < (r6_q46969.2.1 1).toInt)))) from by omega), (show (r6_q46969.2.1 1).toInt = (I0 1).toInt from by omega), (show 0 ≤ r6_q46969.1.toInt ∧ r6_q46969.1.toInt ≤ 1 from ⟨by omega, by omega⟩), h_r6_q46969_3, trivial⟩
set_option maxHeartbeats 4000000 in
theorem tt_fX12_houseOf {N : Nat} (hN : 3000000000 ≤ N) (I0 : Nat → Int32) (L0 : Int64) (M0 : Nat → Nat → Int32) (x1 : Int32) (x2 : Int32) (x3 : Int32) (x4 : Int32) (k_I0 : KX12 I0 M0) : wq (fX12_houseOf N I0 L0 M0 x1 x2 x3 x4) (fun r => (-359 ≤ r.1.toInt ∧ r.1.toInt ≤ 359) ∧ KX12 r.2.1 r.2.2.2 ∧ True) := by
  unfold fX12_houseOf
  refine wq_v (fun I0_4_q47265 h_I0_4_q47265 => ?_)
  have k_I0_4_q47265 : KX12 I0_4_q47265 M0 := by rw [h_I0_4_q47265]; exact KX12.si0 k_I0
  have b_47266 := i32b x1
  have l_0 := il_0
  have l_359 := il_359
  refine wq_b (tt_fX12_within hN x1 (0 : Int32) (359 : Int32)) (fun r5_q47267 h_r5_q47267 => ?_)
  obtain ⟨h_r5_q47267_0, h_r5_q47267_1, -⟩ := h_r5_q47267
  refine wq_eq (fun hc_47268 => ?_) (fun hc_47269 => ?_)
  · unfold fX12_houseOf_J32
    unfold fX12_houseOf_J33
    have l_1 := il_1
    refine wq_b (tt_fX12_right hN I0_4_q47265 L0 M0 (0 : Int32) (1 : Int32) ⟨by omega, by omega⟩ k_I0_4_q47265) (fun r1_q47270 h_r1_q47270 => ?_)
    obtain ⟨h_r1_q47270_0, h_r1_q47270_1, h_r1_q47270_2, h_r1_q47270_3, -⟩ := h_r1_q47270
    have t_47271 := KX12.i1 h_r1_q47270_3
    have t_47272 := KX12.i1 k_I0
    have t_47273 : (I0_4_q47265 1).toInt = (I0 1).toInt := by rw [h_I0_4_q47265]; rfl
    refine wq_eq (fun hc_47274 => ?_) (fun hc_47275 => ?_)
    · exact wq_s ⟨(show -359 ≤ (0 : Int32).toInt ∧ (0 : Int32).toInt ≤ 359 from ⟨by omega, by omega⟩), h_r1_q47270_3, trivial⟩
    · have b_47276 := i32b x2
      have b_47277 := i32b x3
      refine wq_b (tt_fX12_isWay hN r1_q47270.2.1 r1_q47270.2.2.1 r1_q47270.2.2.2 x2 x3 h_r1_q47270_3) (fun r2_q47278 h_r2_q47278 => ?_)
      obtain ⟨h_r2_q47278_0, h_r2_q47278_1, h_r2_q47278_2, h_r2_q47278_3, -⟩ := h_r2_q47278
      have t_47279 := KX12.i1 h_r2_q47278_3
      refine wq_eq (fun hc_47280 => ?_) (fun hc_47281 => ?_)
      · exact wq_s ⟨(show -359 ≤ (0 : Int32).toInt ∧ (0 : Int32).toInt ≤ 359 from ⟨by omega, by omega⟩), h_r2_q47278_3, trivial⟩
      · have b_47282 := i32b x4
        refine wq_b (tt_fX12_houseAt hN r2_q47278.2.1 r2_q47278.2.2.1 r2_q47278.2.2.2 x1 x2 x3 x4 ⟨by omega, by omega⟩ ⟨by omega, by omega⟩ h_r2_q47278_3 (by omega)) (fun r3_q47283 h_r3_q47283 => ?_)
        obtain ⟨h_r3_q47283_0, -⟩ := h_r3_q47283
        exact wq_s ⟨(show -359 ≤ r3_q47283.toInt ∧ r3_q47283.toInt ≤ 359 from ⟨by omega, by omega⟩), h_r2_q47278_3, trivial⟩
  · have b_47284 := i32b x4
    have l_1 := il_1
    have l_12 := il_12
    refine wq_b (tt_fX12_within hN x4 (1 : Int32) (12 : Int32)) (fun r6_q47285 h_r6_q47285 => ?_)
    obtain ⟨h_r6_q47285_0, h_r6_q47285_1, -⟩ := h_r6_q47285
    refine wq_eq (fun hc_47286 => ?_) (fun hc_47287 => ?_)
    · unfold fX12_houseOf_J32
      unfold fX12_houseOf_J33
      refine wq_b (tt_fX12_right hN I0_4_q47265 L0 M0 (0 : Int32) (1 : Int32) ⟨by omega, by omega⟩ k_I0_4_q47265) (fun r1_q47288 h_r1_q47288 => ?_)
      obtain ⟨h_r1_q47288_0, h_r1_q47288_1, h_r1_q47288_2, h_r1_q47288_3, -⟩ := h_r1_q47288
      have t_47289 := KX12.i1 h_r1_q47288_3
      have t_47290 := KX12.i1 k_I0
      have t_47291 : (I0_4_q47265 1).toInt = (I0 1).toInt := by rw [h_I0_4_q47265]; rfl
      refine wq_eq (fun hc_47292 => ?_) (fun hc_47293 => ?_)
      · exact wq_s ⟨(show -359 ≤ (0 : Int32).toInt ∧ (0 : Int32).toInt ≤ 359 from ⟨by omega, by omega⟩), h_r1_q47288_3, trivial⟩
      · have b_47294 := i32b x2
        have b_47295 := i32b x3
        refine wq_b (tt_fX12_isWay hN r1_q47288.2.1 r1_q47288.2.2.1 r1_q47288.2.2.2 x2 x3 h_r1_q47288_3) (fun r2_q47296 h_r2_q47296 => ?_)
        obtain ⟨h_r2_q47296_0, h_r2_q47296_1, h_r2_q47296_2, h_r2_q47296_3, -⟩ := h_r2_q47296
        have t_47297 := KX12.i1 h_r2_q47296_3
        refine wq_eq (fun hc_47298 => ?_) (fun hc_47299 => ?_)
        · exact wq_s ⟨(show -359 ≤ (0 : Int32).toInt ∧ (0 : Int32).toInt ≤ 359 from ⟨by omega, by omega⟩), h_r2_q47296_3, trivial⟩
        · refine wq_b (tt_fX12_houseAt hN r2_q47296.2.1 r2_q47296.2.2.1 r2_q47296.2.2.2 x1 x2 x3 x4 ⟨by omega, by omega⟩ ⟨by omega, by omega⟩ h_r2_q47296_3 (by omega)) (fun r3_q47300 h_r3_q47300 => ?_)
          obtain ⟨h_r3_q47300_0, -⟩ := h_r3_q47300
          exact wq_s ⟨(show -359 ≤ r3_q47300.toInt ∧ r3_q47300.toInt ≤ 359 from ⟨by omega, by omega⟩), h_r2_q47296_3, trivial⟩
    · unfold fX12_houseOf_J33
      refine wq_b (tt_fX12_right hN I0_4_q47265 L0 M0 (1 : Int32) (1 : Int32) ⟨by omega, by omega⟩ k_I0_4_q47265) (fun r1_q47301 h_r1_q47301 => ?_)
      obtain ⟨h_r1_q47301_0, h_r1_q47301_1, h_r1_q47301_2, h_r1_q47301_3, -⟩ := h_r1_q47301
      have t_47302 := KX12.i1 h_r1_q47301_3
      have t_47303 := KX12.i1 k_I0
      have t_47304 : (I0_4_q47265 1).toInt = (I0 1).toInt := by rw [h_I0_4_q47265]; rfl
      refine wq_eq (fun hc_47305 => ?_) (fun hc_47306 => ?_)
      · exact wq_s ⟨(show -359 ≤ (0 : Int32).toInt ∧ (0 : Int32).toInt ≤ 359 from ⟨by omega, by omega⟩), h_r1_q47301_3, trivial⟩
      · have b_47307 := i32b x2
        have b_47308 := i32b x3
        refine wq_b (tt_fX12_isWay hN r1_q47301.2.1 r1_q47301.2.2.1 r1_q47301.2.2.2 x2 x3 h_r1_q47301_3) (fun r2_q47309 h_r2_q47309 => ?_)
        obtain ⟨h_r2_q47309_0, h_r2_q47309_1, h_r2_q47309_2, h_r2_q47309_3, -⟩ := h_r2_q47309
        have t_47310 := KX12.i1 h_r2_q47309_3
        refine wq_eq (fun hc_47311 => ?_) (fun hc_47312 => ?_)
        · exact wq_s ⟨(show -359 ≤ (0 : Int32).toInt ∧ (0 : Int32).toInt ≤ 359 from ⟨by omega, by omega⟩), h_r2_q47309_3, trivial⟩
        · refine wq_b (tt_fX12_houseAt hN r2_q47309.2.1 r2_q47309.2.2.1 r2_q47309.2.2.2 x1 x2 x3 x4 ⟨by omega, by omega⟩ ⟨by omega, by omega⟩ h_r2_q47309_3 (by omega)) (fun r3_q47313 h_r3_q47313 => ?_)
          obtain ⟨h_r3_q47313_0, -⟩ := h_r3_q47313
          exact wq_s ⟨(show -359 ≤ r3_q47313.toInt ∧ r3_q47313.toInt ≤ 359 from ⟨by omega, by omega⟩), h_r2_q47309_3, trivial⟩

set_option maxHeartbeats 4000000 in
theorem tt_fX12_riseOf {N : Nat} (hN : 3000000000 ≤ N) (I0 : Nat → Int32) (L0 : Int64) (M0 : Nat → Nat → Int32) (x1 : Int32) (x2 : Int32) (x3 : Int32) (h_x1 : 0 ≤ x1.toInt ∧ x1.toInt ≤ 6) (h_x2 : -60 ≤ x2.toInt ∧ x2.toInt ≤ 21599) (h_x3 : 0 ≤ x3.toInt ∧ x3.toInt ≤ 359) (k_I0 : KX12 I0 M0) (hr_4 : x1.toInt < (I0 1).toInt) : wq (fX12_riseOf N I0 L0 M0 x1 x2 x3) (fun r => True) := by
  unfold fX12_riseOf
  refine wq_b (tt_fX12_climbOf hN I0 L0 M0 x1 x2 ⟨by omega, by omega⟩ ⟨by omega, by omega⟩ k_I0) (fun r1_q38893 h_r1_q38893 => ?_)
  obtain ⟨-⟩ := h_r1_q38893
  have b_38894 := i32b r1_q38893
  have l_18000 := il_18000
  have t_38895 := ia_mul (18000 : Int32) (18000) il_18000 x3 (by omega) (by omega)
  have l_6480000 := il_6480000
  have t_38896 := ia_rem2 (r1_q38893 + ((18000 : Int32) * x3)) (6480000 : Int32) 6480000 il_6480000 (by decide)
  have t_38897 := KX12.i1 k_I0
  refine wq_b (tt_fX12_placeOf hN I0 L0 M0 x1 ((r1_q38893 + ((18000 : Int32) * x3)) - (((r1_q38893 + ((18000 : Int32) * x3)) / (6480000 : Int32)) * (6480000 : Int32))) ⟨by omega, by omega⟩ k_I0 (by omega) (by omega)) (fun r2_q38898 h_r2_q38898 => ?_)
  obtain ⟨-⟩ := h_r2_q38898
  have b_38899 := i32b r2_q38898
  exact wq_s trivial
set_option maxHeartbeats 4000000 in
theorem tt_fX12_rise {N : Nat} (hN : 3000000000 ≤ N) (I0 : Nat → Int32) (L0 : Int64) (M0 : Nat → Nat → Int32) (x1 : Int32) (x2 : Int32) (x3 : Int32) (k_I0 : KX12 I0 M0) : wq (fX12_rise N I0 L0 M0 x1 x2 x3) (fun r => KX12 r.2.1 r.2.2.2 ∧ True) := by
  unfold fX12_rise
  refine wq_v (fun I0_1_q39002 h_I0_1_q39002 => ?_)
  have k_I0_1_q39002 : KX12 I0_1_q39002 M0 := by rw [h_I0_1_q39002]; exact KX12.si0 k_I0
  have b_39003 := i32b x1
  have b_39004 := i32b x2
  refine wq_b (tt_fX12_isClimate hN I0_1_q39002 L0 M0 x1 x2 k_I0_1_q39002) (fun r2_q39005 h_r2_q39005 => ?_)
  obtain ⟨h_r2_q39005_0, h_r2_q39005_1, h_r2_q39005_2, h_r2_q39005_3, -⟩ := h_r2_q39005
  have t_39006 := KX12.i1 h_r2_q39005_3
  have t_39007 := KX12.i1 k_I0
  have t_39008 : (I0_1_q39002 1).toInt = (I0 1).toInt := by rw [h_I0_1_q39002]; rfl
  have l_0 := il_0
  refine wq_eq (fun hc_39009 => ?_) (fun hc_39010 => ?_)
  · exact wq_s ⟨h_r2_q39005_3, trivial⟩
  · have b_39011 := i32b x3
    have l_359 := il_359
    refine wq_b (tt_fX12_within hN x3 (0 : Int32) (359 : Int32)) (fun r3_q39012 h_r3_q39012 => ?_)
    obtain ⟨h_r3_q39012_0, h_r3_q39012_1, -⟩ := h_r3_q39012
    have l_1 := il_1
    refine wq_b (tt_fX12_right hN r2_q39005.2.1 r2_q39005.2.2.1 r2_q39005.2.2.2 r3_q39012 (1 : Int32) ⟨by omega, by omega⟩ h_r2_q39005_3) (fun r4_q39013 h_r4_q39013 => ?_)
    obtain ⟨h_r4_q39013_0, h_r4_q39013_1, h_r4_q39013_2, h_r4_q39013_3, -⟩ := h_r4_q39013
    have t_39014 := KX12.i1 h_r4_q39013_3
    refine wq_eq (fun hc_39015 => ?_) (fun hc_39016 => ?_)
    · exact wq_s ⟨h_r4_q39013_3, trivial⟩
    · refine wq_b (tt_fX12_riseOf hN r4_q39013.2.1 r4_q39013.2.2.1 r4_q39013.2.2.2 x1 x2 x3 ⟨by omega, by omega⟩ ⟨by omega, by omega⟩ ⟨by omega, by omega⟩ h_r4_q39013_3 (by omega)) (fun r5_q39017 h_r5_q39017 => ?_)
      obtain ⟨-⟩ := h_r5_q39017
      have b_39018 := i32b r5_q39017
      exact wq_s ⟨h_r4_q39013_3, trivial⟩
set_option maxHeartbeats 4000000 in
theorem tt_fX12_middleOf {N : Nat} (hN : 3000000000 ≤ N) (I0 : Nat → Int32) (L0 : Int64) (M0 : Nat → Nat → Int32) (x1 : Int32) (x2 : Int32) (h_x1 : 0 ≤ x1.toInt ∧ x1.toInt ≤ 6) (h_x2 : -60 ≤ x2.toInt ∧ x2.toInt ≤ 21599) (k_I0 : KX12 I0 M0) (hr_3 : x1.toInt < (I0 1).toInt) : wq (fX12_middleOf N I0 L0 M0 x1 x2) (fun r => True) := by
  unfold fX12_middleOf
  refine wq_b (tt_fX12_climbOf hN I0 L0 M0 x1 x2 ⟨by omega, by omega⟩ ⟨by omega, by omega⟩ k_I0) (fun r1_q39049 h_r1_q39049 => ?_)
  obtain ⟨-⟩ := h_r1_q39049
  have l_0 := il_0
  have b_39050 := i32b r1_q39049
  have l_6480000 := il_6480000
  have l_1620000 := il_1620000
  have t_39051 := ia_rem2 ((r1_q39049 + (6480000 : Int32)) - (1620000 : Int32)) (6480000 : Int32) 6480000 il_6480000 (by decide)
  have t_39052 := KX12.i1 k_I0
  refine wq_b (tt_fX12_placeOf hN I0 L0 M0 (0 : Int32) (((r1_q39049 + (6480000 : Int32)) - (1620000 : Int32)) - ((((r1_q39049 + (6480000 : Int32)) - (1620000 : Int32)) / (6480000 : Int32)) * (6480000 : Int32))) ⟨by omega, by omega⟩ k_I0 (by omega) (by omega)) (fun r2_q39053 h_r2_q39053 => ?_)
  obtain ⟨-⟩ := h_r2_q39053
  have b_39054 := i32b r2_q39053
  exact wq_s trivial
set_option maxHeartbeats 4000000 in
theorem tt_fX12_middle {N : Nat} (hN : 3000000000 ≤ N) (I0 : Nat → Int32) (L0 : Int64) (M0 : Nat → Nat → Int32) (x1 : Int32) (x2 : Int32) (k_I0 : KX12 I0 M0) : wq (fX12_middle N I0 L0 M0 x1 x2) (fun r => KX12 r.2.1 r.2.2.2 ∧ True) := by
  unfold fX12_middle
  refine wq_v (fun I0_1_q39121 h_I0_1_q39121 => ?_)
  have k_I0_1_q39121 : KX12 I0_1_q39121 M0 := by rw [h_I0_1_q39121]; exact KX12.si0 k_I0
  have b_39122 := i32b x1
  have b_39123 := i32b x2
  refine wq_b (tt_fX12_isClimate hN I0_1_q39121 L0 M0 x1 x2 k_I0_1_q39121) (fun r2_q39124 h_r2_q39124 => ?_)
  obtain ⟨h_r2_q39124_0, h_r2_q39124_1, h_r2_q39124_2, h_r2_q39124_3, -⟩ := h_r2_q39124
  have t_39125 := KX12.i1 h_r2_q39124_3
  have t_39126 := KX12.i1 k_I0
  have t_39127 : (I0_1_q39121 1).toInt = (I0 1).toInt := by rw [h_I0_1_q39121]; rfl
  have l_0 := il_0
  refine wq_eq (fun hc_39128 => ?_) (fun hc_39129 => ?_)
  · exact wq_s ⟨h_r2_q39124_3, trivial⟩
  · refine wq_b (tt_fX12_middleOf hN r2_q39124.2.1 r2_q39124.2.2.1 r2_q39124.2.2.2 x1 x2 ⟨by omega, by omega⟩ ⟨by omega, by omega⟩ h_r2_q39124_3 (by omega)) (fun r3_q39130 h_r3_q39130 => ?_)
    obtain ⟨-⟩ := h_r3_q39130
    have b_39131 := i32b r3_q39130
    exact wq_s ⟨h_r2_q39124_3, trivial⟩
set_option maxHeartbeats 4000000 in
theorem tt_fX12_isHour {N : Nat} (hN : 3000000000 ≤ N) (I0 : Nat → Int32) (L0 : Int64) (M0 : Nat → Nat → Int32) (x1 : Int32) (x2 : Int32) (x3 : Int32) (h_x1 : 0 ≤ x1.toInt ∧ x1.toInt ≤ 119) (h_x2 : 0 ≤ x2.toInt ∧ x2.toInt ≤ 6) (h_x3 : 0 ≤ x3.toInt ∧ x3.toInt ≤ 359) (k_I0 : KX12 I0 M0) (hr_4 : x2.toInt < (I0 1).toInt) : wq (fX12_isHour N I0 L0 M0 x1 x2 x3) (fun r => (0 ≤ r.toInt ∧ r.toInt ≤ 1) ∧ True) := by
  unfold fX12_isHour
  have l_0 := il_0
  refine wq_b (tt_fX12_at hN I0 L0 M0 x1 (0 : Int32) ⟨by omega, by omega⟩ ⟨by omega, by omega⟩ k_I0) (fun r1_q39186 h_r1_q39186 => ?_)
  obtain ⟨h_r1_q39186_0, h_r1_q39186_1, h_r1_q39186_2, -⟩ := h_r1_q39186
  have l_60 := il_60
  have t_39187 := ia_mul (60 : Int32) (60) il_60 r1_q39186 (by omega) (by omega)
  have t_39188 := KX12.i1 k_I0
  refine wq_b (tt_fX12_riseOf hN I0 L0 M0 x2 ((60 : Int32) * r1_q39186) x3 ⟨by omega, by omega⟩ ⟨by omega, by omega⟩ ⟨by omega, by omega⟩ k_I0 (by omega)) (fun r2_q39189 h_r2_q39189 => ?_)
  obtain ⟨-⟩ := h_r2_q39189
  have l_7 := il_7
  refine wq_b (tt_fX12_at hN I0 L0 M0 x1 (7 : Int32) ⟨by omega, by omega⟩ ⟨by omega, by omega⟩ k_I0) (fun r3_q39190 h_r3_q39190 => ?_)
  obtain ⟨h_r3_q39190_0, h_r3_q39190_1, h_r3_q39190_2, -⟩ := h_r3_q39190
  have b_39191 := i32b r2_q39189
  have t_39192 := i32b r2_q39189
  have t_39193 := ia_div2 r2_q39189 (60 : Int32) 60 il_60 (by decide)
  refine wq_eq (fun hc_39194 => ?_) (fun hc_39195 => ?_)
  · have l_1 := il_1
    exact wq_s ⟨(show 0 ≤ (1 : Int32).toInt ∧ (1 : Int32).toInt ≤ 1 from ⟨by omega, by omega⟩), trivial⟩
  · exact wq_s ⟨(show 0 ≤ (0 : Int32).toInt ∧ (0 : Int32).toInt ≤ 1 from ⟨by omega, by omega⟩), trivial⟩
set_option maxHeartbeats 4000000 in
theorem tt_fX12_hour_L67 {N : Nat} (hN : 3000000000 ≤ N) (x1 : Int32) (x2 : Int32) (x3 : Int32) (y61_4 : Int32) (y61_5 : Int32) (h_x1 : 0 ≤ x1.toInt ∧ x1.toInt ≤ 5) (h_x2 : 0 ≤ x2.toInt ∧ x2.toInt ≤ 19) (h_y61_4 : 0 ≤ y61_4.toInt ∧ y61_4.toInt ≤ 119) (h_y61_5 : 0 ≤ y61_5.toInt ∧ y61_5.toInt ≤ 1)  : ∀ (fu : Nat) (I0_l67 : (Nat → Int32)) (L0_l67 : Int64) (M0_l67 : (Nat → Nat → Int32)) (y67_6 : Int32) (y67_7 : Int32), (0 ≤ y67_7.toInt ∧ y67_7.toInt ≤ 2520) → (KX12 I0_l67 M0_l67) → (2520 - y67_7.toInt) < (fu : Int) → wq (fX12_hour_L67 N x1 x2 x3 y61_4 y61_5 fu I0_l67 L0_l67 M0_l67 y67_6 y67_7) (fun r => KX12 r.2.1 r.2.2.2 ∧ True) := by
  intro fu
  induction fu with
  | zero => intro I0_l67 L0_l67 M0_l67 y67_6 y67_7 h_y67_7 k_I0_l67 hm; exfalso; omega
  | succ fu ih =>
    intro I0_l67 L0_l67 M0_l67 y67_6 y67_7 h_y67_7 k_I0_l67 hm
    rw [fX12_hour_L67.eq_2]
    have t_40733 := KX12.i1 k_I0_l67
    have l_360 := il_360
    have t_40734 := ia_mul (360 : Int32) (360) il_360 (I0_l67 1) (by omega) (by omega)
    refine wq_le (fun hc_40735 => ?_) (fun hc_40736 => ?_)
    · unfold fX12_hour_J127
      have b_40737 := i32b x3
      have l_m1 := il_m1
      refine wq_eq (fun hc_40738 => ?_) (fun hc_40739 => ?_)
      · have l_1 := il_1
        refine wq_b (tt_fX12_right hN I0_l67 L0_l67 M0_l67 (1 : Int32) (1 : Int32) ⟨by omega, by omega⟩ k_I0_l67) (fun r2_q40740 h_r2_q40740 => ?_)
        obtain ⟨h_r2_q40740_0, h_r2_q40740_1, h_r2_q40740_2, h_r2_q40740_3, -⟩ := h_r2_q40740
        have t_40741 := KX12.i1 h_r2_q40740_3
        have l_0 := il_0
        refine wq_eq (fun hc_40742 => ?_) (fun hc_40743 => ?_)
        · exact wq_s ⟨h_r2_q40740_3, trivial⟩
        · have b_40744 := i32b y67_6
          exact wq_s ⟨h_r2_q40740_3, trivial⟩
      · have l_0 := il_0
        have l_1 := il_1
        refine wq_b (tt_fX12_right hN I0_l67 L0_l67 M0_l67 (0 : Int32) (1 : Int32) ⟨by omega, by omega⟩ k_I0_l67) (fun r1_q40745 h_r1_q40745 => ?_)
        obtain ⟨h_r1_q40745_0, h_r1_q40745_1, h_r1_q40745_2, h_r1_q40745_3, -⟩ := h_r1_q40745
        have t_40746 := KX12.i1 h_r1_q40745_3
        refine wq_eq (fun hc_40747 => ?_) (fun hc_40748 => ?_)
        · exact wq_s ⟨h_r1_q40745_3, trivial⟩
        · have b_40749 := i32b y67_6
          exact wq_s ⟨h_r1_q40745_3, trivial⟩
    · have l_0 := il_0
      refine wq_eq (fun hc_40750 => ?_) (fun hc_40751 => ?_)
      · unfold fX12_hour_J127
        have b_40752 := i32b x3
        have l_m1 := il_m1
        refine wq_eq (fun hc_40753 => ?_) (fun hc_40754 => ?_)
        · have l_1 := il_1
          refine wq_b (tt_fX12_right hN I0_l67 L0_l67 M0_l67 (1 : Int32) (1 : Int32) ⟨by omega, by omega⟩ k_I0_l67) (fun r2_q40755 h_r2_q40755 => ?_)
          obtain ⟨h_r2_q40755_0, h_r2_q40755_1, h_r2_q40755_2, h_r2_q40755_3, -⟩ := h_r2_q40755
          have t_40756 := KX12.i1 h_r2_q40755_3
          refine wq_eq (fun hc_40757 => ?_) (fun hc_40758 => ?_)
          · exact wq_s ⟨h_r2_q40755_3, trivial⟩
          · have b_40759 := i32b y67_6
            exact wq_s ⟨h_r2_q40755_3, trivial⟩
        · have l_1 := il_1
          refine wq_b (tt_fX12_right hN I0_l67 L0_l67 M0_l67 (0 : Int32) (1 : Int32) ⟨by omega, by omega⟩ k_I0_l67) (fun r1_q40760 h_r1_q40760 => ?_)
          obtain ⟨h_r1_q40760_0, h_r1_q40760_1, h_r1_q40760_2, h_r1_q40760_3, -⟩ := h_r1_q40760
          have t_40761 := KX12.i1 h_r1_q40760_3
          refine wq_eq (fun hc_40762 => ?_) (fun hc_40763 => ?_)
          · exact wq_s ⟨h_r1_q40760_3, trivial⟩
          · have b_40764 := i32b y67_6
            exact wq_s ⟨h_r1_q40760_3, trivial⟩
      · have t_40765 := ia_div y67_7 (360 : Int32) 360 il_360 (by decide) (by omega)
        have t_40766 := ia_rem y67_7 (360 : Int32) 360 il_360 (by decide) (by omega)
        refine wq_b (tt_fX12_isHour hN I0_l67 L0_l67 M0_l67 y61_4 (y67_7 / (360 : Int32)) (y67_7 - ((y67_7 / (360 : Int32)) * (360 : Int32))) ⟨by omega, by omega⟩ ⟨by omega, by omega⟩ ⟨by omega, by omega⟩ k_I0_l67 (by omega)) (fun r3_q40767 h_r3_q40767 => ?_)
        obtain ⟨h_r3_q40767_0, -⟩ := h_r3_q40767
        refine wq_eq (fun hc_40768 => ?_) (fun hc_40769 => ?_)
        · have l_1 := il_1
          have t_40771 := ia_add y67_7 (1 : Int32) (by omega) (by omega)
          refine wq_v (fun v6_q40770 h_v6_q40770 => ?_)
          have t_v6_q40770 := congrArg Int32.toInt h_v6_q40770
          have b_40772 := i32b y67_6
          exact ih I0_l67 L0_l67 M0_l67 y67_6 v6_q40770 ⟨by omega, by omega⟩ k_I0_l67 (by omega)
        · have b_40773 := i32b y67_6
          have b_40774 := i32b x3
          refine wq_eq (fun hc_40775 => ?_) (fun hc_40776 => ?_)
          · exact wq_s ⟨k_I0_l67, trivial⟩
          · have l_1 := il_1
            refine wq_v (fun v4_q40777 h_v4_q40777 => ?_)
            have t_v4_q40777 := congrArg Int32.toInt h_v4_q40777
            have t_40779 := ia_add y67_7 (1 : Int32) (by omega) (by omega)
            refine wq_v (fun v5_q40778 h_v5_q40778 => ?_)
            have t_v5_q40778 := congrArg Int32.toInt h_v5_q40778
            have b_40780 := i32b v4_q40777
            exact ih I0_l67 L0_l67 M0_l67 v4_q40777 v5_q40778 ⟨by omega, by omega⟩ k_I0_l67 (by omega)
set_option maxHeartbeats 4000000 in
theorem tt_fX12_hour {N : Nat} (hN : 3000000000 ≤ N) (I0 : Nat → Int32) (L0 : Int64) (M0 : Nat → Nat → Int32) (x1 : Int32) (x2 : Int32) (x3 : Int32) (k_I0 : KX12 I0 M0) : wq (fX12_hour N I0 L0 M0 x1 x2 x3) (fun r => KX12 r.2.1 r.2.2.2 ∧ True) := by
  unfold fX12_hour
  have b_40781 := i32b x1
  have b_40782 := i32b x2
  refine wq_b (tt_fX12_isWheel hN I0 L0 M0 x1 x2 k_I0) (fun r7_q40783 h_r7_q40783 => ?_)
  obtain ⟨h_r7_q40783_0, h_r7_q40783_1, h_r7_q40783_2, h_r7_q40783_3, -⟩ := h_r7_q40783
  have t_40784 := KX12.i1 h_r7_q40783_3
  have t_40785 := KX12.i1 k_I0
  have l_0 := il_0
  refine wq_eq (fun hc_40786 => ?_) (fun hc_40787 => ?_)
  · exact wq_s ⟨h_r7_q40783_3, trivial⟩
  · have l_20 := il_20
    have t_40789 := ia_mul (20 : Int32) (20) il_20 x1 (by omega) (by omega)
    have t_40790 := ia_add ((20 : Int32) * x1) x2 (by omega) (by omega)
    refine wq_v (fun v8_q40788 h_v8_q40788 => ?_)
    have t_v8_q40788 := congrArg Int32.toInt h_v8_q40788
    refine wq_b (tt_fX12_at hN r7_q40783.2.1 r7_q40783.2.2.1 r7_q40783.2.2.2 v8_q40788 (0 : Int32) ⟨by omega, by omega⟩ ⟨by omega, by omega⟩ h_r7_q40783_3) (fun r9b_q40791 h_r9b_q40791 => ?_)
    obtain ⟨h_r9b_q40791_0, h_r9b_q40791_1, h_r9b_q40791_2, -⟩ := h_r9b_q40791
    have l_m1 := il_m1
    refine wq_eq (fun hc_40792 => ?_) (fun hc_40793 => ?_)
    · unfold fX12_hour_J46
      unfold fX12_hour_J47
      refine wq_eq (fun hc_40794 => ?_) (fun hc_40795 => ?_)
      · have b_40796 := i32b x3
        refine wq_eq (fun hc_40797 => ?_) (fun hc_40798 => ?_)
        · exact wq_s ⟨h_r7_q40783_3, trivial⟩
        · unfold fX12_hour_J61
          exact tt_fX12_hour_L67 hN x1 x2 x3 v8_q40788 (0 : Int32) ⟨by omega, by omega⟩ ⟨by omega, by omega⟩ ⟨by omega, by omega⟩ ⟨by omega, by omega⟩ N r7_q40783.2.1 r7_q40783.2.2.1 r7_q40783.2.2.2 (0 : Int32) (0 : Int32) ⟨by omega, by omega⟩ h_r7_q40783_3 (by omega)
      · exfalso; omega
    · have l_7 := il_7
      refine wq_b (tt_fX12_at hN r7_q40783.2.1 r7_q40783.2.2.1 r7_q40783.2.2.2 v8_q40788 (7 : Int32) ⟨by omega, by omega⟩ ⟨by omega, by omega⟩ h_r7_q40783_3) (fun r10_q40799 h_r10_q40799 => ?_)
      obtain ⟨h_r10_q40799_0, h_r10_q40799_1, h_r10_q40799_2, -⟩ := h_r10_q40799
      refine wq_eq (fun hc_40800 => ?_) (fun hc_40801 => ?_)
      · unfold fX12_hour_J46
        unfold fX12_hour_J47
        refine wq_eq (fun hc_40802 => ?_) (fun hc_40803 => ?_)
        · have b_40804 := i32b x3
          refine wq_eq (fun hc_40805 => ?_) (fun hc_40806 => ?_)
          · exact wq_s ⟨h_r7_q40783_3, trivial⟩
          · unfold fX12_hour_J61
            exact tt_fX12_hour_L67 hN x1 x2 x3 v8_q40788 (0 : Int32) ⟨by omega, by omega⟩ ⟨by omega, by omega⟩ ⟨by omega, by omega⟩ ⟨by omega, by omega⟩ N r7_q40783.2.1 r7_q40783.2.2.1 r7_q40783.2.2.2 (0 : Int32) (0 : Int32) ⟨by omega, by omega⟩ h_r7_q40783_3 (by omega)
        · exfalso; omega
      · unfold fX12_hour_J47
        have l_1 := il_1
        refine wq_eq (fun hc_40807 => ?_) (fun hc_40808 => ?_)
        · exfalso; omega
        · unfold fX12_hour_J61
          have b_40809 := i32b x3
          exact tt_fX12_hour_L67 hN x1 x2 x3 v8_q40788 (1 : Int32) ⟨by omega, by omega⟩ ⟨by omega, by omega⟩ ⟨by omega, by omega⟩ ⟨by omega, by omega⟩ N r7_q40783.2.1 r7_q40783.2.2.1 r7_q40783.2.2.2 (0 : Int32) (0 : Int32) ⟨by omega, by omega⟩ h_r7_q40783_3 (by omega)
set_option maxHeartbeats 4000000 in
theorem tt_fX12_houseAt {N : Nat} (hN : 3000000000 ≤ N) (I0 : Nat → Int32) (L0 : Int64) (M0 : Nat → Nat → Int32) (x1 : Int32) (x2 : Int32) (x3 : Int32) (x4 : Int32) (h_x1 : -1 ≤ x1.toInt ∧ x1.toInt ≤ 359) (h_x4 : 1 ≤ x4.toInt ∧ x4.toInt ≤ 12) (k_I0 : KX12 I0 M0) (hr_3 : ((0 ≤ x2.toInt ∧ x2.toInt ≤ 1) ∨ (0 ≤ x3.toInt ∧ x3.toInt < (I0 1).toInt))) : wq (fX12_houseAt N I0 L0 M0 x1 x2 x3 x4) (fun r => (-359 ≤ r.toInt ∧ r.toInt ≤ 359) ∧ True) := by
  unfold fX12_houseAt
  have b_41716 := i32b x2
  have l_0 := il_0
  refine wq_eq (fun hc_41717 => ?_) (fun hc_41718 => ?_)
  · have l_30 := il_30
    have t_41719 := ia_div2 x1 (30 : Int32) 30 il_30 (by decide)
    have t_41720 := ia_add (x1 / (30 : Int32)) x4 (by omega) (by omega)
    have l_1 := il_1
    have t_41721 := ia_sub ((x1 / (30 : Int32)) + x4) (1 : Int32) (by omega) (by omega)
    have l_12 := il_12
    have t_41722 := ia_rem (((x1 / (30 : Int32)) + x4) - (1 : Int32)) (12 : Int32) 12 il_12 (by decide) (by omega)
    have t_41723 := ia_mul (30 : Int32) (30) il_30 ((((x1 / (30 : Int32)) + x4) - (1 : Int32)) - (((((x1 / (30 : Int32)) + x4) - (1 : Int32)) / (12 : Int32)) * (12 : Int32))) (by omega) (by omega)
    exact wq_s ⟨(show -359 ≤ ((30 : Int32) * ((((x1 / (30 : Int32)) + x4) - (1 : Int32)) - (((((x1 / (30 : Int32)) + x4) - (1 : Int32)) / (12 : Int32)) * (12 : Int32)))).toInt ∧ ((30 : Int32) * ((((x1 / (30 : Int32)) + x4) - (1 : Int32)) - (((((x1 / (30 : Int32)) + x4) - (1 : Int32)) / (12 : Int32)) * (12 : Int32)))).toInt ≤ 359 from ⟨by omega, by omega⟩), trivial⟩
  · have l_1 := il_1
    refine wq_eq (fun hc_41724 => ?_) (fun hc_41725 => ?_)
    · have t_41726 := ia_sub x4 (1 : Int32) (by omega) (by omega)
      have l_30 := il_30
      have t_41727 := ia_mul (30 : Int32) (30) il_30 (x4 - (1 : Int32)) (by omega) (by omega)
      have t_41728 := ia_add x1 ((30 : Int32) * (x4 - (1 : Int32))) (by omega) (by omega)
      have l_360 := il_360
      have t_41729 := ia_rem2 (x1 + ((30 : Int32) * (x4 - (1 : Int32)))) (360 : Int32) 360 il_360 (by decide)
      exact wq_s ⟨(show -359 ≤ ((x1 + ((30 : Int32) * (x4 - (1 : Int32)))) - (((x1 + ((30 : Int32) * (x4 - (1 : Int32)))) / (360 : Int32)) * (360 : Int32))).toInt ∧ ((x1 + ((30 : Int32) * (x4 - (1 : Int32)))) - (((x1 + ((30 : Int32) * (x4 - (1 : Int32)))) / (360 : Int32)) * (360 : Int32))).toInt ≤ 359 from ⟨by omega, by omega⟩), trivial⟩
    · have b_41730 := i32b x3
      have l_60 := il_60
      have t_41731 := ia_mul (60 : Int32) (60) il_60 x1 (by omega) (by omega)
      have t_41732 := KX12.i1 k_I0
      refine wq_b (tt_fX12_middleOf hN I0 L0 M0 x3 ((60 : Int32) * x1) ⟨by omega, by omega⟩ ⟨by omega, by omega⟩ k_I0 (by omega)) (fun r1_q41733 h_r1_q41733 => ?_)
      obtain ⟨-⟩ := h_r1_q41733
      have b_41735 := i32b r1_q41733
      have t_41736 := i32b r1_q41733
      have t_41737 := ia_div2 r1_q41733 (60 : Int32) 60 il_60 (by decide)
      refine wq_v (fun v2_q41734 h_v2_q41734 => ?_)
      have t_v2_q41734 := congrArg Int32.toInt h_v2_q41734
      have t_41739 := ia_sub x1 v2_q41734 (by omega) (by omega)
      have l_360 := il_360
      have t_41740 := ia_add (x1 - v2_q41734) (360 : Int32) (by omega) (by omega)
      have t_41741 := ia_rem2 ((x1 - v2_q41734) + (360 : Int32)) (360 : Int32) 360 il_360 (by decide)
      refine wq_v (fun v3_q41738 h_v3_q41738 => ?_)
      have t_v3_q41738 := congrArg Int32.toInt h_v3_q41738
      have l_180 := il_180
      have t_41743 := ia_add v2_q41734 (180 : Int32) (by omega) (by omega)
      have t_41744 := ia_sub (v2_q41734 + (180 : Int32)) x1 (by omega) (by omega)
      have t_41745 := ia_add ((v2_q41734 + (180 : Int32)) - x1) (360 : Int32) (by omega) (by omega)
      have t_41746 := ia_rem2 (((v2_q41734 + (180 : Int32)) - x1) + (360 : Int32)) (360 : Int32) 360 il_360 (by decide)
      refine wq_v (fun v4_q41742 h_v4_q41742 => ?_)
      have t_v4_q41742 := congrArg Int32.toInt h_v4_q41742
      have l_3 := il_3
      refine wq_le (fun hc_41747 => ?_) (fun hc_41748 => ?_)
      · unfold fX12_houseAt_J110
        unfold fX12_houseAt_J112
        refine wq_eq (fun hc_41749 => ?_) (fun hc_41750 => ?_)
        · unfold fX12_houseAt_J195
          refine wq_eq (fun hc_41751 => ?_) (fun hc_41752 => ?_)
          · have t_41753 := ia_rem2 x1 (360 : Int32) 360 il_360 (by decide)
            exact wq_s ⟨(show -359 ≤ (x1 - ((x1 / (360 : Int32)) * (360 : Int32))).toInt ∧ (x1 - ((x1 / (360 : Int32)) * (360 : Int32))).toInt ≤ 359 from ⟨by omega, by omega⟩), trivial⟩
          · have t_41754 := ia_add x1 (180 : Int32) (by omega) (by omega)
            have t_41755 := ia_rem (x1 + (180 : Int32)) (360 : Int32) 360 il_360 (by decide) (by omega)
            exact wq_s ⟨(show -359 ≤ ((x1 + (180 : Int32)) - (((x1 + (180 : Int32)) / (360 : Int32)) * (360 : Int32))).toInt ∧ ((x1 + (180 : Int32)) - (((x1 + (180 : Int32)) / (360 : Int32)) * (360 : Int32))).toInt ≤ 359 from ⟨by omega, by omega⟩), trivial⟩
        · have l_10 := il_10
          refine wq_eq (fun hc_41756 => ?_) (fun hc_41757 => ?_)
          · exfalso; omega
          · have l_11 := il_11
            refine wq_eq (fun hc_41758 => ?_) (fun hc_41759 => ?_)
            · exfalso; omega
            · have l_12 := il_12
              refine wq_eq (fun hc_41760 => ?_) (fun hc_41761 => ?_)
              · exfalso; omega
              · have l_2 := il_2
                refine wq_eq (fun hc_41762 => ?_) (fun hc_41763 => ?_)
                · unfold fX12_houseAt_J195
                  refine wq_eq (fun hc_41764 => ?_) (fun hc_41765 => ?_)
                  · have t_41766 := ia_div2 v4_q41742 (3 : Int32) 3 il_3 (by decide)
                    have t_41767 := ia_add x1 (v4_q41742 / (3 : Int32)) (by omega) (by omega)
                    have t_41768 := ia_rem2 (x1 + (v4_q41742 / (3 : Int32))) (360 : Int32) 360 il_360 (by decide)
                    exact wq_s ⟨(show -359 ≤ ((x1 + (v4_q41742 / (3 : Int32))) - (((x1 + (v4_q41742 / (3 : Int32))) / (360 : Int32)) * (360 : Int32))).toInt ∧ ((x1 + (v4_q41742 / (3 : Int32))) - (((x1 + (v4_q41742 / (3 : Int32))) / (360 : Int32)) * (360 : Int32))).toInt ≤ 359 from ⟨by omega, by omega⟩), trivial⟩
                  · have t_41769 := ia_div2 v4_q41742 (3 : Int32) 3 il_3 (by decide)
                    have t_41770 := ia_add x1 (v4_q41742 / (3 : Int32)) (by omega) (by omega)
                    have t_41771 := ia_add (x1 + (v4_q41742 / (3 : Int32))) (180 : Int32) (by omega) (by omega)
                    have t_41772 := ia_rem ((x1 + (v4_q41742 / (3 : Int32))) + (180 : Int32)) (360 : Int32) 360 il_360 (by decide) (by omega)
                    exact wq_s ⟨(show -359 ≤ (((x1 + (v4_q41742 / (3 : Int32))) + (180 : Int32)) - ((((x1 + (v4_q41742 / (3 : Int32))) + (180 : Int32)) / (360 : Int32)) * (360 : Int32))).toInt ∧ (((x1 + (v4_q41742 / (3 : Int32))) + (180 : Int32)) - ((((x1 + (v4_q41742 / (3 : Int32))) + (180 : Int32)) / (360 : Int32)) * (360 : Int32))).toInt ≤ 359 from ⟨by omega, by omega⟩), trivial⟩
                · unfold fX12_houseAt_J195
                  refine wq_eq (fun hc_41773 => ?_) (fun hc_41774 => ?_)
                  · have t_41775 := ia_mul (2 : Int32) (2) il_2 v4_q41742 (by omega) (by omega)
                    have t_41776 := ia_div2 ((2 : Int32) * v4_q41742) (3 : Int32) 3 il_3 (by decide)
                    have t_41777 := ia_add x1 (((2 : Int32) * v4_q41742) / (3 : Int32)) (by omega) (by omega)
                    have t_41778 := ia_rem2 (x1 + (((2 : Int32) * v4_q41742) / (3 : Int32))) (360 : Int32) 360 il_360 (by decide)
                    exact wq_s ⟨(show -359 ≤ ((x1 + (((2 : Int32) * v4_q41742) / (3 : Int32))) - (((x1 + (((2 : Int32) * v4_q41742) / (3 : Int32))) / (360 : Int32)) * (360 : Int32))).toInt ∧ ((x1 + (((2 : Int32) * v4_q41742) / (3 : Int32))) - (((x1 + (((2 : Int32) * v4_q41742) / (3 : Int32))) / (360 : Int32)) * (360 : Int32))).toInt ≤ 359 from ⟨by omega, by omega⟩), trivial⟩
                  · have t_41779 := ia_mul (2 : Int32) (2) il_2 v4_q41742 (by omega) (by omega)
                    have t_41780 := ia_div2 ((2 : Int32) * v4_q41742) (3 : Int32) 3 il_3 (by decide)
                    have t_41781 := ia_add x1 (((2 : Int32) * v4_q41742) / (3 : Int32)) (by omega) (by omega)
                    have t_41782 := ia_add (x1 + (((2 : Int32) * v4_q41742) / (3 : Int32))) (180 : Int32) (by omega) (by omega)
                    have t_41783 := ia_rem2 ((x1 + (((2 : Int32) * v4_q41742) / (3 : Int32))) + (180 : Int32)) (360 : Int32) 360 il_360 (by decide)
                    exact wq_s ⟨(show -359 ≤ (((x1 + (((2 : Int32) * v4_q41742) / (3 : Int32))) + (180 : Int32)) - ((((x1 + (((2 : Int32) * v4_q41742) / (3 : Int32))) + (180 : Int32)) / (360 : Int32)) * (360 : Int32))).toInt ∧ (((x1 + (((2 : Int32) * v4_q41742) / (3 : Int32))) + (180 : Int32)) - ((((x1 + (((2 : Int32) * v4_q41742) / (3 : Int32))) + (180 : Int32)) / (360 : Int32)) * (360 : Int32))).toInt ≤ 359 from ⟨by omega, by omega⟩), trivial⟩
      · have l_10 := il_10
        refine wq_le (fun hc_41784 => ?_) (fun hc_41785 => ?_)
        · unfold fX12_houseAt_J110
          unfold fX12_houseAt_J112
          refine wq_eq (fun hc_41786 => ?_) (fun hc_41787 => ?_)
          · exfalso; omega
          · refine wq_eq (fun hc_41788 => ?_) (fun hc_41789 => ?_)
            · unfold fX12_houseAt_J195
              refine wq_eq (fun hc_41790 => ?_) (fun hc_41791 => ?_)
              · have t_41792 := ia_rem2 v2_q41734 (360 : Int32) 360 il_360 (by decide)
                exact wq_s ⟨(show -359 ≤ (v2_q41734 - ((v2_q41734 / (360 : Int32)) * (360 : Int32))).toInt ∧ (v2_q41734 - ((v2_q41734 / (360 : Int32)) * (360 : Int32))).toInt ≤ 359 from ⟨by omega, by omega⟩), trivial⟩
              · have t_41793 := ia_rem2 (v2_q41734 + (180 : Int32)) (360 : Int32) 360 il_360 (by decide)
                exact wq_s ⟨(show -359 ≤ ((v2_q41734 + (180 : Int32)) - (((v2_q41734 + (180 : Int32)) / (360 : Int32)) * (360 : Int32))).toInt ∧ ((v2_q41734 + (180 : Int32)) - (((v2_q41734 + (180 : Int32)) / (360 : Int32)) * (360 : Int32))).toInt ≤ 359 from ⟨by omega, by omega⟩), trivial⟩
            · have l_11 := il_11
              refine wq_eq (fun hc_41794 => ?_) (fun hc_41795 => ?_)
              · unfold fX12_houseAt_J195
                refine wq_eq (fun hc_41796 => ?_) (fun hc_41797 => ?_)
                · have t_41798 := ia_div2 v3_q41738 (3 : Int32) 3 il_3 (by decide)
                  have t_41799 := ia_add v2_q41734 (v3_q41738 / (3 : Int32)) (by omega) (by omega)
                  have t_41800 := ia_rem2 (v2_q41734 + (v3_q41738 / (3 : Int32))) (360 : Int32) 360 il_360 (by decide)
                  exact wq_s ⟨(show -359 ≤ ((v2_q41734 + (v3_q41738 / (3 : Int32))) - (((v2_q41734 + (v3_q41738 / (3 : Int32))) / (360 : Int32)) * (360 : Int32))).toInt ∧ ((v2_q41734 + (v3_q41738 / (3 : Int32))) - (((v2_q41734 + (v3_q41738 / (3 : Int32))) / (360 : Int32)) * (360 : Int32))).toInt ≤ 359 from ⟨by omega, by omega⟩), trivial⟩
                · have t_41801 := ia_div2 v3_q41738 (3 : Int32) 3 il_3 (by decide)
                  have t_41802 := ia_add v2_q41734 (v3_q41738 / (3 : Int32)) (by omega) (by omega)
                  have t_41803 := ia_add (v2_q41734 + (v3_q41738 / (3 : Int32))) (180 : Int32) (by omega) (by omega)
                  have t_41804 := ia_rem2 ((v2_q41734 + (v3_q41738 / (3 : Int32))) + (180 : Int32)) (360 : Int32) 360 il_360 (by decide)
                  exact wq_s ⟨(show -359 ≤ (((v2_q41734 + (v3_q41738 / (3 : Int32))) + (180 : Int32)) - ((((v2_q41734 + (v3_q41738 / (3 : Int32))) + (180 : Int32)) / (360 : Int32)) * (360 : Int32))).toInt ∧ (((v2_q41734 + (v3_q41738 / (3 : Int32))) + (180 : Int32)) - ((((v2_q41734 + (v3_q41738 / (3 : Int32))) + (180 : Int32)) / (360 : Int32)) * (360 : Int32))).toInt ≤ 359 from ⟨by omega, by omega⟩), trivial⟩
              · have l_12 := il_12
                refine wq_eq (fun hc_41805 => ?_) (fun hc_41806 => ?_)
                · unfold fX12_houseAt_J195
                  refine wq_eq (fun hc_41807 => ?_) (fun hc_41808 => ?_)
                  · have l_2 := il_2
                    have t_41809 := ia_mul (2 : Int32) (2) il_2 v3_q41738 (by omega) (by omega)
                    have t_41810 := ia_div2 ((2 : Int32) * v3_q41738) (3 : Int32) 3 il_3 (by decide)
                    have t_41811 := ia_add v2_q41734 (((2 : Int32) * v3_q41738) / (3 : Int32)) (by omega) (by omega)
                    have t_41812 := ia_rem2 (v2_q41734 + (((2 : Int32) * v3_q41738) / (3 : Int32))) (360 : Int32) 360 il_360 (by decide)
                    exact wq_s ⟨(show -359 ≤ ((v2_q41734 + (((2 : Int32) * v3_q41738) / (3 : Int32))) - (((v2_q41734 + (((2 : Int32) * v3_q41738) / (3 : Int32))) / (360 : Int32)) * (360 : Int32))).toInt ∧ ((v2_q41734 + (((2 : Int32) * v3_q41738) / (3 : Int32))) - (((v2_q41734 + (((2 : Int32) * v3_q41738) / (3 : Int32))) / (360 : Int32)) * (360 : Int32))).toInt ≤ 359 from ⟨by omega, by omega⟩), trivial⟩
                  · have l_2 := il_2
                    have t_41813 := ia_mul (2 : Int32) (2) il_2 v3_q41738 (by omega) (by omega)
                    have t_41814 := ia_div2 ((2 : Int32) * v3_q41738) (3 : Int32) 3 il_3 (by decide)
                    have t_41815 := ia_add v2_q41734 (((2 : Int32) * v3_q41738) / (3 : Int32)) (by omega) (by omega)
                    have t_41816 := ia_add (v2_q41734 + (((2 : Int32) * v3_q41738) / (3 : Int32))) (180 : Int32) (by omega) (by omega)
                    have t_41817 := ia_rem2 ((v2_q41734 + (((2 : Int32) * v3_q41738) / (3 : Int32))) + (180 : Int32)) (360 : Int32) 360 il_360 (by decide)
                    exact wq_s ⟨(show -359 ≤ (((v2_q41734 + (((2 : Int32) * v3_q41738) / (3 : Int32))) + (180 : Int32)) - ((((v2_q41734 + (((2 : Int32) * v3_q41738) / (3 : Int32))) + (180 : Int32)) / (360 : Int32)) * (360 : Int32))).toInt ∧ (((v2_q41734 + (((2 : Int32) * v3_q41738) / (3 : Int32))) + (180 : Int32)) - ((((v2_q41734 + (((2 : Int32) * v3_q41738) / (3 : Int32))) + (180 : Int32)) / (360 : Int32)) * (360 : Int32))).toInt ≤ 359 from ⟨by omega, by omega⟩), trivial⟩
                · exfalso; omega
        · unfold fX12_houseAt_J112
          have l_5 := il_5
          have t_41818 := ia_add x4 (5 : Int32) (by omega) (by omega)
          have l_12 := il_12
          have t_41819 := ia_rem (x4 + (5 : Int32)) (12 : Int32) 12 il_12 (by decide) (by omega)
          have t_41820 := ia_add ((x4 + (5 : Int32)) - (((x4 + (5 : Int32)) / (12 : Int32)) * (12 : Int32))) (1 : Int32) (by omega) (by omega)
          refine wq_eq (fun hc_41821 => ?_) (fun hc_41822 => ?_)
          · unfold fX12_houseAt_J195
            refine wq_eq (fun hc_41823 => ?_) (fun hc_41824 => ?_)
            · exfalso; omega
            · have t_41825 := ia_add x1 (180 : Int32) (by omega) (by omega)
              have t_41826 := ia_rem (x1 + (180 : Int32)) (360 : Int32) 360 il_360 (by decide) (by omega)
              exact wq_s ⟨(show -359 ≤ ((x1 + (180 : Int32)) - (((x1 + (180 : Int32)) / (360 : Int32)) * (360 : Int32))).toInt ∧ ((x1 + (180 : Int32)) - (((x1 + (180 : Int32)) / (360 : Int32)) * (360 : Int32))).toInt ≤ 359 from ⟨by omega, by omega⟩), trivial⟩
          · refine wq_eq (fun hc_41827 => ?_) (fun hc_41828 => ?_)
            · unfold fX12_houseAt_J195
              refine wq_eq (fun hc_41829 => ?_) (fun hc_41830 => ?_)
              · exfalso; omega
              · have t_41831 := ia_rem2 (v2_q41734 + (180 : Int32)) (360 : Int32) 360 il_360 (by decide)
                exact wq_s ⟨(show -359 ≤ ((v2_q41734 + (180 : Int32)) - (((v2_q41734 + (180 : Int32)) / (360 : Int32)) * (360 : Int32))).toInt ∧ ((v2_q41734 + (180 : Int32)) - (((v2_q41734 + (180 : Int32)) / (360 : Int32)) * (360 : Int32))).toInt ≤ 359 from ⟨by omega, by omega⟩), trivial⟩
            · have l_11 := il_11
              refine wq_eq (fun hc_41832 => ?_) (fun hc_41833 => ?_)
              · unfold fX12_houseAt_J195
                refine wq_eq (fun hc_41834 => ?_) (fun hc_41835 => ?_)
                · exfalso; omega
                · have t_41836 := ia_div2 v3_q41738 (3 : Int32) 3 il_3 (by decide)
                  have t_41837 := ia_add v2_q41734 (v3_q41738 / (3 : Int32)) (by omega) (by omega)
                  have t_41838 := ia_add (v2_q41734 + (v3_q41738 / (3 : Int32))) (180 : Int32) (by omega) (by omega)
                  have t_41839 := ia_rem2 ((v2_q41734 + (v3_q41738 / (3 : Int32))) + (180 : Int32)) (360 : Int32) 360 il_360 (by decide)
                  exact wq_s ⟨(show -359 ≤ (((v2_q41734 + (v3_q41738 / (3 : Int32))) + (180 : Int32)) - ((((v2_q41734 + (v3_q41738 / (3 : Int32))) + (180 : Int32)) / (360 : Int32)) * (360 : Int32))).toInt ∧ (((v2_q41734 + (v3_q41738 / (3 : Int32))) + (180 : Int32)) - ((((v2_q41734 + (v3_q41738 / (3 : Int32))) + (180 : Int32)) / (360 : Int32)) * (360 : Int32))).toInt ≤ 359 from ⟨by omega, by omega⟩), trivial⟩
              · refine wq_eq (fun hc_41840 => ?_) (fun hc_41841 => ?_)
                · unfold fX12_houseAt_J195
                  refine wq_eq (fun hc_41842 => ?_) (fun hc_41843 => ?_)
                  · exfalso; omega
                  · have l_2 := il_2
                    have t_41844 := ia_mul (2 : Int32) (2) il_2 v3_q41738 (by omega) (by omega)
                    have t_41845 := ia_div2 ((2 : Int32) * v3_q41738) (3 : Int32) 3 il_3 (by decide)
                    have t_41846 := ia_add v2_q41734 (((2 : Int32) * v3_q41738) / (3 : Int32)) (by omega) (by omega)
                    have t_41847 := ia_add (v2_q41734 + (((2 : Int32) * v3_q41738) / (3 : Int32))) (180 : Int32) (by omega) (by omega)
                    have t_41848 := ia_rem2 ((v2_q41734 + (((2 : Int32) * v3_q41738) / (3 : Int32))) + (180 : Int32)) (360 : Int32) 360 il_360 (by decide)
                    exact wq_s ⟨(show -359 ≤ (((v2_q41734 + (((2 : Int32) * v3_q41738) / (3 : Int32))) + (180 : Int32)) - ((((v2_q41734 + (((2 : Int32) * v3_q41738) / (3 : Int32))) + (180 : Int32)) / (360 : Int32)) * (360 : Int32))).toInt ∧ (((v2_q41734 + (((2 : Int32) * v3_q41738) / (3 : Int32))) + (180 : Int32)) - ((((v2_q41734 + (((2 : Int32) * v3_q41738) / (3 : Int32))) + (180 : Int32)) / (360 : Int32)) * (360 : Int32))).toInt ≤ 359 from ⟨by omega, by omega⟩), trivial⟩
                · have l_2 := il_2
                  refine wq_eq (fun hc_41849 => ?_) (fun hc_41850 => ?_)
                  · unfold fX12_houseAt_J195
                    refine wq_eq (fun hc_41851 => ?_) (fun hc_41852 => ?_)
                    · exfalso; omega
                    · have t_41853 := ia_div2 v4_q41742 (3 : Int32) 3 il_3 (by decide)
                      have t_41854 := ia_add x1 (v4_q41742 / (3 : Int32)) (by omega) (by omega)
                      have t_41855 := ia_add (x1 + (v4_q41742 / (3 : Int32))) (180 : Int32) (by omega) (by omega)
                      have t_41856 := ia_rem ((x1 + (v4_q41742 / (3 : Int32))) + (180 : Int32)) (360 : Int32) 360 il_360 (by decide) (by omega)
                      exact wq_s ⟨(show -359 ≤ (((x1 + (v4_q41742 / (3 : Int32))) + (180 : Int32)) - ((((x1 + (v4_q41742 / (3 : Int32))) + (180 : Int32)) / (360 : Int32)) * (360 : Int32))).toInt ∧ (((x1 + (v4_q41742 / (3 : Int32))) + (180 : Int32)) - ((((x1 + (v4_q41742 / (3 : Int32))) + (180 : Int32)) / (360 : Int32)) * (360 : Int32))).toInt ≤ 359 from ⟨by omega, by omega⟩), trivial⟩
                  · unfold fX12_houseAt_J195
                    refine wq_eq (fun hc_41857 => ?_) (fun hc_41858 => ?_)
                    · have t_41859 := ia_mul (2 : Int32) (2) il_2 v4_q41742 (by omega) (by omega)
                      have t_41860 := ia_div2 ((2 : Int32) * v4_q41742) (3 : Int32) 3 il_3 (by decide)
                      have t_41861 := ia_add x1 (((2 : Int32) * v4_q41742) / (3 : Int32)) (by omega) (by omega)
                      have t_41862 := ia_rem2 (x1 + (((2 : Int32) * v4_q41742) / (3 : Int32))) (360 : Int32) 360 il_360 (by decide)
                      exact wq_s ⟨(show -359 ≤ ((x1 + (((2 : Int32) * v4_q41742) / (3 : Int32))) - (((x1 + (((2 : Int32) * v4_q41742) / (3 : Int32))) / (360 : Int32)) * (360 : Int32))).toInt ∧ ((x1 + (((2 : Int32) * v4_q41742) / (3 : Int32))) - (((x1 + (((2 : Int32) * v4_q41742) / (3 : Int32))) / (360 : Int32)) * (360 : Int32))).toInt ≤ 359 from ⟨by omega, by omega⟩), trivial⟩
                    · have t_41863 := ia_mul (2 : Int32) (2) il_2 v4_q41742 (by omega) (by omega)
                      have t_41864 := ia_div2 ((2 : Int32) * v4_q41742) (3 : Int32) 3 il_3 (by decide)
                      have t_41865 := ia_add x1 (((2 : Int32) * v4_q41742) / (3 : Int32)) (by omega) (by omega)
                      have t_41866 := ia_add (x1 + (((2 : Int32) * v4_q41742) / (3 : Int32))) (180 : Int32) (by omega) (by omega)
                      have t_41867 := ia_rem2 ((x1 + (((2 : Int32) * v4_q41742) / (3 : Int32))) + (180 : Int32)) (360 : Int32) 360 il_360 (by decide)
                      exact wq_s ⟨(show -359 ≤ (((x1 + (((2 : Int32) * v4_q41742) / (3 : Int32))) + (180 : Int32)) - ((((x1 + (((2 : Int32) * v4_q41742) / (3 : Int32))) + (180 : Int32)) / (360 : Int32)) * (360 : Int32))).toInt ∧ (((x1 + (((2 : Int32) * v4_q41742) / (3 : Int32))) + (180 : Int32)) - ((((x1 + (((2 : Int32) * v4_q41742) / (3 : Int32))) + (180 : Int32)) / (360 : Int32)) * (360 : Int32))).toInt ≤ 359 from ⟨by omega, by omega⟩), trivial⟩
set_option maxHeartbeats 4000000 in
theorem tt_fX12_isWay {N : Nat} (hN : 3000000000 ≤ N) (I0 : Nat → Int32) (L0 : Int64) (M0 : Nat → Nat → Int32) (x1 : Int32) (x2 : Int32) (k_I0 : KX12 I0 M0) : wq (fX12_isWay N I0 L0 M0 x1 x2) (fun r => (r.1.toInt = 0 ∨ (r.1.toInt = 1 ∧ ((0 ≤ x1.toInt ∧ x1.toInt ≤ 1) ∨ (x1.toInt = 2 ∧ 0 ≤ x2.toInt ∧ x2.toInt ≤ 6 ∧ x2.toInt < (r.2.1 1).toInt)))) ∧ (r.2.1 1).toInt = (I0 1).toInt ∧ (0 ≤ r.1.toInt ∧ r.1.toInt ≤ 1) ∧ KX12 r.2.1 r.2.2.2 ∧ True) := by
  unfold fX12_isWay
  have b_42018 := i32b x1
  have l_0 := il_0
  have l_2 := il_2
  refine wq_b (tt_fX12_within hN x1 (0 : Int32) (2 : Int32)) (fun r1_q42019 h_r1_q42019 => ?_)
  obtain ⟨h_r1_q42019_0, h_r1_q42019_1, -⟩ := h_r1_q42019
  refine wq_eq (fun hc_42020 => ?_) (fun hc_42021 => ?_)
  · have l_1 := il_1
    refine wq_b (tt_fX12_right hN I0 L0 M0 (0 : Int32) (1 : Int32) ⟨by omega, by omega⟩ k_I0) (fun r2_q42022 h_r2_q42022 => ?_)
    obtain ⟨h_r2_q42022_0, h_r2_q42022_1, h_r2_q42022_2, h_r2_q42022_3, -⟩ := h_r2_q42022
    have t_42023 := KX12.i1 h_r2_q42022_3
    have t_42024 := KX12.i1 k_I0
    refine wq_bz (by omega) ?_
    have b_42025 := i32b x2
    exact wq_s ⟨(show (r2_q42022.1.toInt = 0 ∨ (r2_q42022.1.toInt = 1 ∧ ((0 ≤ x1.toInt ∧ x1.toInt ≤ 1) ∨ (x1.toInt = 2 ∧ 0 ≤ x2.toInt ∧ x2.toInt ≤ 6 ∧ x2.toInt < (r2_q42022.2.1 1).toInt)))) from by omega), (show (r2_q42022.2.1 1).toInt = (I0 1).toInt from by omega), (show 0 ≤ r2_q42022.1.toInt ∧ r2_q42022.1.toInt ≤ 1 from ⟨by omega, by omega⟩), h_r2_q42022_3, trivial⟩
  · refine wq_lt (fun hc_42026 => ?_) (fun hc_42027 => ?_)
    · have l_1 := il_1
      refine wq_b (tt_fX12_right hN I0 L0 M0 (1 : Int32) (1 : Int32) ⟨by omega, by omega⟩ k_I0) (fun r3_q42028 h_r3_q42028 => ?_)
      obtain ⟨h_r3_q42028_0, h_r3_q42028_1, h_r3_q42028_2, h_r3_q42028_3, -⟩ := h_r3_q42028
      have t_42029 := KX12.i1 h_r3_q42028_3
      have t_42030 := KX12.i1 k_I0
      refine wq_bz (by omega) ?_
      have b_42031 := i32b x2
      exact wq_s ⟨(show (r3_q42028.1.toInt = 0 ∨ (r3_q42028.1.toInt = 1 ∧ ((0 ≤ x1.toInt ∧ x1.toInt ≤ 1) ∨ (x1.toInt = 2 ∧ 0 ≤ x2.toInt ∧ x2.toInt ≤ 6 ∧ x2.toInt < (r3_q42028.2.1 1).toInt)))) from by omega), (show (r3_q42028.2.1 1).toInt = (I0 1).toInt from by omega), (show 0 ≤ r3_q42028.1.toInt ∧ r3_q42028.1.toInt ≤ 1 from ⟨by omega, by omega⟩), h_r3_q42028_3, trivial⟩
    · have b_42032 := i32b x2
      refine wq_lt (fun hc_42033 => ?_) (fun hc_42034 => ?_)
      · have l_1 := il_1
        refine wq_b (tt_fX12_right hN I0 L0 M0 (0 : Int32) (1 : Int32) ⟨by omega, by omega⟩ k_I0) (fun r4_q42035 h_r4_q42035 => ?_)
        obtain ⟨h_r4_q42035_0, h_r4_q42035_1, h_r4_q42035_2, h_r4_q42035_3, -⟩ := h_r4_q42035
        have t_42036 := KX12.i1 h_r4_q42035_3
        have t_42037 := KX12.i1 k_I0
        refine wq_bz (by omega) ?_
        exact wq_s ⟨(show (r4_q42035.1.toInt = 0 ∨ (r4_q42035.1.toInt = 1 ∧ ((0 ≤ x1.toInt ∧ x1.toInt ≤ 1) ∨ (x1.toInt = 2 ∧ 0 ≤ x2.toInt ∧ x2.toInt ≤ 6 ∧ x2.toInt < (r4_q42035.2.1 1).toInt)))) from by omega), (show (r4_q42035.2.1 1).toInt = (I0 1).toInt from by omega), (show 0 ≤ r4_q42035.1.toInt ∧ r4_q42035.1.toInt ≤ 1 from ⟨by omega, by omega⟩), h_r4_q42035_3, trivial⟩
      · have t_42038 := KX12.i1 k_I0
        refine wq_le (fun hc_42039 => ?_) (fun hc_42040 => ?_)
        · have l_1 := il_1
          refine wq_b (tt_fX12_right hN I0 L0 M0 (0 : Int32) (1 : Int32) ⟨by omega, by omega⟩ k_I0) (fun r5_q42041 h_r5_q42041 => ?_)
          obtain ⟨h_r5_q42041_0, h_r5_q42041_1, h_r5_q42041_2, h_r5_q42041_3, -⟩ := h_r5_q42041
          have t_42042 := KX12.i1 h_r5_q42041_3
          refine wq_bz (by omega) ?_
          exact wq_s ⟨(show (r5_q42041.1.toInt = 0 ∨ (r5_q42041.1.toInt = 1 ∧ ((0 ≤ x1.toInt ∧ x1.toInt ≤ 1) ∨ (x1.toInt = 2 ∧ 0 ≤ x2.toInt ∧ x2.toInt ≤ 6 ∧ x2.toInt < (r5_q42041.2.1 1).toInt)))) from by omega), (show (r5_q42041.2.1 1).toInt = (I0 1).toInt from by omega), (show 0 ≤ r5_q42041.1.toInt ∧ r5_q42041.1.toInt ≤ 1 from ⟨by omega, by omega⟩), h_r5_q42041_3, trivial⟩
        · have l_1 := il_1
          refine wq_b (tt_fX12_right hN I0 L0 M0 (1 : Int32) (1 : Int32) ⟨by omega, by omega⟩ k_I0) (fun r6_q42043 h_r6_q42043 => ?_)
          obtain ⟨h_r6_q42043_0, h_r6_q42043_1, h_r6_q42043_2, h_r6_q42043_3, -⟩ := h_r6_q42043
          have t_42044 := KX12.i1 h_r6_q42043_3
          refine wq_bz (by omega) ?_
          exact wq_s ⟨(show (r6_q42043.1.toInt = 0 ∨ (r6_q42043.1.toInt = 1 ∧ ((0 ≤ x1.toInt ∧ x1.toInt ≤ 1) ∨ (x1.toInt = 2 ∧ 0 ≤ x2.toInt ∧ x2.toInt ≤ 6 ∧ x2.toInt < (r6_q42043.2.1 1).toInt)))) from by omega), (show (r6_q42043.2.1 1).toInt = (I0 1).toInt from by omega), (show 0 ≤ r6_q42043.1.toInt ∧ r6_q42043.1.toInt ≤ 1 from ⟨by omega, by omega⟩), h_r6_q42043_3, trivial⟩
set_option maxHeartbeats 4000000 in
theorem tt_fX12_houseOf {N : Nat} (hN : 3000000000 ≤ N) (I0 : Nat → Int32) (L0 : Int64) (M0 : Nat → Nat → Int32) (x1 : Int32) (x2 : Int32) (x3 : Int32) (x4 : Int32) (k_I0 : KX12 I0 M0) : wq (fX12_houseOf N I0 L0 M0 x1 x2 x3 x4) (fun r => (-359 ≤ r.1.toInt ∧ r.1.toInt ≤ 359) ∧ KX12 r.2.1 r.2.2.2 ∧ True) := by
  unfold fX12_houseOf
  refine wq_v (fun I0_4_q42339 h_I0_4_q42339 => ?_)
  have k_I0_4_q42339 : KX12 I0_4_q42339 M0 := by rw [h_I0_4_q42339]; exact KX12.si0 k_I0
  have b_42340 := i32b x1
  have l_0 := il_0
  have l_359 := il_359
  refine wq_b (tt_fX12_within hN x1 (0 : Int32) (359 : Int32)) (fun r5_q42341 h_r5_q42341 => ?_)
  obtain ⟨h_r5_q42341_0, h_r5_q42341_1, -⟩ := h_r5_q42341
  refine wq_eq (fun hc_42342 => ?_) (fun hc_42343 => ?_)
  · unfold fX12_houseOf_J32
    unfold fX12_houseOf_J33
    have l_1 := il_1
    refine wq_b (tt_fX12_right hN I0_4_q42339 L0 M0 (0 : Int32) (1 : Int32) ⟨by omega, by omega⟩ k_I0_4_q42339) (fun r1_q42344 h_r1_q42344 => ?_)
    obtain ⟨h_r1_q42344_0, h_r1_q42344_1, h_r1_q42344_2, h_r1_q42344_3, -⟩ := h_r1_q42344
    have t_42345 := KX12.i1 h_r1_q42344_3
    have t_42346 := KX12.i1 k_I0
    have t_42347 : (I0_4_q42339 1).toInt = (I0 1).toInt := by rw [h_I0_4_q42339]; rfl
    refine wq_eq (fun hc_42348 => ?_) (fun hc_42349 => ?_)
    · exact wq_s ⟨(show -359 ≤ (0 : Int32).toInt ∧ (0 : Int32).toInt ≤ 359 from ⟨by omega, by omega⟩), h_r1_q42344_3, trivial⟩
    · have b_42350 := i32b x2
      have b_42351 := i32b x3
      refine wq_b (tt_fX12_isWay hN r1_q42344.2.1 r1_q42344.2.2.1 r1_q42344.2.2.2 x2 x3 h_r1_q42344_3) (fun r2_q42352 h_r2_q42352 => ?_)
      obtain ⟨h_r2_q42352_0, h_r2_q42352_1, h_r2_q42352_2, h_r2_q42352_3, -⟩ := h_r2_q42352
      have t_42353 := KX12.i1 h_r2_q42352_3
      refine wq_eq (fun hc_42354 => ?_) (fun hc_42355 => ?_)
      · exact wq_s ⟨(show -359 ≤ (0 : Int32).toInt ∧ (0 : Int32).toInt ≤ 359 from ⟨by omega, by omega⟩), h_r2_q42352_3, trivial⟩
      · have b_42356 := i32b x4
        refine wq_b (tt_fX12_houseAt hN r2_q42352.2.1 r2_q42352.2.2.1 r2_q42352.2.2.2 x1 x2 x3 x4 ⟨by omega, by omega⟩ ⟨by omega, by omega⟩ h_r2_q42352_3 (by omega)) (fun r3_q42357 h_r3_q42357 => ?_)
        obtain ⟨h_r3_q42357_0, -⟩ := h_r3_q42357
        exact wq_s ⟨(show -359 ≤ r3_q42357.toInt ∧ r3_q42357.toInt ≤ 359 from ⟨by omega, by omega⟩), h_r2_q42352_3, trivial⟩
  · have b_42358 := i32b x4
    have l_1 := il_1
    have l_12 := il_12
    refine wq_b (tt_fX12_within hN x4 (1 : Int32) (12 : Int32)) (fun r6_q42359 h_r6_q42359 => ?_)
    obtain ⟨h_r6_q42359_0, h_r6_q42359_1, -⟩ := h_r6_q42359
    refine wq_eq (fun hc_42360 => ?_) (fun hc_42361 => ?_)
    · unfold fX12_houseOf_J32
      unfold fX12_houseOf_J33
      refine wq_b (tt_fX12_right hN I0_4_q42339 L0 M0 (0 : Int32) (1 : Int32) ⟨by omega, by omega⟩ k_I0_4_q42339) (fun r1_q42362 h_r1_q42362 => ?_)
      obtain ⟨h_r1_q42362_0, h_r1_q42362_1, h_r1_q42362_2, h_r1_q42362_3, -⟩ := h_r1_q42362
      have t_42363 := KX12.i1 h_r1_q42362_3
      have t_42364 := KX12.i1 k_I0
      have t_42365 : (I0_4_q42339 1).toInt = (I0 1).toInt := by rw [h_I0_4_q42339]; rfl
      refine wq_eq (fun hc_42366 => ?_) (fun hc_42367 => ?_)
      · exact wq_s ⟨(show -359 ≤ (0 : Int32).toInt ∧ (0 : Int32).toInt ≤ 359 from ⟨by omega, by omega⟩), h_r1_q42362_3, trivial⟩
      · have b_42368 := i32b x2
        have b_42369 := i32b x3
        refine wq_b (tt_fX12_isWay hN r1_q42362.2.1 r1_q42362.2.2.1 r1_q42362.2.2.2 x2 x3 h_r1_q42362_3) (fun r2_q42370 h_r2_q42370 => ?_)
        obtain ⟨h_r2_q42370_0, h_r2_q42370_1, h_r2_q42370_2, h_r2_q42370_3, -⟩ := h_r2_q42370
        have t_42371 := KX12.i1 h_r2_q42370_3
        refine wq_eq (fun hc_42372 => ?_) (fun hc_42373 => ?_)
        · exact wq_s ⟨(show -359 ≤ (0 : Int32).toInt ∧ (0 : Int32).toInt ≤ 359 from ⟨by omega, by omega⟩), h_r2_q42370_3, trivial⟩
        · refine wq_b (tt_fX12_houseAt hN r2_q42370.2.1 r2_q42370.2.2.1 r2_q42370.2.2.2 x1 x2 x3 x4 ⟨by omega, by omega⟩ ⟨by omega, by omega⟩ h_r2_q42370_3 (by omega)) (fun r3_q42374 h_r3_q42374 => ?_)
          obtain ⟨h_r3_q42374_0, -⟩ := h_r3_q42374
          exact wq_s ⟨(show -359 ≤ r3_q42374.toInt ∧ r3_q42374.toInt ≤ 359 from ⟨by omega, by omega⟩), h_r2_q42370_3, trivial⟩
    · unfold fX12_houseOf_J33
      refine wq_b (tt_fX12_right hN I0_4_q42339 L0 M0 (1 : Int32) (1 : Int32) ⟨by omega, by omega⟩ k_I0_4_q42339) (fun r1_q42375 h_r1_q42375 => ?_)
      obtain ⟨h_r1_q42375_0, h_r1_q42375_1, h_r1_q42375_2, h_r1_q42375_3, -⟩ := h_r1_q42375
      have t_42376 := KX12.i1 h_r1_q42375_3
      have t_42377 := KX12.i1 k_I0
      have t_42378 : (I0_4_q42339 1).toInt = (I0 1).toInt := by rw [h_I0_4_q42339]; rfl
      refine wq_eq (fun hc_42379 => ?_) (fun hc_42380 => ?_)
      · exact wq_s ⟨(show -359 ≤ (0 : Int32).toInt ∧ (0 : Int32).toInt ≤ 359 from ⟨by omega, by omega⟩), h_r1_q42375_3, trivial⟩
      · have b_42381 := i32b x2
        have b_42382 := i32b x3
        refine wq_b (tt_fX12_isWay hN r1_q42375.2.1 r1_q42375.2.2.1 r1_q42375.2.2.2 x2 x3 h_r1_q42375_3) (fun r2_q42383 h_r2_q42383 => ?_)
        obtain ⟨h_r2_q42383_0, h_r2_q42383_1, h_r2_q42383_2, h_r2_q42383_3, -⟩ := h_r2_q42383
        have t_42384 := KX12.i1 h_r2_q42383_3
        refine wq_eq (fun hc_42385 => ?_) (fun hc_42386 => ?_)
        · exact wq_s ⟨(show -359 ≤ (0 : Int32).toInt ∧ (0 : Int32).toInt ≤ 359 from ⟨by omega, by omega⟩), h_r2_q42383_3, trivial⟩
        · refine wq_b (tt_fX12_houseAt hN r2_q42383.2.1 r2_q42383.2.2.1 r2_q42383.2.2.2 x1 x2 x3 x4 ⟨by omega, by omega⟩ ⟨by omega, by omega⟩ h_r2_q42383_3 (by omega)) (fun r3_q42387 h_r3_q42387 => ?_)
          obtain ⟨h_r3_q42387_0, -⟩ := h_r3_q42387
          exact wq_s ⟨(show -359 ≤ r3_q42387.toInt ∧ r3_q42387.toInt ≤ 359 from ⟨by omega, by omega⟩), h_r2_q42383_3, trivial⟩

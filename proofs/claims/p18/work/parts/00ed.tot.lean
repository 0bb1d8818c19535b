set_option maxHeartbeats 4000000 in
theorem tt_fX2_readRising_L4 {N : Nat} (hN : 3000000000 ≤ N)    : ∀ (fu : Nat) (I0_l4 : (Nat → Int32)) (M0_l4 : (Nat → Nat → Int32)) (I1_l4 : (Nat → Int32)) (M1_l4 : (Nat → Nat → Int32)) (y4_2 : Int32) (y4_3 : Int32), (0 ≤ y4_3.toInt ∧ y4_3.toInt ≤ 12) → (KX2 I0_l4 M0_l4) → (KX9 I1_l4 M1_l4) → ((I0_l4 0).toInt ≤ 6) → (12 - y4_3.toInt) < (fu : Int) → wq (fX2_readRising_L4 N fu I0_l4 M0_l4 I1_l4 M1_l4 y4_2 y4_3) (fun r => (r.2.1 0).toInt ≤ 6 ∧ (0 ≤ r.1.toInt ∧ r.1.toInt ≤ 1) ∧ KX2 r.2.1 r.2.2.1 ∧ KX9 r.2.2.2.1 r.2.2.2.2 ∧ True) := by
  intro fu
  induction fu with
  | zero => intro I0_l4 M0_l4 I1_l4 M1_l4 y4_2 y4_3 h_y4_3 k_I0_l4 k_I1_l4 hl_3 hm; exfalso; omega
  | succ fu ih =>
    intro I0_l4 M0_l4 I1_l4 M1_l4 y4_2 y4_3 h_y4_3 k_I0_l4 k_I1_l4 hl_3 hm
    rw [fX2_readRising_L4.eq_2]
    have l_12 := il_12
    refine wq_le (fun hc_6770 => ?_) (fun hc_6771 => ?_)
    · have t_6772 := KX2.i0 k_I0_l4
      have l_1 := il_1
      exact wq_s ⟨(show (I0_l4 0).toInt ≤ 6 from by omega), (show 0 ≤ (1 : Int32).toInt ∧ (1 : Int32).toInt ≤ 1 from ⟨by omega, by omega⟩), k_I0_l4, k_I1_l4, trivial⟩
    · have l_3600 := il_3600
      have b_6774 := i32b y4_2
      refine wq_v (fun v5_q6773 h_v5_q6773 => ?_)
      have t_v5_q6773 := congrArg Int32.toInt h_v5_q6773
      have l_11 := il_11
      refine wq_eq (fun hc_6775 => ?_) (fun hc_6776 => ?_)
      · unfold fX2_readRising_J28
        have l_1 := il_1
        have l_0 := il_0
        refine wq_eq (fun hc_6777 => ?_) (fun hc_6778 => ?_)
        · exfalso; omega
        · unfold fX2_readRising_J46
          refine wq_eq (fun hc_6779 => ?_) (fun hc_6780 => ?_)
          · exfalso; omega
          · unfold fX2_readRising_J58
            have b_6781 := i32b v5_q6773
            have t_6782 := ite_lt (1 : Int32) v5_q6773 v5_q6773 (1 : Int32)
            refine wq_b (tt_fX9_takeNumber hN I1_l4 M1_l4 (if ((1 : Int32) < v5_q6773) then v5_q6773 else (1 : Int32)) v5_q6773 k_I1_l4) (fun r1_q6783 h_r1_q6783 => ?_)
            obtain ⟨h_r1_q6783_0, h_r1_q6783_1, h_r1_q6783_2, -⟩ := h_r1_q6783
            refine wq_eq (fun hc_6784 => ?_) (fun hc_6785 => ?_)
            · have t_6786 := KX2.i0 k_I0_l4
              exact wq_s ⟨(show (I0_l4 0).toInt ≤ 6 from by omega), (show 0 ≤ (0 : Int32).toInt ∧ (0 : Int32).toInt ≤ 1 from ⟨by omega, by omega⟩), k_I0_l4, h_r1_q6783_2, trivial⟩
            · refine wq_v (fun v2_q6787 h_v2_q6787 => ?_)
              have t_v2_q6787 := congrArg Int32.toInt h_v2_q6787
              have t_6788 := KX2.i0 k_I0_l4
              have l_13 := il_13
              have t_6789 := ia_mul (13 : Int32) (13) il_13 (I0_l4 0) (by omega) (by omega)
              have t_6790 := ia_add ((13 : Int32) * (I0_l4 0)) y4_3 (by omega) (by omega)
              have t_6791 := ia_add (((13 : Int32) * (I0_l4 0)) + y4_3) (1 : Int32) (by omega) (by omega)
              refine wq_in (n := 91) ⟨by omega, by omega⟩ ?_
              refine wq_v (fun M0_3_q6792 h_M0_3_q6792 => ?_)
              have k_M0_3_q6792 : KX2 I0_l4 M0_3_q6792 := by rw [h_M0_3_q6792]; exact KX2.sm0 k_I0_l4
              have t_6794 := ia_add y4_3 (1 : Int32) (by omega) (by omega)
              refine wq_v (fun v4_q6793 h_v4_q6793 => ?_)
              have t_v4_q6793 := congrArg Int32.toInt h_v4_q6793
              have b_6795 := i32b v2_q6787
              exact ih I0_l4 M0_3_q6792 r1_q6783.2.1 r1_q6783.2.2 v2_q6787 v4_q6793 ⟨by omega, by omega⟩ k_M0_3_q6792 h_r1_q6783_2 (by omega) (by omega)
      · unfold fX2_readRising_J28
        have l_0 := il_0
        refine wq_eq (fun hc_6796 => ?_) (fun hc_6797 => ?_)
        · unfold fX2_readRising_J46
          refine wq_eq (fun hc_6798 => ?_) (fun hc_6799 => ?_)
          · unfold fX2_readRising_J58
            have l_1 := il_1
            have l_9999999 := il_9999999
            refine wq_b (tt_fX9_takeNumber hN I1_l4 M1_l4 (1 : Int32) (9999999 : Int32) k_I1_l4) (fun r1_q6800 h_r1_q6800 => ?_)
            obtain ⟨h_r1_q6800_0, h_r1_q6800_1, h_r1_q6800_2, -⟩ := h_r1_q6800
            refine wq_eq (fun hc_6801 => ?_) (fun hc_6802 => ?_)
            · have t_6803 := KX2.i0 k_I0_l4
              exact wq_s ⟨(show (I0_l4 0).toInt ≤ 6 from by omega), (show 0 ≤ (0 : Int32).toInt ∧ (0 : Int32).toInt ≤ 1 from ⟨by omega, by omega⟩), k_I0_l4, h_r1_q6800_2, trivial⟩
            · refine wq_v (fun v2_q6804 h_v2_q6804 => ?_)
              have t_v2_q6804 := congrArg Int32.toInt h_v2_q6804
              have t_6805 := KX2.i0 k_I0_l4
              have l_13 := il_13
              have t_6806 := ia_mul (13 : Int32) (13) il_13 (I0_l4 0) (by omega) (by omega)
              have t_6807 := ia_add ((13 : Int32) * (I0_l4 0)) y4_3 (by omega) (by omega)
              have t_6808 := ia_add (((13 : Int32) * (I0_l4 0)) + y4_3) (1 : Int32) (by omega) (by omega)
              refine wq_in (n := 91) ⟨by omega, by omega⟩ ?_
              refine wq_v (fun M0_3_q6809 h_M0_3_q6809 => ?_)
              have k_M0_3_q6809 : KX2 I0_l4 M0_3_q6809 := by rw [h_M0_3_q6809]; exact KX2.sm0 k_I0_l4
              have t_6811 := ia_add y4_3 (1 : Int32) (by omega) (by omega)
              refine wq_v (fun v4_q6810 h_v4_q6810 => ?_)
              have t_v4_q6810 := congrArg Int32.toInt h_v4_q6810
              have b_6812 := i32b v2_q6804
              exact ih I0_l4 M0_3_q6809 r1_q6800.2.1 r1_q6800.2.2 v2_q6804 v4_q6810 ⟨by omega, by omega⟩ k_M0_3_q6809 h_r1_q6800_2 (by omega) (by omega)
          · exfalso; omega
        · exfalso; omega
set_option maxHeartbeats 4000000 in
theorem tt_fX2_readRising {N : Nat} (hN : 3000000000 ≤ N) (I0 : Nat → Int32) (M0 : Nat → Nat → Int32) (I1 : Nat → Int32) (M1 : Nat → Nat → Int32) (k_I0 : KX2 I0 M0) (k_I1 : KX9 I1 M1) (hr_2 : (I0 0).toInt ≤ 6) : wq (fX2_readRising N I0 M0 I1 M1) (fun r => (r.2.1 0).toInt ≤ 6 ∧ (0 ≤ r.1.toInt ∧ r.1.toInt ≤ 1) ∧ KX2 r.2.1 r.2.2.1 ∧ KX9 r.2.2.2.1 r.2.2.2.2 ∧ True) := by
  unfold fX2_readRising
  have l_0 := il_0
  have t_6813 := KX2.i0 k_I0
  exact tt_fX2_readRising_L4 hN N I0 M0 I1 M1 (0 : Int32) (0 : Int32) ⟨by omega, by omega⟩ k_I0 k_I1 (by omega) (by omega)
set_option maxHeartbeats 4000000 in
theorem tt_fX2_readClimate {N : Nat} (hN : 3000000000 ≤ N) (I0 : Nat → Int32) (M0 : Nat → Nat → Int32) (I1 : Nat → Int32) (M1 : Nat → Nat → Int32) (k_I0 : KX2 I0 M0) (k_I1 : KX9 I1 M1) : wq (fX2_readClimate N I0 M0 I1 M1) (fun r => (0 ≤ r.1.toInt ∧ r.1.toInt ≤ 1) ∧ KX2 r.2.1 r.2.2.1 ∧ KX9 r.2.2.2.1 r.2.2.2.2 ∧ True) := by
  unfold fX2_readClimate
  have t_6904 := KX2.i0 k_I0
  have l_7 := il_7
  refine wq_lt (fun hc_6905 => ?_) (fun hc_6906 => ?_)
  · refine wq_b (tt_fX9_step hN I1 M1 k_I1) (fun r1_q6907 h_r1_q6907 => ?_)
    obtain ⟨h_r1_q6907_0, -⟩ := h_r1_q6907
    refine wq_b (tt_fX9_takeNumber hN r1_q6907.1 r1_q6907.2 (I0 0) (I0 0) h_r1_q6907_0) (fun r2_q6908 h_r2_q6908 => ?_)
    obtain ⟨h_r2_q6908_0, h_r2_q6908_1, h_r2_q6908_2, -⟩ := h_r2_q6908
    have l_0 := il_0
    refine wq_eq (fun hc_6909 => ?_) (fun hc_6910 => ?_)
    · exact wq_s ⟨(show 0 ≤ (0 : Int32).toInt ∧ (0 : Int32).toInt ≤ 1 from ⟨by omega, by omega⟩), k_I0, h_r2_q6908_2, trivial⟩
    · refine wq_b (tt_fX2_readRising hN I0 M0 r2_q6908.2.1 r2_q6908.2.2 k_I0 h_r2_q6908_2 (by omega)) (fun r3_q6911 h_r3_q6911 => ?_)
      obtain ⟨h_r3_q6911_0, h_r3_q6911_1, h_r3_q6911_2, h_r3_q6911_3, -⟩ := h_r3_q6911
      have t_6912 := KX2.i0 h_r3_q6911_2
      refine wq_eq (fun hc_6913 => ?_) (fun hc_6914 => ?_)
      · exact wq_s ⟨(show 0 ≤ (0 : Int32).toInt ∧ (0 : Int32).toInt ≤ 1 from ⟨by omega, by omega⟩), h_r3_q6911_2, h_r3_q6911_3, trivial⟩
      · refine wq_v (fun I0_4_q6915 h_I0_4_q6915 => ?_)
        have l_1 := il_1
        have t_6916 := ia_add (r3_q6911.2.1 0) (1 : Int32) (by omega) (by omega)
        have k_I0_4_q6915 : KX2 I0_4_q6915 r3_q6911.2.2.1 := by rw [h_I0_4_q6915]; exact KX2.si0 h_r3_q6911_2 ⟨by omega, by omega⟩
        refine wq_b (tt_fX9_takeStop hN r3_q6911.2.2.2.1 r3_q6911.2.2.2.2 h_r3_q6911_3) (fun r5_q6917 h_r5_q6917 => ?_)
        obtain ⟨h_r5_q6917_0, h_r5_q6917_1, -⟩ := h_r5_q6917
        refine wq_bz (by omega) ?_
        exact wq_s ⟨(show 0 ≤ r5_q6917.1.toInt ∧ r5_q6917.1.toInt ≤ 1 from ⟨by omega, by omega⟩), k_I0_4_q6915, h_r5_q6917_1, trivial⟩
  · have l_2 := il_2
    refine wq_b (tt_fX9_refuse hN I1 M1 (2 : Int32) k_I1) (fun r6_q6918 h_r6_q6918 => ?_)
    obtain ⟨h_r6_q6918_0, h_r6_q6918_1, -⟩ := h_r6_q6918
    refine wq_bz (by omega) ?_
    exact wq_s ⟨(show 0 ≤ r6_q6918.1.toInt ∧ r6_q6918.1.toInt ≤ 1 from ⟨by omega, by omega⟩), k_I0, h_r6_q6918_1, trivial⟩
set_option maxHeartbeats 4000000 in
theorem tt_fX2_risingAt {N : Nat} (hN : 3000000000 ≤ N) (I0 : Nat → Int32) (M0 : Nat → Nat → Int32) (x1 : Int32) (x2 : Int32) (x3 : Int32) (h_x1 : 0 ≤ x1.toInt ∧ x1.toInt ≤ 6) (h_x2 : -60 ≤ x2.toInt ∧ x2.toInt ≤ 21599) (h_x3 : 0 ≤ x3.toInt ∧ x3.toInt ≤ 359) (k_I0 : KX2 I0 M0) : wq (fX2_risingAt N I0 M0 x1 x2 x3) (fun r => True) := by
  unfold fX2_risingAt
  refine wq_b (tt_fX2_climbOf hN I0 M0 x1 x2 ⟨by omega, by omega⟩ ⟨by omega, by omega⟩ k_I0) (fun r1_q6955 h_r1_q6955 => ?_)
  obtain ⟨-⟩ := h_r1_q6955
  have b_6956 := i32b r1_q6955
  have l_18000 := il_18000
  have t_6957 := ia_mul (18000 : Int32) (18000) il_18000 x3 (by omega) (by omega)
  have l_6480000 := il_6480000
  have t_6958 := ia_rem2 (r1_q6955 + ((18000 : Int32) * x3)) (6480000 : Int32) 6480000 il_6480000 (by decide)
  refine wq_b (tt_fX2_placeOf hN I0 M0 x1 ((r1_q6955 + ((18000 : Int32) * x3)) - (((r1_q6955 + ((18000 : Int32) * x3)) / (6480000 : Int32)) * (6480000 : Int32))) ⟨by omega, by omega⟩ k_I0) (fun r2_q6959 h_r2_q6959 => ?_)
  obtain ⟨-⟩ := h_r2_q6959
  have b_6960 := i32b r2_q6959
  exact wq_s trivial
set_option maxHeartbeats 4000000 in
theorem tt_fX2_isHour {N : Nat} (hN : 3000000000 ≤ N) (I0 : Nat → Int32) (M0 : Nat → Nat → Int32) (x1 : Int32) (x2 : Int32) (x3 : Int32) (x4 : Int32) (h_x1 : 0 ≤ x1.toInt ∧ x1.toInt ≤ 6) (h_x2 : 0 ≤ x2.toInt ∧ x2.toInt ≤ 359) (h_x3 : -1 ≤ x3.toInt ∧ x3.toInt ≤ 359) (k_I0 : KX2 I0 M0) : wq (fX2_isHour N I0 M0 x1 x2 x3 x4) (fun r => (0 ≤ r.toInt ∧ r.toInt ≤ 1) ∧ True) := by
  unfold fX2_isHour
  have l_60 := il_60
  have t_7009 := ia_mul (60 : Int32) (60) il_60 x3 (by omega) (by omega)
  refine wq_b (tt_fX2_risingAt hN I0 M0 x1 ((60 : Int32) * x3) x2 ⟨by omega, by omega⟩ ⟨by omega, by omega⟩ ⟨by omega, by omega⟩ k_I0) (fun r1_q7010 h_r1_q7010 => ?_)
  obtain ⟨-⟩ := h_r1_q7010
  have b_7011 := i32b r1_q7010
  have t_7012 := i32b r1_q7010
  have t_7013 := ia_div2 r1_q7010 (60 : Int32) 60 il_60 (by decide)
  have b_7014 := i32b x4
  refine wq_eq (fun hc_7015 => ?_) (fun hc_7016 => ?_)
  · have l_1 := il_1
    exact wq_s ⟨(show 0 ≤ (1 : Int32).toInt ∧ (1 : Int32).toInt ≤ 1 from ⟨by omega, by omega⟩), trivial⟩
  · have l_0 := il_0
    exact wq_s ⟨(show 0 ≤ (0 : Int32).toInt ∧ (0 : Int32).toInt ≤ 1 from ⟨by omega, by omega⟩), trivial⟩
set_option maxHeartbeats 4000000 in
theorem tt_fX2_hasHour_L3 {N : Nat} (hN : 3000000000 ≤ N) (I0 : Nat → Int32) (M0 : Nat → Nat → Int32) (x1 : Int32) (x2 : Int32) (x3 : Int32) (h_x1 : 0 ≤ x1.toInt ∧ x1.toInt ≤ 6) (h_x2 : -1 ≤ x2.toInt ∧ x2.toInt ≤ 359) (k_I0 : KX2 I0 M0)  : ∀ (fu : Nat) (y3_4 : Int32), (0 ≤ y3_4.toInt ∧ y3_4.toInt ≤ 360) → (360 - y3_4.toInt) < (fu : Int) → wq (fX2_hasHour_L3 N I0 M0 x1 x2 x3 fu y3_4) (fun r => (0 ≤ r.toInt ∧ r.toInt ≤ 1) ∧ True) := by
  intro fu
  induction fu with
  | zero => intro y3_4 h_y3_4 hm; exfalso; omega
  | succ fu ih =>
    intro y3_4 h_y3_4 hm
    rw [fX2_hasHour_L3.eq_2]
    have l_360 := il_360
    refine wq_le (fun hc_7134 => ?_) (fun hc_7135 => ?_)
    · have l_0 := il_0
      exact wq_s ⟨(show 0 ≤ (0 : Int32).toInt ∧ (0 : Int32).toInt ≤ 1 from ⟨by omega, by omega⟩), trivial⟩
    · have b_7136 := i32b x3
      refine wq_b (tt_fX2_isHour hN I0 M0 x1 y3_4 x2 x3 ⟨by omega, by omega⟩ ⟨by omega, by omega⟩ ⟨by omega, by omega⟩ k_I0) (fun r1_q7137 h_r1_q7137 => ?_)
      obtain ⟨h_r1_q7137_0, -⟩ := h_r1_q7137
      have l_0 := il_0
      refine wq_eq (fun hc_7138 => ?_) (fun hc_7139 => ?_)
      · have l_1 := il_1
        have t_7141 := ia_add y3_4 (1 : Int32) (by omega) (by omega)
        refine wq_v (fun v2_q7140 h_v2_q7140 => ?_)
        have t_v2_q7140 := congrArg Int32.toInt h_v2_q7140
        exact ih v2_q7140 ⟨by omega, by omega⟩ (by omega)
      · have l_1 := il_1
        exact wq_s ⟨(show 0 ≤ (1 : Int32).toInt ∧ (1 : Int32).toInt ≤ 1 from ⟨by omega, by omega⟩), trivial⟩
set_option maxHeartbeats 4000000 in
theorem tt_fX2_hasHour {N : Nat} (hN : 3000000000 ≤ N) (I0 : Nat → Int32) (M0 : Nat → Nat → Int32) (x1 : Int32) (x2 : Int32) (x3 : Int32) (h_x1 : 0 ≤ x1.toInt ∧ x1.toInt ≤ 6) (h_x2 : -1 ≤ x2.toInt ∧ x2.toInt ≤ 359) (k_I0 : KX2 I0 M0) : wq (fX2_hasHour N I0 M0 x1 x2 x3) (fun r => (0 ≤ r.toInt ∧ r.toInt ≤ 1) ∧ True) := by
  unfold fX2_hasHour
  have b_7142 := i32b x3
  have l_0 := il_0
  exact tt_fX2_hasHour_L3 hN I0 M0 x1 x2 x3 ⟨by omega, by omega⟩ ⟨by omega, by omega⟩ k_I0 N (0 : Int32) ⟨by omega, by omega⟩ (by omega)
set_option maxHeartbeats 4000000 in
theorem tt_fX2_howManyHours_L5 {N : Nat} (hN : 3000000000 ≤ N) (I0 : Nat → Int32) (M0 : Nat → Nat → Int32) (x1 : Int32) (x2 : Int32) (h_x1 : 0 ≤ x1.toInt ∧ x1.toInt ≤ 359) (k_I0 : KX2 I0 M0)  : ∀ (fu : Nat) (y5_3 : Int32) (y5_4 : Int32), (0 ≤ y5_4.toInt ∧ y5_4.toInt ≤ 2520) → (2520 - y5_4.toInt) < (fu : Int) → wq (fX2_howManyHours_L5 N I0 M0 x1 x2 fu y5_3 y5_4) (fun r => True) := by
  intro fu
  induction fu with
  | zero => intro y5_3 y5_4 h_y5_4 hm; exfalso; omega
  | succ fu ih =>
    intro y5_3 y5_4 h_y5_4 hm
    rw [fX2_howManyHours_L5.eq_2]
    have t_7406 := KX2.i0 k_I0
    have l_360 := il_360
    have t_7407 := ia_mul (360 : Int32) (360) il_360 (I0 0) (by omega) (by omega)
    refine wq_le (fun hc_7408 => ?_) (fun hc_7409 => ?_)
    · have b_7410 := i32b y5_3
      exact wq_s trivial
    · have t_7411 := ia_div y5_4 (360 : Int32) 360 il_360 (by decide) (by omega)
      have t_7412 := ia_rem y5_4 (360 : Int32) 360 il_360 (by decide) (by omega)
      have b_7413 := i32b x2
      refine wq_b (tt_fX2_isHour hN I0 M0 (y5_4 / (360 : Int32)) (y5_4 - ((y5_4 / (360 : Int32)) * (360 : Int32))) x1 x2 ⟨by omega, by omega⟩ ⟨by omega, by omega⟩ ⟨by omega, by omega⟩ k_I0) (fun r1_q7414 h_r1_q7414 => ?_)
      obtain ⟨h_r1_q7414_0, -⟩ := h_r1_q7414
      have l_0 := il_0
      refine wq_eq (fun hc_7415 => ?_) (fun hc_7416 => ?_)
      · have l_1 := il_1
        have t_7418 := ia_add y5_4 (1 : Int32) (by omega) (by omega)
        refine wq_v (fun v2_q7417 h_v2_q7417 => ?_)
        have t_v2_q7417 := congrArg Int32.toInt h_v2_q7417
        have b_7419 := i32b y5_3
        exact ih y5_3 v2_q7417 ⟨by omega, by omega⟩ (by omega)
      · have b_7421 := i32b y5_3
        have l_1 := il_1
        refine wq_v (fun v3_q7420 h_v3_q7420 => ?_)
        have t_v3_q7420 := congrArg Int32.toInt h_v3_q7420
        have t_7423 := ia_add y5_4 (1 : Int32) (by omega) (by omega)
        refine wq_v (fun v4_q7422 h_v4_q7422 => ?_)
        have t_v4_q7422 := congrArg Int32.toInt h_v4_q7422
        have b_7424 := i32b v3_q7420
        exact ih v3_q7420 v4_q7422 ⟨by omega, by omega⟩ (by omega)
set_option maxHeartbeats 4000000 in
theorem tt_fX2_howManyHours {N : Nat} (hN : 3000000000 ≤ N) (I0 : Nat → Int32) (M0 : Nat → Nat → Int32) (x1 : Int32) (x2 : Int32) (h_x1 : 0 ≤ x1.toInt ∧ x1.toInt ≤ 359) (k_I0 : KX2 I0 M0) : wq (fX2_howManyHours N I0 M0 x1 x2) (fun r => True) := by
  unfold fX2_howManyHours
  have b_7425 := i32b x2
  have l_0 := il_0
  exact tt_fX2_howManyHours_L5 hN I0 M0 x1 x2 ⟨by omega, by omega⟩ k_I0 N (0 : Int32) (0 : Int32) ⟨by omega, by omega⟩ (by omega)
set_option maxHeartbeats 4000000 in
theorem tt_fX2_nthHour_L6 {N : Nat} (hN : 3000000000 ≤ N) (I0 : Nat → Int32) (M0 : Nat → Nat → Int32) (x1 : Int32) (x2 : Int32) (x3 : Int32) (h_x1 : 0 ≤ x1.toInt ∧ x1.toInt ≤ 359) (k_I0 : KX2 I0 M0)  : ∀ (fu : Nat) (y6_4 : Int32) (y6_5 : Int32), (0 ≤ y6_5.toInt ∧ y6_5.toInt ≤ 2520) → (2520 - y6_5.toInt) < (fu : Int) → wq (fX2_nthHour_L6 N I0 M0 x1 x2 x3 fu y6_4 y6_5) (fun r => (-1 ≤ r.toInt ∧ r.toInt ≤ 2519) ∧ True) := by
  intro fu
  induction fu with
  | zero => intro y6_4 y6_5 h_y6_5 hm; exfalso; omega
  | succ fu ih =>
    intro y6_4 y6_5 h_y6_5 hm
    rw [fX2_nthHour_L6.eq_2]
    have t_7728 := KX2.i0 k_I0
    have l_360 := il_360
    have t_7729 := ia_mul (360 : Int32) (360) il_360 (I0 0) (by omega) (by omega)
    refine wq_le (fun hc_7730 => ?_) (fun hc_7731 => ?_)
    · have l_m1 := il_m1
      exact wq_s ⟨(show -1 ≤ (-1 : Int32).toInt ∧ (-1 : Int32).toInt ≤ 2519 from ⟨by omega, by omega⟩), trivial⟩
    · have b_7732 := i32b y6_4
      have l_0 := il_0
      refine wq_lt (fun hc_7733 => ?_) (fun hc_7734 => ?_)
      · have l_m1 := il_m1
        exact wq_s ⟨(show -1 ≤ (-1 : Int32).toInt ∧ (-1 : Int32).toInt ≤ 2519 from ⟨by omega, by omega⟩), trivial⟩
      · have t_7735 := ia_div y6_5 (360 : Int32) 360 il_360 (by decide) (by omega)
        have t_7736 := ia_rem y6_5 (360 : Int32) 360 il_360 (by decide) (by omega)
        have b_7737 := i32b x2
        refine wq_b (tt_fX2_isHour hN I0 M0 (y6_5 / (360 : Int32)) (y6_5 - ((y6_5 / (360 : Int32)) * (360 : Int32))) x1 x2 ⟨by omega, by omega⟩ ⟨by omega, by omega⟩ ⟨by omega, by omega⟩ k_I0) (fun r1_q7738 h_r1_q7738 => ?_)
        obtain ⟨h_r1_q7738_0, -⟩ := h_r1_q7738
        refine wq_eq (fun hc_7739 => ?_) (fun hc_7740 => ?_)
        · have l_1 := il_1
          have t_7742 := ia_add y6_5 (1 : Int32) (by omega) (by omega)
          refine wq_v (fun v2_q7741 h_v2_q7741 => ?_)
          have t_v2_q7741 := congrArg Int32.toInt h_v2_q7741
          exact ih y6_4 v2_q7741 ⟨by omega, by omega⟩ (by omega)
        · refine wq_eq (fun hc_7743 => ?_) (fun hc_7744 => ?_)
          · exact wq_s ⟨(show -1 ≤ y6_5.toInt ∧ y6_5.toInt ≤ 2519 from ⟨by omega, by omega⟩), trivial⟩
          · have l_m1 := il_m1
            have t_7746 := ia_add y6_4 ((-1) : Int32) (by omega) (by omega)
            refine wq_v (fun v3_q7745 h_v3_q7745 => ?_)
            have t_v3_q7745 := congrArg Int32.toInt h_v3_q7745
            have l_1 := il_1
            have t_7748 := ia_add y6_5 (1 : Int32) (by omega) (by omega)
            refine wq_v (fun v4_q7747 h_v4_q7747 => ?_)
            have t_v4_q7747 := congrArg Int32.toInt h_v4_q7747
            exact ih v3_q7745 v4_q7747 ⟨by omega, by omega⟩ (by omega)
set_option maxHeartbeats 4000000 in
theorem tt_fX2_nthHour {N : Nat} (hN : 3000000000 ≤ N) (I0 : Nat → Int32) (M0 : Nat → Nat → Int32) (x1 : Int32) (x2 : Int32) (x3 : Int32) (h_x1 : 0 ≤ x1.toInt ∧ x1.toInt ≤ 359) (k_I0 : KX2 I0 M0) : wq (fX2_nthHour N I0 M0 x1 x2 x3) (fun r => (-1 ≤ r.toInt ∧ r.toInt ≤ 2519) ∧ True) := by
  unfold fX2_nthHour
  have b_7749 := i32b x2
  have b_7750 := i32b x3
  have l_0 := il_0
  exact tt_fX2_nthHour_L6 hN I0 M0 x1 x2 x3 ⟨by omega, by omega⟩ k_I0 N x3 (0 : Int32) ⟨by omega, by omega⟩ (by omega)
theorem tt_fJ9_floorDiv_f86c9 {N : Nat} (hN : 3000000000 ≤ N) (x0 : Int64) (x1 : Int64) (hr_0 : x1 ≠ 0) : wq (fJ9_floorDiv_f86c9 N x0 x1) (fun r => True) := by
  unfold fJ9_floorDiv_f86c9
  refine wq_n hr_0 (wq_v (fun v1 e1 => ?_))
  refine wq_i (fun _ => wq_s trivial) (fun _ => wq_i (fun _ => wq_s trivial) (fun _ => wq_s trivial))
theorem i64nz {v : Int32} (h : v.toInt ≠ 0) : v.toInt64 ≠ 0 := by
  intro q
  apply h
  rw [← Int32.toInt_toInt64 v, q]
  rfl
theorem tt_fX5_swingOn {N : Nat} (hN : 3000000000 ≤ N) (I0 : Nat → Int32) (M0 : Nat → Nat → Int32) (x1 : Int32) (x2 : Int32) (h_x1 : 0 ≤ x1.toInt ∧ x1.toInt ≤ 27) (k_I0 : KX5 I0 M0) : wq (fX5_swingOn N I0 M0 x1 x2) (fun r => True) := by
  unfold fX5_swingOn
  have l_0 := il_0
  have l_1 := il_1
  refine wq_in (n := 28) ⟨by omega, by omega⟩ (wq_v (fun v1 e1 => ?_))
  refine wq_in (n := 28) ⟨by omega, by omega⟩ ?_
  refine wq_i (fun _ => wq_s trivial) (fun _ => ?_)
  refine wq_le (fun hc => ?_) (fun hc => wq_s trivial)
  refine wq_nz (by omega) (wq_v (fun v2 e2 => wq_v (fun v3 e3 => ?_)))
  refine wq_in (n := 28) ⟨by omega, by omega⟩ ?_
  exact wq_b (tt_fJ9_floorDiv_f86c9 hN _ _ (i64nz (by omega))) (fun r4 _ => wq_s trivial)
theorem tt_fJ9_floorMod_f86c9 {N : Nat} (hN : 3000000000 ≤ N) (x0 : Int64) (x1 : Int64) (hr_0 : x1 ≠ 0) : wq (fJ9_floorMod_f86c9 N x0 x1) (fun r => True) := by
  unfold fJ9_floorMod_f86c9
  refine wq_n hr_0 (wq_v (fun v1 e1 => ?_))
  refine wq_i (fun _ => wq_s trivial) (fun _ => wq_i (fun _ => wq_s trivial) (fun _ => wq_s trivial))
theorem tt_fX5_placeOn {N : Nat} (hN : 3000000000 ≤ N) (I0 : Nat → Int32) (M0 : Nat → Nat → Int32) (x1 : Int32) (x2 : Int32) (x3 : Int32) (h_x1 : 0 ≤ x1.toInt ∧ x1.toInt ≤ 3) (h_x2 : 0 ≤ x2.toInt ∧ x2.toInt ≤ 6) (k_I0 : KX5 I0 M0) : wq (fX5_placeOn N I0 M0 x1 x2 x3) (fun r => True) := by
  unfold fX5_placeOn
  have l_7 := il_7
  have ta := ia_mul (7 : Int32) 7 il_7 x1 (by omega) (by omega)
  have tb := ia_add ((7 : Int32) * x1) x2 (by omega) (by omega)
  refine wq_v (fun v1 e1 => ?_)
  have tv := congrArg Int32.toInt e1
  refine wq_in (n := 28) ⟨by omega, by omega⟩ (wq_v (fun v2 e2 => ?_))
  refine wq_in (n := 28) ⟨by omega, by omega⟩ ?_
  refine wq_b (tt_fX5_swingOn hN I0 M0 v1 x3 ⟨by omega, by omega⟩ k_I0) (fun r3 _ => ?_)
  exact wq_b (tt_fJ9_floorMod_f86c9 hN _ _ (by decide)) (fun r4 _ => wq_s trivial)
set_option maxHeartbeats 4000000 in
theorem tt_fX5_degreeOn {N : Nat} (hN : 3000000000 ≤ N) (I0 : Nat → Int32) (M0 : Nat → Nat → Int32) (x1 : Int32) (x2 : Int32) (x3 : Int32) (h_x1 : 0 ≤ x1.toInt ∧ x1.toInt ≤ 3) (h_x2 : 0 ≤ x2.toInt ∧ x2.toInt ≤ 6) (k_I0 : KX5 I0 M0) : wq (fX5_degreeOn N I0 M0 x1 x2 x3) (fun r => (-35791394 ≤ r.toInt ∧ r.toInt ≤ 35791394) ∧ True) := by
  unfold fX5_degreeOn
  have b_7781 := i32b x3
  refine wq_b (tt_fX5_placeOn hN I0 M0 x1 x2 x3 ⟨by omega, by omega⟩ ⟨by omega, by omega⟩ k_I0) (fun r1_q7782 h_r1_q7782 => ?_)
  obtain ⟨-⟩ := h_r1_q7782
  have b_7783 := i32b r1_q7782
  have l_60 := il_60
  have t_7784 := i32b r1_q7782
  have t_7785 := ia_div2 r1_q7782 (60 : Int32) 60 il_60 (by decide)
  exact wq_s ⟨(show -35791394 ≤ (r1_q7782 / (60 : Int32)).toInt ∧ (r1_q7782 / (60 : Int32)).toInt ≤ 35791394 from ⟨by omega, by omega⟩), trivial⟩
set_option maxHeartbeats 4000000 in
theorem tt_fX3_costOn_L37 {N : Nat} (hN : 3000000000 ≤ N) (I0 : Nat → Int32) (M0 : Nat → Nat → Int32) (I1 : Nat → Int32) (M1 : Nat → Nat → Int32) (x2 : Int32) (x3 : Int32) (x4 : Int32) (x5 : Int32) (h_x2 : 0 ≤ x2.toInt ∧ x2.toInt ≤ 119) (h_x3 : 0 ≤ x3.toInt ∧ x3.toInt ≤ 3) (h_x4 : 0 ≤ x4.toInt ∧ x4.toInt ≤ 1000001) (k_I0 : KX5 I0 M0) (k_I1 : KX1 I1 M1)  : ∀ (fu : Nat) (y37_7 : Int32) (y37_8 : Int32), (0 ≤ y37_8.toInt ∧ y37_8.toInt ≤ 7) → (7 - y37_8.toInt) < (fu : Int) → wq (fX3_costOn_L37 N I0 M0 I1 M1 x2 x3 x4 x5 fu y37_7 y37_8) (fun r => True) := by
  intro fu
  induction fu with
  | zero => intro y37_7 y37_8 h_y37_8 hm; exfalso; omega
  | succ fu ih =>
    intro y37_7 y37_8 h_y37_8 hm
    rw [fX3_costOn_L37.eq_2]
    have l_7 := il_7
    refine wq_le (fun hc_8150 => ?_) (fun hc_8151 => ?_)
    · have b_8152 := i32b y37_7
      exact wq_s trivial
    · have b_8153 := i32b x5
      have b_8154 := i32b y37_7
      refine wq_lt (fun hc_8155 => ?_) (fun hc_8156 => ?_)
      · exact wq_s trivial
      · refine wq_b (tt_fX1_degreeOf hN I1 M1 x2 y37_8 ⟨by omega, by omega⟩ ⟨by omega, by omega⟩ k_I1) (fun r1_q8157 h_r1_q8157 => ?_)
        obtain ⟨h_r1_q8157_0, h_r1_q8157_1, -⟩ := h_r1_q8157
        have l_m1 := il_m1
        refine wq_eq (fun hc_8158 => ?_) (fun hc_8159 => ?_)
        · have l_1 := il_1
          have t_8161 := ia_add y37_8 (1 : Int32) (by omega) (by omega)
          refine wq_v (fun v2_q8160 h_v2_q8160 => ?_)
          have t_v2_q8160 := congrArg Int32.toInt h_v2_q8160
          exact ih y37_7 v2_q8160 ⟨by omega, by omega⟩ (by omega)
        · refine wq_b (tt_fX5_degreeOn hN I0 M0 x3 y37_8 x4 ⟨by omega, by omega⟩ ⟨by omega, by omega⟩ k_I0) (fun r3_q8162 h_r3_q8162 => ?_)
          obtain ⟨h_r3_q8162_0, -⟩ := h_r3_q8162
          refine wq_b (tt_fX4_costBeside hN (wb_sh I0 1) (wb_sh M0 5) r1_q8157 r3_q8162 ⟨by omega, by omega⟩) (fun r4_q8163 h_r4_q8163 => ?_)
          obtain ⟨h_r4_q8163_0, -⟩ := h_r4_q8163
          refine wq_v (fun v5_q8164 h_v5_q8164 => ?_)
          have t_v5_q8164 := congrArg Int32.toInt h_v5_q8164
          have l_1 := il_1
          have t_8166 := ia_add y37_8 (1 : Int32) (by omega) (by omega)
          refine wq_v (fun v6_q8165 h_v6_q8165 => ?_)
          have t_v6_q8165 := congrArg Int32.toInt h_v6_q8165
          have b_8167 := i32b v5_q8164
          exact ih v5_q8164 v6_q8165 ⟨by omega, by omega⟩ (by omega)
set_option maxHeartbeats 4000000 in
theorem tt_fX3_costOn {N : Nat} (hN : 3000000000 ≤ N) (I0 : Nat → Int32) (M0 : Nat → Nat → Int32) (I1 : Nat → Int32) (M1 : Nat → Nat → Int32) (x2 : Int32) (x3 : Int32) (x4 : Int32) (x5 : Int32) (h_x2 : 0 ≤ x2.toInt ∧ x2.toInt ≤ 119) (h_x3 : 0 ≤ x3.toInt ∧ x3.toInt ≤ 3) (h_x4 : 0 ≤ x4.toInt ∧ x4.toInt ≤ 1000001) (k_I0 : KX5 I0 M0) (k_I1 : KX1 I1 M1) : wq (fX3_costOn N I0 M0 I1 M1 x2 x3 x4 x5) (fun r => True) := by
  unfold fX3_costOn
  have l_21 := il_21
  refine wq_b (tt_fX1_degreeOf hN I1 M1 x2 (21 : Int32) ⟨by omega, by omega⟩ ⟨by omega, by omega⟩ k_I1) (fun r7_q8168 h_r7_q8168 => ?_)
  obtain ⟨h_r7_q8168_0, h_r7_q8168_1, -⟩ := h_r7_q8168
  have l_m1 := il_m1
  refine wq_eq (fun hc_8169 => ?_) (fun hc_8170 => ?_)
  · unfold fX3_costOn_J31
    unfold fX3_costOn_J32
    have b_8171 := i32b x5
    have l_0 := il_0
    exact tt_fX3_costOn_L37 hN I0 M0 I1 M1 x2 x3 x4 x5 ⟨by omega, by omega⟩ ⟨by omega, by omega⟩ ⟨by omega, by omega⟩ k_I0 k_I1 N (0 : Int32) (0 : Int32) ⟨by omega, by omega⟩ (by omega)
  · have l_365 := il_365
    have t_8172 := ia_rem x4 (365 : Int32) 365 il_365 (by decide) (by omega)
    refine wq_eq (fun hc_8173 => ?_) (fun hc_8174 => ?_)
    · unfold fX3_costOn_J31
      unfold fX3_costOn_J32
      have b_8175 := i32b x5
      have l_0 := il_0
      exact tt_fX3_costOn_L37 hN I0 M0 I1 M1 x2 x3 x4 x5 ⟨by omega, by omega⟩ ⟨by omega, by omega⟩ ⟨by omega, by omega⟩ k_I0 k_I1 N (0 : Int32) (0 : Int32) ⟨by omega, by omega⟩ (by omega)
    · unfold fX3_costOn_J32
      have b_8176 := i32b x5
      have l_30 := il_30
      have l_0 := il_0
      exact tt_fX3_costOn_L37 hN I0 M0 I1 M1 x2 x3 x4 x5 ⟨by omega, by omega⟩ ⟨by omega, by omega⟩ ⟨by omega, by omega⟩ k_I0 k_I1 N (30 : Int32) (0 : Int32) ⟨by omega, by omega⟩ (by omega)
set_option maxHeartbeats 4000000 in
theorem tt_fX3_setsAt_L6 {N : Nat} (hN : 3000000000 ≤ N) (I0 : Nat → Int32) (M0 : Nat → Nat → Int32) (x1 : Int32) (x2 : Int32) (x3 : Int32) (h_x2 : 0 ≤ x2.toInt ∧ x2.toInt ≤ 6) (k_I0 : KX5 I0 M0)  : ∀ (fu : Nat) (y6_4 : Int32) (y6_5 : Int32), (0 ≤ y6_4.toInt ∧ y6_4.toInt ≤ 255) → (0 ≤ y6_5.toInt ∧ y6_5.toInt ≤ 4) → (4 - y6_5.toInt) < (fu : Int) → wq (fX3_setsAt_L6 N I0 M0 x1 x2 x3 fu y6_4 y6_5) (fun r => (0 ≤ r.toInt ∧ r.toInt ≤ 255) ∧ True) := by
  intro fu
  induction fu with
  | zero => intro y6_4 y6_5 h_y6_4 h_y6_5 hm; exfalso; omega
  | succ fu ih =>
    intro y6_4 y6_5 h_y6_4 h_y6_5 hm
    rw [fX3_setsAt_L6.eq_2]
    have l_4 := il_4
    refine wq_le (fun hc_8327 => ?_) (fun hc_8328 => ?_)
    · exact wq_s ⟨(show 0 ≤ y6_4.toInt ∧ y6_4.toInt ≤ 255 from ⟨by omega, by omega⟩), trivial⟩
    · have b_8329 := i32b x3
      refine wq_b (tt_fX5_degreeOn hN I0 M0 y6_5 x2 x3 ⟨by omega, by omega⟩ ⟨by omega, by omega⟩ k_I0) (fun r1_q8330 h_r1_q8330 => ?_)
      obtain ⟨h_r1_q8330_0, -⟩ := h_r1_q8330
      have b_8331 := i32b x1
      refine wq_eq (fun hc_8332 => ?_) (fun hc_8333 => ?_)
      · have t_8335 := or_sh y6_4 y6_5 ⟨by omega, by omega⟩ ⟨by omega, by omega⟩
        refine wq_v (fun v3_q8334 h_v3_q8334 => ?_)
        have t_v3_q8334 := congrArg Int32.toInt h_v3_q8334
        have l_1 := il_1
        have t_8337 := ia_add y6_5 (1 : Int32) (by omega) (by omega)
        refine wq_v (fun v4_q8336 h_v4_q8336 => ?_)
        have t_v4_q8336 := congrArg Int32.toInt h_v4_q8336
        exact ih v3_q8334 v4_q8336 ⟨by omega, by omega⟩ ⟨by omega, by omega⟩ (by omega)
      · have l_1 := il_1
        have t_8339 := ia_add y6_5 (1 : Int32) (by omega) (by omega)
        refine wq_v (fun v2_q8338 h_v2_q8338 => ?_)
        have t_v2_q8338 := congrArg Int32.toInt h_v2_q8338
        exact ih y6_4 v2_q8338 ⟨by omega, by omega⟩ ⟨by omega, by omega⟩ (by omega)
set_option maxHeartbeats 4000000 in
theorem tt_fX3_setsAt {N : Nat} (hN : 3000000000 ≤ N) (I0 : Nat → Int32) (M0 : Nat → Nat → Int32) (x1 : Int32) (x2 : Int32) (x3 : Int32) (h_x2 : 0 ≤ x2.toInt ∧ x2.toInt ≤ 6) (k_I0 : KX5 I0 M0) : wq (fX3_setsAt N I0 M0 x1 x2 x3) (fun r => (0 ≤ r.toInt ∧ r.toInt ≤ 255) ∧ True) := by
  unfold fX3_setsAt
  have b_8340 := i32b x1
  have b_8341 := i32b x3
  have l_0 := il_0
  exact tt_fX3_setsAt_L6 hN I0 M0 x1 x2 x3 ⟨by omega, by omega⟩ k_I0 N (0 : Int32) (0 : Int32) ⟨by omega, by omega⟩ ⟨by omega, by omega⟩ (by omega)
set_option maxHeartbeats 4000000 in
theorem tt_fX3_isMixed_L7 {N : Nat} (hN : 3000000000 ≤ N) (I0 : Nat → Int32) (M0 : Nat → Nat → Int32) (I1 : Nat → Int32) (M1 : Nat → Nat → Int32) (x2 : Int32) (x3 : Int32) (h_x2 : 0 ≤ x2.toInt ∧ x2.toInt ≤ 119) (k_I0 : KX5 I0 M0) (k_I1 : KX1 I1 M1)  : ∀ (fu : Nat) (y7_4 : Int32) (y7_5 : Int32), (0 ≤ y7_5.toInt ∧ y7_5.toInt ≤ 7) → (7 - y7_5.toInt) < (fu : Int) → wq (fX3_isMixed_L7 N I0 M0 I1 M1 x2 x3 fu y7_4 y7_5) (fun r => (0 ≤ r.toInt ∧ r.toInt ≤ 1) ∧ True) := by
  intro fu
  induction fu with
  | zero => intro y7_4 y7_5 h_y7_5 hm; exfalso; omega
  | succ fu ih =>
    intro y7_4 y7_5 h_y7_5 hm
    rw [fX3_isMixed_L7.eq_2]
    have l_7 := il_7
    refine wq_le (fun hc_8546 => ?_) (fun hc_8547 => ?_)
    · have b_8548 := i32b y7_4
      have l_0 := il_0
      refine wq_eq (fun hc_8549 => ?_) (fun hc_8550 => ?_)
      · have l_1 := il_1
        exact wq_s ⟨(show 0 ≤ (1 : Int32).toInt ∧ (1 : Int32).toInt ≤ 1 from ⟨by omega, by omega⟩), trivial⟩
      · exact wq_s ⟨(show 0 ≤ (0 : Int32).toInt ∧ (0 : Int32).toInt ≤ 1 from ⟨by omega, by omega⟩), trivial⟩
    · refine wq_b (tt_fX1_degreeOf hN I1 M1 x2 y7_5 ⟨by omega, by omega⟩ ⟨by omega, by omega⟩ k_I1) (fun r1_q8551 h_r1_q8551 => ?_)
      obtain ⟨h_r1_q8551_0, h_r1_q8551_1, -⟩ := h_r1_q8551
      have l_m1 := il_m1
      refine wq_eq (fun hc_8552 => ?_) (fun hc_8553 => ?_)
      · have l_1 := il_1
        have t_8555 := ia_add y7_5 (1 : Int32) (by omega) (by omega)
        refine wq_v (fun v2_q8554 h_v2_q8554 => ?_)
        have t_v2_q8554 := congrArg Int32.toInt h_v2_q8554
        have b_8556 := i32b y7_4
        exact ih y7_4 v2_q8554 ⟨by omega, by omega⟩ (by omega)
      · have b_8557 := i32b x3
        refine wq_b (tt_fX3_setsAt hN I0 M0 r1_q8551 y7_5 x3 ⟨by omega, by omega⟩ k_I0) (fun r3_q8558 h_r3_q8558 => ?_)
        obtain ⟨h_r3_q8558_0, -⟩ := h_r3_q8558
        have l_0 := il_0
        refine wq_eq (fun hc_8559 => ?_) (fun hc_8560 => ?_)
        · exact wq_s ⟨(show 0 ≤ (0 : Int32).toInt ∧ (0 : Int32).toInt ≤ 1 from ⟨by omega, by omega⟩), trivial⟩
        · refine wq_v (fun v4_q8561 h_v4_q8561 => ?_)
          have t_v4_q8561 := congrArg Int32.toInt h_v4_q8561
          have l_1 := il_1
          have t_8563 := ia_add y7_5 (1 : Int32) (by omega) (by omega)
          refine wq_v (fun v5_q8562 h_v5_q8562 => ?_)
          have t_v5_q8562 := congrArg Int32.toInt h_v5_q8562
          have b_8564 := i32b v4_q8561
          exact ih v4_q8561 v5_q8562 ⟨by omega, by omega⟩ (by omega)
set_option maxHeartbeats 4000000 in
theorem tt_fX3_isMixed {N : Nat} (hN : 3000000000 ≤ N) (I0 : Nat → Int32) (M0 : Nat → Nat → Int32) (I1 : Nat → Int32) (M1 : Nat → Nat → Int32) (x2 : Int32) (x3 : Int32) (h_x2 : 0 ≤ x2.toInt ∧ x2.toInt ≤ 119) (k_I0 : KX5 I0 M0) (k_I1 : KX1 I1 M1) : wq (fX3_isMixed N I0 M0 I1 M1 x2 x3) (fun r => (0 ≤ r.toInt ∧ r.toInt ≤ 1) ∧ True) := by
  unfold fX3_isMixed
  have b_8565 := i32b x3
  have l_15 := il_15
  have l_0 := il_0
  exact tt_fX3_isMixed_L7 hN I0 M0 I1 M1 x2 x3 ⟨by omega, by omega⟩ k_I0 k_I1 N (15 : Int32) (0 : Int32) ⟨by omega, by omega⟩ (by omega)
set_option maxHeartbeats 4000000 in
theorem tt_fX3_setSharers_L3 {N : Nat} (hN : 3000000000 ≤ N) (I1 : Nat → Int32) (M1 : Nat → Nat → Int32) (I2 : Nat → Int32) (M2 : Nat → Nat → Int32) (x3 : Int32) (x4 : Int32) (h_x3 : 0 ≤ x3.toInt ∧ x3.toInt ≤ 119) (k_I1 : KX5 I1 M1) (k_I2 : KX1 I2 M2)  : ∀ (fu : Nat) (I0_l3 : (Nat → Int32)) (M0_l3 : (Nat → Nat → Int32)) (y3_5 : Int32), (0 ≤ y3_5.toInt ∧ y3_5.toInt ≤ 7) → (7 - y3_5.toInt) < (fu : Int) → wq (fX3_setSharers_L3 N I1 M1 I2 M2 x3 x4 fu I0_l3 M0_l3 y3_5) (fun r => True) := by
  intro fu
  induction fu with
  | zero => intro I0_l3 M0_l3 y3_5 h_y3_5 hm; exfalso; omega
  | succ fu ih =>
    intro I0_l3 M0_l3 y3_5 h_y3_5 hm
    rw [fX3_setSharers_L3.eq_2]
    have l_7 := il_7
    refine wq_le (fun hc_8806 => ?_) (fun hc_8807 => ?_)
    · exact wq_s trivial
    · refine wq_b (tt_fX1_degreeOf hN I2 M2 x3 y3_5 ⟨by omega, by omega⟩ ⟨by omega, by omega⟩ k_I2) (fun r5_q8808 h_r5_q8808 => ?_)
      obtain ⟨h_r5_q8808_0, h_r5_q8808_1, -⟩ := h_r5_q8808
      have l_m1 := il_m1
      refine wq_eq (fun hc_8809 => ?_) (fun hc_8810 => ?_)
      · unfold fX3_setSharers_J39
        have l_1 := il_1
        refine wq_eq (fun hc_8811 => ?_) (fun hc_8812 => ?_)
        · refine wq_in (n := 7) ⟨by omega, by omega⟩ ?_
          refine wq_v (fun M0_3_q8813 h_M0_3_q8813 => ?_)
          have t_8815 := ia_add y3_5 (1 : Int32) (by omega) (by omega)
          refine wq_v (fun v4_q8814 h_v4_q8814 => ?_)
          have t_v4_q8814 := congrArg Int32.toInt h_v4_q8814
          exact ih I0_l3 M0_3_q8813 v4_q8814 ⟨by omega, by omega⟩ (by omega)
        · refine wq_in (n := 7) ⟨by omega, by omega⟩ ?_
          refine wq_v (fun M0_1_q8816 h_M0_1_q8816 => ?_)
          have t_8818 := ia_add y3_5 (1 : Int32) (by omega) (by omega)
          refine wq_v (fun v2_q8817 h_v2_q8817 => ?_)
          have t_v2_q8817 := congrArg Int32.toInt h_v2_q8817
          exact ih I0_l3 M0_1_q8816 v2_q8817 ⟨by omega, by omega⟩ (by omega)
      · have b_8819 := i32b x4
        refine wq_b (tt_fX3_setsAt hN I1 M1 r5_q8808 y3_5 x4 ⟨by omega, by omega⟩ k_I1) (fun r6_q8820 h_r6_q8820 => ?_)
        obtain ⟨h_r6_q8820_0, -⟩ := h_r6_q8820
        unfold fX3_setSharers_J39
        have l_1 := il_1
        refine wq_eq (fun hc_8821 => ?_) (fun hc_8822 => ?_)
        · refine wq_in (n := 7) ⟨by omega, by omega⟩ ?_
          refine wq_v (fun M0_3_q8823 h_M0_3_q8823 => ?_)
          have t_8825 := ia_add y3_5 (1 : Int32) (by omega) (by omega)
          refine wq_v (fun v4_q8824 h_v4_q8824 => ?_)
          have t_v4_q8824 := congrArg Int32.toInt h_v4_q8824
          exact ih I0_l3 M0_3_q8823 v4_q8824 ⟨by omega, by omega⟩ (by omega)
        · refine wq_in (n := 7) ⟨by omega, by omega⟩ ?_
          refine wq_v (fun M0_1_q8826 h_M0_1_q8826 => ?_)
          have t_8828 := ia_add y3_5 (1 : Int32) (by omega) (by omega)
          refine wq_v (fun v2_q8827 h_v2_q8827 => ?_)
          have t_v2_q8827 := congrArg Int32.toInt h_v2_q8827
          exact ih I0_l3 M0_1_q8826 v2_q8827 ⟨by omega, by omega⟩ (by omega)
set_option maxHeartbeats 4000000 in
theorem tt_fX3_setSharers {N : Nat} (hN : 3000000000 ≤ N) (I0 : Nat → Int32) (M0 : Nat → Nat → Int32) (I1 : Nat → Int32) (M1 : Nat → Nat → Int32) (I2 : Nat → Int32) (M2 : Nat → Nat → Int32) (x3 : Int32) (x4 : Int32) (h_x3 : 0 ≤ x3.toInt ∧ x3.toInt ≤ 119) (k_I1 : KX5 I1 M1) (k_I2 : KX1 I2 M2) : wq (fX3_setSharers N I0 M0 I1 M1 I2 M2 x3 x4) (fun r => True) := by
  unfold fX3_setSharers
  have b_8829 := i32b x4
  have l_0 := il_0
  exact tt_fX3_setSharers_L3 hN I1 M1 I2 M2 x3 x4 ⟨by omega, by omega⟩ k_I1 k_I2 N I0 M0 (0 : Int32) ⟨by omega, by omega⟩ (by omega)
set_option maxHeartbeats 4000000 in
theorem tt_fX3_isShared {N : Nat} (hN : 3000000000 ≤ N) (I0 : Nat → Int32) (M0 : Nat → Nat → Int32) (x1 : Int32) (x2 : Int32) (h_x1 : 0 ≤ x1.toInt ∧ x1.toInt ≤ 6) : wq (fX3_isShared N I0 M0 x1 x2) (fun r => (0 ≤ r.toInt ∧ r.toInt ≤ 1) ∧ True) := by
  unfold fX3_isShared
  refine wq_in (n := 7) ⟨by omega, by omega⟩ ?_
  have l_m1 := il_m1
  refine wq_eq (fun hc_8854 => ?_) (fun hc_8855 => ?_)
  · have l_0 := il_0
    exact wq_s ⟨(show 0 ≤ (0 : Int32).toInt ∧ (0 : Int32).toInt ≤ 1 from ⟨by omega, by omega⟩), trivial⟩
  · refine wq_in (n := 7) ⟨by omega, by omega⟩ ?_
    have l_1 := il_1
    refine wq_eq (fun hc_8856 => ?_) (fun hc_8857 => ?_)
    · exact wq_s ⟨(show 0 ≤ (1 : Int32).toInt ∧ (1 : Int32).toInt ≤ 1 from ⟨by omega, by omega⟩), trivial⟩
    · have l_0 := il_0
      exact wq_s ⟨(show 0 ≤ (0 : Int32).toInt ∧ (0 : Int32).toInt ≤ 1 from ⟨by omega, by omega⟩), trivial⟩
set_option maxHeartbeats 4000000 in
theorem tt_fX3_howManyErrors_L4 {N : Nat} (hN : 3000000000 ≤ N) (I0 : Nat → Int32) (M0 : Nat → Nat → Int32)   : ∀ (fu : Nat) (y4_1 : Int32) (y4_2 : Int32), (0 ≤ y4_2.toInt ∧ y4_2.toInt ≤ 7) → (7 - y4_2.toInt) < (fu : Int) → wq (fX3_howManyErrors_L4 N I0 M0 fu y4_1 y4_2) (fun r => True) := by
  intro fu
  induction fu with
  | zero => intro y4_1 y4_2 h_y4_2 hm; exfalso; omega
  | succ fu ih =>
    intro y4_1 y4_2 h_y4_2 hm
    rw [fX3_howManyErrors_L4.eq_2]
    have l_7 := il_7
    refine wq_le (fun hc_9019 => ?_) (fun hc_9020 => ?_)
    · have b_9021 := i32b y4_1
      exact wq_s trivial
    · refine wq_in (n := 7) ⟨by omega, by omega⟩ ?_
      have l_m1 := il_m1
      refine wq_eq (fun hc_9022 => ?_) (fun hc_9023 => ?_)
      · have l_1 := il_1
        have t_9025 := ia_add y4_2 (1 : Int32) (by omega) (by omega)
        refine wq_v (fun v1_q9024 h_v1_q9024 => ?_)
        have t_v1_q9024 := congrArg Int32.toInt h_v1_q9024
        have b_9026 := i32b y4_1
        exact ih y4_1 v1_q9024 ⟨by omega, by omega⟩ (by omega)
      · have b_9028 := i32b y4_1
        have l_1 := il_1
        refine wq_v (fun v2_q9027 h_v2_q9027 => ?_)
        have t_v2_q9027 := congrArg Int32.toInt h_v2_q9027
        have t_9030 := ia_add y4_2 (1 : Int32) (by omega) (by omega)
        refine wq_v (fun v3_q9029 h_v3_q9029 => ?_)
        have t_v3_q9029 := congrArg Int32.toInt h_v3_q9029
        have b_9031 := i32b v2_q9027
        exact ih v2_q9027 v3_q9029 ⟨by omega, by omega⟩ (by omega)
set_option maxHeartbeats 4000000 in
theorem tt_fX3_howManyErrors {N : Nat} (hN : 3000000000 ≤ N) (I0 : Nat → Int32) (M0 : Nat → Nat → Int32)  : wq (fX3_howManyErrors N I0 M0) (fun r => True) := by
  unfold fX3_howManyErrors
  have l_0 := il_0
  exact tt_fX3_howManyErrors_L4 hN I0 M0 N (0 : Int32) (0 : Int32) ⟨by omega, by omega⟩ (by omega)
set_option maxHeartbeats 4000000 in
theorem tt_fX3_howManyShared_L4 {N : Nat} (hN : 3000000000 ≤ N) (I0 : Nat → Int32) (M0 : Nat → Nat → Int32) (x1 : Int32)   : ∀ (fu : Nat) (y4_2 : Int32) (y4_3 : Int32), (0 ≤ y4_3.toInt ∧ y4_3.toInt ≤ 7) → (7 - y4_3.toInt) < (fu : Int) → wq (fX3_howManyShared_L4 N I0 M0 x1 fu y4_2 y4_3) (fun r => True) := by
  intro fu
  induction fu with
  | zero => intro y4_2 y4_3 h_y4_3 hm; exfalso; omega
  | succ fu ih =>
    intro y4_2 y4_3 h_y4_3 hm
    rw [fX3_howManyShared_L4.eq_2]
    have l_7 := il_7
    refine wq_le (fun hc_9235 => ?_) (fun hc_9236 => ?_)
    · have b_9237 := i32b y4_2
      exact wq_s trivial
    · have b_9238 := i32b x1
      refine wq_b (tt_fX3_isShared hN I0 M0 y4_3 x1 ⟨by omega, by omega⟩) (fun r1_q9239 h_r1_q9239 => ?_)
      obtain ⟨h_r1_q9239_0, -⟩ := h_r1_q9239
      have l_0 := il_0
      refine wq_eq (fun hc_9240 => ?_) (fun hc_9241 => ?_)
      · have l_1 := il_1
        have t_9243 := ia_add y4_3 (1 : Int32) (by omega) (by omega)
        refine wq_v (fun v2_q9242 h_v2_q9242 => ?_)
        have t_v2_q9242 := congrArg Int32.toInt h_v2_q9242
        have b_9244 := i32b y4_2
        exact ih y4_2 v2_q9242 ⟨by omega, by omega⟩ (by omega)
      · have b_9246 := i32b y4_2
        have l_1 := il_1
        refine wq_v (fun v3_q9245 h_v3_q9245 => ?_)
        have t_v3_q9245 := congrArg Int32.toInt h_v3_q9245
        have t_9248 := ia_add y4_3 (1 : Int32) (by omega) (by omega)
        refine wq_v (fun v4_q9247 h_v4_q9247 => ?_)
        have t_v4_q9247 := congrArg Int32.toInt h_v4_q9247
        have b_9249 := i32b v3_q9245
        exact ih v3_q9245 v4_q9247 ⟨by omega, by omega⟩ (by omega)
set_option maxHeartbeats 4000000 in
theorem tt_fX3_howManyShared {N : Nat} (hN : 3000000000 ≤ N) (I0 : Nat → Int32) (M0 : Nat → Nat → Int32) (x1 : Int32)  : wq (fX3_howManyShared N I0 M0 x1) (fun r => True) := by
  unfold fX3_howManyShared
  have b_9250 := i32b x1
  have l_0 := il_0
  exact tt_fX3_howManyShared_L4 hN I0 M0 x1 N (0 : Int32) (0 : Int32) ⟨by omega, by omega⟩ (by omega)

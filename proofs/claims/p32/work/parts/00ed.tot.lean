set_option maxHeartbeats 4000000 in
theorem tt_fX2_readRising_L4 {N : Nat} (hN : 3000000000 ≤ N)    : ∀ (fu : Nat) (I0_l4 : (Nat → Int32)) (M0_l4 : (Nat → Nat → Int32)) (I1_l4 : (Nat → Int32)) (M1_l4 : (Nat → Nat → Int32)) (y4_2 : Int32) (y4_3 : Int32), (0 ≤ y4_3.toInt ∧ y4_3.toInt ≤ 12) → (KX2 I0_l4 M0_l4) → (KX9 I1_l4 M1_l4) → ((I0_l4 0).toInt ≤ 6) → (12 - y4_3.toInt) < (fu : Int) → wq (fX2_readRising_L4 N fu I0_l4 M0_l4 I1_l4 M1_l4 y4_2 y4_3) (fun r => (r.2.1 0).toInt ≤ 6 ∧ (0 ≤ r.1.toInt ∧ r.1.toInt ≤ 1) ∧ KX2 r.2.1 r.2.2.1 ∧ KX9 r.2.2.2.1 r.2.2.2.2 ∧ True) := by
  intro fu
  induction fu with
  | zero => intro I0_l4 M0_l4 I1_l4 M1_l4 y4_2 y4_3 h_y4_3 k_I0_l4 k_I1_l4 hl_3 hm; exfalso; omega
  | succ fu ih =>
    intro I0_l4 M0_l4 I1_l4 M1_l4 y4_2 y4_3 h_y4_3 k_I0_l4 k_I1_l4 hl_3 hm
    rw [fX2_readRising_L4.eq_2]
    have l_12 := il_12
    refine wq_le (fun hc_6770 => ?_) (fun hc_6771 => ?_)
    · have t_6772 := KX2.i0 k_I0_l4
      have l_1 := il_1
      exact wq_s ⟨(show (I0_l4 0).toInt ≤ 6 from by omega), (show 0 ≤ (1 : Int32).toInt ∧ (1 : Int32).toInt ≤ 1 from ⟨by omega, by omega⟩), k_I0_l4, k_I1_l4, trivial⟩
    · have l_3600 := il_3600
      have b_6774 := i32b y4_2
      refine wq_v (fun v5_q6773 h_v5_q6773 => ?_)
      have t_v5_q6773 := congrArg Int32.toInt h_v5_q6773
      have l_11 := il_11
      refine wq_eq (fun hc_6775 => ?_) (fun hc_6776 => ?_)
      · unfold fX2_readRising_J28
        have l_1 := il_1
        have l_0 := il_0
        refine wq_eq (fun hc_6777 => ?_) (fun hc_6778 => ?_)
        · exfalso; omega
        · unfold fX2_readRising_J46
          refine wq_eq (fun hc_6779 => ?_) (fun hc_6780 => ?_)
          · exfalso; omega
          · unfold fX2_readRising_J58
            have b_6781 := i32b v5_q6773
            have t_6782 := ite_lt (1 : Int32) v5_q6773 v5_q6773 (1 : Int32)
            refine wq_b (tt_fX9_takeNumber hN I1_l4 M1_l4 (if ((1 : Int32) < v5_q6773) then v5_q6773 else (1 : Int32)) v5_q6773 k_I1_l4) (fun r1_q6783 h_r1_q6783 => ?_)
            obtain ⟨h_r1_q6783_0, h_r1_q6783_1, h_r1_q6783_2, -⟩ := h_r1_q6783
            refine wq_eq (fun hc_6784 => ?_) (fun hc_6785 => ?_)
            · have t_6786 := KX2.i0 k_I0_l4
              exact wq_s ⟨(show (I0_l4 0).toInt ≤ 6 from by omega), (show 0 ≤ (0 : Int32).toInt ∧ (0 : Int32).toInt ≤ 1 from ⟨by omega, by omega⟩), k_I0_l4, h_r1_q6783_2, trivial⟩
            · refine wq_v (fun v2_q6787 h_v2_q6787 => ?_)
              have t_v2_q6787 := congrArg Int32.toInt h_v2_q6787
              have t_6788 := KX2.i0 k_I0_l4
              have l_13 := il_13
              have t_6789 := ia_mul (13 : Int32) (13) il_13 (I0_l4 0) (by omega) (by omega)
              have t_6790 := ia_add ((13 : Int32) * (I0_l4 0)) y4_3 (by omega) (by omega)
              have t_6791 := ia_add (((13 : Int32) * (I0_l4 0)) + y4_3) (1 : Int32) (by omega) (by omega)
              refine wq_in (n := 91) ⟨by omega, by omega⟩ ?_
              refine wq_v (fun M0_3_q6792 h_M0_3_q6792 => ?_)
              have k_M0_3_q6792 : KX2 I0_l4 M0_3_q6792 := by rw [h_M0_3_q6792]; exact KX2.sm0 k_I0_l4
              have t_6794 := ia_add y4_3 (1 : Int32) (by omega) (by omega)
              refine wq_v (fun v4_q6793 h_v4_q6793 => ?_)
              have t_v4_q6793 := congrArg Int32.toInt h_v4_q6793
              have b_6795 := i32b v2_q6787
              exact ih I0_l4 M0_3_q6792 r1_q6783.2.1 r1_q6783.2.2 v2_q6787 v4_q6793 ⟨by omega, by omega⟩ k_M0_3_q6792 h_r1_q6783_2 (by omega) (by omega)
      · unfold fX2_readRising_J28
        have l_0 := il_0
        refine wq_eq (fun hc_6796 => ?_) (fun hc_6797 => ?_)
        · unfold fX2_readRising_J46
          refine wq_eq (fun hc_6798 => ?_) (fun hc_6799 => ?_)
          · unfold fX2_readRising_J58
            have l_1 := il_1
            have l_9999999 := il_9999999
            refine wq_b (tt_fX9_takeNumber hN I1_l4 M1_l4 (1 : Int32) (9999999 : Int32) k_I1_l4) (fun r1_q6800 h_r1_q6800 => ?_)
            obtain ⟨h_r1_q6800_0, h_r1_q6800_1, h_r1_q6800_2, -⟩ := h_r1_q6800
            refine wq_eq (fun hc_6801 => ?_) (fun hc_6802 => ?_)
            · have t_6803 := KX2.i0 k_I0_l4
              exact wq_s ⟨(show (I0_l4 0).toInt ≤ 6 from by omega), (show 0 ≤ (0 : Int32).toInt ∧ (0 : Int32).toInt ≤ 1 from ⟨by omega, by omega⟩), k_I0_l4, h_r1_q6800_2, trivial⟩
            · refine wq_v (fun v2_q6804 h_v2_q6804 => ?_)
              have t_v2_q6804 := congrArg Int32.toInt h_v2_q6804
              have t_6805 := KX2.i0 k_I0_l4
              have l_13 := il_13
              have t_6806 := ia_mul (13 : Int32) (13) il_13 (I0_l4 0) (by omega) (by omega)
              have t_6807 := ia_add ((13 : Int32) * (I0_l4 0)) y4_3 (by omega) (by omega)
              have t_6808 := ia_add (((13 : Int32) * (I0_l4 0)) + y4_3) (1 : Int32) (by omega) (by omega)
              refine wq_in (n := 91) ⟨by omega, by omega⟩ ?_
              refine wq_v (fun M0_3_q6809 h_M0_3_q6809 => ?_)
              have k_M0_3_q6809 : KX2 I0_l4 M0_3_q6809 := by rw [h_M0_3_q6809]; exact KX2.sm0 k_I0_l4
              have t_6811 := ia_add y4_3 (1 : Int32) (by omega) (by omega)
              refine wq_v (fun v4_q6810 h_v4_q6810 => ?_)
              have t_v4_q6810 := congrArg Int32.toInt h_v4_q6810
              have b_6812 := i32b v2_q6804
              exact ih I0_l4 M0_3_q6809 r1_q6800.2.1 r1_q6800.2.2 v2_q6804 v4_q6810 ⟨by omega, by omega⟩ k_M0_3_q6809 h_r1_q6800_2 (by omega) (by omega)
          · exfalso; omega
        · exfalso; omega
set_option maxHeartbeats 4000000 in
theorem tt_fX2_readRising {N : Nat} (hN : 3000000000 ≤ N) (I0 : Nat → Int32) (M0 : Nat → Nat → Int32) (I1 : Nat → Int32) (M1 : Nat → Nat → Int32) (k_I0 : KX2 I0 M0) (k_I1 : KX9 I1 M1) (hr_2 : (I0 0).toInt ≤ 6) : wq (fX2_readRising N I0 M0 I1 M1) (fun r => (r.2.1 0).toInt ≤ 6 ∧ (0 ≤ r.1.toInt ∧ r.1.toInt ≤ 1) ∧ KX2 r.2.1 r.2.2.1 ∧ KX9 r.2.2.2.1 r.2.2.2.2 ∧ True) := by
  unfold fX2_readRising
  have l_0 := il_0
  have t_6813 := KX2.i0 k_I0
  exact tt_fX2_readRising_L4 hN N I0 M0 I1 M1 (0 : Int32) (0 : Int32) ⟨by omega, by omega⟩ k_I0 k_I1 (by omega) (by omega)
set_option maxHeartbeats 4000000 in
theorem tt_fX2_readClimate {N : Nat} (hN : 3000000000 ≤ N) (I0 : Nat → Int32) (M0 : Nat → Nat → Int32) (I1 : Nat → Int32) (M1 : Nat → Nat → Int32) (k_I0 : KX2 I0 M0) (k_I1 : KX9 I1 M1) : wq (fX2_readClimate N I0 M0 I1 M1) (fun r => (0 ≤ r.1.toInt ∧ r.1.toInt ≤ 1) ∧ KX2 r.2.1 r.2.2.1 ∧ KX9 r.2.2.2.1 r.2.2.2.2 ∧ True) := by
  unfold fX2_readClimate
  have t_6904 := KX2.i0 k_I0
  have l_7 := il_7
  refine wq_lt (fun hc_6905 => ?_) (fun hc_6906 => ?_)
  · refine wq_b (tt_fX9_step hN I1 M1 k_I1) (fun r1_q6907 h_r1_q6907 => ?_)
    obtain ⟨h_r1_q6907_0, -⟩ := h_r1_q6907
    refine wq_b (tt_fX9_takeNumber hN r1_q6907.1 r1_q6907.2 (I0 0) (I0 0) h_r1_q6907_0) (fun r2_q6908 h_r2_q6908 => ?_)
    obtain ⟨h_r2_q6908_0, h_r2_q6908_1, h_r2_q6908_2, -⟩ := h_r2_q6908
    have l_0 := il_0
    refine wq_eq (fun hc_6909 => ?_) (fun hc_6910 => ?_)
    · exact wq_s ⟨(show 0 ≤ (0 : Int32).toInt ∧ (0 : Int32).toInt ≤ 1 from ⟨by omega, by omega⟩), k_I0, h_r2_q6908_2, trivial⟩
    · refine wq_b (tt_fX2_readRising hN I0 M0 r2_q6908.2.1 r2_q6908.2.2 k_I0 h_r2_q6908_2 (by omega)) (fun r3_q6911 h_r3_q6911 => ?_)
      obtain ⟨h_r3_q6911_0, h_r3_q6911_1, h_r3_q6911_2, h_r3_q6911_3, -⟩ := h_r3_q6911
      have t_6912 := KX2.i0 h_r3_q6911_2
      refine wq_eq (fun hc_6913 => ?_) (fun hc_6914 => ?_)
      · exact wq_s ⟨(show 0 ≤ (0 : Int32).toInt ∧ (0 : Int32).toInt ≤ 1 from ⟨by omega, by omega⟩), h_r3_q6911_2, h_r3_q6911_3, trivial⟩
      · refine wq_v (fun I0_4_q6915 h_I0_4_q6915 => ?_)
        have l_1 := il_1
        have t_6916 := ia_add (r3_q6911.2.1 0) (1 : Int32) (by omega) (by omega)
        have k_I0_4_q6915 : KX2 I0_4_q6915 r3_q6911.2.2.1 := by rw [h_I0_4_q6915]; exact KX2.si0 h_r3_q6911_2 ⟨by omega, by omega⟩
        refine wq_b (tt_fX9_takeStop hN r3_q6911.2.2.2.1 r3_q6911.2.2.2.2 h_r3_q6911_3) (fun r5_q6917 h_r5_q6917 => ?_)
        obtain ⟨h_r5_q6917_0, h_r5_q6917_1, -⟩ := h_r5_q6917
        refine wq_bz (by omega) ?_
        exact wq_s ⟨(show 0 ≤ r5_q6917.1.toInt ∧ r5_q6917.1.toInt ≤ 1 from ⟨by omega, by omega⟩), k_I0_4_q6915, h_r5_q6917_1, trivial⟩
  · have l_2 := il_2
    refine wq_b (tt_fX9_refuse hN I1 M1 (2 : Int32) k_I1) (fun r6_q6918 h_r6_q6918 => ?_)
    obtain ⟨h_r6_q6918_0, h_r6_q6918_1, -⟩ := h_r6_q6918
    refine wq_bz (by omega) ?_
    exact wq_s ⟨(show 0 ≤ r6_q6918.1.toInt ∧ r6_q6918.1.toInt ≤ 1 from ⟨by omega, by omega⟩), k_I0, h_r6_q6918_1, trivial⟩
set_option maxHeartbeats 4000000 in
theorem tt_fX2_risingAt {N : Nat} (hN : 3000000000 ≤ N) (I0 : Nat → Int32) (M0 : Nat → Nat → Int32) (x1 : Int32) (x2 : Int32) (x3 : Int32) (h_x1 : 0 ≤ x1.toInt ∧ x1.toInt ≤ 6) (h_x2 : -60 ≤ x2.toInt ∧ x2.toInt ≤ 21599) (h_x3 : 0 ≤ x3.toInt ∧ x3.toInt ≤ 359) (k_I0 : KX2 I0 M0) : wq (fX2_risingAt N I0 M0 x1 x2 x3) (fun r => True) := by
  unfold fX2_risingAt
  refine wq_b (tt_fX2_climbOf hN I0 M0 x1 x2 ⟨by omega, by omega⟩ ⟨by omega, by omega⟩ k_I0) (fun r1_q6955 h_r1_q6955 => ?_)
  obtain ⟨-⟩ := h_r1_q6955
  have b_6956 := i32b r1_q6955
  have l_18000 := il_18000
  have t_6957 := ia_mul (18000 : Int32) (18000) il_18000 x3 (by omega) (by omega)
  have l_6480000 := il_6480000
  have t_6958 := ia_rem2 (r1_q6955 + ((18000 : Int32) * x3)) (6480000 : Int32) 6480000 il_6480000 (by decide)
  refine wq_b (tt_fX2_placeOf hN I0 M0 x1 ((r1_q6955 + ((18000 : Int32) * x3)) - (((r1_q6955 + ((18000 : Int32) * x3)) / (6480000 : Int32)) * (6480000 : Int32))) ⟨by omega, by omega⟩ k_I0) (fun r2_q6959 h_r2_q6959 => ?_)
  obtain ⟨-⟩ := h_r2_q6959
  have b_6960 := i32b r2_q6959
  exact wq_s trivial
set_option maxHeartbeats 4000000 in
theorem tt_fX2_isHour {N : Nat} (hN : 3000000000 ≤ N) (I0 : Nat → Int32) (M0 : Nat → Nat → Int32) (x1 : Int32) (x2 : Int32) (x3 : Int32) (x4 : Int32) (h_x1 : 0 ≤ x1.toInt ∧ x1.toInt ≤ 6) (h_x2 : 0 ≤ x2.toInt ∧ x2.toInt ≤ 359) (h_x3 : -1 ≤ x3.toInt ∧ x3.toInt ≤ 359) (k_I0 : KX2 I0 M0) : wq (fX2_isHour N I0 M0 x1 x2 x3 x4) (fun r => (0 ≤ r.toInt ∧ r.toInt ≤ 1) ∧ True) := by
  unfold fX2_isHour
  have l_60 := il_60
  have t_7009 := ia_mul (60 : Int32) (60) il_60 x3 (by omega) (by omega)
  refine wq_b (tt_fX2_risingAt hN I0 M0 x1 ((60 : Int32) * x3) x2 ⟨by omega, by omega⟩ ⟨by omega, by omega⟩ ⟨by omega, by omega⟩ k_I0) (fun r1_q7010 h_r1_q7010 => ?_)
  obtain ⟨-⟩ := h_r1_q7010
  have b_7011 := i32b r1_q7010
  have t_7012 := i32b r1_q7010
  have t_7013 := ia_div2 r1_q7010 (60 : Int32) 60 il_60 (by decide)
  have b_7014 := i32b x4
  refine wq_eq (fun hc_7015 => ?_) (fun hc_7016 => ?_)
  · have l_1 := il_1
    exact wq_s ⟨(show 0 ≤ (1 : Int32).toInt ∧ (1 : Int32).toInt ≤ 1 from ⟨by omega, by omega⟩), trivial⟩
  · have l_0 := il_0
    exact wq_s ⟨(show 0 ≤ (0 : Int32).toInt ∧ (0 : Int32).toInt ≤ 1 from ⟨by omega, by omega⟩), trivial⟩
set_option maxHeartbeats 4000000 in
theorem tt_fX2_hasHour_L3 {N : Nat} (hN : 3000000000 ≤ N) (I0 : Nat → Int32) (M0 : Nat → Nat → Int32) (x1 : Int32) (x2 : Int32) (x3 : Int32) (h_x1 : 0 ≤ x1.toInt ∧ x1.toInt ≤ 6) (h_x2 : -1 ≤ x2.toInt ∧ x2.toInt ≤ 359) (k_I0 : KX2 I0 M0)  : ∀ (fu : Nat) (y3_4 : Int32), (0 ≤ y3_4.toInt ∧ y3_4.toInt ≤ 360) → (360 - y3_4.toInt) < (fu : Int) → wq (fX2_hasHour_L3 N I0 M0 x1 x2 x3 fu y3_4) (fun r => (0 ≤ r.toInt ∧ r.toInt ≤ 1) ∧ True) := by
  intro fu
  induction fu with
  | zero => intro y3_4 h_y3_4 hm; exfalso; omega
  | succ fu ih =>
    intro y3_4 h_y3_4 hm
    rw [fX2_hasHour_L3.eq_2]
    have l_360 := il_360
    refine wq_le (fun hc_7134 => ?_) (fun hc_7135 => ?_)
    · have l_0 := il_0
      exact wq_s ⟨(show 0 ≤ (0 : Int32).toInt ∧ (0 : Int32).toInt ≤ 1 from ⟨by omega, by omega⟩), trivial⟩
    · have b_7136 := i32b x3
      refine wq_b (tt_fX2_isHour hN I0 M0 x1 y3_4 x2 x3 ⟨by omega, by omega⟩ ⟨by omega, by omega⟩ ⟨by omega, by omega⟩ k_I0) (fun r1_q7137 h_r1_q7137 => ?_)
      obtain ⟨h_r1_q7137_0, -⟩ := h_r1_q7137
      have l_0 := il_0
      refine wq_eq (fun hc_7138 => ?_) (fun hc_7139 => ?_)
      · have l_1 := il_1
        have t_7141 := ia_add y3_4 (1 : Int32) (by omega) (by omega)
        refine wq_v (fun v2_q7140 h_v2_q7140 => ?_)
        have t_v2_q7140 := congrArg Int32.toInt h_v2_q7140
        exact ih v2_q7140 ⟨by omega, by omega⟩ (by omega)
      · have l_1 := il_1
        exact wq_s ⟨(show 0 ≤ (1 : Int32).toInt ∧ (1 : Int32).toInt ≤ 1 from ⟨by omega, by omega⟩), trivial⟩
set_option maxHeartbeats 4000000 in
theorem tt_fX2_hasHour {N : Nat} (hN : 3000000000 ≤ N) (I0 : Nat → Int32) (M0 : Nat → Nat → Int32) (x1 : Int32) (x2 : Int32) (x3 : Int32) (h_x1 : 0 ≤ x1.toInt ∧ x1.toInt ≤ 6) (h_x2 : -1 ≤ x2.toInt ∧ x2.toInt ≤ 359) (k_I0 : KX2 I0 M0) : wq (fX2_hasHour N I0 M0 x1 x2 x3) (fun r => (0 ≤ r.toInt ∧ r.toInt ≤ 1) ∧ True) := by
  unfold fX2_hasHour
  have b_7142 := i32b x3
  have l_0 := il_0
  exact tt_fX2_hasHour_L3 hN I0 M0 x1 x2 x3 ⟨by omega, by omega⟩ ⟨by omega, by omega⟩ k_I0 N (0 : Int32) ⟨by omega, by omega⟩ (by omega)
set_option maxHeartbeats 4000000 in
theorem tt_fX2_howManyHours_L5 {N : Nat} (hN : 3000000000 ≤ N) (I0 : Nat → Int32) (M0 : Nat → Nat → Int32) (x1 : Int32) (x2 : Int32) (h_x1 : 0 ≤ x1.toInt ∧ x1.toInt ≤ 359) (k_I0 : KX2 I0 M0)  : ∀ (fu : Nat) (y5_3 : Int32) (y5_4 : Int32), (0 ≤ y5_4.toInt ∧ y5_4.toInt ≤ 2520) → (2520 - y5_4.toInt) < (fu : Int) → wq (fX2_howManyHours_L5 N I0 M0 x1 x2 fu y5_3 y5_4) (fun r => True) := by
  intro fu
  induction fu with
  | zero => intro y5_3 y5_4 h_y5_4 hm; exfalso; omega
  | succ fu ih =>
    intro y5_3 y5_4 h_y5_4 hm
    rw [fX2_howManyHours_L5.eq_2]
    have t_7406 := KX2.i0 k_I0
    have l_360 := il_360
    have t_7407 := ia_mul (360 : Int32) (360) il_360 (I0 0) (by omega) (by omega)
    refine wq_le (fun hc_7408 => ?_) (fun hc_7409 => ?_)
    · have b_7410 := i32b y5_3
      exact wq_s trivial
    · have t_7411 := ia_div y5_4 (360 : Int32) 360 il_360 (by decide) (by omega)
      have t_7412 := ia_rem y5_4 (360 : Int32) 360 il_360 (by decide) (by omega)
      have b_7413 := i32b x2
      refine wq_b (tt_fX2_isHour hN I0 M0 (y5_4 / (360 : Int32)) (y5_4 - ((y5_4 / (360 : Int32)) * (360 : Int32))) x1 x2 ⟨by omega, by omega⟩ ⟨by omega, by omega⟩ ⟨by omega, by omega⟩ k_I0) (fun r1_q7414 h_r1_q7414 => ?_)
      obtain ⟨h_r1_q7414_0, -⟩ := h_r1_q7414
      have l_0 := il_0
      refine wq_eq (fun hc_7415 => ?_) (fun hc_7416 => ?_)
      · have l_1 := il_1
        have t_7418 := ia_add y5_4 (1 : Int32) (by omega) (by omega)
        refine wq_v (fun v2_q7417 h_v2_q7417 => ?_)
        have t_v2_q7417 := congrArg Int32.toInt h_v2_q7417
        have b_7419 := i32b y5_3
        exact ih y5_3 v2_q7417 ⟨by omega, by omega⟩ (by omega)
      · have b_7421 := i32b y5_3
        have l_1 := il_1
        refine wq_v (fun v3_q7420 h_v3_q7420 => ?_)
        have t_v3_q7420 := congrArg Int32.toInt h_v3_q7420
        have t_7423 := ia_add y5_4 (1 : Int32) (by omega) (by omega)
        refine wq_v (fun v4_q7422 h_v4_q7422 => ?_)
        have t_v4_q7422 := congrArg Int32.toInt h_v4_q7422
        have b_7424 := i32b v3_q7420
        exact ih v3_q7420 v4_q7422 ⟨by omega, by omega⟩ (by omega)
set_option maxHeartbeats 4000000 in
theorem tt_fX2_howManyHours {N : Nat} (hN : 3000000000 ≤ N) (I0 : Nat → Int32) (M0 : Nat → Nat → Int32) (x1 : Int32) (x2 : Int32) (h_x1 : 0 ≤ x1.toInt ∧ x1.toInt ≤ 359) (k_I0 : KX2 I0 M0) : wq (fX2_howManyHours N I0 M0 x1 x2) (fun r => True) := by
  unfold fX2_howManyHours
  have b_7425 := i32b x2
  have l_0 := il_0
  exact tt_fX2_howManyHours_L5 hN I0 M0 x1 x2 ⟨by omega, by omega⟩ k_I0 N (0 : Int32) (0 : Int32) ⟨by omega, by omega⟩ (by omega)
set_option maxHeartbeats 4000000 in
theorem tt_fX2_nthHour_L6 {N : Nat} (hN : 3000000000 ≤ N) (I0 : Nat → Int32) (M0 : Nat → Nat → Int32) (x1 : Int32) (x2 : Int32) (x3 : Int32) (h_x1 : 0 ≤ x1.toInt ∧ x1.toInt ≤ 359) (k_I0 : KX2 I0 M0)  : ∀ (fu : Nat) (y6_4 : Int32) (y6_5 : Int32), (0 ≤ y6_5.toInt ∧ y6_5.toInt ≤ 2520) → (2520 - y6_5.toInt) < (fu : Int) → wq (fX2_nthHour_L6 N I0 M0 x1 x2 x3 fu y6_4 y6_5) (fun r => (-1 ≤ r.toInt ∧ r.toInt ≤ 2519) ∧ True) := by
  intro fu
  induction fu with
  | zero => intro y6_4 y6_5 h_y6_5 hm; exfalso; omega
  | succ fu ih =>
    intro y6_4 y6_5 h_y6_5 hm
    rw [fX2_nthHour_L6.eq_2]
    have t_7728 := KX2.i0 k_I0
    have l_360 := il_360
    have t_7729 := ia_mul (360 : Int32) (360) il_360 (I0 0) (by omega) (by omega)
    refine wq_le (fun hc_7730 => ?_) (fun hc_7731 => ?_)
    · have l_m1 := il_m1
      exact wq_s ⟨(show -1 ≤ (-1 : Int32).toInt ∧ (-1 : Int32).toInt ≤ 2519 from ⟨by omega, by omega⟩), trivial⟩
    · have b_7732 := i32b y6_4
      have l_0 := il_0
      refine wq_lt (fun hc_7733 => ?_) (fun hc_7734 => ?_)
      · have l_m1 := il_m1
        exact wq_s ⟨(show -1 ≤ (-1 : Int32).toInt ∧ (-1 : Int32).toInt ≤ 2519 from ⟨by omega, by omega⟩), trivial⟩
      · have t_7735 := ia_div y6_5 (360 : Int32) 360 il_360 (by decide) (by omega)
        have t_7736 := ia_rem y6_5 (360 : Int32) 360 il_360 (by decide) (by omega)
        have b_7737 := i32b x2
        refine wq_b (tt_fX2_isHour hN I0 M0 (y6_5 / (360 : Int32)) (y6_5 - ((y6_5 / (360 : Int32)) * (360 : Int32))) x1 x2 ⟨by omega, by omega⟩ ⟨by omega, by omega⟩ ⟨by omega, by omega⟩ k_I0) (fun r1_q7738 h_r1_q7738 => ?_)
        obtain ⟨h_r1_q7738_0, -⟩ := h_r1_q7738
        refine wq_eq (fun hc_7739 => ?_) (fun hc_7740 => ?_)
        · have l_1 := il_1
          have t_7742 := ia_add y6_5 (1 : Int32) (by omega) (by omega)
          refine wq_v (fun v2_q7741 h_v2_q7741 => ?_)
          have t_v2_q7741 := congrArg Int32.toInt h_v2_q7741
          exact ih y6_4 v2_q7741 ⟨by omega, by omega⟩ (by omega)
        · refine wq_eq (fun hc_7743 => ?_) (fun hc_7744 => ?_)
          · exact wq_s ⟨(show -1 ≤ y6_5.toInt ∧ y6_5.toInt ≤ 2519 from ⟨by omega, by omega⟩), trivial⟩
          · have l_m1 := il_m1
            have t_7746 := ia_add y6_4 ((-1) : Int32) (by omega) (by omega)
            refine wq_v (fun v3_q7745 h_v3_q7745 => ?_)
            have t_v3_q7745 := congrArg Int32.toInt h_v3_q7745
            have l_1 := il_1
            have t_7748 := ia_add y6_5 (1 : Int32) (by omega) (by omega)
            refine wq_v (fun v4_q7747 h_v4_q7747 => ?_)
            have t_v4_q7747 := congrArg Int32.toInt h_v4_q7747
            exact ih v3_q7745 v4_q7747 ⟨by omega, by omega⟩ (by omega)
set_option maxHeartbeats 4000000 in
theorem tt_fX2_nthHour {N : Nat} (hN : 3000000000 ≤ N) (I0 : Nat → Int32) (M0 : Nat → Nat → Int32) (x1 : Int32) (x2 : Int32) (x3 : Int32) (h_x1 : 0 ≤ x1.toInt ∧ x1.toInt ≤ 359) (k_I0 : KX2 I0 M0) : wq (fX2_nthHour N I0 M0 x1 x2 x3) (fun r => (-1 ≤ r.toInt ∧ r.toInt ≤ 2519) ∧ True) := by
  unfold fX2_nthHour
  have b_7749 := i32b x2
  have b_7750 := i32b x3
  have l_0 := il_0
  exact tt_fX2_nthHour_L6 hN I0 M0 x1 x2 x3 ⟨by omega, by omega⟩ k_I0 N x3 (0 : Int32) ⟨by omega, by omega⟩ (by omega)
theorem tt_fJ9_floorDiv_f86c9 {N : Nat} (hN : 3000000000 ≤ N) (x0 : Int64) (x1 : Int64) (hr_0 : x1 ≠ 0) : wq (fJ9_floorDiv_f86c9 N x0 x1) (fun r => True) := by
  unfold fJ9_floorDiv_f86c9
  refine wq_n hr_0 (wq_v (fun v1 e1 => ?_))
  refine wq_i (fun _ => wq_s trivial) (fun _ => wq_i (fun _ => wq_s trivial) (fun _ => wq_s trivial))
theorem i64nz {v : Int32} (h : v.toInt ≠ 0) : v.toInt64 ≠ 0 := by
  intro q
  apply h
  rw [← Int32.toInt_toInt64 v, q]
  rfl
theorem tt_fX5_swingOn {N : Nat} (hN : 3000000000 ≤ N) (I0 : Nat → Int32) (M0 : Nat → Nat → Int32) (x1 : Int32) (x2 : Int32) (h_x1 : 0 ≤ x1.toInt ∧ x1.toInt ≤ 27) (k_I0 : KX5 I0 M0) : wq (fX5_swingOn N I0 M0 x1 x2) (fun r => True) := by
  unfold fX5_swingOn
  have l_0 := il_0
  have l_1 := il_1
  refine wq_in (n := 28) ⟨by omega, by omega⟩ (wq_v (fun v1 e1 => ?_))
  refine wq_in (n := 28) ⟨by omega, by omega⟩ ?_
  refine wq_i (fun _ => wq_s trivial) (fun _ => ?_)
  refine wq_le (fun hc => ?_) (fun hc => wq_s trivial)
  refine wq_nz (by omega) (wq_v (fun v2 e2 => wq_v (fun v3 e3 => ?_)))
  refine wq_in (n := 28) ⟨by omega, by omega⟩ ?_
  exact wq_b (tt_fJ9_floorDiv_f86c9 hN _ _ (i64nz (by omega))) (fun r4 _ => wq_s trivial)
theorem tt_fJ9_floorMod_f86c9 {N : Nat} (hN : 3000000000 ≤ N) (x0 : Int64) (x1 : Int64) (hr_0 : x1 ≠ 0) : wq (fJ9_floorMod_f86c9 N x0 x1) (fun r => True) := by
  unfold fJ9_floorMod_f86c9
  refine wq_n hr_0 (wq_v (fun v1 e1 => ?_))
  refine wq_i (fun _ => wq_s trivial) (fun _ => wq_i (fun _ => wq_s trivial) (fun _ => wq_s trivial))
theorem tt_fX5_placeOn {N : Nat} (hN : 3000000000 ≤ N) (I0 : Nat → Int32) (M0 : Nat → Nat → Int32) (x1 : Int32) (x2 : Int32) (x3 : Int32) (h_x1 : 0 ≤ x1.toInt ∧ x1.toInt ≤ 3) (h_x2 : 0 ≤ x2.toInt ∧ x2.toInt ≤ 6) (k_I0 : KX5 I0 M0) : wq (fX5_placeOn N I0 M0 x1 x2 x3) (fun r => True) := by
  unfold fX5_placeOn
  have l_7 := il_7
  have ta := ia_mul (7 : Int32) 7 il_7 x1 (by omega) (by omega)
  have tb := ia_add ((7 : Int32) * x1) x2 (by omega) (by omega)
  refine wq_v (fun v1 e1 => ?_)
  have tv := congrArg Int32.toInt e1
  refine wq_in (n := 28) ⟨by omega, by omega⟩ (wq_v (fun v2 e2 => ?_))
  refine wq_in (n := 28) ⟨by omega, by omega⟩ ?_
  refine wq_b (tt_fX5_swingOn hN I0 M0 v1 x3 ⟨by omega, by omega⟩ k_I0) (fun r3 _ => ?_)
  exact wq_b (tt_fJ9_floorMod_f86c9 hN _ _ (by decide)) (fun r4 _ => wq_s trivial)
set_option maxHeartbeats 4000000 in
theorem tt_fX5_degreeOn {N : Nat} (hN : 3000000000 ≤ N) (I0 : Nat → Int32) (M0 : Nat → Nat → Int32) (x1 : Int32) (x2 : Int32) (x3 : Int32) (h_x1 : 0 ≤ x1.toInt ∧ x1.toInt ≤ 3) (h_x2 : 0 ≤ x2.toInt ∧ x2.toInt ≤ 6) (k_I0 : KX5 I0 M0) : wq (fX5_degreeOn N I0 M0 x1 x2 x3) (fun r => (-35791394 ≤ r.toInt ∧ r.toInt ≤ 35791394) ∧ True) := by
  unfold fX5_degreeOn
  have b_7781 := i32b x3
  refine wq_b (tt_fX5_placeOn hN I0 M0 x1 x2 x3 ⟨by omega, by omega⟩ ⟨by omega, by omega⟩ k_I0) (fun r1_q7782 h_r1_q7782 => ?_)
  obtain ⟨-⟩ := h_r1_q7782
  have b_7783 := i32b r1_q7782
  have l_60 := il_60
  have t_7784 := i32b r1_q7782
  have t_7785 := ia_div2 r1_q7782 (60 : Int32) 60 il_60 (by decide)
  exact wq_s ⟨(show -35791394 ≤ (r1_q7782 / (60 : Int32)).toInt ∧ (r1_q7782 / (60 : Int32)).toInt ≤ 35791394 from ⟨by omega, by omega⟩), trivial⟩
set_option maxHeartbeats 4000000 in
theorem tt_fX3_costOn_L37 {N : Nat} (hN : 3000000000 ≤ N) (I0 : Nat → Int32) (M0 : Nat → Nat → Int32) (I1 : Nat → Int32) (M1 : Nat → Nat → Int32) (x2 : Int32) (x3 : Int32) (x4 : Int32) (x5 : Int32) (h_x2 : 0 ≤ x2.toInt ∧ x2.toInt ≤ 119) (h_x3 : 0 ≤ x3.toInt ∧ x3.toInt ≤ 3) (h_x4 : 0 ≤ x4.toInt ∧ x4.toInt ≤ 1000001) (k_I0 : KX5 I0 M0) (k_I1 : KX1 I1 M1)  : ∀ (fu : Nat) (y37_7 : Int32) (y37_8 : Int32), (0 ≤ y37_8.toInt ∧ y37_8.toInt ≤ 7) → (7 - y37_8.toInt) < (fu : Int) → wq (fX3_costOn_L37 N I0 M0 I1 M1 x2 x3 x4 x5 fu y37_7 y37_8) (fun r => True) := by
  intro fu
  induction fu with
  | zero => intro y37_7 y37_8 h_y37_8 hm; exfalso; omega
  | succ fu ih =>
    intro y37_7 y37_8 h_y37_8 hm
    rw [fX3_costOn_L37.eq_2]
    have l_7 := il_7
    refine wq_le (fun hc_8150 => ?_) (fun hc_8151 => ?_)
    · have b_8152 := i32b y37_7
      exact wq_s trivial
    · have b_8153 := i32b x5
      have b_8154 := i32b y37_7
      refine wq_lt (fun hc_8155 => ?_) (fun hc_8156 => ?_)
      · exact wq_s trivial
      · refine wq_b (tt_fX1_degreeOf hN I1 M1 x2 y37_8 ⟨by omega, by omega⟩ ⟨by omega, by omega⟩ k_I1) (fun r1_q8157 h_r1_q8157 => ?_)
        obtain ⟨h_r1_q8157_0, h_r1_q8157_1, -⟩ := h_r1_q8157
        have l_m1 := il_m1
        refine wq_eq (fun hc_8158 => ?_) (fun hc_8159 => ?_)
        · have l_1 := il_1
          have t_8161 := ia_add y37_8 (1 : Int32) (by omega) (by omega)
          refine wq_v (fun v2_q8160 h_v2_q8160 => ?_)
          have t_v2_q8160 := congrArg Int32.toInt h_v2_q8160
          exact ih y37_7 v2_q8160 ⟨by omega, by omega⟩ (by omega)
        · refine wq_b (tt_fX5_degreeOn hN I0 M0 x3 y37_8 x4 ⟨by omega, by omega⟩ ⟨by omega, by omega⟩ k_I0) (fun r3_q8162 h_r3_q8162 => ?_)
          obtain ⟨h_r3_q8162_0, -⟩ := h_r3_q8162
          refine wq_b (tt_fX4_costBeside hN (wb_sh I0 1) (wb_sh M0 5) r1_q8157 r3_q8162 ⟨by omega, by omega⟩) (fun r4_q8163 h_r4_q8163 => ?_)
          obtain ⟨h_r4_q8163_0, -⟩ := h_r4_q8163
          refine wq_v (fun v5_q8164 h_v5_q8164 => ?_)
          have t_v5_q8164 := congrArg Int32.toInt h_v5_q8164
          have l_1 := il_1
          have t_8166 := ia_add y37_8 (1 : Int32) (by omega) (by omega)
          refine wq_v (fun v6_q8165 h_v6_q8165 => ?_)
          have t_v6_q8165 := congrArg Int32.toInt h_v6_q8165
          have b_8167 := i32b v5_q8164
          exact ih v5_q8164 v6_q8165 ⟨by omega, by omega⟩ (by omega)
set_option maxHeartbeats 4000000 in
theorem tt_fX3_costOn {N : Nat} (hN : 3000000000 ≤ N) (I0 : Nat → Int32) (M0 : Nat → Nat → Int32) (I1 : Nat → Int32) (M1 : Nat → Nat → Int32) (x2 : Int32) (x3 : Int32) (x4 : Int32) (x5 : Int32) (h_x2 : 0 ≤ x2.toInt ∧ x2.toInt ≤ 119) (h_x3 : 0 ≤ x3.toInt ∧ x3.toInt ≤ 3) (h_x4 : 0 ≤ x4.toInt ∧ x4.toInt ≤ 1000001) (k_I0 : KX5 I0 M0) (k_I1 : KX1 I1 M1) : wq (fX3_costOn N I0 M0 I1 M1 x2 x3 x4 x5) (fun r => True) := by
  unfold fX3_costOn
  have l_21 := il_21
  refine wq_b (tt_fX1_degreeOf hN I1 M1 x2 (21 : Int32) ⟨by omega, by omega⟩ ⟨by omega, by omega⟩ k_I1) (fun r7_q8168 h_r7_q8168 => ?_)
  obtain ⟨h_r7_q8168_0, h_r7_q8168_1, -⟩ := h_r7_q8168
  have l_m1 := il_m1
  refine wq_eq (fun hc_8169 => ?_) (fun hc_8170 => ?_)
  · unfold fX3_costOn_J31
    unfold fX3_costOn_J32
    have b_8171 := i32b x5
    have l_0 := il_0
    exact tt_fX3_costOn_L37 hN I0 M0 I1 M1 x2 x3 x4 x5 ⟨by omega, by omega⟩ ⟨by omega, by omega⟩ ⟨by omega, by omega⟩ k_I0 k_I1 N (0 : Int32) (0 : Int32) ⟨by omega, by omega⟩ (by omega)
  · have l_365 := il_365
    have t_8172 := ia_rem x4 (365 : Int32) 365 il_365 (by decide) (by omega)
    refine wq_eq (fun hc_8173 => ?_) (fun hc_8174 => ?_)
    · unfold fX3_costOn_J31
      unfold fX3_costOn_J32
      have b_8175 := i32b x5
      have l_0 := il_0
      exact tt_fX3_costOn_L37 hN I0 M0 I1 M1 x2 x3 x4 x5 ⟨by omega, by omega⟩ ⟨by omega, by omega⟩ ⟨by omega, by omega⟩ k_I0 k_I1 N (0 : Int32) (0 : Int32) ⟨by omega, by omega⟩ (by omega)
    · unfold fX3_costOn_J32
      have b_8176 := i32b x5
      have l_30 := il_30
      have l_0 := il_0
      exact tt_fX3_costOn_L37 hN I0 M0 I1 M1 x2 x3 x4 x5 ⟨by omega, by omega⟩ ⟨by omega, by omega⟩ ⟨by omega, by omega⟩ k_I0 k_I1 N (30 : Int32) (0 : Int32) ⟨by omega, by omega⟩ (by omega)
set_option maxHeartbeats 4000000 in
theorem tt_fX3_setsAt_L6 {N : Nat} (hN : 3000000000 ≤ N) (I0 : Nat → Int32) (M0 : Nat → Nat → Int32) (x1 : Int32) (x2 : Int32) (x3 : Int32) (h_x2 : 0 ≤ x2.toInt ∧ x2.toInt ≤ 6) (k_I0 : KX5 I0 M0)  : ∀ (fu : Nat) (y6_4 : Int32) (y6_5 : Int32), (0 ≤ y6_4.toInt ∧ y6_4.toInt ≤ 255) → (0 ≤ y6_5.toInt ∧ y6_5.toInt ≤ 4) → (4 - y6_5.toInt) < (fu : Int) → wq (fX3_setsAt_L6 N I0 M0 x1 x2 x3 fu y6_4 y6_5) (fun r => (0 ≤ r.toInt ∧ r.toInt ≤ 255) ∧ True) := by
  intro fu
  induction fu with
  | zero => intro y6_4 y6_5 h_y6_4 h_y6_5 hm; exfalso; omega
  | succ fu ih =>
    intro y6_4 y6_5 h_y6_4 h_y6_5 hm
    rw [fX3_setsAt_L6.eq_2]
    have l_4 := il_4
    refine wq_le (fun hc_8327 => ?_) (fun hc_8328 => ?_)
    · exact wq_s ⟨(show 0 ≤ y6_4.toInt ∧ y6_4.toInt ≤ 255 from ⟨by omega, by omega⟩), trivial⟩
    · have b_8329 := i32b x3
      refine wq_b (tt_fX5_degreeOn hN I0 M0 y6_5 x2 x3 ⟨by omega, by omega⟩ ⟨by omega, by omega⟩ k_I0) (fun r1_q8330 h_r1_q8330 => ?_)
      obtain ⟨h_r1_q8330_0, -⟩ := h_r1_q8330
      have b_8331 := i32b x1
      refine wq_eq (fun hc_8332 => ?_) (fun hc_8333 => ?_)
      · have t_8335 := or_sh y6_4 y6_5 ⟨by omega, by omega⟩ ⟨by omega, by omega⟩
        refine wq_v (fun v3_q8334 h_v3_q8334 => ?_)
        have t_v3_q8334 := congrArg Int32.toInt h_v3_q8334
        have l_1 := il_1
        have t_8337 := ia_add y6_5 (1 : Int32) (by omega) (by omega)
        refine wq_v (fun v4_q8336 h_v4_q8336 => ?_)
        have t_v4_q8336 := congrArg Int32.toInt h_v4_q8336
        exact ih v3_q8334 v4_q8336 ⟨by omega, by omega⟩ ⟨by omega, by omega⟩ (by omega)
      · have l_1 := il_1
        have t_8339 := ia_add y6_5 (1 : Int32) (by omega) (by omega)
        refine wq_v (fun v2_q8338 h_v2_q8338 => ?_)
        have t_v2_q8338 := congrArg Int32.toInt h_v2_q8338
        exact ih y6_4 v2_q8338 ⟨by omega, by omega⟩ ⟨by omega, by omega⟩ (by omega)
set_option maxHeartbeats 4000000 in
theorem tt_fX3_setsAt {N : Nat} (hN : 3000000000 ≤ N) (I0 : Nat → Int32) (M0 : Nat → Nat → Int32) (x1 : Int32) (x2 : Int32) (x3 : Int32) (h_x2 : 0 ≤ x2.toInt ∧ x2.toInt ≤ 6) (k_I0 : KX5 I0 M0) : wq (fX3_setsAt N I0 M0 x1 x2 x3) (fun r => (0 ≤ r.toInt ∧ r.toInt ≤ 255) ∧ True) := by
  unfold fX3_setsAt
  have b_8340 := i32b x1
  have b_8341 := i32b x3
  have l_0 := il_0
  exact tt_fX3_setsAt_L6 hN I0 M0 x1 x2 x3 ⟨by omega, by omega⟩ k_I0 N (0 : Int32) (0 : Int32) ⟨by omega, by omega⟩ ⟨by omega, by omega⟩ (by omega)
set_option maxHeartbeats 4000000 in
theorem tt_fX3_isMixed_L7 {N : Nat} (hN : 3000000000 ≤ N) (I0 : Nat → Int32) (M0 : Nat → Nat → Int32) (I1 : Nat → Int32) (M1 : Nat → Nat → Int32) (x2 : Int32) (x3 : Int32) (h_x2 : 0 ≤ x2.toInt ∧ x2.toInt ≤ 119) (k_I0 : KX5 I0 M0) (k_I1 : KX1 I1 M1)  : ∀ (fu : Nat) (y7_4 : Int32) (y7_5 : Int32), (0 ≤ y7_5.toInt ∧ y7_5.toInt ≤ 7) → (7 - y7_5.toInt) < (fu : Int) → wq (fX3_isMixed_L7 N I0 M0 I1 M1 x2 x3 fu y7_4 y7_5) (fun r => (0 ≤ r.toInt ∧ r.toInt ≤ 1) ∧ True) := by
  intro fu
  induction fu with
  | zero => intro y7_4 y7_5 h_y7_5 hm; exfalso; omega
  | succ fu ih =>
    intro y7_4 y7_5 h_y7_5 hm
    rw [fX3_isMixed_L7.eq_2]
    have l_7 := il_7
    refine wq_le (fun hc_8546 => ?_) (fun hc_8547 => ?_)
    · have b_8548 := i32b y7_4
      have l_0 := il_0
      refine wq_eq (fun hc_8549 => ?_) (fun hc_8550 => ?_)
      · have l_1 := il_1
        exact wq_s ⟨(show 0 ≤ (1 : Int32).toInt ∧ (1 : Int32).toInt ≤ 1 from ⟨by omega, by omega⟩), trivial⟩
      · exact wq_s ⟨(show 0 ≤ (0 : Int32).toInt ∧ (0 : Int32).toInt ≤ 1 from ⟨by omega, by omega⟩), trivial⟩
    · refine wq_b (tt_fX1_degreeOf hN I1 M1 x2 y7_5 ⟨by omega, by omega⟩ ⟨by omega, by omega⟩ k_I1) (fun r1_q8551 h_r1_q8551 => ?_)
      obtain ⟨h_r1_q8551_0, h_r1_q8551_1, -⟩ := h_r1_q8551
      have l_m1 := il_m1
      refine wq_eq (fun hc_8552 => ?_) (fun hc_8553 => ?_)
      · have l_1 := il_1
        have t_8555 := ia_add y7_5 (1 : Int32) (by omega) (by omega)
        refine wq_v (fun v2_q8554 h_v2_q8554 => ?_)
        have t_v2_q8554 := congrArg Int32.toInt h_v2_q8554
        have b_8556 := i32b y7_4
        exact ih y7_4 v2_q8554 ⟨by omega, by omega⟩ (by omega)
      · have b_8557 := i32b x3
        refine wq_b (tt_fX3_setsAt hN I0 M0 r1_q8551 y7_5 x3 ⟨by omega, by omega⟩ k_I0) (fun r3_q8558 h_r3_q8558 => ?_)
        obtain ⟨h_r3_q8558_0, -⟩ := h_r3_q8558
        have l_0 := il_0
        refine wq_eq (fun hc_8559 => ?_) (fun hc_8560 => ?_)
        · exact wq_s ⟨(show 0 ≤ (0 : Int32).toInt ∧ (0 : Int32).toInt ≤ 1 from ⟨by omega, by omega⟩), trivial⟩
        · refine wq_v (fun v4_q8561 h_v4_q8561 => ?_)
          have t_v4_q8561 := congrArg Int32.toInt h_v4_q8561
          have l_1 := il_1
          have t_8563 := ia_add y7_5 (1 : Int32) (by omega) (by omega)
          refine wq_v (fun v5_q8562 h_v5_q8562 => ?_)
          have t_v5_q8562 := congrArg Int32.toInt h_v5_q8562
          have b_8564 := i32b v4_q8561
          exact ih v4_q8561 v5_q8562 ⟨by omega, by omega⟩ (by omega)
set_option maxHeartbeats 4000000 in
theorem tt_fX3_isMixed {N : Nat} (hN : 3000000000 ≤ N) (I0 : Nat → Int32) (M0 : Nat → Nat → Int32) (I1 : Nat → Int32) (M1 : Nat → Nat → Int32) (x2 : Int32) (x3 : Int32) (h_x2 : 0 ≤ x2.toInt ∧ x2.toInt ≤ 119) (k_I0 : KX5 I0 M0) (k_I1 : KX1 I1 M1) : wq (fX3_isMixed N I0 M0 I1 M1 x2 x3) (fun r => (0 ≤ r.toInt ∧ r.toInt ≤ 1) ∧ True) := by
  unfold fX3_isMixed
  have b_8565 := i32b x3
  have l_15 := il_15
  have l_0 := il_0
  exact tt_fX3_isMixed_L7 hN I0 M0 I1 M1 x2 x3 ⟨by omega, by omega⟩ k_I0 k_I1 N (15 : Int32) (0 : Int32) ⟨by omega, by omega⟩ (by omega)
set_option maxHeartbeats 4000000 in
theorem tt_fX3_setSharers_L3 {N : Nat} (hN : 3000000000 ≤ N) (I1 : Nat → Int32) (M1 : Nat → Nat → Int32) (I2 : Nat → Int32) (M2 : Nat → Nat → Int32) (x3 : Int32) (x4 : Int32) (h_x3 : 0 ≤ x3.toInt ∧ x3.toInt ≤ 119) (k_I1 : KX5 I1 M1) (k_I2 : KX1 I2 M2)  : ∀ (fu : Nat) (I0_l3 : (Nat → Int32)) (M0_l3 : (Nat → Nat → Int32)) (y3_5 : Int32), (0 ≤ y3_5.toInt ∧ y3_5.toInt ≤ 7) → (7 - y3_5.toInt) < (fu : Int) → wq (fX3_setSharers_L3 N I1 M1 I2 M2 x3 x4 fu I0_l3 M0_l3 y3_5) (fun r => True) := by
  intro fu
  induction fu with
  | zero => intro I0_l3 M0_l3 y3_5 h_y3_5 hm; exfalso; omega
  | succ fu ih =>
    intro I0_l3 M0_l3 y3_5 h_y3_5 hm
    rw [fX3_setSharers_L3.eq_2]
    have l_7 := il_7
    refine wq_le (fun hc_8806 => ?_) (fun hc_8807 => ?_)
    · exact wq_s trivial
    · refine wq_b (tt_fX1_degreeOf hN I2 M2 x3 y3_5 ⟨by omega, by omega⟩ ⟨by omega, by omega⟩ k_I2) (fun r5_q8808 h_r5_q8808 => ?_)
      obtain ⟨h_r5_q8808_0, h_r5_q8808_1, -⟩ := h_r5_q8808
      have l_m1 := il_m1
      refine wq_eq (fun hc_8809 => ?_) (fun hc_8810 => ?_)
      · unfold fX3_setSharers_J39
        have l_1 := il_1
        refine wq_eq (fun hc_8811 => ?_) (fun hc_8812 => ?_)
        · refine wq_in (n := 7) ⟨by omega, by omega⟩ ?_
          refine wq_v (fun M0_3_q8813 h_M0_3_q8813 => ?_)
          have t_8815 := ia_add y3_5 (1 : Int32) (by omega) (by omega)
          refine wq_v (fun v4_q8814 h_v4_q8814 => ?_)
          have t_v4_q8814 := congrArg Int32.toInt h_v4_q8814
          exact ih I0_l3 M0_3_q8813 v4_q8814 ⟨by omega, by omega⟩ (by omega)
        · refine wq_in (n := 7) ⟨by omega, by omega⟩ ?_
          refine wq_v (fun M0_1_q8816 h_M0_1_q8816 => ?_)
          have t_8818 := ia_add y3_5 (1 : Int32) (by omega) (by omega)
          refine wq_v (fun v2_q8817 h_v2_q8817 => ?_)
          have t_v2_q8817 := congrArg Int32.toInt h_v2_q8817
          exact ih I0_l3 M0_1_q8816 v2_q8817 ⟨by omega, by omega⟩ (by omega)
      · have b_8819 := i32b x4
        refine wq_b (tt_fX3_setsAt hN I1 M1 r5_q8808 y3_5 x4 ⟨by omega, by omega⟩ k_I1) (fun r6_q8820 h_r6_q8820 => ?_)
        obtain ⟨h_r6_q8820_0, -⟩ := h_r6_q8820
        unfold fX3_setSharers_J39
        have l_1 := il_1
        refine wq_eq (fun hc_8821 => ?_) (fun hc_8822 => ?_)
        · refine wq_in (n := 7) ⟨by omega, by omega⟩ ?_
          refine wq_v (fun M0_3_q8823 h_M0_3_q8823 => ?_)
          have t_8825 := ia_add y3_5 (1 : Int32) (by omega) (by omega)
          refine wq_v (fun v4_q8824 h_v4_q8824 => ?_)
          have t_v4_q8824 := congrArg Int32.toInt h_v4_q8824
          exact ih I0_l3 M0_3_q8823 v4_q8824 ⟨by omega, by omega⟩ (by omega)
        · refine wq_in (n := 7) ⟨by omega, by omega⟩ ?_
          refine wq_v (fun M0_1_q8826 h_M0_1_q8826 => ?_)
          have t_8828 := ia_add y3_5 (1 : Int32) (by omega) (by omega)
          refine wq_v (fun v2_q8827 h_v2_q8827 => ?_)
          have t_v2_q8827 := congrArg Int32.toInt h_v2_q8827
          exact ih I0_l3 M0_1_q8826 v2_q8827 ⟨by omega, by omega⟩ (by omega)
set_option maxHeartbeats 4000000 in
theorem tt_fX3_setSharers {N : Nat} (hN : 3000000000 ≤ N) (I0 : Nat → Int32) (M0 : Nat → Nat → Int32) (I1 : Nat → Int32) (M1 : Nat → Nat → Int32) (I2 : Nat → Int32) (M2 : Nat → Nat → Int32) (x3 : Int32) (x4 : Int32) (h_x3 : 0 ≤ x3.toInt ∧ x3.toInt ≤ 119) (k_I1 : KX5 I1 M1) (k_I2 : KX1 I2 M2) : wq (fX3_setSharers N I0 M0 I1 M1 I2 M2 x3 x4) (fun r => True) := by
  unfold fX3_setSharers
  have b_8829 := i32b x4
  have l_0 := il_0
  exact tt_fX3_setSharers_L3 hN I1 M1 I2 M2 x3 x4 ⟨by omega, by omega⟩ k_I1 k_I2 N I0 M0 (0 : Int32) ⟨by omega, by omega⟩ (by omega)
set_option maxHeartbeats 4000000 in
theorem tt_fX3_isShared {N : Nat} (hN : 3000000000 ≤ N) (I0 : Nat → Int32) (M0 : Nat → Nat → Int32) (x1 : Int32) (x2 : Int32) (h_x1 : 0 ≤ x1.toInt ∧ x1.toInt ≤ 6) : wq (fX3_isShared N I0 M0 x1 x2) (fun r => (0 ≤ r.toInt ∧ r.toInt ≤ 1) ∧ True) := by
  unfold fX3_isShared
  refine wq_in (n := 7) ⟨by omega, by omega⟩ ?_
  have l_m1 := il_m1
  refine wq_eq (fun hc_8854 => ?_) (fun hc_8855 => ?_)
  · have l_0 := il_0
    exact wq_s ⟨(show 0 ≤ (0 : Int32).toInt ∧ (0 : Int32).toInt ≤ 1 from ⟨by omega, by omega⟩), trivial⟩
  · refine wq_in (n := 7) ⟨by omega, by omega⟩ ?_
    have l_1 := il_1
    refine wq_eq (fun hc_8856 => ?_) (fun hc_8857 => ?_)
    · exact wq_s ⟨(show 0 ≤ (1 : Int32).toInt ∧ (1 : Int32).toInt ≤ 1 from ⟨by omega, by omega⟩), trivial⟩
    · have l_0 := il_0
      exact wq_s ⟨(show 0 ≤ (0 : Int32).toInt ∧ (0 : Int32).toInt ≤ 1 from ⟨by omega, by omega⟩), trivial⟩
set_option maxHeartbeats 4000000 in
theorem tt_fX3_howManyErrors_L4 {N : Nat} (hN : 3000000000 ≤ N) (I0 : Nat → Int32) (M0 : Nat → Nat → Int32)   : ∀ (fu : Nat) (y4_1 : Int32) (y4_2 : Int32), (0 ≤ y4_2.toInt ∧ y4_2.toInt ≤ 7) → (7 - y4_2.toInt) < (fu : Int) → wq (fX3_howManyErrors_L4 N I0 M0 fu y4_1 y4_2) (fun r => True) := by
  intro fu
  induction fu with
  | zero => intro y4_1 y4_2 h_y4_2 hm; exfalso; omega
  | succ fu ih =>
    intro y4_1 y4_2 h_y4_2 hm
    rw [fX3_howManyErrors_L4.eq_2]
    have l_7 := il_7
    refine wq_le (fun hc_9019 => ?_) (fun hc_9020 => ?_)
    · have b_9021 := i32b y4_1
      exact wq_s trivial
    · refine wq_in (n := 7) ⟨by omega, by omega⟩ ?_
      have l_m1 := il_m1
      refine wq_eq (fun hc_9022 => ?_) (fun hc_9023 => ?_)
      · have l_1 := il_1
        have t_9025 := ia_add y4_2 (1 : Int32) (by omega) (by omega)
        refine wq_v (fun v1_q9024 h_v1_q9024 => ?_)
        have t_v1_q9024 := congrArg Int32.toInt h_v1_q9024
        have b_9026 := i32b y4_1
        exact ih y4_1 v1_q9024 ⟨by omega, by omega⟩ (by omega)
      · have b_9028 := i32b y4_1
        have l_1 := il_1
        refine wq_v (fun v2_q9027 h_v2_q9027 => ?_)
        have t_v2_q9027 := congrArg Int32.toInt h_v2_q9027
        have t_9030 := ia_add y4_2 (1 : Int32) (by omega) (by omega)
        refine wq_v (fun v3_q9029 h_v3_q9029 => ?_)
        have t_v3_q9029 := congrArg Int32.toInt h_v3_q9029
        have b_9031 := i32b v2_q9027
        exact ih v2_q9027 v3_q9029 ⟨by omega, by omega⟩ (by omega)
set_option maxHeartbeats 4000000 in
theorem tt_fX3_howManyErrors {N : Nat} (hN : 3000000000 ≤ N) (I0 : Nat → Int32) (M0 : Nat → Nat → Int32)  : wq (fX3_howManyErrors N I0 M0) (fun r => True) := by
  unfold fX3_howManyErrors
  have l_0 := il_0
  exact tt_fX3_howManyErrors_L4 hN I0 M0 N (0 : Int32) (0 : Int32) ⟨by omega, by omega⟩ (by omega)
set_option maxHeartbeats 4000000 in
theorem tt_fX3_howManyShared_L4 {N : Nat} (hN : 3000000000 ≤ N) (I0 : Nat → Int32) (M0 : Nat → Nat → Int32) (x1 : Int32)   : ∀ (fu : Nat) (y4_2 : Int32) (y4_3 : Int32), (0 ≤ y4_3.toInt ∧ y4_3.toInt ≤ 7) → (7 - y4_3.toInt) < (fu : Int) → wq (fX3_howManyShared_L4 N I0 M0 x1 fu y4_2 y4_3) (fun r => True) := by
  intro fu
  induction fu with
  | zero => intro y4_2 y4_3 h_y4_3 hm; exfalso; omega
  | succ fu ih =>
    intro y4_2 y4_3 h_y4_3 hm
    rw [fX3_howManyShared_L4.eq_2]
    have l_7 := il_7
    refine wq_le (fun hc_9235 => ?_) (fun hc_9236 => ?_)
    · have b_9237 := i32b y4_2
      exact wq_s trivial
    · have b_9238 := i32b x1
      refine wq_b (tt_fX3_isShared hN I0 M0 y4_3 x1 ⟨by omega, by omega⟩) (fun r1_q9239 h_r1_q9239 => ?_)
      obtain ⟨h_r1_q9239_0, -⟩ := h_r1_q9239
      have l_0 := il_0
      refine wq_eq (fun hc_9240 => ?_) (fun hc_9241 => ?_)
      · have l_1 := il_1
        have t_9243 := ia_add y4_3 (1 : Int32) (by omega) (by omega)
        refine wq_v (fun v2_q9242 h_v2_q9242 => ?_)
        have t_v2_q9242 := congrArg Int32.toInt h_v2_q9242
        have b_9244 := i32b y4_2
        exact ih y4_2 v2_q9242 ⟨by omega, by omega⟩ (by omega)
      · have b_9246 := i32b y4_2
        have l_1 := il_1
        refine wq_v (fun v3_q9245 h_v3_q9245 => ?_)
        have t_v3_q9245 := congrArg Int32.toInt h_v3_q9245
        have t_9248 := ia_add y4_3 (1 : Int32) (by omega) (by omega)
        refine wq_v (fun v4_q9247 h_v4_q9247 => ?_)
        have t_v4_q9247 := congrArg Int32.toInt h_v4_q9247
        have b_9249 := i32b v3_q9245
        exact ih v3_q9245 v4_q9247 ⟨by omega, by omega⟩ (by omega)
set_option maxHeartbeats 4000000 in
theorem tt_fX3_howManyShared {N : Nat} (hN : 3000000000 ≤ N) (I0 : Nat → Int32) (M0 : Nat → Nat → Int32) (x1 : Int32)  : wq (fX3_howManyShared N I0 M0 x1) (fun r => True) := by
  unfold fX3_howManyShared
  have b_9250 := i32b x1
  have l_0 := il_0
  exact tt_fX3_howManyShared_L4 hN I0 M0 x1 N (0 : Int32) (0 : Int32) ⟨by omega, by omega⟩ (by omega)
set_option maxHeartbeats 4000000 in
theorem tt_fX3_howManyAlone_L4 {N : Nat} (hN : 3000000000 ≤ N) (I0 : Nat → Int32) (M0 : Nat → Nat → Int32) (x1 : Int32)   : ∀ (fu : Nat) (y4_2 : Int32) (y4_3 : Int32), (0 ≤ y4_3.toInt ∧ y4_3.toInt ≤ 7) → (7 - y4_3.toInt) < (fu : Int) → wq (fX3_howManyAlone_L4 N I0 M0 x1 fu y4_2 y4_3) (fun r => True) := by
  intro fu
  induction fu with
  | zero => intro y4_2 y4_3 h_y4_3 hm; exfalso; omega
  | succ fu ih =>
    intro y4_2 y4_3 h_y4_3 hm
    rw [fX3_howManyAlone_L4.eq_2]
    have l_7 := il_7
    refine wq_le (fun hc_9440 => ?_) (fun hc_9441 => ?_)
    · have b_9442 := i32b y4_2
      exact wq_s trivial
    · refine wq_in (n := 7) ⟨by omega, by omega⟩ ?_
      have b_9443 := i32b x1
      refine wq_eq (fun hc_9444 => ?_) (fun hc_9445 => ?_)
      · have b_9447 := i32b y4_2
        have l_1 := il_1
        refine wq_v (fun v2_q9446 h_v2_q9446 => ?_)
        have t_v2_q9446 := congrArg Int32.toInt h_v2_q9446
        have t_9449 := ia_add y4_3 (1 : Int32) (by omega) (by omega)
        refine wq_v (fun v3_q9448 h_v3_q9448 => ?_)
        have t_v3_q9448 := congrArg Int32.toInt h_v3_q9448
        have b_9450 := i32b v2_q9446
        exact ih v2_q9446 v3_q9448 ⟨by omega, by omega⟩ (by omega)
      · have l_1 := il_1
        have t_9452 := ia_add y4_3 (1 : Int32) (by omega) (by omega)
        refine wq_v (fun v1_q9451 h_v1_q9451 => ?_)
        have t_v1_q9451 := congrArg Int32.toInt h_v1_q9451
        have b_9453 := i32b y4_2
        exact ih y4_2 v1_q9451 ⟨by omega, by omega⟩ (by omega)
set_option maxHeartbeats 4000000 in
theorem tt_fX3_howManyAlone {N : Nat} (hN : 3000000000 ≤ N) (I0 : Nat → Int32) (M0 : Nat → Nat → Int32) (x1 : Int32)  : wq (fX3_howManyAlone N I0 M0 x1) (fun r => True) := by
  unfold fX3_howManyAlone
  have b_9454 := i32b x1
  have l_0 := il_0
  exact tt_fX3_howManyAlone_L4 hN I0 M0 x1 N (0 : Int32) (0 : Int32) ⟨by omega, by omega⟩ (by omega)
noncomputable def bc_ok (n : Nat) : Bool := match fJ6_bitCount_0f7a4 0 (nI n) with
  | some r => decide (0 ≤ r.toInt ∧ r.toInt ≤ 7)
  | none => false
theorem bc_all : ∀ n : Nat, n < 255 → bc_ok n = true := by decide +kernel
theorem tt_fJ6_bitCount_0f7a4 {N : Nat} (hN : 3000000000 ≤ N) (x0 : Int32)  : wq (fJ6_bitCount_0f7a4 N x0) (fun r => ((0 ≤ r.toInt ∧ r.toInt ≤ 7) ∨ x0.toInt < 0 ∨ 254 < x0.toInt) ∧ True) := by
  obtain ⟨r, hr⟩ : ∃ r, fJ6_bitCount_0f7a4 N x0 = some r := ⟨_, rfl⟩
  refine ⟨r, hr, ?_, trivial⟩
  by_cases h : 0 ≤ x0.toInt ∧ x0.toInt ≤ 254
  · left
    have h2 := bc_all x0.toInt.toNat (by omega)
    unfold bc_ok at h2
    rw [← nI_back x0 h.1, show fJ6_bitCount_0f7a4 0 x0 = some r from hr] at h2
    exact of_decide_eq_true h2
  · omega
set_option maxHeartbeats 4000000 in
theorem tt_fX3_weightOf_L4 {N : Nat} (hN : 3000000000 ≤ N) (I0 : Nat → Int32) (M0 : Nat → Nat → Int32) (x1 : Int32)   : ∀ (fu : Nat) (y4_2 : Int32) (y4_3 : Int32), (0 ≤ y4_3.toInt ∧ y4_3.toInt ≤ 7) → (7 - y4_3.toInt) < (fu : Int) → wq (fX3_weightOf_L4 N I0 M0 x1 fu y4_2 y4_3) (fun r => True) := by
  intro fu
  induction fu with
  | zero => intro y4_2 y4_3 h_y4_3 hm; exfalso; omega
  | succ fu ih =>
    intro y4_2 y4_3 h_y4_3 hm
    rw [fX3_weightOf_L4.eq_2]
    have l_7 := il_7
    refine wq_le (fun hc_9723 => ?_) (fun hc_9724 => ?_)
    · have b_9725 := i32b y4_2
      exact wq_s trivial
    · refine wq_in (n := 7) ⟨by omega, by omega⟩ ?_
      refine wq_b (tt_fJ6_bitCount_0f7a4 hN (M0 0 y4_3.toNatClampNeg)) (fun r1_q9726 h_r1_q9726 => ?_)
      obtain ⟨h_r1_q9726_0, -⟩ := h_r1_q9726
      have b_9727 := i32b x1
      refine wq_b (tt_fX3_isShared hN I0 M0 y4_3 x1 ⟨by omega, by omega⟩) (fun r2_q9728 h_r2_q9728 => ?_)
      obtain ⟨h_r2_q9728_0, -⟩ := h_r2_q9728
      have l_0 := il_0
      refine wq_eq (fun hc_9729 => ?_) (fun hc_9730 => ?_)
      · have l_1 := il_1
        have t_9732 := ia_add y4_3 (1 : Int32) (by omega) (by omega)
        refine wq_v (fun v3_q9731 h_v3_q9731 => ?_)
        have t_v3_q9731 := congrArg Int32.toInt h_v3_q9731
        have b_9733 := i32b y4_2
        exact ih y4_2 v3_q9731 ⟨by omega, by omega⟩ (by omega)
      · have b_9734 := i32b r1_q9726
        refine wq_le (fun hc_9735 => ?_) (fun hc_9736 => ?_)
        · have l_1 := il_1
          have t_9738 := ia_add y4_3 (1 : Int32) (by omega) (by omega)
          refine wq_v (fun v4_q9737 h_v4_q9737 => ?_)
          have t_v4_q9737 := congrArg Int32.toInt h_v4_q9737
          have b_9739 := i32b y4_2
          exact ih y4_2 v4_q9737 ⟨by omega, by omega⟩ (by omega)
        · refine wq_nz (by omega) ?_
          have b_9741 := i32b y4_2
          refine wq_v (fun v5_q9740 h_v5_q9740 => ?_)
          have t_v5_q9740 := congrArg Int32.toInt h_v5_q9740
          have l_1 := il_1
          have t_9743 := ia_add y4_3 (1 : Int32) (by omega) (by omega)
          refine wq_v (fun v6_q9742 h_v6_q9742 => ?_)
          have t_v6_q9742 := congrArg Int32.toInt h_v6_q9742
          have b_9744 := i32b v5_q9740
          exact ih v5_q9740 v6_q9742 ⟨by omega, by omega⟩ (by omega)
set_option maxHeartbeats 4000000 in
theorem tt_fX3_weightOf {N : Nat} (hN : 3000000000 ≤ N) (I0 : Nat → Int32) (M0 : Nat → Nat → Int32) (x1 : Int32)  : wq (fX3_weightOf N I0 M0 x1) (fun r => True) := by
  unfold fX3_weightOf
  have b_9745 := i32b x1
  have l_0 := il_0
  exact tt_fX3_weightOf_L4 hN I0 M0 x1 N (0 : Int32) (0 : Int32) ⟨by omega, by omega⟩ (by omega)
set_option maxHeartbeats 4000000 in
theorem tt_fX3_setFollowed_L6 {N : Nat} (hN : 3000000000 ≤ N) (I0 : Nat → Int32) (M0 : Nat → Nat → Int32)   : ∀ (fu : Nat) (y6_1 : Int32) (y6_2 : Int32) (y6_3 : Int32), (0 ≤ y6_1.toInt ∧ y6_1.toInt ≤ 2147483647) → (-1 ≤ y6_2.toInt ∧ y6_2.toInt ≤ 3) → (1 ≤ y6_3.toInt ∧ y6_3.toInt ≤ 4) → (4 - y6_3.toInt) < (fu : Int) → wq (fX3_setFollowed_L6 N I0 M0 fu y6_1 y6_2 y6_3) (fun r => (-1 ≤ r.toInt ∧ r.toInt ≤ 3) ∧ True) := by
  intro fu
  induction fu with
  | zero => intro y6_1 y6_2 y6_3 h_y6_1 h_y6_2 h_y6_3 hm; exfalso; omega
  | succ fu ih =>
    intro y6_1 y6_2 y6_3 h_y6_1 h_y6_2 h_y6_3 hm
    rw [fX3_setFollowed_L6.eq_2]
    have l_4 := il_4
    refine wq_le (fun hc_9844 => ?_) (fun hc_9845 => ?_)
    · exact wq_s ⟨(show -1 ≤ y6_2.toInt ∧ y6_2.toInt ≤ 3 from ⟨by omega, by omega⟩), trivial⟩
    · refine wq_b (tt_fX3_weightOf hN I0 M0 y6_3) (fun r1_q9846 h_r1_q9846 => ?_)
      obtain ⟨-⟩ := h_r1_q9846
      have b_9847 := i32b r1_q9846
      have b_9848 := i32b y6_1
      refine wq_le (fun hc_9849 => ?_) (fun hc_9850 => ?_)
      · have l_1 := il_1
        have t_9852 := ia_add y6_3 (1 : Int32) (by omega) (by omega)
        refine wq_v (fun v2_q9851 h_v2_q9851 => ?_)
        have t_v2_q9851 := congrArg Int32.toInt h_v2_q9851
        exact ih y6_1 y6_2 v2_q9851 ⟨by omega, by omega⟩ ⟨by omega, by omega⟩ ⟨by omega, by omega⟩ (by omega)
      · have l_1 := il_1
        have t_9854 := ia_add y6_3 (1 : Int32) (by omega) (by omega)
        refine wq_v (fun v3_q9853 h_v3_q9853 => ?_)
        have t_v3_q9853 := congrArg Int32.toInt h_v3_q9853
        exact ih r1_q9846 y6_3 v3_q9853 ⟨by omega, by omega⟩ ⟨by omega, by omega⟩ ⟨by omega, by omega⟩ (by omega)
set_option maxHeartbeats 4000000 in
theorem tt_fX3_setFollowed {N : Nat} (hN : 3000000000 ≤ N) (I0 : Nat → Int32) (M0 : Nat → Nat → Int32)  : wq (fX3_setFollowed N I0 M0) (fun r => (-1 ≤ r.toInt ∧ r.toInt ≤ 3) ∧ True) := by
  unfold fX3_setFollowed
  have l_0 := il_0
  have l_m1 := il_m1
  have l_1 := il_1
  exact tt_fX3_setFollowed_L6 hN I0 M0 N (0 : Int32) ((-1) : Int32) (1 : Int32) ⟨by omega, by omega⟩ ⟨by omega, by omega⟩ ⟨by omega, by omega⟩ (by omega)
set_option maxHeartbeats 4000000 in
theorem tt_fX4_copyFrom {N : Nat} (hN : 3000000000 ≤ N) (I0 : Nat → Int32) (M0 : Nat → Nat → Int32) (I1 : Nat → Int32) (M1 : Nat → Nat → Int32)  : wq (fX4_copyFrom N I0 M0 I1 M1) (fun r => True) := by
  unfold fX4_copyFrom
  refine wq_n (by decide) ?_
  refine wq_v (fun M0_1_q9865 h_M0_1_q9865 => ?_)
  refine wq_v (fun I0_2_q9866 h_I0_2_q9866 => ?_)
  exact wq_s trivial
set_option maxHeartbeats 4000000 in
theorem tt_fX9_takeWord {N : Nat} (hN : 3000000000 ≤ N) (I0 : Nat → Int32) (M0 : Nat → Nat → Int32) (w1 : Nat) (k_I0 : KX9 I0 M0) (hr_1 : w1 < 19) : wq (fX9_takeWord N I0 M0 w1) (fun r => (0 ≤ r.1.toInt ∧ r.1.toInt ≤ 1) ∧ KX9 r.2.1 r.2.2 ∧ True) := by
  unfold fX9_takeWord
  refine wq_b (tt_fX9_isWord hN I0 M0 w1 k_I0 (by omega)) (fun r1_q9897 h_r1_q9897 => ?_)
  obtain ⟨h_r1_q9897_0, -⟩ := h_r1_q9897
  have l_0 := il_0
  refine wq_eq (fun hc_9898 => ?_) (fun hc_9899 => ?_)
  · have l_1 := il_1
    refine wq_b (tt_fX9_refuse hN I0 M0 (1 : Int32) k_I0) (fun r3_q9900 h_r3_q9900 => ?_)
    obtain ⟨h_r3_q9900_0, h_r3_q9900_1, -⟩ := h_r3_q9900
    refine wq_bz (by omega) ?_
    exact wq_s ⟨(show 0 ≤ r3_q9900.1.toInt ∧ r3_q9900.1.toInt ≤ 1 from ⟨by omega, by omega⟩), h_r3_q9900_1, trivial⟩
  · refine wq_b (tt_fX9_step hN I0 M0 k_I0) (fun r2_q9901 h_r2_q9901 => ?_)
    obtain ⟨h_r2_q9901_0, -⟩ := h_r2_q9901
    have l_1 := il_1
    exact wq_s ⟨(show 0 ≤ (1 : Int32).toInt ∧ (1 : Int32).toInt ≤ 1 from ⟨by omega, by omega⟩), h_r2_q9901_0, trivial⟩
set_option maxHeartbeats 4000000 in
theorem tt_fX4_readHand {N : Nat} (hN : 3000000000 ≤ N) (I0 : Nat → Int32) (M0 : Nat → Nat → Int32) (I1 : Nat → Int32) (M1 : Nat → Nat → Int32) (k_I1 : KX9 I1 M1) : wq (fX4_readHand N I0 M0 I1 M1) (fun r => (0 ≤ r.1.toInt ∧ r.1.toInt ≤ 1) ∧ KX9 r.2.2.2.1 r.2.2.2.2 ∧ True) := by
  unfold fX4_readHand
  have l_30 := il_30
  refine wq_lt (fun hc_10004 => ?_) (fun hc_10005 => ?_)
  · refine wq_b (tt_fX9_step hN I1 M1 k_I1) (fun r1_q10006 h_r1_q10006 => ?_)
    obtain ⟨h_r1_q10006_0, -⟩ := h_r1_q10006
    have l_0 := il_0
    have l_29 := il_29
    refine wq_b (tt_fX9_takeNumber hN r1_q10006.1 r1_q10006.2 (0 : Int32) (29 : Int32) h_r1_q10006_0) (fun r2_q10007 h_r2_q10007 => ?_)
    obtain ⟨h_r2_q10007_0, h_r2_q10007_1, h_r2_q10007_2, -⟩ := h_r2_q10007
    refine wq_eq (fun hc_10008 => ?_) (fun hc_10009 => ?_)
    · exact wq_s ⟨(show 0 ≤ (0 : Int32).toInt ∧ (0 : Int32).toInt ≤ 1 from ⟨by omega, by omega⟩), h_r2_q10007_2, trivial⟩
    · refine wq_v (fun v3_q10010 h_v3_q10010 => ?_)
      have t_v3_q10010 := congrArg Int32.toInt h_v3_q10010
      refine wq_b (tt_fX9_takeWord hN r2_q10007.2.1 r2_q10007.2.2 2 h_r2_q10007_2 (by omega)) (fun r4_q10011 h_r4_q10011 => ?_)
      obtain ⟨h_r4_q10011_0, h_r4_q10011_1, -⟩ := h_r4_q10011
      refine wq_eq (fun hc_10012 => ?_) (fun hc_10013 => ?_)
      · exact wq_s ⟨(show 0 ≤ (0 : Int32).toInt ∧ (0 : Int32).toInt ≤ 1 from ⟨by omega, by omega⟩), h_r4_q10011_1, trivial⟩
      · refine wq_b (tt_fX9_takeNumber hN r4_q10011.2.1 r4_q10011.2.2 (0 : Int32) (29 : Int32) h_r4_q10011_1) (fun r5_q10014 h_r5_q10014 => ?_)
        obtain ⟨h_r5_q10014_0, h_r5_q10014_1, h_r5_q10014_2, -⟩ := h_r5_q10014
        refine wq_eq (fun hc_10015 => ?_) (fun hc_10016 => ?_)
        · exact wq_s ⟨(show 0 ≤ (0 : Int32).toInt ∧ (0 : Int32).toInt ≤ 1 from ⟨by omega, by omega⟩), h_r5_q10014_2, trivial⟩
        · refine wq_in (n := 30) ⟨by omega, by omega⟩ ?_
          refine wq_in (n := 30) ⟨by omega, by omega⟩ ?_
          refine wq_v (fun M0_6_q10017 h_M0_6_q10017 => ?_)
          refine wq_v (fun I0_7_q10018 h_I0_7_q10018 => ?_)
          refine wq_b (tt_fX9_takeStop hN r5_q10014.2.1 r5_q10014.2.2 h_r5_q10014_2) (fun r8_q10019 h_r8_q10019 => ?_)
          obtain ⟨h_r8_q10019_0, h_r8_q10019_1, -⟩ := h_r8_q10019
          refine wq_bz (by omega) ?_
          exact wq_s ⟨(show 0 ≤ r8_q10019.1.toInt ∧ r8_q10019.1.toInt ≤ 1 from ⟨by omega, by omega⟩), h_r8_q10019_1, trivial⟩
  · have l_2 := il_2
    refine wq_b (tt_fX9_refuse hN I1 M1 (2 : Int32) k_I1) (fun r9b_q10020 h_r9b_q10020 => ?_)
    obtain ⟨h_r9b_q10020_0, h_r9b_q10020_1, -⟩ := h_r9b_q10020
    refine wq_bz (by omega) ?_
    exact wq_s ⟨(show 0 ≤ r9b_q10020.1.toInt ∧ r9b_q10020.1.toInt ≤ 1 from ⟨by omega, by omega⟩), h_r9b_q10020_1, trivial⟩
set_option maxHeartbeats 4000000 in
theorem tt_fX5_copyFrom {N : Nat} (hN : 3000000000 ≤ N) (I0 : Nat → Int32) (M0 : Nat → Nat → Int32) (I1 : Nat → Int32) (M1 : Nat → Nat → Int32) (k_I0 : KX5 I0 M0) (k_I1 : KX5 I1 M1) : wq (fX5_copyFrom N I0 M0 I1 M1) (fun r => KX5 r.1 r.2 ∧ True) := by
  unfold fX5_copyFrom
  refine wq_n (by decide) ?_
  refine wq_v (fun M0_1_q10071 h_M0_1_q10071 => ?_)
  have k_M0_1_q10071 : KX5 I0 M0_1_q10071 := by rw [h_M0_1_q10071]; exact KX5.sf0 k_I0
  refine wq_n (by decide) ?_
  refine wq_v (fun M0_2_q10072 h_M0_2_q10072 => ?_)
  have k_M0_2_q10072 : KX5 I0 M0_2_q10072 := by rw [h_M0_2_q10072]; exact KX5.sf1 k_M0_1_q10071
  refine wq_n (by decide) ?_
  refine wq_v (fun M0_3_q10073 h_M0_3_q10073 => ?_)
  have k_M0_3_q10073 : KX5 I0 M0_3_q10073 := by rw [h_M0_3_q10073]; exact KX5.sf2 k_M0_2_q10072
  refine wq_n (by decide) ?_
  refine wq_v (fun M0_4_q10074 h_M0_4_q10074 => ?_)
  have k_M0_4_q10074 : KX5 I0 M0_4_q10074 := by rw [h_M0_4_q10074]; exact KX5.sf3 k_M0_3_q10073
  refine wq_b (tt_fX2_copyFrom hN I0 (wb_sh M0_4_q10074 4) I1 (wb_sh M1 4) (KX5.s_X2_0_4 k_M0_4_q10074) (KX5.s_X2_0_4 k_I1)) (fun r5_q10075 h_r5_q10075 => ?_)
  obtain ⟨h_r5_q10075_0, -⟩ := h_r5_q10075
  refine wq_v (fun I0_6_q10076 h_I0_6_q10076 => ?_)
  refine wq_v (fun M0_7_q10077 h_M0_7_q10077 => ?_)
  have k_M0_7_q10077 : KX5 I0_6_q10076 M0_7_q10077 := by rw [h_I0_6_q10076, h_M0_7_q10077]; exact (KX5.p_X2_0_4 k_M0_4_q10074 h_r5_q10075_0)
  refine wq_b (tt_fX4_copyFrom hN (wb_sh I0_6_q10076 1) (wb_sh M0_7_q10077 5) (wb_sh I1 1) (wb_sh M1 5)) (fun r8_q10078 h_r8_q10078 => ?_)
  obtain ⟨-⟩ := h_r8_q10078
  refine wq_v (fun I0_9_q10079 h_I0_9_q10079 => ?_)
  refine wq_v (fun M0_10_q10080 h_M0_10_q10080 => ?_)
  have k_M0_10_q10080 : KX5 I0_9_q10079 M0_10_q10080 := by rw [h_I0_9_q10079, h_M0_10_q10080]; exact (KX5.p_X4_1_5 k_M0_7_q10077)
  exact wq_s ⟨k_M0_10_q10080, trivial⟩
set_option maxHeartbeats 4000000 in
theorem tt_fX5_readTable {N : Nat} (hN : 3000000000 ≤ N) (I0 : Nat → Int32) (M0 : Nat → Nat → Int32) (I1 : Nat → Int32) (M1 : Nat → Nat → Int32) (x2 : Int32) (h_x2 : 0 ≤ x2.toInt ∧ x2.toInt ≤ 27) (k_I0 : KX5 I0 M0) (k_I1 : KX9 I1 M1) : wq (fX5_readTable N I0 M0 I1 M1 x2) (fun r => (0 ≤ r.1.toInt ∧ r.1.toInt ≤ 1) ∧ KX5 r.2.1 r.2.2.1 ∧ KX9 r.2.2.2.1 r.2.2.2.2 ∧ True) := by
  unfold fX5_readTable
  refine wq_b (tt_fX9_takeWord hN I1 M1 6 k_I1 (by omega)) (fun r1_q10267 h_r1_q10267 => ?_)
  obtain ⟨h_r1_q10267_0, h_r1_q10267_1, -⟩ := h_r1_q10267
  have l_0 := il_0
  refine wq_eq (fun hc_10268 => ?_) (fun hc_10269 => ?_)
  · exact wq_s ⟨(show 0 ≤ (0 : Int32).toInt ∧ (0 : Int32).toInt ≤ 1 from ⟨by omega, by omega⟩), k_I0, h_r1_q10267_1, trivial⟩
  · have l_21599 := il_21599
    refine wq_b (tt_fX9_takeNumber hN r1_q10267.2.1 r1_q10267.2.2 (0 : Int32) (21599 : Int32) h_r1_q10267_1) (fun r2_q10270 h_r2_q10270 => ?_)
    obtain ⟨h_r2_q10270_0, h_r2_q10270_1, h_r2_q10270_2, -⟩ := h_r2_q10270
    refine wq_eq (fun hc_10271 => ?_) (fun hc_10272 => ?_)
    · exact wq_s ⟨(show 0 ≤ (0 : Int32).toInt ∧ (0 : Int32).toInt ≤ 1 from ⟨by omega, by omega⟩), k_I0, h_r2_q10270_2, trivial⟩
    · refine wq_in (n := 28) ⟨by omega, by omega⟩ ?_
      refine wq_v (fun M0_3_q10273 h_M0_3_q10273 => ?_)
      have k_M0_3_q10273 : KX5 I0 M0_3_q10273 := by rw [h_M0_3_q10273]; exact KX5.sm0 k_I0
      refine wq_b (tt_fX9_takeWord hN r2_q10270.2.1 r2_q10270.2.2 7 h_r2_q10270_2 (by omega)) (fun r4_q10274 h_r4_q10274 => ?_)
      obtain ⟨h_r4_q10274_0, h_r4_q10274_1, -⟩ := h_r4_q10274
      refine wq_eq (fun hc_10275 => ?_) (fun hc_10276 => ?_)
      · exact wq_s ⟨(show 0 ≤ (0 : Int32).toInt ∧ (0 : Int32).toInt ≤ 1 from ⟨by omega, by omega⟩), k_M0_3_q10273, h_r4_q10274_1, trivial⟩
      · have l_2000000 := il_2000000
        refine wq_b (tt_fX9_takeNumber hN r4_q10274.2.1 r4_q10274.2.2 (0 : Int32) (2000000 : Int32) h_r4_q10274_1) (fun r5_q10277 h_r5_q10277 => ?_)
        obtain ⟨h_r5_q10277_0, h_r5_q10277_1, h_r5_q10277_2, -⟩ := h_r5_q10277
        refine wq_eq (fun hc_10278 => ?_) (fun hc_10279 => ?_)
        · exact wq_s ⟨(show 0 ≤ (0 : Int32).toInt ∧ (0 : Int32).toInt ≤ 1 from ⟨by omega, by omega⟩), k_M0_3_q10273, h_r5_q10277_2, trivial⟩
        · refine wq_in (n := 28) ⟨by omega, by omega⟩ ?_
          refine wq_v (fun M0_6_q10280 h_M0_6_q10280 => ?_)
          have k_M0_6_q10280 : KX5 I0 M0_6_q10280 := by rw [h_M0_6_q10280]; exact KX5.sm1 k_M0_3_q10273
          refine wq_in (n := 28) ⟨by omega, by omega⟩ ?_
          refine wq_v (fun M0_7_q10281 h_M0_7_q10281 => ?_)
          have k_M0_7_q10281 : KX5 I0 M0_7_q10281 := by rw [h_M0_7_q10281]; exact KX5.sm2 k_M0_6_q10280
          refine wq_in (n := 28) ⟨by omega, by omega⟩ ?_
          refine wq_v (fun M0_8_q10282 h_M0_8_q10282 => ?_)
          have k_M0_8_q10282 : KX5 I0 M0_8_q10282 := by rw [h_M0_8_q10282]; exact KX5.sm3 k_M0_7_q10281
          refine wq_b (tt_fX9_isWord hN r5_q10277.2.1 r5_q10277.2.2 8 h_r5_q10277_2 (by omega)) (fun r9b_q10283 h_r9b_q10283 => ?_)
          obtain ⟨h_r9b_q10283_0, -⟩ := h_r9b_q10283
          refine wq_eq (fun hc_10284 => ?_) (fun hc_10285 => ?_)
          · have l_1 := il_1
            exact wq_s ⟨(show 0 ≤ (1 : Int32).toInt ∧ (1 : Int32).toInt ≤ 1 from ⟨by omega, by omega⟩), k_M0_8_q10282, h_r5_q10277_2, trivial⟩
          · refine wq_b (tt_fX9_step hN r5_q10277.2.1 r5_q10277.2.2 h_r5_q10277_2) (fun r10_q10286 h_r10_q10286 => ?_)
            obtain ⟨h_r10_q10286_0, -⟩ := h_r10_q10286
            have l_10800 := il_10800
            refine wq_b (tt_fX9_takeNumber hN r10_q10286.1 r10_q10286.2 (0 : Int32) (10800 : Int32) h_r10_q10286_0) (fun r11_q10287 h_r11_q10287 => ?_)
            obtain ⟨h_r11_q10287_0, h_r11_q10287_1, h_r11_q10287_2, -⟩ := h_r11_q10287
            refine wq_eq (fun hc_10288 => ?_) (fun hc_10289 => ?_)
            · exact wq_s ⟨(show 0 ≤ (0 : Int32).toInt ∧ (0 : Int32).toInt ≤ 1 from ⟨by omega, by omega⟩), k_M0_8_q10282, h_r11_q10287_2, trivial⟩
            · refine wq_in (n := 28) ⟨by omega, by omega⟩ ?_
              refine wq_v (fun M0_12_q10290 h_M0_12_q10290 => ?_)
              have k_M0_12_q10290 : KX5 I0 M0_12_q10290 := by rw [h_M0_12_q10290]; exact KX5.sm2 k_M0_8_q10282
              refine wq_b (tt_fX9_takeWord hN r11_q10287.2.1 r11_q10287.2.2 9 h_r11_q10287_2 (by omega)) (fun r13_q10291 h_r13_q10291 => ?_)
              obtain ⟨h_r13_q10291_0, h_r13_q10291_1, -⟩ := h_r13_q10291
              refine wq_eq (fun hc_10292 => ?_) (fun hc_10293 => ?_)
              · exact wq_s ⟨(show 0 ≤ (0 : Int32).toInt ∧ (0 : Int32).toInt ≤ 1 from ⟨by omega, by omega⟩), k_M0_12_q10290, h_r13_q10291_1, trivial⟩
              · have l_2 := il_2
                have l_1000000 := il_1000000
                refine wq_b (tt_fX9_takeNumber hN r13_q10291.2.1 r13_q10291.2.2 (2 : Int32) (1000000 : Int32) h_r13_q10291_1) (fun r14_q10294 h_r14_q10294 => ?_)
                obtain ⟨h_r14_q10294_0, h_r14_q10294_1, h_r14_q10294_2, -⟩ := h_r14_q10294
                refine wq_eq (fun hc_10295 => ?_) (fun hc_10296 => ?_)
                · exact wq_s ⟨(show 0 ≤ (0 : Int32).toInt ∧ (0 : Int32).toInt ≤ 1 from ⟨by omega, by omega⟩), k_M0_12_q10290, h_r14_q10294_2, trivial⟩
                · refine wq_in (n := 28) ⟨by omega, by omega⟩ ?_
                  refine wq_v (fun M0_15_q10297 h_M0_15_q10297 => ?_)
                  have k_M0_15_q10297 : KX5 I0 M0_15_q10297 := by rw [h_M0_15_q10297]; exact KX5.sm3 k_M0_12_q10290
                  have l_1 := il_1
                  exact wq_s ⟨(show 0 ≤ (1 : Int32).toInt ∧ (1 : Int32).toInt ≤ 1 from ⟨by omega, by omega⟩), k_M0_15_q10297, h_r14_q10294_2, trivial⟩
set_option maxHeartbeats 4000000 in
theorem tt_fX5_readSet {N : Nat} (hN : 3000000000 ≤ N) (I0 : Nat → Int32) (M0 : Nat → Nat → Int32) (I1 : Nat → Int32) (M1 : Nat → Nat → Int32) (k_I0 : KX5 I0 M0) (k_I1 : KX9 I1 M1) : wq (fX5_readSet N I0 M0 I1 M1) (fun r => (0 ≤ r.1.toInt ∧ r.1.toInt ≤ 1) ∧ KX5 r.2.1 r.2.2.1 ∧ KX9 r.2.2.2.1 r.2.2.2.2 ∧ True) := by
  unfold fX5_readSet
  refine wq_b (tt_fX9_step hN I1 M1 k_I1) (fun r1_q10406 h_r1_q10406 => ?_)
  obtain ⟨h_r1_q10406_0, -⟩ := h_r1_q10406
  have l_0 := il_0
  have l_3 := il_3
  refine wq_b (tt_fX9_takeNumber hN r1_q10406.1 r1_q10406.2 (0 : Int32) (3 : Int32) h_r1_q10406_0) (fun r2_q10407 h_r2_q10407 => ?_)
  obtain ⟨h_r2_q10407_0, h_r2_q10407_1, h_r2_q10407_2, -⟩ := h_r2_q10407
  refine wq_eq (fun hc_10408 => ?_) (fun hc_10409 => ?_)
  · exact wq_s ⟨(show 0 ≤ (0 : Int32).toInt ∧ (0 : Int32).toInt ≤ 1 from ⟨by omega, by omega⟩), k_I0, h_r2_q10407_2, trivial⟩
  · refine wq_v (fun v3_q10410 h_v3_q10410 => ?_)
    have t_v3_q10410 := congrArg Int32.toInt h_v3_q10410
    have l_7 := il_7
    refine wq_b (tt_fX9_namedOf hN r2_q10407.2.1 r2_q10407.2.2 (7 : Int32) ⟨by omega, by omega⟩ h_r2_q10407_2) (fun r4_q10411 h_r4_q10411 => ?_)
    obtain ⟨h_r4_q10411_0, h_r4_q10411_1, -⟩ := h_r4_q10411
    have l_m1 := il_m1
    refine wq_eq (fun hc_10412 => ?_) (fun hc_10413 => ?_)
    · have l_1 := il_1
      refine wq_b (tt_fX9_refuse hN r2_q10407.2.1 r2_q10407.2.2 (1 : Int32) h_r2_q10407_2) (fun r8_q10414 h_r8_q10414 => ?_)
      obtain ⟨h_r8_q10414_0, h_r8_q10414_1, -⟩ := h_r8_q10414
      refine wq_bz (by omega) ?_
      exact wq_s ⟨(show 0 ≤ r8_q10414.1.toInt ∧ r8_q10414.1.toInt ≤ 1 from ⟨by omega, by omega⟩), k_I0, h_r8_q10414_1, trivial⟩
    · refine wq_b (tt_fX9_step hN r2_q10407.2.1 r2_q10407.2.2 h_r2_q10407_2) (fun r5_q10415 h_r5_q10415 => ?_)
      obtain ⟨h_r5_q10415_0, -⟩ := h_r5_q10415
      have t_10416 := ia_mul (7 : Int32) (7) il_7 v3_q10410 (by omega) (by omega)
      have t_10417 := ia_add ((7 : Int32) * v3_q10410) r4_q10411 (by omega) (by omega)
      refine wq_b (tt_fX5_readTable hN I0 M0 r5_q10415.1 r5_q10415.2 (((7 : Int32) * v3_q10410) + r4_q10411) ⟨by omega, by omega⟩ k_I0 h_r5_q10415_0) (fun r6_q10418 h_r6_q10418 => ?_)
      obtain ⟨h_r6_q10418_0, h_r6_q10418_1, h_r6_q10418_2, -⟩ := h_r6_q10418
      refine wq_eq (fun hc_10419 => ?_) (fun hc_10420 => ?_)
      · exact wq_s ⟨(show 0 ≤ (0 : Int32).toInt ∧ (0 : Int32).toInt ≤ 1 from ⟨by omega, by omega⟩), h_r6_q10418_1, h_r6_q10418_2, trivial⟩
      · refine wq_b (tt_fX9_takeStop hN r6_q10418.2.2.2.1 r6_q10418.2.2.2.2 h_r6_q10418_2) (fun r7_q10421 h_r7_q10421 => ?_)
        obtain ⟨h_r7_q10421_0, h_r7_q10421_1, -⟩ := h_r7_q10421
        refine wq_eq (fun hc_10422 => ?_) (fun hc_10423 => ?_)
        · exact wq_s ⟨(show 0 ≤ (0 : Int32).toInt ∧ (0 : Int32).toInt ≤ 1 from ⟨by omega, by omega⟩), h_r6_q10418_1, h_r7_q10421_1, trivial⟩
        · have l_1 := il_1
          exact wq_s ⟨(show 0 ≤ (1 : Int32).toInt ∧ (1 : Int32).toInt ≤ 1 from ⟨by omega, by omega⟩), h_r6_q10418_1, h_r7_q10421_1, trivial⟩
set_option maxHeartbeats 4000000 in
theorem tt_fX5_readLines_L4 {N : Nat} (hN : 3000000000 ≤ N)    : ∀ (fu : Nat) (I0_l4 : (Nat → Int32)) (M0_l4 : (Nat → Nat → Int32)) (I1_l4 : (Nat → Int32)) (M1_l4 : (Nat → Nat → Int32)) (y4_2 : Int32) (y4_3 : Int32), (0 ≤ y4_2.toInt ∧ y4_2.toInt ≤ 1) → (0 ≤ y4_3.toInt ∧ y4_3.toInt ≤ 600) → (KX5 I0_l4 M0_l4) → (KX9 I1_l4 M1_l4) → (600 - y4_3.toInt) < (fu : Int) → wq (fX5_readLines_L4 N fu I0_l4 M0_l4 I1_l4 M1_l4 y4_2 y4_3) (fun r => (0 ≤ r.1.toInt ∧ r.1.toInt ≤ 1) ∧ KX5 r.2.1 r.2.2.1 ∧ KX9 r.2.2.2.1 r.2.2.2.2 ∧ True) := by
  intro fu
  induction fu with
  | zero => intro I0_l4 M0_l4 I1_l4 M1_l4 y4_2 y4_3 h_y4_2 h_y4_3 k_I0_l4 k_I1_l4 hm; exfalso; omega
  | succ fu ih =>
    intro I0_l4 M0_l4 I1_l4 M1_l4 y4_2 y4_3 h_y4_2 h_y4_3 k_I0_l4 k_I1_l4 hm
    rw [fX5_readLines_L4.eq_2]
    have l_600 := il_600
    refine wq_le (fun hc_10784 => ?_) (fun hc_10785 => ?_)
    · refine wq_bz (by omega) ?_
      exact wq_s ⟨(show 0 ≤ y4_2.toInt ∧ y4_2.toInt ≤ 1 from ⟨by omega, by omega⟩), k_I0_l4, k_I1_l4, trivial⟩
    · have l_0 := il_0
      refine wq_eq (fun hc_10786 => ?_) (fun hc_10787 => ?_)
      · refine wq_bz (by omega) ?_
        exact wq_s ⟨(show 0 ≤ y4_2.toInt ∧ y4_2.toInt ≤ 1 from ⟨by omega, by omega⟩), k_I0_l4, k_I1_l4, trivial⟩
      · refine wq_b (tt_fX9_isAtEnd hN I1_l4 M1_l4 k_I1_l4) (fun r1_q10788 h_r1_q10788 => ?_)
        obtain ⟨h_r1_q10788_0, -⟩ := h_r1_q10788
        refine wq_eq (fun hc_10789 => ?_) (fun hc_10790 => ?_)
        · refine wq_b (tt_fX9_isWord hN I1_l4 M1_l4 3 k_I1_l4 (by omega)) (fun r2_q10791 h_r2_q10791 => ?_)
          obtain ⟨h_r2_q10791_0, -⟩ := h_r2_q10791
          refine wq_eq (fun hc_10792 => ?_) (fun hc_10793 => ?_)
          · refine wq_b (tt_fX9_isWord hN I1_l4 M1_l4 4 k_I1_l4 (by omega)) (fun r3_q10794 h_r3_q10794 => ?_)
            obtain ⟨h_r3_q10794_0, -⟩ := h_r3_q10794
            refine wq_eq (fun hc_10795 => ?_) (fun hc_10796 => ?_)
            · refine wq_b (tt_fX9_isWord hN I1_l4 M1_l4 5 k_I1_l4 (by omega)) (fun r4_q10797 h_r4_q10797 => ?_)
              obtain ⟨h_r4_q10797_0, -⟩ := h_r4_q10797
              refine wq_eq (fun hc_10798 => ?_) (fun hc_10799 => ?_)
              · have l_1 := il_1
                refine wq_b (tt_fX9_refuse hN I1_l4 M1_l4 (1 : Int32) k_I1_l4) (fun r5_q10800 h_r5_q10800 => ?_)
                obtain ⟨h_r5_q10800_0, h_r5_q10800_1, -⟩ := h_r5_q10800
                refine wq_v (fun v6_q10801 h_v6_q10801 => ?_)
                have t_v6_q10801 := congrArg Int32.toInt h_v6_q10801
                have t_10803 := ia_add y4_3 (1 : Int32) (by omega) (by omega)
                refine wq_v (fun v7_q10802 h_v7_q10802 => ?_)
                have t_v7_q10802 := congrArg Int32.toInt h_v7_q10802
                exact ih I0_l4 M0_l4 r5_q10800.2.1 r5_q10800.2.2 v6_q10801 v7_q10802 ⟨by omega, by omega⟩ ⟨by omega, by omega⟩ k_I0_l4 h_r5_q10800_1 (by omega)
              · refine wq_b (tt_fX4_readHand hN (wb_sh I0_l4 1) (wb_sh M0_l4 5) I1_l4 M1_l4 k_I1_l4) (fun r8_q10804 h_r8_q10804 => ?_)
                obtain ⟨h_r8_q10804_0, h_r8_q10804_1, -⟩ := h_r8_q10804
                refine wq_v (fun I0_9_q10805 h_I0_9_q10805 => ?_)
                refine wq_v (fun M0_10_q10806 h_M0_10_q10806 => ?_)
                have k_M0_10_q10806 : KX5 I0_9_q10805 M0_10_q10806 := by rw [h_I0_9_q10805, h_M0_10_q10806]; exact (KX5.p_X4_1_5 k_I0_l4)
                refine wq_v (fun v11_q10807 h_v11_q10807 => ?_)
                have t_v11_q10807 := congrArg Int32.toInt h_v11_q10807
                have l_1 := il_1
                have t_10809 := ia_add y4_3 (1 : Int32) (by omega) (by omega)
                refine wq_v (fun v12_q10808 h_v12_q10808 => ?_)
                have t_v12_q10808 := congrArg Int32.toInt h_v12_q10808
                exact ih I0_9_q10805 M0_10_q10806 r8_q10804.2.2.2.1 r8_q10804.2.2.2.2 v11_q10807 v12_q10808 ⟨by omega, by omega⟩ ⟨by omega, by omega⟩ k_M0_10_q10806 h_r8_q10804_1 (by omega)
            · refine wq_b (tt_fX2_readClimate hN I0_l4 (wb_sh M0_l4 4) I1_l4 M1_l4 (KX5.s_X2_0_4 k_I0_l4) k_I1_l4) (fun r13_q10810 h_r13_q10810 => ?_)
              obtain ⟨h_r13_q10810_0, h_r13_q10810_1, h_r13_q10810_2, -⟩ := h_r13_q10810
              refine wq_v (fun I0_14_q10811 h_I0_14_q10811 => ?_)
              refine wq_v (fun M0_15_q10812 h_M0_15_q10812 => ?_)
              have k_M0_15_q10812 : KX5 I0_14_q10811 M0_15_q10812 := by rw [h_I0_14_q10811, h_M0_15_q10812]; exact (KX5.p_X2_0_4 k_I0_l4 h_r13_q10810_1)
              refine wq_v (fun v16_q10813 h_v16_q10813 => ?_)
              have t_v16_q10813 := congrArg Int32.toInt h_v16_q10813
              have l_1 := il_1
              have t_10815 := ia_add y4_3 (1 : Int32) (by omega) (by omega)
              refine wq_v (fun v17_q10814 h_v17_q10814 => ?_)
              have t_v17_q10814 := congrArg Int32.toInt h_v17_q10814
              exact ih I0_14_q10811 M0_15_q10812 r13_q10810.2.2.2.1 r13_q10810.2.2.2.2 v16_q10813 v17_q10814 ⟨by omega, by omega⟩ ⟨by omega, by omega⟩ k_M0_15_q10812 h_r13_q10810_2 (by omega)
          · refine wq_b (tt_fX5_readSet hN I0_l4 M0_l4 I1_l4 M1_l4 k_I0_l4 k_I1_l4) (fun r18_q10816 h_r18_q10816 => ?_)
            obtain ⟨h_r18_q10816_0, h_r18_q10816_1, h_r18_q10816_2, -⟩ := h_r18_q10816
            refine wq_v (fun v19_q10817 h_v19_q10817 => ?_)
            have t_v19_q10817 := congrArg Int32.toInt h_v19_q10817
            have l_1 := il_1
            have t_10819 := ia_add y4_3 (1 : Int32) (by omega) (by omega)
            refine wq_v (fun v20_q10818 h_v20_q10818 => ?_)
            have t_v20_q10818 := congrArg Int32.toInt h_v20_q10818
            exact ih r18_q10816.2.1 r18_q10816.2.2.1 r18_q10816.2.2.2.1 r18_q10816.2.2.2.2 v19_q10817 v20_q10818 ⟨by omega, by omega⟩ ⟨by omega, by omega⟩ h_r18_q10816_1 h_r18_q10816_2 (by omega)
        · refine wq_bz (by omega) ?_
          exact wq_s ⟨(show 0 ≤ y4_2.toInt ∧ y4_2.toInt ≤ 1 from ⟨by omega, by omega⟩), k_I0_l4, k_I1_l4, trivial⟩
set_option maxHeartbeats 4000000 in
theorem tt_fX5_readLines {N : Nat} (hN : 3000000000 ≤ N) (I0 : Nat → Int32) (M0 : Nat → Nat → Int32) (I1 : Nat → Int32) (M1 : Nat → Nat → Int32) (k_I0 : KX5 I0 M0) (k_I1 : KX9 I1 M1) : wq (fX5_readLines N I0 M0 I1 M1) (fun r => (0 ≤ r.1.toInt ∧ r.1.toInt ≤ 1) ∧ KX5 r.2.1 r.2.2.1 ∧ KX9 r.2.2.2.1 r.2.2.2.2 ∧ True) := by
  unfold fX5_readLines
  have l_1 := il_1
  have l_0 := il_0
  exact tt_fX5_readLines_L4 hN N I0 M0 I1 M1 (1 : Int32) (0 : Int32) ⟨by omega, by omega⟩ ⟨by omega, by omega⟩ k_I0 k_I1 (by omega)
set_option maxHeartbeats 4000000 in
theorem tt_fX6_placeOf_L2 {N : Nat} (hN : 3000000000 ≤ N) (I0 : Nat → Int32) (M0 : Nat → Nat → Int32) (x1 : Int32) (x2 : Int32) (h_x1 : 0 ≤ x1.toInt ∧ x1.toInt ≤ 5) (k_I0 : KX6 I0 M0)  : ∀ (fu : Nat) (y2_3 : Int32), (0 ≤ y2_3.toInt ∧ y2_3.toInt ≤ 20) → (20 - y2_3.toInt) < (fu : Int) → wq (fX6_placeOf_L2 N I0 M0 x1 x2 fu y2_3) (fun r => (-1 ≤ r.toInt ∧ r.toInt ≤ 19) ∧ True) := by
  intro fu
  induction fu with
  | zero => intro y2_3 h_y2_3 hm; exfalso; omega
  | succ fu ih =>
    intro y2_3 h_y2_3 hm
    rw [fX6_placeOf_L2.eq_2]
    refine wq_in (n := 6) ⟨by omega, by omega⟩ ?_
    have t_10952 := KX6.m1 k_I0 x1.toNatClampNeg
    refine wq_le (fun hc_10953 => ?_) (fun hc_10954 => ?_)
    · have l_m1 := il_m1
      exact wq_s ⟨(show -1 ≤ (-1 : Int32).toInt ∧ (-1 : Int32).toInt ≤ 19 from ⟨by omega, by omega⟩), trivial⟩
    · have l_20 := il_20
      have t_10955 := ia_mul (20 : Int32) (20) il_20 x1 (by omega) (by omega)
      have t_10956 := ia_add ((20 : Int32) * x1) y2_3 (by omega) (by omega)
      refine wq_in (n := 120) ⟨by omega, by omega⟩ ?_
      have b_10957 := i32b x2
      refine wq_eq (fun hc_10958 => ?_) (fun hc_10959 => ?_)
      · exact wq_s ⟨(show -1 ≤ y2_3.toInt ∧ y2_3.toInt ≤ 19 from ⟨by omega, by omega⟩), trivial⟩
      · have l_1 := il_1
        have t_10961 := ia_add y2_3 (1 : Int32) (by omega) (by omega)
        refine wq_v (fun v1_q10960 h_v1_q10960 => ?_)
        have t_v1_q10960 := congrArg Int32.toInt h_v1_q10960
        exact ih v1_q10960 ⟨by omega, by omega⟩ (by omega)
set_option maxHeartbeats 4000000 in
theorem tt_fX6_placeOf {N : Nat} (hN : 3000000000 ≤ N) (I0 : Nat → Int32) (M0 : Nat → Nat → Int32) (x1 : Int32) (x2 : Int32) (h_x1 : 0 ≤ x1.toInt ∧ x1.toInt ≤ 5) (k_I0 : KX6 I0 M0) : wq (fX6_placeOf N I0 M0 x1 x2) (fun r => (-1 ≤ r.toInt ∧ r.toInt ≤ 19) ∧ True) := by
  unfold fX6_placeOf
  have b_10962 := i32b x2
  have l_0 := il_0
  exact tt_fX6_placeOf_L2 hN I0 M0 x1 x2 ⟨by omega, by omega⟩ k_I0 N (0 : Int32) ⟨by omega, by omega⟩ (by omega)
set_option maxHeartbeats 4000000 in
theorem tt_fX6_addTo {N : Nat} (hN : 3000000000 ≤ N) (I0 : Nat → Int32) (M0 : Nat → Nat → Int32) (x1 : Int32) (x2 : Int32) (h_x1 : 0 ≤ x1.toInt ∧ x1.toInt ≤ 5) (k_I0 : KX6 I0 M0) : wq (fX6_addTo N I0 M0 x1 x2) (fun r => (-1 ≤ r.1.toInt ∧ r.1.toInt ≤ 20) ∧ KX6 r.2.1 r.2.2 ∧ True) := by
  unfold fX6_addTo
  have b_11047 := i32b x2
  refine wq_b (tt_fX6_placeOf hN I0 M0 x1 x2 ⟨by omega, by omega⟩ k_I0) (fun r1_q11048 h_r1_q11048 => ?_)
  obtain ⟨h_r1_q11048_0, -⟩ := h_r1_q11048
  have l_m1 := il_m1
  refine wq_eq (fun hc_11049 => ?_) (fun hc_11050 => ?_)
  · refine wq_in (n := 6) ⟨by omega, by omega⟩ ?_
    have t_11051 := KX6.m1 k_I0 x1.toNatClampNeg
    have l_20 := il_20
    refine wq_lt (fun hc_11052 => ?_) (fun hc_11053 => ?_)
    · refine wq_in (n := 6) ⟨by omega, by omega⟩ ?_
      have t_11054 := ia_mul (20 : Int32) (20) il_20 x1 (by omega) (by omega)
      have t_11055 := ia_add ((20 : Int32) * x1) (M0 1 x1.toNatClampNeg) (by omega) (by omega)
      refine wq_in (n := 120) ⟨by omega, by omega⟩ ?_
      refine wq_v (fun M0_2_q11056 h_M0_2_q11056 => ?_)
      have k_M0_2_q11056 : KX6 I0 M0_2_q11056 := by rw [h_M0_2_q11056]; exact KX6.sm0 k_I0
      refine wq_in (n := 6) ⟨by omega, by omega⟩ ?_
      refine wq_in (n := 6) ⟨by omega, by omega⟩ ?_
      refine wq_v (fun M0_3_q11057 h_M0_3_q11057 => ?_)
      have t_11058 : (M0_2_q11056 1 x1.toNatClampNeg).toInt = (M0 1 x1.toNatClampNeg).toInt := congrArg (fun z : Nat → Int32 => (z x1.toNatClampNeg).toInt) (show M0_2_q11056 1 = M0 1 from by rw [h_M0_2_q11056]; rfl)
      have l_1 := il_1
      have t_11059 := ia_add (M0_2_q11056 1 x1.toNatClampNeg) (1 : Int32) (by omega) (by omega)
      have k_M0_3_q11057 : KX6 I0 M0_3_q11057 := by rw [h_M0_3_q11057]; exact KX6.sm1 k_M0_2_q11056 ⟨by omega, by omega⟩
      refine wq_in (n := 6) ⟨by omega, by omega⟩ ?_
      have t_11060 := KX6.m1 k_M0_3_q11057 x1.toNatClampNeg
      exact wq_s ⟨(show -1 ≤ (M0_3_q11057 1 x1.toNatClampNeg).toInt ∧ (M0_3_q11057 1 x1.toNatClampNeg).toInt ≤ 20 from ⟨by omega, by omega⟩), k_M0_3_q11057, trivial⟩
    · exact wq_s ⟨(show -1 ≤ (-1 : Int32).toInt ∧ (-1 : Int32).toInt ≤ 20 from ⟨by omega, by omega⟩), k_I0, trivial⟩
  · exact wq_s ⟨(show -1 ≤ (-1 : Int32).toInt ∧ (-1 : Int32).toInt ≤ 20 from ⟨by omega, by omega⟩), k_I0, trivial⟩
set_option maxHeartbeats 4000000 in
theorem tt_fX6_setPlaces_L5 {N : Nat} (hN : 3000000000 ≤ N) (x1 : Int32) (x2 : Int32) (h_x1 : 0 ≤ x1.toInt ∧ x1.toInt ≤ 5) (h_x2 : 0 ≤ x2.toInt ∧ x2.toInt ≤ 5)  : ∀ (fu : Nat) (I0_l5 : (Nat → Int32)) (M0_l5 : (Nat → Nat → Int32)) (y5_3 : Int32) (y5_4 : Int32), (0 ≤ y5_3.toInt ∧ y5_3.toInt ≤ 20) → (0 ≤ y5_4.toInt ∧ y5_4.toInt ≤ 20) → (KX6 I0_l5 M0_l5) → (y5_3.toInt ≤ y5_4.toInt) → (20 - y5_4.toInt) < (fu : Int) → wq (fX6_setPlaces_L5 N x1 x2 fu I0_l5 M0_l5 y5_3 y5_4) (fun r => (0 ≤ r.1.toInt ∧ r.1.toInt ≤ 20) ∧ KX6 r.2.1 r.2.2 ∧ True) := by
  intro fu
  induction fu with
  | zero => intro I0_l5 M0_l5 y5_3 y5_4 h_y5_3 h_y5_4 k_I0_l5 hl_3 hm; exfalso; omega
  | succ fu ih =>
    intro I0_l5 M0_l5 y5_3 y5_4 h_y5_3 h_y5_4 k_I0_l5 hl_3 hm
    rw [fX6_setPlaces_L5.eq_2]
    refine wq_in (n := 6) ⟨by omega, by omega⟩ ?_
    have t_11241 := KX6.m1 k_I0_l5 x1.toNatClampNeg
    refine wq_le (fun hc_11242 => ?_) (fun hc_11243 => ?_)
    · exact wq_s ⟨(show 0 ≤ y5_3.toInt ∧ y5_3.toInt ≤ 20 from ⟨by omega, by omega⟩), k_I0_l5, trivial⟩
    · have l_20 := il_20
      have t_11244 := ia_mul (20 : Int32) (20) il_20 x1 (by omega) (by omega)
      have t_11245 := ia_add ((20 : Int32) * x1) y5_4 (by omega) (by omega)
      refine wq_in (n := 120) ⟨by omega, by omega⟩ ?_
      refine wq_b (tt_fX6_placeOf hN I0_l5 M0_l5 x2 (M0_l5 0 (((20 : Int32) * x1) + y5_4).toNatClampNeg) ⟨by omega, by omega⟩ k_I0_l5) (fun r1_q11246 h_r1_q11246 => ?_)
      obtain ⟨h_r1_q11246_0, -⟩ := h_r1_q11246
      have l_m1 := il_m1
      refine wq_eq (fun hc_11247 => ?_) (fun hc_11248 => ?_)
      · have l_1 := il_1
        have t_11250 := ia_add y5_4 (1 : Int32) (by omega) (by omega)
        refine wq_v (fun v2_q11249 h_v2_q11249 => ?_)
        have t_v2_q11249 := congrArg Int32.toInt h_v2_q11249
        exact ih I0_l5 M0_l5 y5_3 v2_q11249 ⟨by omega, by omega⟩ ⟨by omega, by omega⟩ k_I0_l5 (by omega) (by omega)
      · refine wq_in (n := 20) ⟨by omega, by omega⟩ ?_
        refine wq_v (fun M0_3_q11251 h_M0_3_q11251 => ?_)
        have k_M0_3_q11251 : KX6 I0_l5 M0_3_q11251 := by rw [h_M0_3_q11251]; exact KX6.sm2 k_I0_l5
        have l_1 := il_1
        have t_11253 := ia_add y5_3 (1 : Int32) (by omega) (by omega)
        refine wq_v (fun v4_q11252 h_v4_q11252 => ?_)
        have t_v4_q11252 := congrArg Int32.toInt h_v4_q11252
        have t_11255 := ia_add y5_4 (1 : Int32) (by omega) (by omega)
        refine wq_v (fun v5_q11254 h_v5_q11254 => ?_)
        have t_v5_q11254 := congrArg Int32.toInt h_v5_q11254
        exact ih I0_l5 M0_3_q11251 v4_q11252 v5_q11254 ⟨by omega, by omega⟩ ⟨by omega, by omega⟩ k_M0_3_q11251 (by omega) (by omega)
set_option maxHeartbeats 4000000 in
theorem tt_fX6_setPlaces {N : Nat} (hN : 3000000000 ≤ N) (I0 : Nat → Int32) (M0 : Nat → Nat → Int32) (x1 : Int32) (x2 : Int32) (h_x1 : 0 ≤ x1.toInt ∧ x1.toInt ≤ 5) (h_x2 : 0 ≤ x2.toInt ∧ x2.toInt ≤ 5) (k_I0 : KX6 I0 M0) : wq (fX6_setPlaces N I0 M0 x1 x2) (fun r => (0 ≤ r.1.toInt ∧ r.1.toInt ≤ 20) ∧ KX6 r.2.1 r.2.2 ∧ True) := by
  unfold fX6_setPlaces
  have l_0 := il_0
  exact tt_fX6_setPlaces_L5 hN x1 x2 ⟨by omega, by omega⟩ ⟨by omega, by omega⟩ N I0 M0 (0 : Int32) (0 : Int32) ⟨by omega, by omega⟩ ⟨by omega, by omega⟩ k_I0 (by omega) (by omega)
set_option maxHeartbeats 4000000 in
theorem tt_fX6_howManyInOrder_L30 {N : Nat} (hN : 3000000000 ≤ N) (x1 : Int32) (x2 : Int32) (v2 : Int32) (y13_4 : Int32) (y13_5 : Int32) (g13 : (Nat → Int32) → (Nat → Nat → Int32) → Int32 → Int32 → Option (Int32 × (Nat → Int32) × (Nat → Nat → Int32))) (h_x1 : 0 ≤ x1.toInt ∧ x1.toInt ≤ 5) (h_x2 : 0 ≤ x2.toInt ∧ x2.toInt ≤ 5) (h_v2 : 1 ≤ v2.toInt ∧ v2.toInt ≤ 20) (h_y13_4 : 0 ≤ y13_4.toInt ∧ y13_4.toInt ≤ 2147483647) (h_y13_5 : 0 ≤ y13_5.toInt ∧ y13_5.toInt ≤ 19) (hg13 : ∀ (q0 : (Nat → Int32)) (q1 : (Nat → Nat → Int32)) (q2 : Int32) (q3 : Int32), (0 ≤ q2.toInt ∧ q2.toInt ≤ 2147483647) → (0 ≤ q3.toInt ∧ q3.toInt ≤ 20) → (KX6 q0 q1) → (y13_5.toInt < q3.toInt) → wq (g13 q0 q1 q2 q3) (fun r => (0 ≤ r.1.toInt ∧ r.1.toInt ≤ 2147483647) ∧ KX6 r.2.1 r.2.2 ∧ True)) : ∀ (fu : Nat) (I0_l30 : (Nat → Int32)) (M0_l30 : (Nat → Nat → Int32)) (y30_6 : Int32), (0 ≤ y30_6.toInt ∧ y30_6.toInt ≤ 19) → (KX6 I0_l30 M0_l30) → (19 - y30_6.toInt) < (fu : Int) → wq (fX6_howManyInOrder_L30 N x1 x2 v2 y13_4 y13_5 g13 fu I0_l30 M0_l30 y30_6) (fun r => (0 ≤ r.1.toInt ∧ r.1.toInt ≤ 2147483647) ∧ KX6 r.2.1 r.2.2 ∧ True) := by
  intro fu
  induction fu with
  | zero => intro I0_l30 M0_l30 y30_6 h_y30_6 k_I0_l30 hm; exfalso; omega
  | succ fu ih =>
    intro I0_l30 M0_l30 y30_6 h_y30_6 k_I0_l30 hm
    rw [fX6_howManyInOrder_L30.eq_2]
    refine wq_le (fun hc_11576 => ?_) (fun hc_11577 => ?_)
    · refine wq_in (n := 20) ⟨by omega, by omega⟩ ?_
      have b_11579 := i32b y13_4
      have t_11580 := ite_lt y13_4 (M0_l30 3 y13_5.toNatClampNeg) (M0_l30 3 y13_5.toNatClampNeg) y13_4
      refine wq_v (fun v4_q11578 h_v4_q11578 => ?_)
      have t_v4_q11578 := congrArg Int32.toInt h_v4_q11578
      have l_1 := il_1
      have t_11582 := ia_add y13_5 (1 : Int32) (by omega) (by omega)
      refine wq_v (fun v5_q11581 h_v5_q11581 => ?_)
      have t_v5_q11581 := congrArg Int32.toInt h_v5_q11581
      have b_11583 := i32b v4_q11578
      exact hg13 I0_l30 M0_l30 v4_q11578 v5_q11581 ⟨by omega, by omega⟩ ⟨by omega, by omega⟩ k_I0_l30 (by omega)
    · refine wq_in (n := 20) ⟨by omega, by omega⟩ ?_
      refine wq_in (n := 20) ⟨by omega, by omega⟩ ?_
      refine wq_le (fun hc_11584 => ?_) (fun hc_11585 => ?_)
      · have l_1 := il_1
        have t_11587 := ia_add y30_6 (1 : Int32) (by omega) (by omega)
        refine wq_v (fun v6_q11586 h_v6_q11586 => ?_)
        have t_v6_q11586 := congrArg Int32.toInt h_v6_q11586
        exact ih I0_l30 M0_l30 v6_q11586 ⟨by omega, by omega⟩ k_I0_l30 (by omega)
      · refine wq_in (n := 20) ⟨by omega, by omega⟩ ?_
        refine wq_in (n := 20) ⟨by omega, by omega⟩ ?_
        refine wq_in (n := 20) ⟨by omega, by omega⟩ ?_
        refine wq_v (fun M0_7_q11588 h_M0_7_q11588 => ?_)
        have k_M0_7_q11588 : KX6 I0_l30 M0_7_q11588 := by rw [h_M0_7_q11588]; exact KX6.sm3 k_I0_l30
        have l_1 := il_1
        have t_11590 := ia_add y30_6 (1 : Int32) (by omega) (by omega)
        refine wq_v (fun v8_q11589 h_v8_q11589 => ?_)
        have t_v8_q11589 := congrArg Int32.toInt h_v8_q11589
        exact ih I0_l30 M0_7_q11588 v8_q11589 ⟨by omega, by omega⟩ k_M0_7_q11588 (by omega)
set_option maxHeartbeats 4000000 in
theorem tt_fX6_howManyInOrder_L13 {N : Nat} (hN : 3000000000 ≤ N) (x1 : Int32) (x2 : Int32) (v2 : Int32) (h_x1 : 0 ≤ x1.toInt ∧ x1.toInt ≤ 5) (h_x2 : 0 ≤ x2.toInt ∧ x2.toInt ≤ 5) (h_v2 : 0 ≤ v2.toInt ∧ v2.toInt ≤ 20)  : ∀ (fu : Nat) (I0_l13 : (Nat → Int32)) (M0_l13 : (Nat → Nat → Int32)) (y13_4 : Int32) (y13_5 : Int32), (0 ≤ y13_4.toInt ∧ y13_4.toInt ≤ 2147483647) → (0 ≤ y13_5.toInt ∧ y13_5.toInt ≤ 20) → (KX6 I0_l13 M0_l13) → (20 - y13_5.toInt) < (fu : Int) → wq (fX6_howManyInOrder_L13 N x1 x2 v2 fu I0_l13 M0_l13 y13_4 y13_5) (fun r => (0 ≤ r.1.toInt ∧ r.1.toInt ≤ 2147483647) ∧ KX6 r.2.1 r.2.2 ∧ True) := by
  intro fu
  induction fu with
  | zero => intro I0_l13 M0_l13 y13_4 y13_5 h_y13_4 h_y13_5 k_I0_l13 hm; exfalso; omega
  | succ fu ih =>
    intro I0_l13 M0_l13 y13_4 y13_5 h_y13_4 h_y13_5 k_I0_l13 hm
    rw [fX6_howManyInOrder_L13.eq_2]
    refine wq_le (fun hc_11591 => ?_) (fun hc_11592 => ?_)
    · have b_11593 := i32b y13_4
      exact wq_s ⟨(show 0 ≤ y13_4.toInt ∧ y13_4.toInt ≤ 2147483647 from ⟨by omega, by omega⟩), k_I0_l13, trivial⟩
    · refine wq_in (n := 20) ⟨by omega, by omega⟩ ?_
      refine wq_v (fun M0_3_q11594 h_M0_3_q11594 => ?_)
      have k_M0_3_q11594 : KX6 I0_l13 M0_3_q11594 := by rw [h_M0_3_q11594]; exact KX6.sm3 k_I0_l13
      have b_11595 := i32b y13_4
      have l_0 := il_0
      exact tt_fX6_howManyInOrder_L30 hN x1 x2 v2 y13_4 y13_5 _ ⟨by omega, by omega⟩ ⟨by omega, by omega⟩ ⟨by omega, by omega⟩ ⟨by omega, by omega⟩ ⟨by omega, by omega⟩ (fun q0 q1 q2 q3 hq0 hq1 hq2 hq3 => ih q0 q1 q2 q3 hq0 hq1 hq2 (by omega)) N I0_l13 M0_3_q11594 (0 : Int32) ⟨by omega, by omega⟩ k_M0_3_q11594 (by omega)
set_option maxHeartbeats 4000000 in
theorem tt_fX6_howManyInOrder {N : Nat} (hN : 3000000000 ≤ N) (I0 : Nat → Int32) (M0 : Nat → Nat → Int32) (x1 : Int32) (x2 : Int32) (h_x1 : 0 ≤ x1.toInt ∧ x1.toInt ≤ 5) (h_x2 : 0 ≤ x2.toInt ∧ x2.toInt ≤ 5) (k_I0 : KX6 I0 M0) : wq (fX6_howManyInOrder N I0 M0 x1 x2) (fun r => (0 ≤ r.1.toInt ∧ r.1.toInt ≤ 2147483647) ∧ KX6 r.2.1 r.2.2 ∧ True) := by
  unfold fX6_howManyInOrder
  refine wq_b (tt_fX6_setPlaces hN I0 M0 x1 x2 ⟨by omega, by omega⟩ ⟨by omega, by omega⟩ k_I0) (fun r1_q11596 h_r1_q11596 => ?_)
  obtain ⟨h_r1_q11596_0, h_r1_q11596_1, -⟩ := h_r1_q11596
  refine wq_v (fun v2_q11597 h_v2_q11597 => ?_)
  have t_v2_q11597 := congrArg Int32.toInt h_v2_q11597
  have l_0 := il_0
  exact tt_fX6_howManyInOrder_L13 hN x1 x2 v2_q11597 ⟨by omega, by omega⟩ ⟨by omega, by omega⟩ ⟨by omega, by omega⟩ N r1_q11596.2.1 r1_q11596.2.2 (0 : Int32) (0 : Int32) ⟨by omega, by omega⟩ ⟨by omega, by omega⟩ h_r1_q11596_1 (by omega)
set_option maxHeartbeats 4000000 in
theorem tt_fX6_howManyTurned_L22 {N : Nat} (hN : 3000000000 ≤ N) (x1 : Int32) (x2 : Int32) (v2 : Int32) (y13_5 : Int32) (g13 : (Nat → Int32) → (Nat → Nat → Int32) → Int32 → Int32 → Option (Int32 × (Nat → Int32) × (Nat → Nat → Int32))) (h_x1 : 0 ≤ x1.toInt ∧ x1.toInt ≤ 5) (h_x2 : 0 ≤ x2.toInt ∧ x2.toInt ≤ 5) (h_v2 : 1 ≤ v2.toInt ∧ v2.toInt ≤ 20) (h_y13_5 : 0 ≤ y13_5.toInt ∧ y13_5.toInt ≤ 19) (hg13 : ∀ (q0 : (Nat → Int32)) (q1 : (Nat → Nat → Int32)) (q2 : Int32) (q3 : Int32), (0 ≤ q3.toInt ∧ q3.toInt ≤ 20) → (KX6 q0 q1) → (y13_5.toInt < q3.toInt) → wq (g13 q0 q1 q2 q3) (fun r => KX6 r.2.1 r.2.2 ∧ True)) : ∀ (fu : Nat) (I0_l22 : (Nat → Int32)) (M0_l22 : (Nat → Nat → Int32)) (y22_4 : Int32) (y22_6 : Int32), (0 ≤ y22_6.toInt ∧ y22_6.toInt ≤ 19) → (KX6 I0_l22 M0_l22) → (19 - y22_6.toInt) < (fu : Int) → wq (fX6_howManyTurned_L22 N x1 x2 v2 y13_5 g13 fu I0_l22 M0_l22 y22_4 y22_6) (fun r => KX6 r.2.1 r.2.2 ∧ True) := by
  intro fu
  induction fu with
  | zero => intro I0_l22 M0_l22 y22_4 y22_6 h_y22_6 k_I0_l22 hm; exfalso; omega
  | succ fu ih =>
    intro I0_l22 M0_l22 y22_4 y22_6 h_y22_6 k_I0_l22 hm
    rw [fX6_howManyTurned_L22.eq_2]
    refine wq_le (fun hc_11884 => ?_) (fun hc_11885 => ?_)
    · have l_1 := il_1
      have t_11887 := ia_add y13_5 (1 : Int32) (by omega) (by omega)
      refine wq_v (fun v3_q11886 h_v3_q11886 => ?_)
      have t_v3_q11886 := congrArg Int32.toInt h_v3_q11886
      have b_11888 := i32b y22_4
      exact hg13 I0_l22 M0_l22 y22_4 v3_q11886 ⟨by omega, by omega⟩ k_I0_l22 (by omega)
    · refine wq_in (n := 20) ⟨by omega, by omega⟩ ?_
      refine wq_in (n := 20) ⟨by omega, by omega⟩ ?_
      refine wq_le (fun hc_11889 => ?_) (fun hc_11890 => ?_)
      · have l_1 := il_1
        have t_11892 := ia_add y22_6 (1 : Int32) (by omega) (by omega)
        refine wq_v (fun v4_q11891 h_v4_q11891 => ?_)
        have t_v4_q11891 := congrArg Int32.toInt h_v4_q11891
        have b_11893 := i32b y22_4
        exact ih I0_l22 M0_l22 y22_4 v4_q11891 ⟨by omega, by omega⟩ k_I0_l22 (by omega)
      · have b_11895 := i32b y22_4
        have l_1 := il_1
        refine wq_v (fun v5_q11894 h_v5_q11894 => ?_)
        have t_v5_q11894 := congrArg Int32.toInt h_v5_q11894
        have t_11897 := ia_add y22_6 (1 : Int32) (by omega) (by omega)
        refine wq_v (fun v6_q11896 h_v6_q11896 => ?_)
        have t_v6_q11896 := congrArg Int32.toInt h_v6_q11896
        have b_11898 := i32b v5_q11894
        exact ih I0_l22 M0_l22 v5_q11894 v6_q11896 ⟨by omega, by omega⟩ k_I0_l22 (by omega)
set_option maxHeartbeats 4000000 in
theorem tt_fX6_howManyTurned_L13 {N : Nat} (hN : 3000000000 ≤ N) (x1 : Int32) (x2 : Int32) (v2 : Int32) (h_x1 : 0 ≤ x1.toInt ∧ x1.toInt ≤ 5) (h_x2 : 0 ≤ x2.toInt ∧ x2.toInt ≤ 5) (h_v2 : 0 ≤ v2.toInt ∧ v2.toInt ≤ 20)  : ∀ (fu : Nat) (I0_l13 : (Nat → Int32)) (M0_l13 : (Nat → Nat → Int32)) (y13_4 : Int32) (y13_5 : Int32), (0 ≤ y13_5.toInt ∧ y13_5.toInt ≤ 20) → (KX6 I0_l13 M0_l13) → (20 - y13_5.toInt) < (fu : Int) → wq (fX6_howManyTurned_L13 N x1 x2 v2 fu I0_l13 M0_l13 y13_4 y13_5) (fun r => KX6 r.2.1 r.2.2 ∧ True) := by
  intro fu
  induction fu with
  | zero => intro I0_l13 M0_l13 y13_4 y13_5 h_y13_5 k_I0_l13 hm; exfalso; omega
  | succ fu ih =>
    intro I0_l13 M0_l13 y13_4 y13_5 h_y13_5 k_I0_l13 hm
    rw [fX6_howManyTurned_L13.eq_2]
    refine wq_le (fun hc_11899 => ?_) (fun hc_11900 => ?_)
    · have b_11901 := i32b y13_4
      exact wq_s ⟨k_I0_l13, trivial⟩
    · have b_11902 := i32b y13_4
      have l_0 := il_0
      exact tt_fX6_howManyTurned_L22 hN x1 x2 v2 y13_5 _ ⟨by omega, by omega⟩ ⟨by omega, by omega⟩ ⟨by omega, by omega⟩ ⟨by omega, by omega⟩ (fun q0 q1 q2 q3 hq0 hq1 hq2 => ih q0 q1 q2 q3 hq0 hq1 (by omega)) N I0_l13 M0_l13 y13_4 (0 : Int32) ⟨by omega, by omega⟩ k_I0_l13 (by omega)
set_option maxHeartbeats 4000000 in
theorem tt_fX6_howManyTurned {N : Nat} (hN : 3000000000 ≤ N) (I0 : Nat → Int32) (M0 : Nat → Nat → Int32) (x1 : Int32) (x2 : Int32) (h_x1 : 0 ≤ x1.toInt ∧ x1.toInt ≤ 5) (h_x2 : 0 ≤ x2.toInt ∧ x2.toInt ≤ 5) (k_I0 : KX6 I0 M0) : wq (fX6_howManyTurned N I0 M0 x1 x2) (fun r => KX6 r.2.1 r.2.2 ∧ True) := by
  unfold fX6_howManyTurned
  refine wq_b (tt_fX6_setPlaces hN I0 M0 x1 x2 ⟨by omega, by omega⟩ ⟨by omega, by omega⟩ k_I0) (fun r1_q11903 h_r1_q11903 => ?_)
  obtain ⟨h_r1_q11903_0, h_r1_q11903_1, -⟩ := h_r1_q11903
  refine wq_v (fun v2_q11904 h_v2_q11904 => ?_)
  have t_v2_q11904 := congrArg Int32.toInt h_v2_q11904
  have l_0 := il_0
  exact tt_fX6_howManyTurned_L13 hN x1 x2 v2_q11904 ⟨by omega, by omega⟩ ⟨by omega, by omega⟩ ⟨by omega, by omega⟩ N r1_q11903.2.1 r1_q11903.2.2 (0 : Int32) (0 : Int32) ⟨by omega, by omega⟩ h_r1_q11903_1 (by omega)
set_option maxHeartbeats 4000000 in
theorem tt_fX7_tellLife {N : Nat} (hN : 3000000000 ≤ N) (I0 : Nat → Int32) (M0 : Nat → Nat → Int32) (x1 : Int32) (x2 : Int32) (x3 : Int32) (h_x1 : 0 ≤ x1.toInt ∧ x1.toInt ≤ 19) (k_I0 : KX7 I0 M0) : wq (fX7_tellLife N I0 M0 x1 x2 x3) (fun r => KX7 r.1 r.2 ∧ True) := by
  unfold fX7_tellLife
  refine wq_in (n := 20) ⟨by omega, by omega⟩ ?_
  refine wq_v (fun M0_1_q11915 h_M0_1_q11915 => ?_)
  have k_M0_1_q11915 : KX7 I0 M0_1_q11915 := by rw [h_M0_1_q11915]; exact KX7.sm0 k_I0
  refine wq_in (n := 20) ⟨by omega, by omega⟩ ?_
  refine wq_v (fun M0_2_q11916 h_M0_2_q11916 => ?_)
  have k_M0_2_q11916 : KX7 I0 M0_2_q11916 := by rw [h_M0_2_q11916]; exact KX7.sm1 k_M0_1_q11915
  exact wq_s ⟨k_M0_2_q11916, trivial⟩
set_option maxHeartbeats 4000000 in
theorem tt_fX7_tellFate {N : Nat} (hN : 3000000000 ≤ N) (I0 : Nat → Int32) (M0 : Nat → Nat → Int32) (x1 : Int32) (x2 : Int32) (h_x1 : 0 ≤ x1.toInt ∧ x1.toInt ≤ 19) (k_I0 : KX7 I0 M0) : wq (fX7_tellFate N I0 M0 x1 x2) (fun r => KX7 r.1 r.2 ∧ True) := by
  unfold fX7_tellFate
  refine wq_in (n := 20) ⟨by omega, by omega⟩ ?_
  refine wq_v (fun M0_1_q11922 h_M0_1_q11922 => ?_)
  have k_M0_1_q11922 : KX7 I0 M0_1_q11922 := by rw [h_M0_1_q11922]; exact KX7.sm2 k_I0
  exact wq_s ⟨k_M0_1_q11922, trivial⟩
set_option maxHeartbeats 4000000 in
theorem tt_fX7_setRows_11_L4 {N : Nat} (hN : 3000000000 ≤ N)    : ∀ (fu : Nat) (I0_l4 : (Nat → Int32)) (M0_l4 : (Nat → Nat → Int32)) (y4_2 : Int32) (y4_3 : Int32), (0 ≤ y4_2.toInt ∧ y4_2.toInt ≤ 20) → (0 ≤ y4_3.toInt ∧ y4_3.toInt ≤ 20) → (KX7 I0_l4 M0_l4) → (y4_2.toInt ≤ y4_3.toInt) → (20 - y4_3.toInt) < (fu : Int) → wq (fX7_setRows_11_L4 N fu I0_l4 M0_l4 y4_2 y4_3) (fun r => (0 ≤ r.1.toInt ∧ r.1.toInt ≤ 20) ∧ KX7 r.2.1 r.2.2 ∧ True) := by
  intro fu
  induction fu with
  | zero => intro I0_l4 M0_l4 y4_2 y4_3 h_y4_2 h_y4_3 k_I0_l4 hl_3 hm; exfalso; omega
  | succ fu ih =>
    intro I0_l4 M0_l4 y4_2 y4_3 h_y4_2 h_y4_3 k_I0_l4 hl_3 hm
    rw [fX7_setRows_11_L4.eq_2]
    have l_20 := il_20
    refine wq_le (fun hc_12044 => ?_) (fun hc_12045 => ?_)
    · exact wq_s ⟨(show 0 ≤ y4_2.toInt ∧ y4_2.toInt ≤ 20 from ⟨by omega, by omega⟩), k_I0_l4, trivial⟩
    · refine wq_in (n := 20) ⟨by omega, by omega⟩ ?_
      have l_m1 := il_m1
      refine wq_eq (fun hc_12046 => ?_) (fun hc_12047 => ?_)
      · have l_1 := il_1
        have t_12049 := ia_add y4_3 (1 : Int32) (by omega) (by omega)
        refine wq_v (fun v1_q12048 h_v1_q12048 => ?_)
        have t_v1_q12048 := congrArg Int32.toInt h_v1_q12048
        exact ih I0_l4 M0_l4 y4_2 v1_q12048 ⟨by omega, by omega⟩ ⟨by omega, by omega⟩ k_I0_l4 (by omega) (by omega)
      · refine wq_in (n := 20) ⟨by omega, by omega⟩ ?_
        refine wq_v (fun M0_2_q12050 h_M0_2_q12050 => ?_)
        have k_M0_2_q12050 : KX7 I0_l4 M0_2_q12050 := by rw [h_M0_2_q12050]; exact KX7.sm3 k_I0_l4 ⟨by omega, by omega⟩
        have l_1 := il_1
        have t_12052 := ia_add y4_2 (1 : Int32) (by omega) (by omega)
        refine wq_v (fun v3_q12051 h_v3_q12051 => ?_)
        have t_v3_q12051 := congrArg Int32.toInt h_v3_q12051
        have t_12054 := ia_add y4_3 (1 : Int32) (by omega) (by omega)
        refine wq_v (fun v4_q12053 h_v4_q12053 => ?_)
        have t_v4_q12053 := congrArg Int32.toInt h_v4_q12053
        exact ih I0_l4 M0_2_q12050 v3_q12051 v4_q12053 ⟨by omega, by omega⟩ ⟨by omega, by omega⟩ k_M0_2_q12050 (by omega) (by omega)
set_option maxHeartbeats 4000000 in
theorem tt_fX7_setRows_11 {N : Nat} (hN : 3000000000 ≤ N) (I0 : Nat → Int32) (M0 : Nat → Nat → Int32) (k_I0 : KX7 I0 M0) : wq (fX7_setRows_11 N I0 M0) (fun r => (0 ≤ r.1.toInt ∧ r.1.toInt ≤ 20) ∧ KX7 r.2.1 r.2.2 ∧ True) := by
  unfold fX7_setRows_11
  have l_0 := il_0
  exact tt_fX7_setRows_11_L4 hN N I0 M0 (0 : Int32) (0 : Int32) ⟨by omega, by omega⟩ ⟨by omega, by omega⟩ k_I0 (by omega) (by omega)
set_option maxHeartbeats 4000000 in
theorem tt_fX7_howManyLives {N : Nat} (hN : 3000000000 ≤ N) (I0 : Nat → Int32) (M0 : Nat → Nat → Int32) (k_I0 : KX7 I0 M0) : wq (fX7_howManyLives N I0 M0) (fun r => (0 ≤ r.1.toInt ∧ r.1.toInt ≤ 20) ∧ KX7 r.2.1 r.2.2 ∧ True) := by
  unfold fX7_howManyLives
  refine wq_b (tt_fX7_setRows_11 hN I0 M0 k_I0) (fun r1_q12061 h_r1_q12061 => ?_)
  obtain ⟨h_r1_q12061_0, h_r1_q12061_1, -⟩ := h_r1_q12061
  exact wq_s ⟨(show 0 ≤ r1_q12061.1.toInt ∧ r1_q12061.1.toInt ≤ 20 from ⟨by omega, by omega⟩), h_r1_q12061_1, trivial⟩
set_option maxHeartbeats 4000000 in
theorem tt_fX7_setRows_13_L4 {N : Nat} (hN : 3000000000 ≤ N)    : ∀ (fu : Nat) (I0_l4 : (Nat → Int32)) (M0_l4 : (Nat → Nat → Int32)) (y4_2 : Int32) (y4_3 : Int32), (0 ≤ y4_2.toInt ∧ y4_2.toInt ≤ 20) → (0 ≤ y4_3.toInt ∧ y4_3.toInt ≤ 20) → (KX7 I0_l4 M0_l4) → (y4_2.toInt ≤ y4_3.toInt) → (20 - y4_3.toInt) < (fu : Int) → wq (fX7_setRows_13_L4 N fu I0_l4 M0_l4 y4_2 y4_3) (fun r => (0 ≤ r.1.toInt ∧ r.1.toInt ≤ 20) ∧ KX7 r.2.1 r.2.2 ∧ True) := by
  intro fu
  induction fu with
  | zero => intro I0_l4 M0_l4 y4_2 y4_3 h_y4_2 h_y4_3 k_I0_l4 hl_3 hm; exfalso; omega
  | succ fu ih =>
    intro I0_l4 M0_l4 y4_2 y4_3 h_y4_2 h_y4_3 k_I0_l4 hl_3 hm
    rw [fX7_setRows_13_L4.eq_2]
    have l_20 := il_20
    refine wq_le (fun hc_12183 => ?_) (fun hc_12184 => ?_)
    · exact wq_s ⟨(show 0 ≤ y4_2.toInt ∧ y4_2.toInt ≤ 20 from ⟨by omega, by omega⟩), k_I0_l4, trivial⟩
    · refine wq_in (n := 20) ⟨by omega, by omega⟩ ?_
      have l_m1 := il_m1
      refine wq_eq (fun hc_12185 => ?_) (fun hc_12186 => ?_)
      · have l_1 := il_1
        have t_12188 := ia_add y4_3 (1 : Int32) (by omega) (by omega)
        refine wq_v (fun v1_q12187 h_v1_q12187 => ?_)
        have t_v1_q12187 := congrArg Int32.toInt h_v1_q12187
        exact ih I0_l4 M0_l4 y4_2 v1_q12187 ⟨by omega, by omega⟩ ⟨by omega, by omega⟩ k_I0_l4 (by omega) (by omega)
      · refine wq_in (n := 20) ⟨by omega, by omega⟩ ?_
        refine wq_v (fun M0_2_q12189 h_M0_2_q12189 => ?_)
        have k_M0_2_q12189 : KX7 I0_l4 M0_2_q12189 := by rw [h_M0_2_q12189]; exact KX7.sm3 k_I0_l4 ⟨by omega, by omega⟩
        have l_1 := il_1
        have t_12191 := ia_add y4_2 (1 : Int32) (by omega) (by omega)
        refine wq_v (fun v3_q12190 h_v3_q12190 => ?_)
        have t_v3_q12190 := congrArg Int32.toInt h_v3_q12190
        have t_12193 := ia_add y4_3 (1 : Int32) (by omega) (by omega)
        refine wq_v (fun v4_q12192 h_v4_q12192 => ?_)
        have t_v4_q12192 := congrArg Int32.toInt h_v4_q12192
        exact ih I0_l4 M0_2_q12189 v3_q12190 v4_q12192 ⟨by omega, by omega⟩ ⟨by omega, by omega⟩ k_M0_2_q12189 (by omega) (by omega)
set_option maxHeartbeats 4000000 in
theorem tt_fX7_setRows_13 {N : Nat} (hN : 3000000000 ≤ N) (I0 : Nat → Int32) (M0 : Nat → Nat → Int32) (k_I0 : KX7 I0 M0) : wq (fX7_setRows_13 N I0 M0) (fun r => (0 ≤ r.1.toInt ∧ r.1.toInt ≤ 20) ∧ KX7 r.2.1 r.2.2 ∧ True) := by
  unfold fX7_setRows_13
  have l_0 := il_0
  exact tt_fX7_setRows_13_L4 hN N I0 M0 (0 : Int32) (0 : Int32) ⟨by omega, by omega⟩ ⟨by omega, by omega⟩ k_I0 (by omega) (by omega)
set_option maxHeartbeats 4000000 in
theorem tt_fX7_howManyFates {N : Nat} (hN : 3000000000 ≤ N) (I0 : Nat → Int32) (M0 : Nat → Nat → Int32) (k_I0 : KX7 I0 M0) : wq (fX7_howManyFates N I0 M0) (fun r => (0 ≤ r.1.toInt ∧ r.1.toInt ≤ 20) ∧ KX7 r.2.1 r.2.2 ∧ True) := by
  unfold fX7_howManyFates
  refine wq_b (tt_fX7_setRows_13 hN I0 M0 k_I0) (fun r1_q12200 h_r1_q12200 => ?_)
  obtain ⟨h_r1_q12200_0, h_r1_q12200_1, -⟩ := h_r1_q12200
  exact wq_s ⟨(show 0 ≤ r1_q12200.1.toInt ∧ r1_q12200.1.toInt ≤ 20 from ⟨by omega, by omega⟩), h_r1_q12200_1, trivial⟩
set_option maxHeartbeats 4000000 in
theorem tt_fX7_isHit {N : Nat} (hN : 3000000000 ≤ N) (I0 : Nat → Int32) (M0 : Nat → Nat → Int32) (x1 : Int32) (x2 : Int32) (x3 : Int32) (h_x1 : 0 ≤ x1.toInt ∧ x1.toInt ≤ 19) (k_I0 : KX7 I0 M0) : wq (fX7_isHit N I0 M0 x1 x2 x3) (fun r => (0 ≤ r.toInt ∧ r.toInt ≤ 1) ∧ True) := by
  unfold fX7_isHit
  refine wq_in (n := 20) ⟨by omega, by omega⟩ ?_
  have b_12231 := i32b x3
  have l_0 := il_0
  have b_12232 := i32b x2
  have t_12233 := ite_le (0 : Int32) ((M0 0 x1.toNatClampNeg) - x2) ((M0 0 x1.toNatClampNeg) - x2) (0 - ((M0 0 x1.toNatClampNeg) - x2))
  refine wq_lt (fun hc_12234 => ?_) (fun hc_12235 => ?_)
  · exact wq_s ⟨(show 0 ≤ (0 : Int32).toInt ∧ (0 : Int32).toInt ≤ 1 from ⟨by omega, by omega⟩), trivial⟩
  · have l_1 := il_1
    exact wq_s ⟨(show 0 ≤ (1 : Int32).toInt ∧ (1 : Int32).toInt ≤ 1 from ⟨by omega, by omega⟩), trivial⟩
set_option maxHeartbeats 4000000 in
theorem tt_fX7_howManyHits_L14 {N : Nat} (hN : 3000000000 ≤ N) (x1 : Int32) (v2 : Int32) (h_v2 : 0 ≤ v2.toInt ∧ v2.toInt ≤ 20)  : ∀ (fu : Nat) (I0_l14 : (Nat → Int32)) (M0_l14 : (Nat → Nat → Int32)) (y14_3 : Int32) (y14_4 : Int32), (0 ≤ y14_3.toInt ∧ y14_3.toInt ≤ 20) → (0 ≤ y14_4.toInt ∧ y14_4.toInt ≤ 20) → (KX7 I0_l14 M0_l14) → (y14_3.toInt ≤ y14_4.toInt) → (20 - y14_4.toInt) < (fu : Int) → wq (fX7_howManyHits_L14 N x1 v2 fu I0_l14 M0_l14 y14_3 y14_4) (fun r => (0 ≤ r.1.toInt ∧ r.1.toInt ≤ 20) ∧ KX7 r.2.1 r.2.2 ∧ True) := by
  intro fu
  induction fu with
  | zero => intro I0_l14 M0_l14 y14_3 y14_4 h_y14_3 h_y14_4 k_I0_l14 hl_3 hm; exfalso; omega
  | succ fu ih =>
    intro I0_l14 M0_l14 y14_3 y14_4 h_y14_3 h_y14_4 k_I0_l14 hl_3 hm
    rw [fX7_howManyHits_L14.eq_2]
    refine wq_le (fun hc_12380 => ?_) (fun hc_12381 => ?_)
    · exact wq_s ⟨(show 0 ≤ y14_3.toInt ∧ y14_3.toInt ≤ 20 from ⟨by omega, by omega⟩), k_I0_l14, trivial⟩
    · refine wq_in (n := 20) ⟨by omega, by omega⟩ ?_
      refine wq_in (n := 20) ⟨by omega, by omega⟩ ?_
      have t_12382 := KX7.m3 k_I0_l14 y14_4.toNatClampNeg
      refine wq_in (n := 20) ⟨by omega, by omega⟩ ?_
      have b_12383 := i32b x1
      refine wq_b (tt_fX7_isHit hN I0_l14 M0_l14 (M0_l14 3 y14_4.toNatClampNeg) (M0_l14 1 (M0_l14 3 y14_4.toNatClampNeg).toNatClampNeg) x1 ⟨by omega, by omega⟩ k_I0_l14) (fun r3_q12384 h_r3_q12384 => ?_)
      obtain ⟨h_r3_q12384_0, -⟩ := h_r3_q12384
      have l_0 := il_0
      refine wq_eq (fun hc_12385 => ?_) (fun hc_12386 => ?_)
      · have l_1 := il_1
        have t_12388 := ia_add y14_4 (1 : Int32) (by omega) (by omega)
        refine wq_v (fun v4_q12387 h_v4_q12387 => ?_)
        have t_v4_q12387 := congrArg Int32.toInt h_v4_q12387
        exact ih I0_l14 M0_l14 y14_3 v4_q12387 ⟨by omega, by omega⟩ ⟨by omega, by omega⟩ k_I0_l14 (by omega) (by omega)
      · have l_1 := il_1
        have t_12390 := ia_add y14_3 (1 : Int32) (by omega) (by omega)
        refine wq_v (fun v5_q12389 h_v5_q12389 => ?_)
        have t_v5_q12389 := congrArg Int32.toInt h_v5_q12389
        have t_12392 := ia_add y14_4 (1 : Int32) (by omega) (by omega)
        refine wq_v (fun v6_q12391 h_v6_q12391 => ?_)
        have t_v6_q12391 := congrArg Int32.toInt h_v6_q12391
        exact ih I0_l14 M0_l14 v5_q12389 v6_q12391 ⟨by omega, by omega⟩ ⟨by omega, by omega⟩ k_I0_l14 (by omega) (by omega)
set_option maxHeartbeats 4000000 in
theorem tt_fX7_howManyHits {N : Nat} (hN : 3000000000 ≤ N) (I0 : Nat → Int32) (M0 : Nat → Nat → Int32) (x1 : Int32) (k_I0 : KX7 I0 M0) : wq (fX7_howManyHits N I0 M0 x1) (fun r => (0 ≤ r.1.toInt ∧ r.1.toInt ≤ 20) ∧ KX7 r.2.1 r.2.2 ∧ True) := by
  unfold fX7_howManyHits
  refine wq_b (tt_fX7_setRows_11 hN I0 M0 k_I0) (fun r1_q12393 h_r1_q12393 => ?_)
  obtain ⟨h_r1_q12393_0, h_r1_q12393_1, -⟩ := h_r1_q12393
  refine wq_v (fun v2_q12394 h_v2_q12394 => ?_)
  have t_v2_q12394 := congrArg Int32.toInt h_v2_q12394
  have b_12395 := i32b x1
  have l_0 := il_0
  exact tt_fX7_howManyHits_L14 hN x1 v2_q12394 ⟨by omega, by omega⟩ N r1_q12393.2.1 r1_q12393.2.2 (0 : Int32) (0 : Int32) ⟨by omega, by omega⟩ ⟨by omega, by omega⟩ h_r1_q12393_1 (by omega) (by omega)
set_option maxHeartbeats 4000000 in
theorem tt_fX7_layNext_L56 {N : Nat} (hN : 3000000000 ≤ N) (x1 : Int32) (x2 : Int32) (r1 : Int32) (v2 : Int32) (y43_4 : Int32) (z43_0 : Int32) (g8 : (Nat → Int32) → (Nat → Nat → Int32) → Int32 → Option ((Nat → Int32) × (Nat → Nat → Int32))) (h_x1 : 0 ≤ x1.toInt ∧ x1.toInt ≤ 254) (h_x2 : 1 ≤ x2.toInt ∧ x2.toInt ≤ 8) (h_r1 : 0 ≤ r1.toInt ∧ r1.toInt ≤ 7) (h_v2 : 0 ≤ v2.toInt ∧ v2.toInt ≤ 255) (h_y43_4 : 0 ≤ y43_4.toInt ∧ y43_4.toInt ≤ 7) (h_z43_0 : 0 ≤ z43_0.toInt ∧ z43_0.toInt ≤ 1) (hg8 : ∀ (q0 : (Nat → Int32)) (q1 : (Nat → Nat → Int32)) (q2 : Int32), (0 ≤ q2.toInt ∧ q2.toInt ≤ 8) → (KX7 q0 q1) → (y43_4.toInt < q2.toInt) → wq (g8 q0 q1 q2) (fun r => KX7 r.1 r.2 ∧ True)) : ∀ (fu : Nat) (I0_l56 : (Nat → Int32)) (M0_l56 : (Nat → Nat → Int32)) (y56_7 : Int32), (0 ≤ y56_7.toInt ∧ y56_7.toInt ≤ 8) → (KX7 I0_l56 M0_l56) → (8 - y56_7.toInt) < (fu : Int) → wq (fX7_layNext_L56 N x1 x2 r1 v2 y43_4 z43_0 g8 fu I0_l56 M0_l56 y56_7) (fun r => KX7 r.1 r.2 ∧ True) := by
  intro fu
  induction fu with
  | zero => intro I0_l56 M0_l56 y56_7 h_y56_7 k_I0_l56 hm; exfalso; omega
  | succ fu ih =>
    intro I0_l56 M0_l56 y56_7 h_y56_7 k_I0_l56 hm
    rw [fX7_layNext_L56.eq_2]
    refine wq_lt (fun hc_12664 => ?_) (fun hc_12665 => ?_)
    · have l_1 := il_1
      have t_12667 := ia_add y43_4 (1 : Int32) (by omega) (by omega)
      refine wq_v (fun v3_q12666 h_v3_q12666 => ?_)
      have t_v3_q12666 := congrArg Int32.toInt h_v3_q12666
      exact hg8 I0_l56 M0_l56 v3_q12666 ⟨by omega, by omega⟩ k_I0_l56 (by omega)
    · have l_9 := il_9
      have t_12668 := ia_mul (9 : Int32) (9) il_9 v2 (by omega) (by omega)
      have t_12669 := ia_add ((9 : Int32) * v2) y56_7 (by omega) (by omega)
      have t_12670 := ia_add (((9 : Int32) * v2) + y56_7) z43_0 (by omega) (by omega)
      refine wq_in (n := 2304) ⟨by omega, by omega⟩ ?_
      have t_12671 := ia_mul (9 : Int32) (9) il_9 x1 (by omega) (by omega)
      have t_12672 := ia_add ((9 : Int32) * x1) y56_7 (by omega) (by omega)
      refine wq_in (n := 2304) ⟨by omega, by omega⟩ ?_
      refine wq_in (n := 2304) ⟨by omega, by omega⟩ ?_
      refine wq_v (fun M0_4_q12673 h_M0_4_q12673 => ?_)
      have k_M0_4_q12673 : KX7 I0_l56 M0_4_q12673 := by rw [h_M0_4_q12673]; exact KX7.sm5 k_I0_l56
      have l_1 := il_1
      have t_12675 := ia_add y56_7 (1 : Int32) (by omega) (by omega)
      refine wq_v (fun v5_q12674 h_v5_q12674 => ?_)
      have t_v5_q12674 := congrArg Int32.toInt h_v5_q12674
      exact ih I0_l56 M0_4_q12673 v5_q12674 ⟨by omega, by omega⟩ k_M0_4_q12673 (by omega)
set_option maxHeartbeats 4000000 in
theorem tt_fX7_layNext_L8 {N : Nat} (hN : 3000000000 ≤ N) (x1 : Int32) (x2 : Int32) (r1 : Int32) (h_x1 : 0 ≤ x1.toInt ∧ x1.toInt ≤ 254) (h_x2 : 0 ≤ x2.toInt ∧ x2.toInt ≤ 8) (h_r1 : 0 ≤ r1.toInt ∧ r1.toInt ≤ 7)  : ∀ (fu : Nat) (I0_l8 : (Nat → Int32)) (M0_l8 : (Nat → Nat → Int32)) (y8_4 : Int32), (0 ≤ y8_4.toInt ∧ y8_4.toInt ≤ 8) → (KX7 I0_l8 M0_l8) → (8 - y8_4.toInt) < (fu : Int) → wq (fX7_layNext_L8 N x1 x2 r1 fu I0_l8 M0_l8 y8_4) (fun r => KX7 r.1 r.2 ∧ True) := by
  intro fu
  induction fu with
  | zero => intro I0_l8 M0_l8 y8_4 h_y8_4 k_I0_l8 hm; exfalso; omega
  | succ fu ih =>
    intro I0_l8 M0_l8 y8_4 h_y8_4 k_I0_l8 hm
    rw [fX7_layNext_L8.eq_2]
    refine wq_le (fun hc_12676 => ?_) (fun hc_12677 => ?_)
    · exact wq_s ⟨k_I0_l8, trivial⟩
    · have l_0 := il_0
      refine wq_eq (fun hc_12678 => ?_) (fun hc_12679 => ?_)
      · have l_8 := il_8
        have t_12680 := ia_mul (8 : Int32) (8) il_8 r1 (by omega) (by omega)
        have t_12681 := ia_add ((8 : Int32) * r1) y8_4 (by omega) (by omega)
        refine wq_in (n := 64) ⟨by omega, by omega⟩ ?_
        refine wq_eq (fun hc_12682 => ?_) (fun hc_12683 => ?_)
        · unfold fX7_layNext_J43
          have t_12685 := or_sh x1 y8_4 ⟨by omega, by omega⟩ ⟨by omega, by omega⟩
          refine wq_v (fun v2_q12684 h_v2_q12684 => ?_)
          have t_v2_q12684 := congrArg Int32.toInt h_v2_q12684
          exact tt_fX7_layNext_L56 hN x1 x2 r1 v2_q12684 y8_4 (0 : Int32) _ ⟨by omega, by omega⟩ ⟨by omega, by omega⟩ ⟨by omega, by omega⟩ ⟨by omega, by omega⟩ ⟨by omega, by omega⟩ ⟨by omega, by omega⟩ (fun q0 q1 q2 hq0 hq1 hq2 => ih q0 q1 q2 hq0 hq1 (by omega)) N I0_l8 M0_l8 (0 : Int32) ⟨by omega, by omega⟩ k_I0_l8 (by omega)
        · unfold fX7_layNext_J43
          have t_12687 := or_sh x1 y8_4 ⟨by omega, by omega⟩ ⟨by omega, by omega⟩
          refine wq_v (fun v2_q12686 h_v2_q12686 => ?_)
          have t_v2_q12686 := congrArg Int32.toInt h_v2_q12686
          have l_1 := il_1
          exact tt_fX7_layNext_L56 hN x1 x2 r1 v2_q12686 y8_4 (1 : Int32) _ ⟨by omega, by omega⟩ ⟨by omega, by omega⟩ ⟨by omega, by omega⟩ ⟨by omega, by omega⟩ ⟨by omega, by omega⟩ ⟨by omega, by omega⟩ (fun q0 q1 q2 hq0 hq1 hq2 => ih q0 q1 q2 hq0 hq1 (by omega)) N I0_l8 M0_l8 (0 : Int32) ⟨by omega, by omega⟩ k_I0_l8 (by omega)
      · have l_1 := il_1
        have t_12689 := ia_add y8_4 (1 : Int32) (by omega) (by omega)
        refine wq_v (fun v6_q12688 h_v6_q12688 => ?_)
        have t_v6_q12688 := congrArg Int32.toInt h_v6_q12688
        exact ih I0_l8 M0_l8 v6_q12688 ⟨by omega, by omega⟩ k_I0_l8 (by omega)
set_option maxHeartbeats 4000000 in
theorem tt_fX7_layNext {N : Nat} (hN : 3000000000 ≤ N) (I0 : Nat → Int32) (M0 : Nat → Nat → Int32) (x1 : Int32) (x2 : Int32) (h_x1 : 0 ≤ x1.toInt ∧ x1.toInt ≤ 254) (h_x2 : 0 ≤ x2.toInt ∧ x2.toInt ≤ 8) (k_I0 : KX7 I0 M0) : wq (fX7_layNext N I0 M0 x1 x2) (fun r => KX7 r.1 r.2 ∧ True) := by
  unfold fX7_layNext
  refine wq_b (tt_fJ6_bitCount_0f7a4 hN x1) (fun r1_q12690 h_r1_q12690 => ?_)
  obtain ⟨h_r1_q12690_0, -⟩ := h_r1_q12690
  have l_0 := il_0
  exact tt_fX7_layNext_L8 hN x1 x2 r1_q12690 ⟨by omega, by omega⟩ ⟨by omega, by omega⟩ ⟨by omega, by omega⟩ N I0 M0 (0 : Int32) ⟨by omega, by omega⟩ k_I0 (by omega)
set_option maxHeartbeats 4000000 in
theorem tt_fX7_waysToHit_L49 {N : Nat} (hN : 3000000000 ≤ N) (x1 : Int32) (x2 : Int32) (v1 : Int32) (g24 : (Nat → Int32) → (Nat → Nat → Int32) → Int32 → Option (Int32 × (Nat → Int32) × (Nat → Nat → Int32))) (h_x1 : 0 ≤ x1.toInt ∧ x1.toInt ≤ 8) (h_x2 : 0 ≤ x2.toInt ∧ x2.toInt ≤ 2147483647) (h_v1 : 0 ≤ v1.toInt ∧ v1.toInt ≤ 255)  : ∀ (fu : Nat) (I0_l49 : (Nat → Int32)) (M0_l49 : (Nat → Nat → Int32)) (y49_4 : Int32) (y49_5 : Int32), (0 ≤ y49_5.toInt ∧ y49_5.toInt ≤ 2147483647) → (KX7 I0_l49 M0_l49) → (2147483647 - y49_5.toInt) < (fu : Int) → wq (fX7_waysToHit_L49 N x1 x2 v1 g24 fu I0_l49 M0_l49 y49_4 y49_5) (fun r => KX7 r.2.1 r.2.2 ∧ True) := by
  intro fu
  induction fu with
  | zero => intro I0_l49 M0_l49 y49_4 y49_5 h_y49_5 k_I0_l49 hm; exfalso; omega
  | succ fu ih =>
    intro I0_l49 M0_l49 y49_4 y49_5 h_y49_5 k_I0_l49 hm
    rw [fX7_waysToHit_L49.eq_2]
    have b_12999 := i32b y49_5
    refine wq_lt (fun hc_13000 => ?_) (fun hc_13001 => ?_)
    · have b_13002 := i32b y49_4
      exact wq_s ⟨k_I0_l49, trivial⟩
    · have l_9 := il_9
      have t_13003 := ia_mul (9 : Int32) (9) il_9 v1 (by omega) (by omega)
      have t_13004 := ia_add ((9 : Int32) * v1) y49_5 (by omega) (by omega)
      refine wq_in (n := 2304) ⟨by omega, by omega⟩ ?_
      have b_13006 := i32b y49_4
      refine wq_v (fun v5_q13005 h_v5_q13005 => ?_)
      have t_v5_q13005 := congrArg Int32.toInt h_v5_q13005
      have l_1 := il_1
      have t_13008 := ia_add y49_5 (1 : Int32) (by omega) (by omega)
      refine wq_v (fun v6_q13007 h_v6_q13007 => ?_)
      have t_v6_q13007 := congrArg Int32.toInt h_v6_q13007
      have b_13009 := i32b v5_q13005
      exact ih I0_l49 M0_l49 v5_q13005 v6_q13007 ⟨by omega, by omega⟩ k_I0_l49 (by omega)
set_option maxHeartbeats 4000000 in
theorem tt_fX7_waysToHit_L24 {N : Nat} (hN : 3000000000 ≤ N) (x1 : Int32) (x2 : Int32) (v1 : Int32) (h_x1 : 0 ≤ x1.toInt ∧ x1.toInt ≤ 8) (h_x2 : 0 ≤ x2.toInt ∧ x2.toInt ≤ 2147483647) (h_v1 : 0 ≤ v1.toInt ∧ v1.toInt ≤ 255)  : ∀ (fu : Nat) (I0_l24 : (Nat → Int32)) (M0_l24 : (Nat → Nat → Int32)) (y24_4 : Int32), (0 ≤ y24_4.toInt ∧ y24_4.toInt ≤ 255) → (KX7 I0_l24 M0_l24) → (255 - y24_4.toInt) < (fu : Int) → wq (fX7_waysToHit_L24 N x1 x2 v1 fu I0_l24 M0_l24 y24_4) (fun r => KX7 r.2.1 r.2.2 ∧ True) := by
  intro fu
  induction fu with
  | zero => intro I0_l24 M0_l24 y24_4 h_y24_4 k_I0_l24 hm; exfalso; omega
  | succ fu ih =>
    intro I0_l24 M0_l24 y24_4 h_y24_4 k_I0_l24 hm
    rw [fX7_waysToHit_L24.eq_2]
    refine wq_le (fun hc_13010 => ?_) (fun hc_13011 => ?_)
    · have b_13012 := i32b x2
      have l_0 := il_0
      exact tt_fX7_waysToHit_L49 hN x1 x2 v1 _ ⟨by omega, by omega⟩ ⟨by omega, by omega⟩ ⟨by omega, by omega⟩ N I0_l24 M0_l24 (0 : Int32) x2 ⟨by omega, by omega⟩ k_I0_l24 (by omega)
    · refine wq_b (tt_fX7_layNext hN I0_l24 M0_l24 y24_4 x1 ⟨by omega, by omega⟩ ⟨by omega, by omega⟩ k_I0_l24) (fun r7_q13013 h_r7_q13013 => ?_)
      obtain ⟨h_r7_q13013_0, -⟩ := h_r7_q13013
      have l_1 := il_1
      have t_13015 := ia_add y24_4 (1 : Int32) (by omega) (by omega)
      refine wq_v (fun v8_q13014 h_v8_q13014 => ?_)
      have t_v8_q13014 := congrArg Int32.toInt h_v8_q13014
      exact ih r7_q13013.1 r7_q13013.2 v8_q13014 ⟨by omega, by omega⟩ h_r7_q13013_0 (by omega)
set_option maxHeartbeats 4000000 in
theorem tt_fX7_waysToHit {N : Nat} (hN : 3000000000 ≤ N) (I0 : Nat → Int32) (M0 : Nat → Nat → Int32) (x1 : Int32) (x2 : Int32) (h_x1 : 0 ≤ x1.toInt ∧ x1.toInt ≤ 8) (h_x2 : 0 ≤ x2.toInt ∧ x2.toInt ≤ 2147483647) (k_I0 : KX7 I0 M0) : wq (fX7_waysToHit N I0 M0 x1 x2) (fun r => KX7 r.2.1 r.2.2 ∧ True) := by
  unfold fX7_waysToHit
  have t_13017 := sh_1 x1 ⟨by omega, by omega⟩
  have l_1 := il_1
  have t_13018 := ia_sub ((1 : Int32) <<< (x1 &&& 31)) (1 : Int32) (by omega) (by omega)
  refine wq_v (fun v1_q13016 h_v1_q13016 => ?_)
  have t_v1_q13016 := congrArg Int32.toInt h_v1_q13016
  have l_0 := il_0
  refine wq_b (tt_fJ7_fill_53178 hN 2304 (M0 5) (0 : Int32) (by omega)) (fun r2_q13019 h_r2_q13019 => ?_)
  obtain ⟨h_r2_q13019_0, -⟩ := h_r2_q13019
  refine wq_v (fun M0_3_q13020 h_M0_3_q13020 => ?_)
  have k_M0_3_q13020 : KX7 I0 M0_3_q13020 := by rw [h_M0_3_q13020]; exact KX7.sf5 k_I0
  refine wq_in (n := 2304) ⟨by omega, by omega⟩ ?_
  refine wq_v (fun M0_4_q13021 h_M0_4_q13021 => ?_)
  have k_M0_4_q13021 : KX7 I0 M0_4_q13021 := by rw [h_M0_4_q13021]; exact KX7.sm5 k_M0_3_q13020
  have b_13022 := i32b x2
  exact tt_fX7_waysToHit_L24 hN x1 x2 v1_q13016 ⟨by omega, by omega⟩ ⟨by omega, by omega⟩ ⟨by omega, by omega⟩ N I0 M0_4_q13021 (0 : Int32) ⟨by omega, by omega⟩ k_M0_4_q13021 (by omega)
set_option maxHeartbeats 4000000 in
theorem tt_fX7_chanceOfLives_L27 {N : Nat} (hN : 3000000000 ≤ N) (x1 : Int32) (v2 : Int32) (y19_3 : Int32) (g19 : (Nat → Int32) → (Nat → Nat → Int32) → Int32 → Option (Int32 × (Nat → Int32) × (Nat → Nat → Int32))) (h_v2 : 1 ≤ v2.toInt ∧ v2.toInt ≤ 8) (h_y19_3 : 0 ≤ y19_3.toInt ∧ y19_3.toInt ≤ 7) (hg19 : ∀ (q0 : (Nat → Int32)) (q1 : (Nat → Nat → Int32)) (q2 : Int32), (0 ≤ q2.toInt ∧ q2.toInt ≤ 8) → (KX7 q0 q1) → (y19_3.toInt < q2.toInt) → wq (g19 q0 q1 q2) (fun r => KX7 r.2.1 r.2.2 ∧ True)) : ∀ (fu : Nat) (I0_l27 : (Nat → Int32)) (M0_l27 : (Nat → Nat → Int32)) (y27_4 : Int32), (0 ≤ y27_4.toInt ∧ y27_4.toInt ≤ 8) → (KX7 I0_l27 M0_l27) → (8 - y27_4.toInt) < (fu : Int) → wq (fX7_chanceOfLives_L27 N x1 v2 y19_3 g19 fu I0_l27 M0_l27 y27_4) (fun r => KX7 r.2.1 r.2.2 ∧ True) := by
  intro fu
  induction fu with
  | zero => intro I0_l27 M0_l27 y27_4 h_y27_4 k_I0_l27 hm; exfalso; omega
  | succ fu ih =>
    intro I0_l27 M0_l27 y27_4 h_y27_4 k_I0_l27 hm
    rw [fX7_chanceOfLives_L27.eq_2]
    refine wq_le (fun hc_13271 => ?_) (fun hc_13272 => ?_)
    · have l_1 := il_1
      have t_13274 := ia_add y19_3 (1 : Int32) (by omega) (by omega)
      refine wq_v (fun v5_q13273 h_v5_q13273 => ?_)
      have t_v5_q13273 := congrArg Int32.toInt h_v5_q13273
      exact hg19 I0_l27 M0_l27 v5_q13273 ⟨by omega, by omega⟩ k_I0_l27 (by omega)
    · refine wq_in (n := 20) ⟨by omega, by omega⟩ ?_
      refine wq_in (n := 20) ⟨by omega, by omega⟩ ?_
      have t_13275 := KX7.m3 k_I0_l27 y27_4.toNatClampNeg
      refine wq_in (n := 20) ⟨by omega, by omega⟩ ?_
      have t_13276 := KX7.m3 k_I0_l27 y19_3.toNatClampNeg
      have b_13277 := i32b x1
      refine wq_b (tt_fX7_isHit hN I0_l27 M0_l27 (M0_l27 3 y19_3.toNatClampNeg) (M0_l27 1 (M0_l27 3 y27_4.toNatClampNeg).toNatClampNeg) x1 ⟨by omega, by omega⟩ k_I0_l27) (fun r6_q13278 h_r6_q13278 => ?_)
      obtain ⟨h_r6_q13278_0, -⟩ := h_r6_q13278
      have l_8 := il_8
      have t_13279 := ia_mul (8 : Int32) (8) il_8 y19_3 (by omega) (by omega)
      have t_13280 := ia_add ((8 : Int32) * y19_3) y27_4 (by omega) (by omega)
      refine wq_in (n := 64) ⟨by omega, by omega⟩ ?_
      refine wq_v (fun M0_7_q13281 h_M0_7_q13281 => ?_)
      have k_M0_7_q13281 : KX7 I0_l27 M0_7_q13281 := by rw [h_M0_7_q13281]; exact KX7.sm4 k_I0_l27
      have l_1 := il_1
      have t_13283 := ia_add y27_4 (1 : Int32) (by omega) (by omega)
      refine wq_v (fun v8_q13282 h_v8_q13282 => ?_)
      have t_v8_q13282 := congrArg Int32.toInt h_v8_q13282
      exact ih I0_l27 M0_7_q13281 v8_q13282 ⟨by omega, by omega⟩ k_M0_7_q13281 (by omega)
set_option maxHeartbeats 4000000 in
theorem tt_fX7_chanceOfLives_L19 {N : Nat} (hN : 3000000000 ≤ N) (x1 : Int32) (v2 : Int32) (h_v2 : 0 ≤ v2.toInt ∧ v2.toInt ≤ 8)  : ∀ (fu : Nat) (I0_l19 : (Nat → Int32)) (M0_l19 : (Nat → Nat → Int32)) (y19_3 : Int32), (0 ≤ y19_3.toInt ∧ y19_3.toInt ≤ 8) → (KX7 I0_l19 M0_l19) → (8 - y19_3.toInt) < (fu : Int) → wq (fX7_chanceOfLives_L19 N x1 v2 fu I0_l19 M0_l19 y19_3) (fun r => KX7 r.2.1 r.2.2 ∧ True) := by
  intro fu
  induction fu with
  | zero => intro I0_l19 M0_l19 y19_3 h_y19_3 k_I0_l19 hm; exfalso; omega
  | succ fu ih =>
    intro I0_l19 M0_l19 y19_3 h_y19_3 k_I0_l19 hm
    rw [fX7_chanceOfLives_L19.eq_2]
    refine wq_le (fun hc_13284 => ?_) (fun hc_13285 => ?_)
    · have b_13286 := i32b x1
      refine wq_b (tt_fX7_howManyHits hN I0_l19 M0_l19 x1 k_I0_l19) (fun r3_q13287 h_r3_q13287 => ?_)
      obtain ⟨h_r3_q13287_0, h_r3_q13287_1, -⟩ := h_r3_q13287
      refine wq_b (tt_fX7_waysToHit hN r3_q13287.2.1 r3_q13287.2.2 v2 r3_q13287.1 ⟨by omega, by omega⟩ ⟨by omega, by omega⟩ h_r3_q13287_1) (fun r4_q13288 h_r4_q13288 => ?_)
      obtain ⟨h_r4_q13288_0, -⟩ := h_r4_q13288
      have b_13289 := i32b r4_q13288.1
      exact wq_s ⟨h_r4_q13288_0, trivial⟩
    · have b_13290 := i32b x1
      have l_0 := il_0
      exact tt_fX7_chanceOfLives_L27 hN x1 v2 y19_3 _ ⟨by omega, by omega⟩ ⟨by omega, by omega⟩ (fun q0 q1 q2 hq0 hq1 hq2 => ih q0 q1 q2 hq0 hq1 (by omega)) N I0_l19 M0_l19 (0 : Int32) ⟨by omega, by omega⟩ k_I0_l19 (by omega)
set_option maxHeartbeats 4000000 in
theorem tt_fX7_chanceOfLives {N : Nat} (hN : 3000000000 ≤ N) (I0 : Nat → Int32) (M0 : Nat → Nat → Int32) (x1 : Int32) (k_I0 : KX7 I0 M0) : wq (fX7_chanceOfLives N I0 M0 x1) (fun r => KX7 r.2.1 r.2.2 ∧ True) := by
  unfold fX7_chanceOfLives
  refine wq_b (tt_fX7_setRows_11 hN I0 M0 k_I0) (fun r1_q13291 h_r1_q13291 => ?_)
  obtain ⟨h_r1_q13291_0, h_r1_q13291_1, -⟩ := h_r1_q13291
  refine wq_v (fun v2_q13292 h_v2_q13292 => ?_)
  have t_v2_q13292 := congrArg Int32.toInt h_v2_q13292
  have l_8 := il_8
  refine wq_le (fun hc_13293 => ?_) (fun hc_13294 => ?_)
  · have b_13295 := i32b x1
    have l_0 := il_0
    exact tt_fX7_chanceOfLives_L19 hN x1 v2_q13292 ⟨by omega, by omega⟩ N r1_q13291.2.1 r1_q13291.2.2 (0 : Int32) ⟨by omega, by omega⟩ h_r1_q13291_1 (by omega)
  · have l_m1 := il_m1
    exact wq_s ⟨h_r1_q13291_1, trivial⟩
set_option maxHeartbeats 4000000 in
theorem tt_fX7_isToldByLot {N : Nat} (hN : 3000000000 ≤ N) (I0 : Nat → Int32) (M0 : Nat → Nat → Int32) (x1 : Int32) (x2 : Int32) (h_x1 : 0 ≤ x1.toInt ∧ x1.toInt ≤ 119) (k_I0 : KX1 I0 M0) : wq (fX7_isToldByLot N I0 M0 x1 x2) (fun r => (0 ≤ r.toInt ∧ r.toInt ≤ 1) ∧ True) := by
  unfold fX7_isToldByLot
  have l_8 := il_8
  refine wq_b (tt_fX1_degreeOf hN I0 M0 x1 (8 : Int32) ⟨by omega, by omega⟩ ⟨by omega, by omega⟩ k_I0) (fun r1_q13368 h_r1_q13368 => ?_)
  obtain ⟨h_r1_q13368_0, h_r1_q13368_1, -⟩ := h_r1_q13368
  have l_7 := il_7
  refine wq_b (tt_fX1_degreeOf hN I0 M0 x1 (7 : Int32) ⟨by omega, by omega⟩ ⟨by omega, by omega⟩ k_I0) (fun r2_q13369 h_r2_q13369 => ?_)
  obtain ⟨h_r2_q13369_0, h_r2_q13369_1, -⟩ := h_r2_q13369
  have l_m1 := il_m1
  refine wq_eq (fun hc_13370 => ?_) (fun hc_13371 => ?_)
  · have l_0 := il_0
    exact wq_s ⟨(show 0 ≤ (0 : Int32).toInt ∧ (0 : Int32).toInt ≤ 1 from ⟨by omega, by omega⟩), trivial⟩
  · refine wq_eq (fun hc_13372 => ?_) (fun hc_13373 => ?_)
    · have l_0 := il_0
      exact wq_s ⟨(show 0 ≤ (0 : Int32).toInt ∧ (0 : Int32).toInt ≤ 1 from ⟨by omega, by omega⟩), trivial⟩
    · have l_30 := il_30
      have t_13374 := ia_div r1_q13368 (30 : Int32) 30 il_30 (by decide) (by omega)
      have t_13375 := ia_div r2_q13369 (30 : Int32) 30 il_30 (by decide) (by omega)
      have b_13376 := i32b x2
      have l_1 := il_1
      have l_12 := il_12
      have t_13377 := ia_rem2 (((r2_q13369 / (30 : Int32)) + x2) - (1 : Int32)) (12 : Int32) 12 il_12 (by decide)
      refine wq_eq (fun hc_13378 => ?_) (fun hc_13379 => ?_)
      · exact wq_s ⟨(show 0 ≤ (1 : Int32).toInt ∧ (1 : Int32).toInt ≤ 1 from ⟨by omega, by omega⟩), trivial⟩
      · have l_0 := il_0
        exact wq_s ⟨(show 0 ≤ (0 : Int32).toInt ∧ (0 : Int32).toInt ≤ 1 from ⟨by omega, by omega⟩), trivial⟩
set_option maxHeartbeats 4000000 in
theorem tt_fX7_howManyToldByLot_L14 {N : Nat} (hN : 3000000000 ≤ N) (I1 : Nat → Int32) (M1 : Nat → Nat → Int32) (v2 : Int32) (h_v2 : 0 ≤ v2.toInt ∧ v2.toInt ≤ 20) (k_I1 : KX1 I1 M1)  : ∀ (fu : Nat) (I0_l14 : (Nat → Int32)) (M0_l14 : (Nat → Nat → Int32)) (y14_3 : Int32) (y14_4 : Int32), (0 ≤ y14_3.toInt ∧ y14_3.toInt ≤ 20) → (0 ≤ y14_4.toInt ∧ y14_4.toInt ≤ 20) → (KX7 I0_l14 M0_l14) → (y14_3.toInt ≤ y14_4.toInt) → (20 - y14_4.toInt) < (fu : Int) → wq (fX7_howManyToldByLot_L14 N I1 M1 v2 fu I0_l14 M0_l14 y14_3 y14_4) (fun r => (0 ≤ r.1.toInt ∧ r.1.toInt ≤ 20) ∧ KX7 r.2.1 r.2.2 ∧ True) := by
  intro fu
  induction fu with
  | zero => intro I0_l14 M0_l14 y14_3 y14_4 h_y14_3 h_y14_4 k_I0_l14 hl_3 hm; exfalso; omega
  | succ fu ih =>
    intro I0_l14 M0_l14 y14_3 y14_4 h_y14_3 h_y14_4 k_I0_l14 hl_3 hm
    rw [fX7_howManyToldByLot_L14.eq_2]
    refine wq_le (fun hc_13506 => ?_) (fun hc_13507 => ?_)
    · exact wq_s ⟨(show 0 ≤ y14_3.toInt ∧ y14_3.toInt ≤ 20 from ⟨by omega, by omega⟩), k_I0_l14, trivial⟩
    · refine wq_in (n := 20) ⟨by omega, by omega⟩ ?_
      refine wq_in (n := 20) ⟨by omega, by omega⟩ ?_
      have t_13508 := KX7.m3 k_I0_l14 y14_4.toNatClampNeg
      refine wq_in (n := 20) ⟨by omega, by omega⟩ ?_
      refine wq_b (tt_fX7_isToldByLot hN I1 M1 (M0_l14 3 y14_4.toNatClampNeg) (M0_l14 2 (M0_l14 3 y14_4.toNatClampNeg).toNatClampNeg) ⟨by omega, by omega⟩ k_I1) (fun r3_q13509 h_r3_q13509 => ?_)
      obtain ⟨h_r3_q13509_0, -⟩ := h_r3_q13509
      have l_0 := il_0
      refine wq_eq (fun hc_13510 => ?_) (fun hc_13511 => ?_)
      · have l_1 := il_1
        have t_13513 := ia_add y14_4 (1 : Int32) (by omega) (by omega)
        refine wq_v (fun v4_q13512 h_v4_q13512 => ?_)
        have t_v4_q13512 := congrArg Int32.toInt h_v4_q13512
        exact ih I0_l14 M0_l14 y14_3 v4_q13512 ⟨by omega, by omega⟩ ⟨by omega, by omega⟩ k_I0_l14 (by omega) (by omega)
      · have l_1 := il_1
        have t_13515 := ia_add y14_3 (1 : Int32) (by omega) (by omega)
        refine wq_v (fun v5_q13514 h_v5_q13514 => ?_)
        have t_v5_q13514 := congrArg Int32.toInt h_v5_q13514
        have t_13517 := ia_add y14_4 (1 : Int32) (by omega) (by omega)
        refine wq_v (fun v6_q13516 h_v6_q13516 => ?_)
        have t_v6_q13516 := congrArg Int32.toInt h_v6_q13516
        exact ih I0_l14 M0_l14 v5_q13514 v6_q13516 ⟨by omega, by omega⟩ ⟨by omega, by omega⟩ k_I0_l14 (by omega) (by omega)
set_option maxHeartbeats 4000000 in
theorem tt_fX7_howManyToldByLot {N : Nat} (hN : 3000000000 ≤ N) (I0 : Nat → Int32) (M0 : Nat → Nat → Int32) (I1 : Nat → Int32) (M1 : Nat → Nat → Int32) (k_I0 : KX7 I0 M0) (k_I1 : KX1 I1 M1) : wq (fX7_howManyToldByLot N I0 M0 I1 M1) (fun r => (0 ≤ r.1.toInt ∧ r.1.toInt ≤ 20) ∧ KX7 r.2.1 r.2.2 ∧ True) := by
  unfold fX7_howManyToldByLot
  refine wq_b (tt_fX7_setRows_13 hN I0 M0 k_I0) (fun r1_q13518 h_r1_q13518 => ?_)
  obtain ⟨h_r1_q13518_0, h_r1_q13518_1, -⟩ := h_r1_q13518
  refine wq_v (fun v2_q13519 h_v2_q13519 => ?_)
  have t_v2_q13519 := congrArg Int32.toInt h_v2_q13519
  have l_0 := il_0
  exact tt_fX7_howManyToldByLot_L14 hN I1 M1 v2_q13519 ⟨by omega, by omega⟩ k_I1 N r1_q13518.2.1 r1_q13518.2.2 (0 : Int32) (0 : Int32) ⟨by omega, by omega⟩ ⟨by omega, by omega⟩ h_r1_q13518_1 (by omega) (by omega)
set_option maxHeartbeats 4000000 in
theorem tt_fX7_chanceOfFates_L27 {N : Nat} (hN : 3000000000 ≤ N) (I1 : Nat → Int32) (M1 : Nat → Nat → Int32) (v2 : Int32) (y19_3 : Int32) (g19 : (Nat → Int32) → (Nat → Nat → Int32) → Int32 → Option (Int32 × (Nat → Int32) × (Nat → Nat → Int32))) (h_v2 : 1 ≤ v2.toInt ∧ v2.toInt ≤ 8) (h_y19_3 : 0 ≤ y19_3.toInt ∧ y19_3.toInt ≤ 7) (k_I1 : KX1 I1 M1) (hg19 : ∀ (q0 : (Nat → Int32)) (q1 : (Nat → Nat → Int32)) (q2 : Int32), (0 ≤ q2.toInt ∧ q2.toInt ≤ 8) → (KX7 q0 q1) → (y19_3.toInt < q2.toInt) → wq (g19 q0 q1 q2) (fun r => KX7 r.2.1 r.2.2 ∧ True)) : ∀ (fu : Nat) (I0_l27 : (Nat → Int32)) (M0_l27 : (Nat → Nat → Int32)) (y27_4 : Int32), (0 ≤ y27_4.toInt ∧ y27_4.toInt ≤ 8) → (KX7 I0_l27 M0_l27) → (8 - y27_4.toInt) < (fu : Int) → wq (fX7_chanceOfFates_L27 N I1 M1 v2 y19_3 g19 fu I0_l27 M0_l27 y27_4) (fun r => KX7 r.2.1 r.2.2 ∧ True) := by
  intro fu
  induction fu with
  | zero => intro I0_l27 M0_l27 y27_4 h_y27_4 k_I0_l27 hm; exfalso; omega
  | succ fu ih =>
    intro I0_l27 M0_l27 y27_4 h_y27_4 k_I0_l27 hm
    rw [fX7_chanceOfFates_L27.eq_2]
    refine wq_le (fun hc_13728 => ?_) (fun hc_13729 => ?_)
    · have l_1 := il_1
      have t_13731 := ia_add y19_3 (1 : Int32) (by omega) (by omega)
      refine wq_v (fun v5_q13730 h_v5_q13730 => ?_)
      have t_v5_q13730 := congrArg Int32.toInt h_v5_q13730
      exact hg19 I0_l27 M0_l27 v5_q13730 ⟨by omega, by omega⟩ k_I0_l27 (by omega)
    · refine wq_in (n := 20) ⟨by omega, by omega⟩ ?_
      refine wq_in (n := 20) ⟨by omega, by omega⟩ ?_
      have t_13732 := KX7.m3 k_I0_l27 y27_4.toNatClampNeg
      refine wq_in (n := 20) ⟨by omega, by omega⟩ ?_
      have t_13733 := KX7.m3 k_I0_l27 y19_3.toNatClampNeg
      refine wq_b (tt_fX7_isToldByLot hN I1 M1 (M0_l27 3 y19_3.toNatClampNeg) (M0_l27 2 (M0_l27 3 y27_4.toNatClampNeg).toNatClampNeg) ⟨by omega, by omega⟩ k_I1) (fun r6_q13734 h_r6_q13734 => ?_)
      obtain ⟨h_r6_q13734_0, -⟩ := h_r6_q13734
      have l_8 := il_8
      have t_13735 := ia_mul (8 : Int32) (8) il_8 y19_3 (by omega) (by omega)
      have t_13736 := ia_add ((8 : Int32) * y19_3) y27_4 (by omega) (by omega)
      refine wq_in (n := 64) ⟨by omega, by omega⟩ ?_
      refine wq_v (fun M0_7_q13737 h_M0_7_q13737 => ?_)
      have k_M0_7_q13737 : KX7 I0_l27 M0_7_q13737 := by rw [h_M0_7_q13737]; exact KX7.sm4 k_I0_l27
      have l_1 := il_1
      have t_13739 := ia_add y27_4 (1 : Int32) (by omega) (by omega)
      refine wq_v (fun v8_q13738 h_v8_q13738 => ?_)
      have t_v8_q13738 := congrArg Int32.toInt h_v8_q13738
      exact ih I0_l27 M0_7_q13737 v8_q13738 ⟨by omega, by omega⟩ k_M0_7_q13737 (by omega)
set_option maxHeartbeats 4000000 in
theorem tt_fX7_chanceOfFates_L19 {N : Nat} (hN : 3000000000 ≤ N) (I1 : Nat → Int32) (M1 : Nat → Nat → Int32) (v2 : Int32) (h_v2 : 0 ≤ v2.toInt ∧ v2.toInt ≤ 8) (k_I1 : KX1 I1 M1)  : ∀ (fu : Nat) (I0_l19 : (Nat → Int32)) (M0_l19 : (Nat → Nat → Int32)) (y19_3 : Int32), (0 ≤ y19_3.toInt ∧ y19_3.toInt ≤ 8) → (KX7 I0_l19 M0_l19) → (8 - y19_3.toInt) < (fu : Int) → wq (fX7_chanceOfFates_L19 N I1 M1 v2 fu I0_l19 M0_l19 y19_3) (fun r => KX7 r.2.1 r.2.2 ∧ True) := by
  intro fu
  induction fu with
  | zero => intro I0_l19 M0_l19 y19_3 h_y19_3 k_I0_l19 hm; exfalso; omega
  | succ fu ih =>
    intro I0_l19 M0_l19 y19_3 h_y19_3 k_I0_l19 hm
    rw [fX7_chanceOfFates_L19.eq_2]
    refine wq_le (fun hc_13740 => ?_) (fun hc_13741 => ?_)
    · refine wq_b (tt_fX7_howManyToldByLot hN I0_l19 M0_l19 I1 M1 k_I0_l19 k_I1) (fun r3_q13742 h_r3_q13742 => ?_)
      obtain ⟨h_r3_q13742_0, h_r3_q13742_1, -⟩ := h_r3_q13742
      refine wq_b (tt_fX7_waysToHit hN r3_q13742.2.1 r3_q13742.2.2 v2 r3_q13742.1 ⟨by omega, by omega⟩ ⟨by omega, by omega⟩ h_r3_q13742_1) (fun r4_q13743 h_r4_q13743 => ?_)
      obtain ⟨h_r4_q13743_0, -⟩ := h_r4_q13743
      have b_13744 := i32b r4_q13743.1
      exact wq_s ⟨h_r4_q13743_0, trivial⟩
    · have l_0 := il_0
      exact tt_fX7_chanceOfFates_L27 hN I1 M1 v2 y19_3 _ ⟨by omega, by omega⟩ ⟨by omega, by omega⟩ k_I1 (fun q0 q1 q2 hq0 hq1 hq2 => ih q0 q1 q2 hq0 hq1 (by omega)) N I0_l19 M0_l19 (0 : Int32) ⟨by omega, by omega⟩ k_I0_l19 (by omega)
set_option maxHeartbeats 4000000 in
theorem tt_fX7_chanceOfFates {N : Nat} (hN : 3000000000 ≤ N) (I0 : Nat → Int32) (M0 : Nat → Nat → Int32) (I1 : Nat → Int32) (M1 : Nat → Nat → Int32) (k_I0 : KX7 I0 M0) (k_I1 : KX1 I1 M1) : wq (fX7_chanceOfFates N I0 M0 I1 M1) (fun r => KX7 r.2.1 r.2.2 ∧ True) := by
  unfold fX7_chanceOfFates
  refine wq_b (tt_fX7_setRows_13 hN I0 M0 k_I0) (fun r1_q13745 h_r1_q13745 => ?_)
  obtain ⟨h_r1_q13745_0, h_r1_q13745_1, -⟩ := h_r1_q13745
  refine wq_v (fun v2_q13746 h_v2_q13746 => ?_)
  have t_v2_q13746 := congrArg Int32.toInt h_v2_q13746
  have l_8 := il_8
  refine wq_le (fun hc_13747 => ?_) (fun hc_13748 => ?_)
  · have l_0 := il_0
    exact tt_fX7_chanceOfFates_L19 hN I1 M1 v2_q13746 ⟨by omega, by omega⟩ k_I1 N r1_q13745.2.1 r1_q13745.2.2 (0 : Int32) ⟨by omega, by omega⟩ h_r1_q13745_1 (by omega)
  · have l_m1 := il_m1
    exact wq_s ⟨h_r1_q13745_1, trivial⟩
theorem tt_fX8_begin {N : Nat} (hN : 3000000000 ≤ N) (I0 : Nat → Int32) (M0 : Nat → Nat → Int32) (x1 : Int32) (x2 : Int32) (x3 : Int32) (h_x1 : 0 ≤ x1.toInt ∧ x1.toInt ≤ 119) (h_x2 : 0 ≤ x2.toInt ∧ x2.toInt ≤ 3) (h_x3 : 0 ≤ x3.toInt ∧ x3.toInt ≤ 1000000) (k_I0 : KX8 I0 M0) : wq (fX8_begin N I0 M0 x1 x2 x3) (fun r => KX8 r.1 r.2 ∧ True) := by
  refine ⟨_, rfl, ?_, trivial⟩
  refine ⟨(show 0 ≤ (1 : Int32).toInt ∧ (1 : Int32).toInt ≤ 1 from by decide), h_x1, h_x2, ⟨h_x3.1, ?_⟩, (show 0 ≤ (0 : Int32).toInt ∧ (0 : Int32).toInt ≤ 1000001 from by decide), ?_, trivial⟩
  · show x3.toInt ≤ 1000001
    omega
  · show (0 : Int32).toInt ≤ x3.toInt
    rw [il_0]; exact h_x3.1
theorem tt_fX8_copyFrom {N : Nat} (hN : 3000000000 ≤ N) (I0 : Nat → Int32) (M0 : Nat → Nat → Int32) (I1 : Nat → Int32) (M1 : Nat → Nat → Int32) (k_I0 : KX8 I0 M0) (k_I1 : KX8 I1 M1) : wq (fX8_copyFrom N I0 M0 I1 M1) (fun r => KX8 r.1 r.2 ∧ True) := by
  unfold fX8_copyFrom
  refine wq_nb (k_I1.i0) ?_
  refine ⟨_, rfl, ?_, trivial⟩
  exact ⟨k_I1.i0, k_I1.i1, k_I1.i2, k_I1.i3, k_I1.i5, k_I1.emn, trivial⟩
theorem tt_lk (N : Nat) (x1 : Int32) (I0 : Nat → Int32) (M0 : Nat → Nat → Int32) (h0 : 0 ≤ (I0 0).toInt ∧ (I0 0).toInt ≤ 1) (h1 : 0 ≤ (I0 1).toInt ∧ (I0 1).toInt ≤ 119) (h2 : 0 ≤ (I0 2).toInt ∧ (I0 2).toInt ≤ 3) (h3 : 0 ≤ (I0 3).toInt ∧ (I0 3).toInt ≤ 1000000) (h5 : 0 ≤ (I0 5).toInt ∧ (I0 5).toInt ≤ (I0 3).toInt) : wq (fX8_lookAt_J27 N x1 I0 M0) (fun r => (0 ≤ (r.1 0).toInt ∧ (r.1 0).toInt ≤ 1) ∧ (0 ≤ (r.1 1).toInt ∧ (r.1 1).toInt ≤ 119) ∧ (0 ≤ (r.1 2).toInt ∧ (r.1 2).toInt ≤ 3) ∧ r.1 3 = I0 3 ∧ (0 ≤ (r.1 5).toInt ∧ (r.1 5).toInt ≤ (I0 3).toInt + 1)) := by
  have l_1 := il_1
  have l_20 := il_20
  have ta := ia_add (I0 5) (1 : Int32) (by omega) (by omega)
  have hJ : ∀ M : Nat → Nat → Int32, wq (fX8_lookAt_J49 N x1 I0 M) (fun r => (0 ≤ (r.1 0).toInt ∧ (r.1 0).toInt ≤ 1) ∧ (0 ≤ (r.1 1).toInt ∧ (r.1 1).toInt ≤ 119) ∧ (0 ≤ (r.1 2).toInt ∧ (r.1 2).toInt ≤ 3) ∧ r.1 3 = I0 3 ∧ (0 ≤ (r.1 5).toInt ∧ (r.1 5).toInt ≤ (I0 3).toInt + 1)) := by
    intro M
    refine ⟨_, rfl, h0, h1, h2, rfl, ?_⟩
    show 0 ≤ (I0 5 + 1).toInt ∧ (I0 5 + 1).toInt ≤ (I0 3).toInt + 1
    omega
  unfold fX8_lookAt_J27
  refine wq_le (fun hc => ?_) (fun hc => ?_)
  · exact hJ _
  · refine wq_in (n := 20) ⟨by omega, by omega⟩ ?_
    exact wq_v (fun M _ => hJ M)
theorem tt_look (N : Nat) (I0 : Nat → Int32) (M0 : Nat → Nat → Int32) (x1 : Int32) (k : KX8 I0 M0) (h3 : (I0 3).toInt ≤ 1000000) : wq (fX8_lookAt N I0 M0 x1) (fun r => (0 ≤ (r.1 0).toInt ∧ (r.1 0).toInt ≤ 1) ∧ (0 ≤ (r.1 1).toInt ∧ (r.1 1).toInt ≤ 119) ∧ (0 ≤ (r.1 2).toInt ∧ (r.1 2).toInt ≤ 3) ∧ r.1 3 = I0 3 ∧ (0 ≤ (r.1 5).toInt ∧ (r.1 5).toInt ≤ (I0 3).toInt + 1)) := by
  unfold fX8_lookAt
  have h5 := k.i5
  have hm := k.emn
  have h3' := k.i3
  refine wq_le (fun hc => ?_) (fun hc => ?_)
  · refine wq_le (fun hc => ?_) (fun hc => ?_)
    · exact tt_lk N x1 I0 M0 k.i0 k.i1 k.i2 ⟨h3'.1, h3⟩ ⟨h5.1, hm⟩
    · refine wq_v (fun I4 e4 => ?_)
      refine wq_v (fun I5 e5 => ?_)
      subst e4
      have q3 : I5 3 = I0 3 := by rw [e5]; rfl
      have q5 : I5 5 = 0 := by rw [e5]; rfl
      have w := tt_lk N x1 I5 M0 (by rw [e5]; exact k.i0) (by rw [e5]; exact k.i1) (by rw [e5]; exact k.i2) (by rw [q3]; exact ⟨h3'.1, h3⟩) (by rw [q3, q5, il_0]; exact ⟨by decide, h3'.1⟩)
      rw [q3] at w
      exact w
  · exact wq_s ⟨k.i0, k.i1, k.i2, rfl, h5.1, (show (I0 5).toInt ≤ (I0 3).toInt + 1 from by omega)⟩
theorem tt_fX8_goOn_L3 {N : Nat} (hN : 3000000000 ≤ N) (I1 : Nat → Int32) (M1 : Nat → Nat → Int32) (I2 : Nat → Int32) (M2 : Nat → Nat → Int32) (x3 : Int32) (k_I1 : KX5 I1 M1) (k_I2 : KX1 I2 M2) : ∀ (fu : Nat) (I0 : Nat → Int32) (M0 : Nat → Nat → Int32) (y : Int32), KX8 I0 M0 → (0 ≤ y.toInt) → (x3.toInt - y.toInt < (fu : Int)) → 0 < fu → wq (fX8_goOn_L3 N I1 M1 I2 M2 x3 fu I0 M0 y) (fun r => KX8 r.2.1 r.2.2 ∧ True) := by
  intro fu
  induction fu with
  | zero => intro I0 M0 y k hy hm h0; omega
  | succ fu ih =>
    intro I0 M0 y k hy hm h0
    rw [fX8_goOn_L3.eq_2]
    have l_1 := il_1
    have l_m := il_1000000
    refine wq_le (fun hc => ?_) (fun hc => ?_)
    · exact wq_s ⟨k, trivial⟩
    · refine wq_lt (fun hc2 => ?_) (fun hc2 => ?_)
      · exact wq_s ⟨k, trivial⟩
      · have h1 := k.i1
        have h2 := k.i2
        have h3 := k.i3
        refine wq_b (tt_fX3_costOn hN I1 M1 I2 M2 (I0 1) (I0 2) (I0 3) (I0 4) h1 h2 ⟨by omega, by omega⟩ k_I1 k_I2) (fun r1 _ => ?_)
        refine wq_b (tt_look N I0 M0 r1 k (by omega)) (fun r2 h => ?_)
        obtain ⟨g0, g1, g2, g3, g5⟩ := h
        have hx := Int32.toInt_lt x3
        have ta := ia_add (I0 3) (1 : Int32) (by omega) (by omega)
        have tb := ia_add y (1 : Int32) (by omega) (by omega)
        refine wq_v (fun I3 e3 => ?_)
        refine wq_v (fun v ev => ?_)
        have tv := congrArg Int32.toInt ev
        refine ih I3 r2.2 v ?_ (by omega) (by omega) (by omega)
        rw [e3, g3]
        refine ⟨g0, g1, g2, ?_, ?_, ?_, trivial⟩
        · show 0 ≤ (I0 3 + 1).toInt ∧ (I0 3 + 1).toInt ≤ 1000001
          omega
        · show 0 ≤ (r2.1 5).toInt ∧ (r2.1 5).toInt ≤ 1000001
          omega
        · show (r2.1 5).toInt ≤ (I0 3 + 1).toInt
          omega
theorem tt_fX8_goOn {N : Nat} (hN : 3000000000 ≤ N) (I0 : Nat → Int32) (M0 : Nat → Nat → Int32) (I1 : Nat → Int32) (M1 : Nat → Nat → Int32) (I2 : Nat → Int32) (M2 : Nat → Nat → Int32) (x3 : Int32) (k_I0 : KX8 I0 M0) (k_I1 : KX5 I1 M1) (k_I2 : KX1 I2 M2) : wq (fX8_goOn N I0 M0 I1 M1 I2 M2 x3) (fun r => KX8 r.2.1 r.2.2 ∧ True) := by
  unfold fX8_goOn
  have l_0 := il_0
  have hx := Int32.toInt_lt x3
  exact tt_fX8_goOn_L3 hN I1 M1 I2 M2 x3 k_I1 k_I2 N I0 M0 (0 : Int32) k_I0 (by omega) (by omega) (by omega)
set_option maxHeartbeats 4000000 in
theorem tt_fX8_howManyKept {N : Nat} (hN : 3000000000 ≤ N) (I0 : Nat → Int32) (M0 : Nat → Nat → Int32) (k_I0 : KX8 I0 M0) : wq (fX8_howManyKept N I0 M0) (fun r => (0 ≤ r.toInt ∧ r.toInt ≤ 20) ∧ True) := by
  unfold fX8_howManyKept
  have l_20 := il_20
  have t_13761 := KX8.i5 k_I0
  have t_13762 := ite_lt (20 : Int32) (I0 5) (20 : Int32) (I0 5)
  exact wq_s ⟨(show 0 ≤ (if ((20 : Int32) < (I0 5)) then (20 : Int32) else (I0 5)).toInt ∧ (if ((20 : Int32) < (I0 5)) then (20 : Int32) else (I0 5)).toInt ≤ 20 from ⟨by omega, by omega⟩), trivial⟩

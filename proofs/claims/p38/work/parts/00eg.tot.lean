set_option maxHeartbeats 4000000 in
theorem tt_fX11_isDay {N : Nat} (hN : 3000000000 ≤ N) (x0 : Int32)  : wq (fX11_isDay N x0) (fun r => (r.toInt = 0 ∨ (r.toInt = 1 ∧ 0 ≤ x0.toInt ∧ x0.toInt ≤ 1000000)) ∧ (0 ≤ r.toInt ∧ r.toInt ≤ 1) ∧ True) := by
  unfold fX11_isDay
  have b_15412 := i32b x0
  have l_0 := il_0
  have l_1000000 := il_1000000
  refine wq_b (tt_fX11_within hN x0 (0 : Int32) (1000000 : Int32)) (fun r1_q15413 h_r1_q15413 => ?_)
  obtain ⟨h_r1_q15413_0, h_r1_q15413_1, -⟩ := h_r1_q15413
  refine wq_bz (by omega) ?_
  exact wq_s ⟨(show (r1_q15413.toInt = 0 ∨ (r1_q15413.toInt = 1 ∧ 0 ≤ x0.toInt ∧ x0.toInt ≤ 1000000)) from by omega), (show 0 ≤ r1_q15413.toInt ∧ r1_q15413.toInt ≤ 1 from ⟨by omega, by omega⟩), trivial⟩
set_option maxHeartbeats 4000000 in
theorem tt_fX11_place {N : Nat} (hN : 3000000000 ≤ N) (I0 : Nat → Int32) (M0 : Nat → Nat → Int32) (x1 : Int32) (x2 : Int32) (x3 : Int32) (k_I0 : KX11 I0 M0) : wq (fX11_place N I0 M0 x1 x2 x3) (qS 1 (fun r => True)) := by
  unfold fX11_place
  have b_15522 := i32b x1
  have l_0 := il_0
  have l_3 := il_3
  refine wq_b (tt_fX11_within hN x1 (0 : Int32) (3 : Int32)) (fun r3_q15523 h_r3_q15523 => ?_)
  obtain ⟨h_r3_q15523_0, h_r3_q15523_1, -⟩ := h_r3_q15523
  refine wq_eq (fun hc_15524 => ?_) (fun hc_15525 => ?_)
  · unfold fX11_place_J30
    unfold fX11_place_J31
    exact wq_xb (tt_fX11_need0 N) (by decide) (fun _ h => absurd h id)
  · have b_15527 := i32b x2
    have l_6 := il_6
    refine wq_b (tt_fX11_within hN x2 (0 : Int32) (6 : Int32)) (fun r4_q15528 h_r4_q15528 => ?_)
    obtain ⟨h_r4_q15528_0, h_r4_q15528_1, -⟩ := h_r4_q15528
    refine wq_eq (fun hc_15529 => ?_) (fun hc_15530 => ?_)
    · unfold fX11_place_J30
      unfold fX11_place_J31
      exact wq_xb (tt_fX11_need0 N) (by decide) (fun _ h => absurd h id)
    · have b_15532 := i32b x3
      refine wq_b (tt_fX11_isDay hN x3) (fun r5_q15533 h_r5_q15533 => ?_)
      obtain ⟨h_r5_q15533_0, h_r5_q15533_1, -⟩ := h_r5_q15533
      refine wq_eq (fun hc_15534 => ?_) (fun hc_15535 => ?_)
      · unfold fX11_place_J30
        unfold fX11_place_J31
        exact wq_xb (tt_fX11_need0 N) (by decide) (fun _ h => absurd h id)
      · unfold fX11_place_J31
        have l_1 := il_1
        refine wq_xb (tt_fX11_need hN (1 : Int32)) (by decide) (fun r1_q15537 h_r1_q15537 => ?_)
        obtain ⟨h_r1_q15537_0, -⟩ := h_r1_q15537
        refine wq_ok ?_
        refine wq_b (tt_fX5_placeOn hN (wb_sh I0 9) (wb_sh M0 1) x1 x2 x3 ⟨by omega, by omega⟩ ⟨by omega, by omega⟩ (KX11.s_X5_9_1 k_I0)) (fun r2_q15538 h_r2_q15538 => ?_)
        obtain ⟨-⟩ := h_r2_q15538
        have b_15539 := i32b r2_q15538
        exact wq_s trivial
set_option maxHeartbeats 4000000 in
theorem tt_fX11_entry {N : Nat} (hN : 3000000000 ≤ N) (I0 : Nat → Int32) (M0 : Nat → Nat → Int32) (x1 : Int32) (x2 : Int32) (x3 : Int32) (k_I0 : KX11 I0 M0) : wq (fX11_entry N I0 M0 x1 x2 x3) (qS 1 (fun r => (-1 ≤ r.toInt ∧ r.toInt ≤ 389) ∧ True)) := by
  unfold fX11_entry
  have b_15583 := i32b x1
  have b_15584 := i32b x2
  refine wq_xb (tt_fX11_numberOf hN x1 x2) (by decide) (fun r1_q15582 h_r1_q15582 => ?_)
  obtain ⟨h_r1_q15582_0, h_r1_q15582_1, -⟩ := h_r1_q15582
  have b_15585 := i32b x3
  have l_0 := il_0
  have l_21 := il_21
  refine wq_b (tt_fX11_within hN x3 (0 : Int32) (21 : Int32)) (fun r2_q15586 h_r2_q15586 => ?_)
  obtain ⟨h_r2_q15586_0, h_r2_q15586_1, -⟩ := h_r2_q15586
  refine wq_xb (tt_fX11_need hN r2_q15586) (by decide) (fun r3_q15587 h_r3_q15587 => ?_)
  obtain ⟨h_r3_q15587_0, -⟩ := h_r3_q15587
  refine wq_ok ?_
  refine wq_b (tt_fX1_degreeOf hN (wb_sh I0 13) (wb_sh M0 13) r1_q15582 x3 ⟨by omega, by omega⟩ ⟨by omega, by omega⟩ (KX11.s_X1_13_13 k_I0)) (fun r4_q15588 h_r4_q15588 => ?_)
  obtain ⟨h_r4_q15588_0, h_r4_q15588_1, -⟩ := h_r4_q15588
  exact wq_s ⟨(show -1 ≤ r4_q15588.toInt ∧ r4_q15588.toInt ≤ 389 from ⟨by omega, by omega⟩), trivial⟩
set_option maxHeartbeats 4000000 in
theorem tt_fX11_cost {N : Nat} (hN : 3000000000 ≤ N) (I0 : Nat → Int32) (M0 : Nat → Nat → Int32) (x1 : Int32) (x2 : Int32) (x3 : Int32) (x4 : Int32) (k_I0 : KX11 I0 M0) : wq (fX11_cost N I0 M0 x1 x2 x3 x4) (qS 1 (fun r => True)) := by
  unfold fX11_cost
  have b_15686 := i32b x1
  have b_15687 := i32b x2
  refine wq_xb (tt_fX11_numberOf hN x1 x2) (by decide) (fun r3_q15685 h_r3_q15685 => ?_)
  obtain ⟨h_r3_q15685_0, h_r3_q15685_1, -⟩ := h_r3_q15685
  have b_15688 := i32b x3
  have l_0 := il_0
  have l_3 := il_3
  refine wq_b (tt_fX11_within hN x3 (0 : Int32) (3 : Int32)) (fun r4_q15689 h_r4_q15689 => ?_)
  obtain ⟨h_r4_q15689_0, h_r4_q15689_1, -⟩ := h_r4_q15689
  refine wq_eq (fun hc_15690 => ?_) (fun hc_15691 => ?_)
  · unfold fX11_cost_J28
    unfold fX11_cost_J29
    exact wq_xb (tt_fX11_need0 N) (by decide) (fun _ h => absurd h id)
  · have b_15693 := i32b x4
    refine wq_b (tt_fX11_isDay hN x4) (fun r5_q15694 h_r5_q15694 => ?_)
    obtain ⟨h_r5_q15694_0, h_r5_q15694_1, -⟩ := h_r5_q15694
    refine wq_eq (fun hc_15695 => ?_) (fun hc_15696 => ?_)
    · unfold fX11_cost_J28
      unfold fX11_cost_J29
      exact wq_xb (tt_fX11_need0 N) (by decide) (fun _ h => absurd h id)
    · unfold fX11_cost_J29
      have l_1 := il_1
      refine wq_xb (tt_fX11_need hN (1 : Int32)) (by decide) (fun r1_q15698 h_r1_q15698 => ?_)
      obtain ⟨h_r1_q15698_0, -⟩ := h_r1_q15698
      refine wq_ok ?_
      have l_1000 := il_1000
      refine wq_b (tt_fX3_costOn hN (wb_sh I0 9) (wb_sh M0 1) (wb_sh I0 13) (wb_sh M0 13) r3_q15685 x3 x4 (1000 : Int32) ⟨by omega, by omega⟩ ⟨by omega, by omega⟩ ⟨by omega, by omega⟩ (KX11.s_X5_9_1 k_I0) (KX11.s_X1_13_13 k_I0)) (fun r2_q15699 h_r2_q15699 => ?_)
      obtain ⟨-⟩ := h_r2_q15699
      have b_15700 := i32b r2_q15699
      exact wq_s trivial
set_option maxHeartbeats 4000000 in
theorem tt_fX11_isSpan {N : Nat} (hN : 3000000000 ≤ N) (x0 : Int32) (x1 : Int32) (h_x0 : 0 ≤ x0.toInt ∧ x0.toInt ≤ 1000000) : wq (fX11_isSpan N x0 x1) (fun r => (r.toInt = 0 ∨ (r.toInt = 1 ∧ 0 ≤ x1.toInt ∧ x1.toInt ≤ 50000 ∧ x1.toInt + x0.toInt ≤ 1000000)) ∧ (0 ≤ r.toInt ∧ r.toInt ≤ 1) ∧ True) := by
  unfold fX11_isSpan
  have b_15743 := i32b x1
  have l_0 := il_0
  have l_50000 := il_50000
  refine wq_b (tt_fX11_within hN x1 (0 : Int32) (50000 : Int32)) (fun r1_q15744 h_r1_q15744 => ?_)
  obtain ⟨h_r1_q15744_0, h_r1_q15744_1, -⟩ := h_r1_q15744
  refine wq_eq (fun hc_15745 => ?_) (fun hc_15746 => ?_)
  · exact wq_s ⟨(show ((0 : Int32).toInt = 0 ∨ ((0 : Int32).toInt = 1 ∧ 0 ≤ x1.toInt ∧ x1.toInt ≤ 50000 ∧ x1.toInt + x0.toInt ≤ 1000000)) from by omega), (show 0 ≤ (0 : Int32).toInt ∧ (0 : Int32).toInt ≤ 1 from ⟨by omega, by omega⟩), trivial⟩
  · have l_1000000 := il_1000000
    have t_15747 := ia_sub (1000000 : Int32) x0 (by omega) (by omega)
    refine wq_lt (fun hc_15748 => ?_) (fun hc_15749 => ?_)
    · exact wq_s ⟨(show ((0 : Int32).toInt = 0 ∨ ((0 : Int32).toInt = 1 ∧ 0 ≤ x1.toInt ∧ x1.toInt ≤ 50000 ∧ x1.toInt + x0.toInt ≤ 1000000)) from by omega), (show 0 ≤ (0 : Int32).toInt ∧ (0 : Int32).toInt ≤ 1 from ⟨by omega, by omega⟩), trivial⟩
    · have l_1 := il_1
      exact wq_s ⟨(show ((1 : Int32).toInt = 0 ∨ ((1 : Int32).toInt = 1 ∧ 0 ≤ x1.toInt ∧ x1.toInt ≤ 50000 ∧ x1.toInt + x0.toInt ≤ 1000000)) from by omega), (show 0 ≤ (1 : Int32).toInt ∧ (1 : Int32).toInt ≤ 1 from ⟨by omega, by omega⟩), trivial⟩
set_option maxHeartbeats 4000000 in
theorem tt_fX11_best {N : Nat} (hN : 3000000000 ≤ N) (I0 : Nat → Int32) (M0 : Nat → Nat → Int32) (x1 : Int32) (x2 : Int32) (x3 : Int32) (x4 : Int32) (x5 : Int32) (k_I0 : KX11 I0 M0) : wq (fX11_best N I0 M0 x1 x2 x3 x4 x5) (qS 3 (fun r => KX11 r.2.1 r.2.2 ∧ True)) := by
  unfold fX11_best
  have b_15895 := i32b x1
  have b_15896 := i32b x2
  refine wq_xb (tt_fX11_numberOf hN x1 x2) (by decide) (fun r10_q15894 h_r10_q15894 => ?_)
  obtain ⟨h_r10_q15894_0, h_r10_q15894_1, -⟩ := h_r10_q15894
  have b_15897 := i32b x3
  have l_0 := il_0
  have l_3 := il_3
  refine wq_b (tt_fX11_within hN x3 (0 : Int32) (3 : Int32)) (fun r11_q15898 h_r11_q15898 => ?_)
  obtain ⟨h_r11_q15898_0, h_r11_q15898_1, -⟩ := h_r11_q15898
  refine wq_eq (fun hc_15899 => ?_) (fun hc_15900 => ?_)
  · unfold fX11_best_J28
    unfold fX11_best_J29
    exact wq_xb (tt_fX11_need0 N) (by decide) (fun _ h => absurd h id)
  · have b_15902 := i32b x4
    refine wq_b (tt_fX11_isDay hN x4) (fun r12_q15903 h_r12_q15903 => ?_)
    obtain ⟨h_r12_q15903_0, h_r12_q15903_1, -⟩ := h_r12_q15903
    refine wq_eq (fun hc_15904 => ?_) (fun hc_15905 => ?_)
    · unfold fX11_best_J28
      unfold fX11_best_J29
      exact wq_xb (tt_fX11_need0 N) (by decide) (fun _ h => absurd h id)
    · unfold fX11_best_J29
      have l_1 := il_1
      refine wq_xb (tt_fX11_need hN (1 : Int32)) (by decide) (fun r1_q15907 h_r1_q15907 => ?_)
      obtain ⟨h_r1_q15907_0, -⟩ := h_r1_q15907
      have b_15908 := i32b x5
      refine wq_b (tt_fX11_isSpan hN x4 x5 ⟨by omega, by omega⟩) (fun r2_q15909 h_r2_q15909 => ?_)
      obtain ⟨h_r2_q15909_0, h_r2_q15909_1, -⟩ := h_r2_q15909
      refine wq_xb (tt_fX11_allow hN r2_q15909) (by decide) (fun r3_q15910 h_r3_q15910 => ?_)
      obtain ⟨h_r3_q15910_0, -⟩ := h_r3_q15910
      refine wq_ok ?_
      refine wq_b (tt_fX8_begin hN (wb_sh I0 13) (wb_sh M0 16) r10_q15894 x3 x4 ⟨by omega, by omega⟩ ⟨by omega, by omega⟩ ⟨by omega, by omega⟩ (KX11.s_X8_13_16 k_I0)) (fun r4_q15911 h_r4_q15911 => ?_)
      obtain ⟨h_r4_q15911_0, -⟩ := h_r4_q15911
      refine wq_v (fun I0_5_q15912 h_I0_5_q15912 => ?_)
      refine wq_v (fun M0_6_q15913 h_M0_6_q15913 => ?_)
      have k_M0_6_q15913 : KX11 I0_5_q15912 M0_6_q15913 := by rw [h_I0_5_q15912, h_M0_6_q15913]; exact KX11.p_X8_13_16 k_I0 h_r4_q15911_0
      have t_15914 := ia_add x5 (1 : Int32) (by omega) (by omega)
      refine wq_b (tt_fX8_goOn hN (wb_sh I0_5_q15912 13) (wb_sh M0_6_q15913 16) (wb_sh I0_5_q15912 9) (wb_sh M0_6_q15913 1) (wb_sh I0_5_q15912 13) (wb_sh M0_6_q15913 13) (x5 + (1 : Int32)) (KX11.s_X8_13_16 k_M0_6_q15913) (KX11.s_X5_9_1 k_M0_6_q15913) (KX11.s_X1_13_13 k_M0_6_q15913)) (fun r7_q15915 h_r7_q15915 => ?_)
      obtain ⟨h_r7_q15915_0, -⟩ := h_r7_q15915
      refine wq_v (fun I0_8_q15916 h_I0_8_q15916 => ?_)
      refine wq_v (fun M0_9_q15917 h_M0_9_q15917 => ?_)
      have k_M0_9_q15917 : KX11 I0_8_q15916 M0_9_q15917 := by rw [h_I0_8_q15916, h_M0_9_q15917]; exact KX11.p_X8_13_16 k_M0_6_q15913 h_r7_q15915_0
      exact wq_s ⟨k_M0_9_q15917, trivial⟩
set_option maxHeartbeats 4000000 in
theorem tt_fX11_day {N : Nat} (hN : 3000000000 ≤ N) (I0 : Nat → Int32) (M0 : Nat → Nat → Int32) (x1 : Int32) (k_I0 : KX11 I0 M0) : wq (fX11_day N I0 M0 x1) (qS 1 (fun r => True)) := by
  unfold fX11_day
  have t_15991 := KX11.i13 k_I0
  refine wq_xb (tt_fX11_need hN (I0 13)) (by decide) (fun r1_q15990 h_r1_q15990 => ?_)
  obtain ⟨h_r1_q15990_0, -⟩ := h_r1_q15990
  have b_15992 := i32b x1
  have l_m1 := il_m1
  refine wq_eq (fun hc_15993 => ?_) (fun hc_15994 => ?_)
  · refine wq_ok ?_
    have t_15995 := KX11.i18 k_I0
    exact wq_s trivial
  · refine wq_b (tt_fX8_howManyKept hN (wb_sh I0 13) (wb_sh M0 16) (KX11.s_X8_13_16 k_I0)) (fun r2_q15996 h_r2_q15996 => ?_)
    obtain ⟨h_r2_q15996_0, -⟩ := h_r2_q15996
    have l_0 := il_0
    have l_1 := il_1
    have t_15997 := ia_sub r2_q15996 (1 : Int32) (by omega) (by omega)
    refine wq_b (tt_fX11_within hN x1 (0 : Int32) (r2_q15996 - (1 : Int32))) (fun r3_q15998 h_r3_q15998 => ?_)
    obtain ⟨h_r3_q15998_0, h_r3_q15998_1, -⟩ := h_r3_q15998
    refine wq_xb (tt_fX11_need hN r3_q15998) (by decide) (fun r4_q15999 h_r4_q15999 => ?_)
    obtain ⟨h_r4_q15999_0, -⟩ := h_r4_q15999
    refine wq_ok ?_
    refine wq_b (tt_fX8_keptDay hN (wb_sh I0 13) (wb_sh M0 16) x1 (KX11.s_X8_13_16 k_I0)) (fun r5_q16000 h_r5_q16000 => ?_)
    obtain ⟨-⟩ := h_r5_q16000
    have b_16001 := i32b r5_q16000
    exact wq_s trivial
set_option maxHeartbeats 4000000 in
theorem tt_fX11_whose_L55 {N : Nat} (hN : 3000000000 ≤ N) (x1 : Int32) (x2 : Int32) (x3 : Int32) (x4 : Int32) (x5 : Int32) (y29_6 : Int32) (h_x1 : 0 ≤ x1.toInt ∧ x1.toInt ≤ 5) (h_x2 : 0 ≤ x2.toInt ∧ x2.toInt ≤ 19) (h_x3 : 0 ≤ x3.toInt ∧ x3.toInt ≤ 1000000) (h_x4 : 0 ≤ x4.toInt ∧ x4.toInt ≤ 50000) (h_x5 : 0 ≤ x5.toInt ∧ x5.toInt ≤ 2) (h_y29_6 : 0 ≤ y29_6.toInt ∧ y29_6.toInt ≤ 119)  : ∀ (fu : Nat) (I0_l55 : (Nat → Int32)) (M0_l55 : (Nat → Nat → Int32)) (y55_7 : Int32) (y55_8 : Int32) (y55_9 : Int32) (y55_10 : Int32), (-2147483648 ≤ y55_7.toInt ∧ y55_7.toInt ≤ 1000) → (0 ≤ y55_8.toInt ∧ y55_8.toInt ≤ 3) → (0 ≤ y55_10.toInt ∧ y55_10.toInt ≤ 4) → (KX11 I0_l55 M0_l55) → (4 - y55_10.toInt) < (fu : Int) → wq (fX11_whose_L55 N x1 x2 x3 x4 x5 y29_6 fu I0_l55 M0_l55 y55_7 y55_8 y55_9 y55_10) (fun r => KX11 r.2.1 r.2.2 ∧ True) := by
  intro fu
  induction fu with
  | zero => intro I0_l55 M0_l55 y55_7 y55_8 y55_9 y55_10 h_y55_7 h_y55_8 h_y55_10 k_I0_l55 hm; exfalso; omega
  | succ fu ih =>
    intro I0_l55 M0_l55 y55_7 y55_8 y55_9 y55_10 h_y55_7 h_y55_8 h_y55_10 k_I0_l55 hm
    rw [fX11_whose_L55.eq_2]
    have l_4 := il_4
    refine wq_le (fun hc_17143 => ?_) (fun hc_17144 => ?_)
    · have l_0 := il_0
      refine wq_eq (fun hc_17145 => ?_) (fun hc_17146 => ?_)
      · exact wq_s ⟨k_I0_l55, trivial⟩
      · have l_1 := il_1
        refine wq_eq (fun hc_17147 => ?_) (fun hc_17148 => ?_)
        · have b_17149 := i32b y55_7
          exact wq_s ⟨k_I0_l55, trivial⟩
        · have b_17150 := i32b y55_9
          exact wq_s ⟨k_I0_l55, trivial⟩
    · refine wq_b (tt_fX8_begin hN (wb_sh I0_l55 20) (wb_sh M0_l55 17) y29_6 y55_10 x3 ⟨by omega, by omega⟩ ⟨by omega, by omega⟩ ⟨by omega, by omega⟩ (KX11.s_X8_20_17 k_I0_l55)) (fun r7_q17151 h_r7_q17151 => ?_)
      obtain ⟨h_r7_q17151_0, -⟩ := h_r7_q17151
      refine wq_v (fun I0_8_q17152 h_I0_8_q17152 => ?_)
      refine wq_v (fun M0_9_q17153 h_M0_9_q17153 => ?_)
      have k_M0_9_q17153 : KX11 I0_8_q17152 M0_9_q17153 := by rw [h_I0_8_q17152, h_M0_9_q17153]; exact KX11.p_X8_20_17 k_I0_l55 h_r7_q17151_0
      have l_1 := il_1
      have t_17154 := ia_add x4 (1 : Int32) (by omega) (by omega)
      refine wq_b (tt_fX8_goOn hN (wb_sh I0_8_q17152 20) (wb_sh M0_9_q17153 17) (wb_sh I0_8_q17152 9) (wb_sh M0_9_q17153 1) (wb_sh I0_8_q17152 13) (wb_sh M0_9_q17153 13) (x4 + (1 : Int32)) (KX11.s_X8_20_17 k_M0_9_q17153) (KX11.s_X5_9_1 k_M0_9_q17153) (KX11.s_X1_13_13 k_M0_9_q17153)) (fun r10_q17155 h_r10_q17155 => ?_)
      obtain ⟨h_r10_q17155_0, -⟩ := h_r10_q17155
      refine wq_v (fun I0_11_q17156 h_I0_11_q17156 => ?_)
      refine wq_v (fun M0_12_q17157 h_M0_12_q17157 => ?_)
      have k_M0_12_q17157 : KX11 I0_11_q17156 M0_12_q17157 := by rw [h_I0_11_q17156, h_M0_12_q17157]; exact KX11.p_X8_20_17 k_M0_9_q17153 h_r10_q17155_0
      have b_17158 := i32b y55_7
      refine wq_le (fun hc_17159 => ?_) (fun hc_17160 => ?_)
      · unfold fX11_whose_J121
        refine wq_eq (fun hc_17161 => ?_) (fun hc_17162 => ?_)
        · have b_17164 := i32b y55_9
          refine wq_v (fun v5_q17163 h_v5_q17163 => ?_)
          have t_v5_q17163 := congrArg Int32.toInt h_v5_q17163
          have t_17166 := ia_add y55_10 (1 : Int32) (by omega) (by omega)
          refine wq_v (fun v6_q17165 h_v6_q17165 => ?_)
          have t_v6_q17165 := congrArg Int32.toInt h_v6_q17165
          have b_17167 := i32b v5_q17163
          exact ih I0_11_q17156 M0_12_q17157 y55_7 y55_8 v5_q17163 v6_q17165 ⟨by omega, by omega⟩ ⟨by omega, by omega⟩ ⟨by omega, by omega⟩ k_M0_12_q17157 (by omega)
        · have t_17169 := ia_add y55_10 (1 : Int32) (by omega) (by omega)
          refine wq_v (fun v4_q17168 h_v4_q17168 => ?_)
          have t_v4_q17168 := congrArg Int32.toInt h_v4_q17168
          have b_17170 := i32b y55_9
          exact ih I0_11_q17156 M0_12_q17157 y55_7 y55_8 y55_9 v4_q17168 ⟨by omega, by omega⟩ ⟨by omega, by omega⟩ ⟨by omega, by omega⟩ k_M0_12_q17157 (by omega)
      · refine wq_v (fun v13_q17171 h_v13_q17171 => ?_)
        have t_v13_q17171 := congrArg Int32.toInt h_v13_q17171
        unfold fX11_whose_J121
        have b_17172 := i32b v13_q17171
        refine wq_eq (fun hc_17173 => ?_) (fun hc_17174 => ?_)
        · have l_0 := il_0
          have t_17176 := ia_add (0 : Int32) (1 : Int32) (by omega) (by omega)
          refine wq_v (fun v5_q17175 h_v5_q17175 => ?_)
          have t_v5_q17175 := congrArg Int32.toInt h_v5_q17175
          have t_17178 := ia_add y55_10 (1 : Int32) (by omega) (by omega)
          refine wq_v (fun v6_q17177 h_v6_q17177 => ?_)
          have t_v6_q17177 := congrArg Int32.toInt h_v6_q17177
          exact ih I0_11_q17156 M0_12_q17157 v13_q17171 y55_10 v5_q17175 v6_q17177 ⟨by omega, by omega⟩ ⟨by omega, by omega⟩ ⟨by omega, by omega⟩ k_M0_12_q17157 (by omega)
        · have t_17180 := ia_add y55_10 (1 : Int32) (by omega) (by omega)
          refine wq_v (fun v4_q17179 h_v4_q17179 => ?_)
          have t_v4_q17179 := congrArg Int32.toInt h_v4_q17179
          have l_0 := il_0
          exact ih I0_11_q17156 M0_12_q17157 v13_q17171 y55_10 (0 : Int32) v4_q17179 ⟨by omega, by omega⟩ ⟨by omega, by omega⟩ ⟨by omega, by omega⟩ k_M0_12_q17157 (by omega)
set_option maxHeartbeats 4000000 in
theorem tt_fX11_whose {N : Nat} (hN : 3000000000 ≤ N) (I0 : Nat → Int32) (M0 : Nat → Nat → Int32) (x1 : Int32) (x2 : Int32) (x3 : Int32) (x4 : Int32) (x5 : Int32) (k_I0 : KX11 I0 M0) : wq (fX11_whose N I0 M0 x1 x2 x3 x4 x5) (qS 3 (fun r => KX11 r.2.1 r.2.2 ∧ True)) := by
  unfold fX11_whose
  have b_17182 := i32b x1
  have b_17183 := i32b x2
  refine wq_xb (tt_fX11_numberOf hN x1 x2) (by decide) (fun r14_q17181 h_r14_q17181 => ?_)
  obtain ⟨h_r14_q17181_0, h_r14_q17181_1, -⟩ := h_r14_q17181
  have b_17184 := i32b x3
  refine wq_b (tt_fX11_isDay hN x3) (fun r15_q17185 h_r15_q17185 => ?_)
  obtain ⟨h_r15_q17185_0, h_r15_q17185_1, -⟩ := h_r15_q17185
  have l_0 := il_0
  refine wq_eq (fun hc_17186 => ?_) (fun hc_17187 => ?_)
  · unfold fX11_whose_J28
    unfold fX11_whose_J29
    exact wq_xb (tt_fX11_need0 N) (by decide) (fun _ h => absurd h id)
  · have b_17189 := i32b x5
    have l_2 := il_2
    refine wq_b (tt_fX11_within hN x5 (0 : Int32) (2 : Int32)) (fun r16_q17190 h_r16_q17190 => ?_)
    obtain ⟨h_r16_q17190_0, h_r16_q17190_1, -⟩ := h_r16_q17190
    refine wq_eq (fun hc_17191 => ?_) (fun hc_17192 => ?_)
    · unfold fX11_whose_J28
      unfold fX11_whose_J29
      exact wq_xb (tt_fX11_need0 N) (by decide) (fun _ h => absurd h id)
    · unfold fX11_whose_J29
      have l_1 := il_1
      refine wq_xb (tt_fX11_need hN (1 : Int32)) (by decide) (fun r1_q17194 h_r1_q17194 => ?_)
      obtain ⟨h_r1_q17194_0, -⟩ := h_r1_q17194
      have b_17195 := i32b x4
      refine wq_b (tt_fX11_isSpan hN x3 x4 ⟨by omega, by omega⟩) (fun r2_q17196 h_r2_q17196 => ?_)
      obtain ⟨h_r2_q17196_0, h_r2_q17196_1, -⟩ := h_r2_q17196
      refine wq_xb (tt_fX11_allow hN r2_q17196) (by decide) (fun r3_q17197 h_r3_q17197 => ?_)
      obtain ⟨h_r3_q17197_0, -⟩ := h_r3_q17197
      refine wq_ok ?_
      have l_1000 := il_1000
      exact tt_fX11_whose_L55 hN x1 x2 x3 x4 x5 r14_q17181 ⟨by omega, by omega⟩ ⟨by omega, by omega⟩ ⟨by omega, by omega⟩ ⟨by omega, by omega⟩ ⟨by omega, by omega⟩ ⟨by omega, by omega⟩ N I0 M0 (1000 : Int32) (0 : Int32) (0 : Int32) (0 : Int32) ⟨by omega, by omega⟩ ⟨by omega, by omega⟩ ⟨by omega, by omega⟩ k_I0 (by omega)
set_option maxHeartbeats 4000000 in
theorem tt_fX11_mixed_L29 {N : Nat} (hN : 3000000000 ≤ N) (I0 : Nat → Int32) (M0 : Nat → Nat → Int32) (x1 : Int32) (x2 : Int32) (x3 : Int32) (x4 : Int32) (r1 : Int32) (h_x1 : 0 ≤ x1.toInt ∧ x1.toInt ≤ 5) (h_x2 : 0 ≤ x2.toInt ∧ x2.toInt ≤ 19) (h_x3 : 0 ≤ x3.toInt ∧ x3.toInt ≤ 1000000) (h_x4 : 0 ≤ x4.toInt ∧ x4.toInt ≤ 50000) (h_r1 : 0 ≤ r1.toInt ∧ r1.toInt ≤ 119) (k_I0 : KX11 I0 M0)  : ∀ (fu : Nat) (y29_6 : Int32) (y29_7 : Int32), (0 ≤ y29_7.toInt ∧ y29_7.toInt ≤ 50001) → (50001 - y29_7.toInt) < (fu : Int) → wq (fX11_mixed_L29 N I0 M0 x1 x2 x3 x4 r1 fu y29_6 y29_7) (fun r => True) := by
  intro fu
  induction fu with
  | zero => intro y29_6 y29_7 h_y29_7 hm; exfalso; omega
  | succ fu ih =>
    intro y29_6 y29_7 h_y29_7 hm
    rw [fX11_mixed_L29.eq_2]
    refine wq_lt (fun hc_17660 => ?_) (fun hc_17661 => ?_)
    · have b_17662 := i32b y29_6
      exact wq_s trivial
    · have t_17663 := ia_add x3 y29_7 (by omega) (by omega)
      refine wq_b (tt_fX3_isMixed hN (wb_sh I0 9) (wb_sh M0 1) (wb_sh I0 13) (wb_sh M0 13) r1 (x3 + y29_7) ⟨by omega, by omega⟩ (KX11.s_X5_9_1 k_I0) (KX11.s_X1_13_13 k_I0)) (fun r6_q17664 h_r6_q17664 => ?_)
      obtain ⟨h_r6_q17664_0, -⟩ := h_r6_q17664
      have l_0 := il_0
      refine wq_eq (fun hc_17665 => ?_) (fun hc_17666 => ?_)
      · have l_1 := il_1
        have t_17668 := ia_add y29_7 (1 : Int32) (by omega) (by omega)
        refine wq_v (fun v7_q17667 h_v7_q17667 => ?_)
        have t_v7_q17667 := congrArg Int32.toInt h_v7_q17667
        have b_17669 := i32b y29_6
        exact ih y29_6 v7_q17667 ⟨by omega, by omega⟩ (by omega)
      · have b_17671 := i32b y29_6
        have l_1 := il_1
        refine wq_v (fun v8_q17670 h_v8_q17670 => ?_)
        have t_v8_q17670 := congrArg Int32.toInt h_v8_q17670
        have t_17673 := ia_add y29_7 (1 : Int32) (by omega) (by omega)
        refine wq_v (fun v9_q17672 h_v9_q17672 => ?_)
        have t_v9_q17672 := congrArg Int32.toInt h_v9_q17672
        have b_17674 := i32b v8_q17670
        exact ih v8_q17670 v9_q17672 ⟨by omega, by omega⟩ (by omega)
set_option maxHeartbeats 4000000 in
theorem tt_fX11_mixed {N : Nat} (hN : 3000000000 ≤ N) (I0 : Nat → Int32) (M0 : Nat → Nat → Int32) (x1 : Int32) (x2 : Int32) (x3 : Int32) (x4 : Int32) (k_I0 : KX11 I0 M0) : wq (fX11_mixed N I0 M0 x1 x2 x3 x4) (qS 3 (fun r => True)) := by
  unfold fX11_mixed
  have b_17676 := i32b x1
  have b_17677 := i32b x2
  refine wq_xb (tt_fX11_numberOf hN x1 x2) (by decide) (fun r1_q17675 h_r1_q17675 => ?_)
  obtain ⟨h_r1_q17675_0, h_r1_q17675_1, -⟩ := h_r1_q17675
  have b_17678 := i32b x3
  refine wq_b (tt_fX11_isDay hN x3) (fun r2_q17679 h_r2_q17679 => ?_)
  obtain ⟨h_r2_q17679_0, h_r2_q17679_1, -⟩ := h_r2_q17679
  refine wq_xb (tt_fX11_need hN r2_q17679) (by decide) (fun r3_q17680 h_r3_q17680 => ?_)
  obtain ⟨h_r3_q17680_0, -⟩ := h_r3_q17680
  have b_17681 := i32b x4
  refine wq_b (tt_fX11_isSpan hN x3 x4 ⟨by omega, by omega⟩) (fun r4_q17682 h_r4_q17682 => ?_)
  obtain ⟨h_r4_q17682_0, h_r4_q17682_1, -⟩ := h_r4_q17682
  refine wq_xb (tt_fX11_allow hN r4_q17682) (by decide) (fun r5_q17683 h_r5_q17683 => ?_)
  obtain ⟨h_r5_q17683_0, -⟩ := h_r5_q17683
  refine wq_ok ?_
  have l_0 := il_0
  exact tt_fX11_mixed_L29 hN I0 M0 x1 x2 x3 x4 r1_q17675 ⟨by omega, by omega⟩ ⟨by omega, by omega⟩ ⟨by omega, by omega⟩ ⟨by omega, by omega⟩ ⟨by omega, by omega⟩ k_I0 N (0 : Int32) (0 : Int32) ⟨by omega, by omega⟩ (by omega)
set_option maxHeartbeats 4000000 in
theorem tt_fX11_isClimate {N : Nat} (hN : 3000000000 ≤ N) (I0 : Nat → Int32) (M0 : Nat → Nat → Int32) (x1 : Int32) (k_I0 : KX11 I0 M0) : wq (fX11_isClimate N I0 M0 x1) (fun r => (r.toInt = 0 ∨ (r.toInt = 1 ∧ 0 ≤ x1.toInt ∧ x1.toInt ≤ 6 ∧ x1.toInt < (I0 9).toInt)) ∧ (0 ≤ r.toInt ∧ r.toInt ≤ 1) ∧ True) := by
  unfold fX11_isClimate
  have b_17708 := i32b x1
  have l_0 := il_0
  have t_17709 := KX11.i9 k_I0
  have l_1 := il_1
  have t_17710 := ia_sub (I0 9) (1 : Int32) (by omega) (by omega)
  refine wq_b (tt_fX11_within hN x1 (0 : Int32) ((I0 9) - (1 : Int32))) (fun r1_q17711 h_r1_q17711 => ?_)
  obtain ⟨h_r1_q17711_0, h_r1_q17711_1, -⟩ := h_r1_q17711
  refine wq_bz (by omega) ?_
  exact wq_s ⟨(show (r1_q17711.toInt = 0 ∨ (r1_q17711.toInt = 1 ∧ 0 ≤ x1.toInt ∧ x1.toInt ≤ 6 ∧ x1.toInt < (I0 9).toInt)) from by omega), (show 0 ≤ r1_q17711.toInt ∧ r1_q17711.toInt ≤ 1 from ⟨by omega, by omega⟩), trivial⟩
set_option maxHeartbeats 4000000 in
theorem tt_fX11_climb {N : Nat} (hN : 3000000000 ≤ N) (I0 : Nat → Int32) (M0 : Nat → Nat → Int32) (x1 : Int32) (x2 : Int32) (k_I0 : KX11 I0 M0) : wq (fX11_climb N I0 M0 x1 x2) (qS 1 (fun r => True)) := by
  unfold fX11_climb
  have b_17796 := i32b x1
  refine wq_b (tt_fX11_isClimate hN I0 M0 x1 k_I0) (fun r3_q17797 h_r3_q17797 => ?_)
  obtain ⟨h_r3_q17797_0, h_r3_q17797_1, -⟩ := h_r3_q17797
  have t_17798 := KX11.i9 k_I0
  have l_0 := il_0
  refine wq_eq (fun hc_17799 => ?_) (fun hc_17800 => ?_)
  · unfold fX11_climb_J23
    unfold fX11_climb_J24
    exact wq_xb (tt_fX11_need0 N) (by decide) (fun _ h => absurd h id)
  · have b_17802 := i32b x2
    have l_21599 := il_21599
    refine wq_b (tt_fX11_within hN x2 (0 : Int32) (21599 : Int32)) (fun r4_q17803 h_r4_q17803 => ?_)
    obtain ⟨h_r4_q17803_0, h_r4_q17803_1, -⟩ := h_r4_q17803
    refine wq_eq (fun hc_17804 => ?_) (fun hc_17805 => ?_)
    · unfold fX11_climb_J23
      unfold fX11_climb_J24
      exact wq_xb (tt_fX11_need0 N) (by decide) (fun _ h => absurd h id)
    · unfold fX11_climb_J24
      have l_1 := il_1
      refine wq_xb (tt_fX11_need hN (1 : Int32)) (by decide) (fun r1_q17807 h_r1_q17807 => ?_)
      obtain ⟨h_r1_q17807_0, -⟩ := h_r1_q17807
      refine wq_ok ?_
      refine wq_b (tt_fX2_climbOf hN (wb_sh I0 9) (wb_sh M0 5) x1 x2 ⟨by omega, by omega⟩ ⟨by omega, by omega⟩ (KX11.s_X2_9_5 k_I0)) (fun r2_q17808 h_r2_q17808 => ?_)
      obtain ⟨-⟩ := h_r2_q17808
      have b_17809 := i32b r2_q17808
      exact wq_s trivial
set_option maxHeartbeats 4000000 in
theorem tt_fX11_rise {N : Nat} (hN : 3000000000 ≤ N) (I0 : Nat → Int32) (M0 : Nat → Nat → Int32) (x1 : Int32) (x2 : Int32) (x3 : Int32) (k_I0 : KX11 I0 M0) : wq (fX11_rise N I0 M0 x1 x2 x3) (qS 1 (fun r => True)) := by
  unfold fX11_rise
  have b_17924 := i32b x1
  refine wq_b (tt_fX11_isClimate hN I0 M0 x1 k_I0) (fun r3_q17925 h_r3_q17925 => ?_)
  obtain ⟨h_r3_q17925_0, h_r3_q17925_1, -⟩ := h_r3_q17925
  have t_17926 := KX11.i9 k_I0
  have l_0 := il_0
  refine wq_eq (fun hc_17927 => ?_) (fun hc_17928 => ?_)
  · unfold fX11_rise_J34
    unfold fX11_rise_J35
    exact wq_xb (tt_fX11_need0 N) (by decide) (fun _ h => absurd h id)
  · have b_17930 := i32b x2
    have l_21599 := il_21599
    refine wq_b (tt_fX11_within hN x2 (0 : Int32) (21599 : Int32)) (fun r4_q17931 h_r4_q17931 => ?_)
    obtain ⟨h_r4_q17931_0, h_r4_q17931_1, -⟩ := h_r4_q17931
    refine wq_eq (fun hc_17932 => ?_) (fun hc_17933 => ?_)
    · unfold fX11_rise_J34
      unfold fX11_rise_J35
      exact wq_xb (tt_fX11_need0 N) (by decide) (fun _ h => absurd h id)
    · have b_17935 := i32b x3
      have l_359 := il_359
      refine wq_b (tt_fX11_within hN x3 (0 : Int32) (359 : Int32)) (fun r5_q17936 h_r5_q17936 => ?_)
      obtain ⟨h_r5_q17936_0, h_r5_q17936_1, -⟩ := h_r5_q17936
      refine wq_eq (fun hc_17937 => ?_) (fun hc_17938 => ?_)
      · unfold fX11_rise_J34
        unfold fX11_rise_J35
        exact wq_xb (tt_fX11_need0 N) (by decide) (fun _ h => absurd h id)
      · unfold fX11_rise_J35
        have l_1 := il_1
        refine wq_xb (tt_fX11_need hN (1 : Int32)) (by decide) (fun r1_q17940 h_r1_q17940 => ?_)
        obtain ⟨h_r1_q17940_0, -⟩ := h_r1_q17940
        refine wq_ok ?_
        refine wq_b (tt_fX2_risingAt hN (wb_sh I0 9) (wb_sh M0 5) x1 x2 x3 ⟨by omega, by omega⟩ ⟨by omega, by omega⟩ ⟨by omega, by omega⟩ (KX11.s_X2_9_5 k_I0)) (fun r2_q17941 h_r2_q17941 => ?_)
        obtain ⟨-⟩ := h_r2_q17941
        have b_17942 := i32b r2_q17941
        exact wq_s trivial
set_option maxHeartbeats 4000000 in
theorem tt_fX11_middle {N : Nat} (hN : 3000000000 ≤ N) (I0 : Nat → Int32) (M0 : Nat → Nat → Int32) (x1 : Int32) (x2 : Int32) (k_I0 : KX11 I0 M0) : wq (fX11_middle N I0 M0 x1 x2) (qS 1 (fun r => True)) := by
  unfold fX11_middle
  have b_18027 := i32b x1
  refine wq_b (tt_fX11_isClimate hN I0 M0 x1 k_I0) (fun r3_q18028 h_r3_q18028 => ?_)
  obtain ⟨h_r3_q18028_0, h_r3_q18028_1, -⟩ := h_r3_q18028
  have t_18029 := KX11.i9 k_I0
  have l_0 := il_0
  refine wq_eq (fun hc_18030 => ?_) (fun hc_18031 => ?_)
  · unfold fX11_middle_J23
    unfold fX11_middle_J24
    exact wq_xb (tt_fX11_need0 N) (by decide) (fun _ h => absurd h id)
  · have b_18033 := i32b x2
    have l_21599 := il_21599
    refine wq_b (tt_fX11_within hN x2 (0 : Int32) (21599 : Int32)) (fun r4_q18034 h_r4_q18034 => ?_)
    obtain ⟨h_r4_q18034_0, h_r4_q18034_1, -⟩ := h_r4_q18034
    refine wq_eq (fun hc_18035 => ?_) (fun hc_18036 => ?_)
    · unfold fX11_middle_J23
      unfold fX11_middle_J24
      exact wq_xb (tt_fX11_need0 N) (by decide) (fun _ h => absurd h id)
    · unfold fX11_middle_J24
      have l_1 := il_1
      refine wq_xb (tt_fX11_need hN (1 : Int32)) (by decide) (fun r1_q18038 h_r1_q18038 => ?_)
      obtain ⟨h_r1_q18038_0, -⟩ := h_r1_q18038
      refine wq_ok ?_
      refine wq_b (tt_fX2_middleOf hN (wb_sh I0 9) (wb_sh M0 5) x1 x2 ⟨by omega, by omega⟩ ⟨by omega, by omega⟩ (KX11.s_X2_9_5 k_I0)) (fun r2_q18039 h_r2_q18039 => ?_)
      obtain ⟨-⟩ := h_r2_q18039
      have b_18040 := i32b r2_q18039
      exact wq_s trivial
set_option maxHeartbeats 4000000 in
theorem tt_fX11_hour {N : Nat} (hN : 3000000000 ≤ N) (I0 : Nat → Int32) (M0 : Nat → Nat → Int32) (x1 : Int32) (x2 : Int32) (x3 : Int32) (k_I0 : KX11 I0 M0) : wq (fX11_hour N I0 M0 x1 x2 x3) (qS 1 (fun r => True)) := by
  unfold fX11_hour
  have b_18300 := i32b x1
  have b_18301 := i32b x2
  refine wq_xb (tt_fX11_numberOf hN x1 x2) (by decide) (fun r5_q18299 h_r5_q18299 => ?_)
  obtain ⟨h_r5_q18299_0, h_r5_q18299_1, -⟩ := h_r5_q18299
  have l_0 := il_0
  refine wq_b (tt_fX1_degreeOf hN (wb_sh I0 13) (wb_sh M0 13) r5_q18299 (0 : Int32) ⟨by omega, by omega⟩ ⟨by omega, by omega⟩ (KX11.s_X1_13_13 k_I0)) (fun r6_q18302 h_r6_q18302 => ?_)
  obtain ⟨h_r6_q18302_0, h_r6_q18302_1, -⟩ := h_r6_q18302
  have l_7 := il_7
  refine wq_b (tt_fX1_degreeOf hN (wb_sh I0 13) (wb_sh M0 13) r5_q18299 (7 : Int32) ⟨by omega, by omega⟩ ⟨by omega, by omega⟩ (KX11.s_X1_13_13 k_I0)) (fun r7_q18303 h_r7_q18303 => ?_)
  obtain ⟨h_r7_q18303_0, h_r7_q18303_1, -⟩ := h_r7_q18303
  have l_m1 := il_m1
  refine wq_eq (fun hc_18304 => ?_) (fun hc_18305 => ?_)
  · unfold fX11_hour_J48
    unfold fX11_hour_J49
    have b_18306 := i32b x3
    refine wq_eq (fun hc_18307 => ?_) (fun hc_18308 => ?_)
    · refine wq_ok ?_
      refine wq_eq (fun hc_18309 => ?_) (fun hc_18310 => ?_)
      · exact wq_s trivial
      · exfalso; omega
    · refine wq_eq (fun hc_18311 => ?_) (fun hc_18312 => ?_)
      · unfold fX11_hour_J104
        refine wq_eq (fun hc_18313 => ?_) (fun hc_18314 => ?_)
        · exact wq_xb (tt_fX11_need0 N) (by decide) (fun _ h => absurd h id)
        · exfalso; omega
      · exfalso; omega
  · refine wq_eq (fun hc_18316 => ?_) (fun hc_18317 => ?_)
    · unfold fX11_hour_J48
      unfold fX11_hour_J49
      have b_18318 := i32b x3
      refine wq_eq (fun hc_18319 => ?_) (fun hc_18320 => ?_)
      · refine wq_ok ?_
        refine wq_eq (fun hc_18321 => ?_) (fun hc_18322 => ?_)
        · exact wq_s trivial
        · exfalso; omega
      · refine wq_eq (fun hc_18323 => ?_) (fun hc_18324 => ?_)
        · unfold fX11_hour_J104
          refine wq_eq (fun hc_18325 => ?_) (fun hc_18326 => ?_)
          · exact wq_xb (tt_fX11_need0 N) (by decide) (fun _ h => absurd h id)
          · exfalso; omega
        · exfalso; omega
    · unfold fX11_hour_J49
      have b_18328 := i32b x3
      refine wq_eq (fun hc_18329 => ?_) (fun hc_18330 => ?_)
      · refine wq_ok ?_
        have l_1 := il_1
        refine wq_eq (fun hc_18331 => ?_) (fun hc_18332 => ?_)
        · exfalso; omega
        · refine wq_b (tt_fX2_howManyHours hN (wb_sh I0 9) (wb_sh M0 5) r6_q18302 r7_q18303 ⟨by omega, by omega⟩ (KX11.s_X2_9_5 k_I0)) (fun r4_q18333 h_r4_q18333 => ?_)
          obtain ⟨-⟩ := h_r4_q18333
          have b_18334 := i32b r4_q18333
          exact wq_s trivial
      · have l_1 := il_1
        refine wq_eq (fun hc_18335 => ?_) (fun hc_18336 => ?_)
        · exfalso; omega
        · refine wq_b (tt_fX2_nthHour hN (wb_sh I0 9) (wb_sh M0 5) r6_q18302 r7_q18303 x3 ⟨by omega, by omega⟩ (KX11.s_X2_9_5 k_I0)) (fun r3_q18337 h_r3_q18337 => ?_)
          obtain ⟨h_r3_q18337_0, -⟩ := h_r3_q18337
          unfold fX11_hour_J104
          refine wq_eq (fun hc_18338 => ?_) (fun hc_18339 => ?_)
          · exact wq_xb (tt_fX11_need0 N) (by decide) (fun _ h => absurd h id)
          · refine wq_xb (tt_fX11_need hN (1 : Int32)) (by decide) (fun r2_q18341 h_r2_q18341 => ?_)
            obtain ⟨h_r2_q18341_0, -⟩ := h_r2_q18341
            refine wq_ok ?_
            exact wq_s trivial
set_option maxHeartbeats 4000000 in
theorem tt_fX11_isWay {N : Nat} (hN : 3000000000 ≤ N) (I0 : Nat → Int32) (M0 : Nat → Nat → Int32) (x1 : Int32) (x2 : Int32) (k_I0 : KX11 I0 M0) : wq (fX11_isWay N I0 M0 x1 x2) (fun r => (r.toInt = 0 ∨ (r.toInt = 1 ∧ ((0 ≤ x1.toInt ∧ x1.toInt ≤ 1) ∨ (x1.toInt = 2 ∧ 0 ≤ x2.toInt ∧ x2.toInt ≤ 6 ∧ x2.toInt < (I0 9).toInt)))) ∧ (0 ≤ r.toInt ∧ r.toInt ≤ 1) ∧ True) := by
  unfold fX11_isWay
  have b_18420 := i32b x1
  have l_0 := il_0
  have l_1 := il_1
  refine wq_b (tt_fX11_within hN x1 (0 : Int32) (1 : Int32)) (fun r1_q18421 h_r1_q18421 => ?_)
  obtain ⟨h_r1_q18421_0, h_r1_q18421_1, -⟩ := h_r1_q18421
  refine wq_eq (fun hc_18422 => ?_) (fun hc_18423 => ?_)
  · have l_2 := il_2
    refine wq_eq (fun hc_18424 => ?_) (fun hc_18425 => ?_)
    · have b_18426 := i32b x2
      refine wq_b (tt_fX11_isClimate hN I0 M0 x2 k_I0) (fun r2_q18427 h_r2_q18427 => ?_)
      obtain ⟨h_r2_q18427_0, h_r2_q18427_1, -⟩ := h_r2_q18427
      have t_18428 := KX11.i9 k_I0
      refine wq_eq (fun hc_18429 => ?_) (fun hc_18430 => ?_)
      · exact wq_s ⟨(show ((0 : Int32).toInt = 0 ∨ ((0 : Int32).toInt = 1 ∧ ((0 ≤ x1.toInt ∧ x1.toInt ≤ 1) ∨ (x1.toInt = 2 ∧ 0 ≤ x2.toInt ∧ x2.toInt ≤ 6 ∧ x2.toInt < (I0 9).toInt)))) from by omega), (show 0 ≤ (0 : Int32).toInt ∧ (0 : Int32).toInt ≤ 1 from ⟨by omega, by omega⟩), trivial⟩
      · exact wq_s ⟨(show ((1 : Int32).toInt = 0 ∨ ((1 : Int32).toInt = 1 ∧ ((0 ≤ x1.toInt ∧ x1.toInt ≤ 1) ∨ (x1.toInt = 2 ∧ 0 ≤ x2.toInt ∧ x2.toInt ≤ 6 ∧ x2.toInt < (I0 9).toInt)))) from by omega), (show 0 ≤ (1 : Int32).toInt ∧ (1 : Int32).toInt ≤ 1 from ⟨by omega, by omega⟩), trivial⟩
    · have t_18431 := KX11.i9 k_I0
      have b_18432 := i32b x2
      exact wq_s ⟨(show ((0 : Int32).toInt = 0 ∨ ((0 : Int32).toInt = 1 ∧ ((0 ≤ x1.toInt ∧ x1.toInt ≤ 1) ∨ (x1.toInt = 2 ∧ 0 ≤ x2.toInt ∧ x2.toInt ≤ 6 ∧ x2.toInt < (I0 9).toInt)))) from by omega), (show 0 ≤ (0 : Int32).toInt ∧ (0 : Int32).toInt ≤ 1 from ⟨by omega, by omega⟩), trivial⟩
  · have t_18433 := KX11.i9 k_I0
    have b_18434 := i32b x2
    exact wq_s ⟨(show ((1 : Int32).toInt = 0 ∨ ((1 : Int32).toInt = 1 ∧ ((0 ≤ x1.toInt ∧ x1.toInt ≤ 1) ∨ (x1.toInt = 2 ∧ 0 ≤ x2.toInt ∧ x2.toInt ≤ 6 ∧ x2.toInt < (I0 9).toInt)))) from by omega), (show 0 ≤ (1 : Int32).toInt ∧ (1 : Int32).toInt ≤ 1 from ⟨by omega, by omega⟩), trivial⟩
set_option maxHeartbeats 4000000 in
theorem tt_fX11_houseOf {N : Nat} (hN : 3000000000 ≤ N) (I0 : Nat → Int32) (M0 : Nat → Nat → Int32) (x1 : Int32) (x2 : Int32) (x3 : Int32) (x4 : Int32) (k_I0 : KX11 I0 M0) : wq (fX11_houseOf N I0 M0 x1 x2 x3 x4) (qS 1 (fun r => True)) := by
  unfold fX11_houseOf
  have b_18555 := i32b x1
  have l_0 := il_0
  have l_359 := il_359
  refine wq_b (tt_fX11_within hN x1 (0 : Int32) (359 : Int32)) (fun r3_q18556 h_r3_q18556 => ?_)
  obtain ⟨h_r3_q18556_0, h_r3_q18556_1, -⟩ := h_r3_q18556
  refine wq_eq (fun hc_18557 => ?_) (fun hc_18558 => ?_)
  · unfold fX11_houseOf_J35
    unfold fX11_houseOf_J36
    exact wq_xb (tt_fX11_need0 N) (by decide) (fun _ h => absurd h id)
  · have b_18560 := i32b x2
    have b_18561 := i32b x3
    refine wq_b (tt_fX11_isWay hN I0 M0 x2 x3 k_I0) (fun r4_q18562 h_r4_q18562 => ?_)
    obtain ⟨h_r4_q18562_0, h_r4_q18562_1, -⟩ := h_r4_q18562
    have t_18563 := KX11.i9 k_I0
    refine wq_eq (fun hc_18564 => ?_) (fun hc_18565 => ?_)
    · unfold fX11_houseOf_J35
      unfold fX11_houseOf_J36
      exact wq_xb (tt_fX11_need0 N) (by decide) (fun _ h => absurd h id)
    · have b_18567 := i32b x4
      have l_1 := il_1
      have l_12 := il_12
      refine wq_b (tt_fX11_within hN x4 (1 : Int32) (12 : Int32)) (fun r5_q18568 h_r5_q18568 => ?_)
      obtain ⟨h_r5_q18568_0, h_r5_q18568_1, -⟩ := h_r5_q18568
      refine wq_eq (fun hc_18569 => ?_) (fun hc_18570 => ?_)
      · unfold fX11_houseOf_J35
        unfold fX11_houseOf_J36
        exact wq_xb (tt_fX11_need0 N) (by decide) (fun _ h => absurd h id)
      · unfold fX11_houseOf_J36
        refine wq_xb (tt_fX11_need hN (1 : Int32)) (by decide) (fun r1_q18572 h_r1_q18572 => ?_)
        obtain ⟨h_r1_q18572_0, -⟩ := h_r1_q18572
        refine wq_ok ?_
        refine wq_b (tt_fX2_houseDegree hN (wb_sh I0 9) (wb_sh M0 5) x1 x2 x3 x4 ⟨by omega, by omega⟩ ⟨by omega, by omega⟩ (KX11.s_X2_9_5 k_I0) (by omega)) (fun r2_q18573 h_r2_q18573 => ?_)
        obtain ⟨-⟩ := h_r2_q18573
        have b_18574 := i32b r2_q18573
        exact wq_s trivial
set_option maxHeartbeats 4000000 in
theorem tt_fX11_agree {N : Nat} (hN : 3000000000 ≤ N) (I0 : Nat → Int32) (M0 : Nat → Nat → Int32) (x1 : Int32) (x2 : Int32) (x3 : Int32) (x4 : Int32) (k_I0 : KX11 I0 M0) : wq (fX11_agree N I0 M0 x1 x2 x3 x4) (qS 1 (fun r => True)) := by
  unfold fX11_agree
  have b_18666 := i32b x1
  have b_18667 := i32b x2
  refine wq_xb (tt_fX11_numberOf hN x1 x2) (by decide) (fun r1_q18665 h_r1_q18665 => ?_)
  obtain ⟨h_r1_q18665_0, h_r1_q18665_1, -⟩ := h_r1_q18665
  have b_18668 := i32b x3
  have b_18669 := i32b x4
  refine wq_b (tt_fX11_isWay hN I0 M0 x3 x4 k_I0) (fun r2_q18670 h_r2_q18670 => ?_)
  obtain ⟨h_r2_q18670_0, h_r2_q18670_1, -⟩ := h_r2_q18670
  have t_18671 := KX11.i9 k_I0
  refine wq_xb (tt_fX11_need hN r2_q18670) (by decide) (fun r3_q18672 h_r3_q18672 => ?_)
  obtain ⟨h_r3_q18672_0, -⟩ := h_r3_q18672
  refine wq_ok ?_
  have l_7 := il_7
  refine wq_b (tt_fX1_degreeOf hN (wb_sh I0 13) (wb_sh M0 13) r1_q18665 (7 : Int32) ⟨by omega, by omega⟩ ⟨by omega, by omega⟩ (KX11.s_X1_13_13 k_I0)) (fun r4_q18673 h_r4_q18673 => ?_)
  obtain ⟨h_r4_q18673_0, h_r4_q18673_1, -⟩ := h_r4_q18673
  have l_m1 := il_m1
  refine wq_eq (fun hc_18674 => ?_) (fun hc_18675 => ?_)
  · exact wq_s trivial
  · refine wq_b (tt_fX1_howManyHouses hN (wb_sh I0 13) (wb_sh M0 13) r1_q18665 ⟨by omega, by omega⟩ (KX11.s_X1_13_13 k_I0)) (fun r5_q18676 h_r5_q18676 => ?_)
    obtain ⟨-⟩ := h_r5_q18676
    refine wq_b (tt_fX1_howManyDiffer hN (wb_sh I0 13) (wb_sh M0 13) (wb_sh I0 9) (wb_sh M0 5) r1_q18665 x3 x4 ⟨by omega, by omega⟩ (KX11.s_X1_13_13 k_I0) (KX11.s_X2_9_5 k_I0) (by omega)) (fun r6_q18677 h_r6_q18677 => ?_)
    obtain ⟨-⟩ := h_r6_q18677
    have b_18678 := i32b r5_q18676
    have b_18679 := i32b r6_q18677
    exact wq_s trivial

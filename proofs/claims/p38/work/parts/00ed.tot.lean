set_option maxHeartbeats 4000000 in
theorem tt_fX11_place {N : Nat} (hN : 3000000000 ≤ N) (I0 : Nat → Int32) (M0 : Nat → Nat → Int32) (x1 : Int32) (x2 : Int32) (x3 : Int32) (k_I0 : KX11 I0 M0) : wq (fX11_place N I0 M0 x1 x2 x3) (qS 1 (fun r => True)) := by
  unfold fX11_place
  have b_15522 := i32b x1
  have l_0 := il_0
  have l_3 := il_3
  refine wq_b (tt_fX11_within hN x1 (0 : Int32) (3 : Int32)) (fun r3_q15523 h_r3_q15523 => ?_)
  obtain ⟨h_r3_q15523_0, h_r3_q15523_1, -⟩ := h_r3_q15523
  refine wq_eq (fun hc_15524 => ?_) (fun hc_15525 => ?_)
  · unfold fX11_place_J30
    unfold fX11_place_J31
    exact wq_xb (tt_fX11_need0 N) (by decide) (fun _ h => absurd h id)
  · have b_15527 := i32b x2
    have l_6 := il_6
    refine wq_b (tt_fX11_within hN x2 (0 : Int32) (6 : Int32)) (fun r4_q15528 h_r4_q15528 => ?_)
    obtain ⟨h_r4_q15528_0, h_r4_q15528_1, -⟩ := h_r4_q15528
    refine wq_eq (fun hc_15529 => ?_) (fun hc_15530 => ?_)
    · unfold fX11_place_J30
      unfold fX11_place_J31
      exact wq_xb (tt_fX11_need0 N) (by decide) (fun _ h => absurd h id)
    · have b_15532 := i32b x3
      refine wq_b (tt_fX11_isDay hN x3) (fun r5_q15533 h_r5_q15533 => ?_)
      obtain ⟨h_r5_q15533_0, h_r5_q15533_1, -⟩ := h_r5_q15533
      refine wq_eq (fun hc_15534 => ?_) (fun hc_15535 => ?_)
      · unfold fX11_place_J30
        unfold fX11_place_J31
        exact wq_xb (tt_fX11_need0 N) (by decide) (fun _ h => absurd h id)
      · unfold fX11_place_J31
        have l_1 := il_1
        refine wq_xb (tt_fX11_need hN (1 : Int32)) (by decide) (fun r1_q15537 h_r1_q15537 => ?_)
        obtain ⟨h_r1_q15537_0, -⟩ := h_r1_q15537
        refine wq_ok ?_
        refine wq_b (tt_fX5_placeOn hN (wb_sh I0 9) (wb_sh M0 1) x1 x2 x3 ⟨by omega, by omega⟩ ⟨by omega, by omega⟩ (KX11.s_X5_9_1 k_I0)) (fun r2_q15538 h_r2_q15538 => ?_)
        obtain ⟨-⟩ := h_r2_q15538
        have b_15539 := i32b r2_q15538
        exact wq_s trivial
set_option maxHeartbeats 4000000 in
theorem tt_fX11_entry {N : Nat} (hN : 3000000000 ≤ N) (I0 : Nat → Int32) (M0 : Nat → Nat → Int32) (x1 : Int32) (x2 : Int32) (x3 : Int32) (k_I0 : KX11 I0 M0) : wq (fX11_entry N I0 M0 x1 x2 x3) (qS 1 (fun r => (-1 ≤ r.toInt ∧ r.toInt ≤ 389) ∧ True)) := by
  unfold fX11_entry
  have b_15583 := i32b x1
  have b_15584 := i32b x2
  refine wq_xb (tt_fX11_numberOf hN x1 x2) (by decide) (fun r1_q15582 h_r1_q15582 => ?_)
  obtain ⟨h_r1_q15582_0, h_r1_q15582_1, -⟩ := h_r1_q15582
  have b_15585 := i32b x3
  have l_0 := il_0
  have l_21 := il_21
  refine wq_b (tt_fX11_within hN x3 (0 : Int32) (21 : Int32)) (fun r2_q15586 h_r2_q15586 => ?_)
  obtain ⟨h_r2_q15586_0, h_r2_q15586_1, -⟩ := h_r2_q15586
  refine wq_xb (tt_fX11_need hN r2_q15586) (by decide) (fun r3_q15587 h_r3_q15587 => ?_)
  obtain ⟨h_r3_q15587_0, -⟩ := h_r3_q15587
  refine wq_ok ?_
  refine wq_b (tt_fX1_degreeOf hN (wb_sh I0 13) (wb_sh M0 13) r1_q15582 x3 ⟨by omega, by omega⟩ ⟨by omega, by omega⟩ (KX11.s_X1_13_13 k_I0)) (fun r4_q15588 h_r4_q15588 => ?_)
  obtain ⟨h_r4_q15588_0, h_r4_q15588_1, -⟩ := h_r4_q15588
  exact wq_s ⟨(show -1 ≤ r4_q15588.toInt ∧ r4_q15588.toInt ≤ 389 from ⟨by omega, by omega⟩), trivial⟩
set_option maxHeartbeats 4000000 in
theorem tt_fX11_cost {N : Nat} (hN : 3000000000 ≤ N) (I0 : Nat → Int32) (M0 : Nat → Nat → Int32) (x1 : Int32) (x2 : Int32) (x3 : Int32) (x4 : Int32) (k_I0 : KX11 I0 M0) : wq (fX11_cost N I0 M0 x1 x2 x3 x4) (qS 1 (fun r => True)) := by
  unfold fX11_cost
  have b_15686 := i32b x1
  have b_15687 := i32b x2
  refine wq_xb (tt_fX11_numberOf hN x1 x2) (by decide) (fun r3_q15685 h_r3_q15685 => ?_)
  obtain ⟨h_r3_q15685_0, h_r3_q15685_1, -⟩ := h_r3_q15685
  have b_15688 := i32b x3
  have l_0 := il_0
  have l_3 := il_3
  refine wq_b (tt_fX11_within hN x3 (0 : Int32) (3 : Int32)) (fun r4_q15689 h_r4_q15689 => ?_)
  obtain ⟨h_r4_q15689_0, h_r4_q15689_1, -⟩ := h_r4_q15689
  refine wq_eq (fun hc_15690 => ?_) (fun hc_15691 => ?_)
  · unfold fX11_cost_J28
    unfold fX11_cost_J29
    exact wq_xb (tt_fX11_need0 N) (by decide) (fun _ h => absurd h id)
  · have b_15693 := i32b x4
    refine wq_b (tt_fX11_isDay hN x4) (fun r5_q15694 h_r5_q15694 => ?_)
    obtain ⟨h_r5_q15694_0, h_r5_q15694_1, -⟩ := h_r5_q15694
    refine wq_eq (fun hc_15695 => ?_) (fun hc_15696 => ?_)
    · unfold fX11_cost_J28
      unfold fX11_cost_J29
      exact wq_xb (tt_fX11_need0 N) (by decide) (fun _ h => absurd h id)
    · unfold fX11_cost_J29
      have l_1 := il_1
      refine wq_xb (tt_fX11_need hN (1 : Int32)) (by decide) (fun r1_q15698 h_r1_q15698 => ?_)
      obtain ⟨h_r1_q15698_0, -⟩ := h_r1_q15698
      refine wq_ok ?_
      have l_1000 := il_1000
      refine wq_b (tt_fX3_costOn hN (wb_sh I0 9) (wb_sh M0 1) (wb_sh I0 13) (wb_sh M0 13) r3_q15685 x3 x4 (1000 : Int32) ⟨by omega, by omega⟩ ⟨by omega, by omega⟩ ⟨by omega, by omega⟩ (KX11.s_X5_9_1 k_I0) (KX11.s_X1_13_13 k_I0)) (fun r2_q15699 h_r2_q15699 => ?_)
      obtain ⟨-⟩ := h_r2_q15699
      have b_15700 := i32b r2_q15699
      exact wq_s trivial
set_option maxHeartbeats 4000000 in
theorem tt_fX11_isSpan {N : Nat} (hN : 3000000000 ≤ N) (x0 : Int32) (x1 : Int32) (h_x0 : 0 ≤ x0.toInt ∧ x0.toInt ≤ 1000000) : wq (fX11_isSpan N x0 x1) (fun r => (r.toInt = 0 ∨ (r.toInt = 1 ∧ 0 ≤ x1.toInt ∧ x1.toInt ≤ 50000 ∧ x1.toInt + x0.toInt ≤ 1000000)) ∧ (0 ≤ r.toInt ∧ r.toInt ≤ 1) ∧ True) := by
  unfold fX11_isSpan
  have b_15743 := i32b x1
  have l_0 := il_0
  have l_50000 := il_50000
  refine wq_b (tt_fX11_within hN x1 (0 : Int32) (50000 : Int32)) (fun r1_q15744 h_r1_q15744 => ?_)
  obtain ⟨h_r1_q15744_0, h_r1_q15744_1, -⟩ := h_r1_q15744
  refine wq_eq (fun hc_15745 => ?_) (fun hc_15746 => ?_)
  · exact wq_s ⟨(show ((0 : Int32).toInt = 0 ∨ ((0 : Int32).toInt = 1 ∧ 0 ≤ x1.toInt ∧ x1.toInt ≤ 50000 ∧ x1.toInt + x0.toInt ≤ 1000000)) from by omega), (show 0 ≤ (0 : Int32).toInt ∧ (0 : Int32).toInt ≤ 1 from ⟨by omega, by omega⟩), trivial⟩
  · have l_1000000 := il_1000000
    have t_15747 := ia_sub (1000000 : Int32) x0 (by omega) (by omega)
    refine wq_lt (fun hc_15748 => ?_) (fun hc_15749 => ?_)
    · exact wq_s ⟨(show ((0 : Int32).toInt = 0 ∨ ((0 : Int32).toInt = 1 ∧ 0 ≤ x1.toInt ∧ x1.toInt ≤ 50000 ∧ x1.toInt + x0.toInt ≤ 1000000)) from by omega), (show 0 ≤ (0 : Int32).toInt ∧ (0 : Int32).toInt ≤ 1 from ⟨by omega, by omega⟩), trivial⟩
    · have l_1 := il_1
      exact wq_s ⟨(show ((1 : Int32).toInt = 0 ∨ ((1 : Int32).toInt = 1 ∧ 0 ≤ x1.toInt ∧ x1.toInt ≤ 50000 ∧ x1.toInt + x0.toInt ≤ 1000000)) from by omega), (show 0 ≤ (1 : Int32).toInt ∧ (1 : Int32).toInt ≤ 1 from ⟨by omega, by omega⟩), trivial⟩
set_option maxHeartbeats 4000000 in
theorem tt_fX11_best {N : Nat} (hN : 3000000000 ≤ N) (I0 : Nat → Int32) (M0 : Nat → Nat → Int32) (x1 : Int32) (x2 : Int32) (x3 : Int32) (x4 : Int32) (x5 : Int32) (k_I0 : KX11 I0 M0) : wq (fX11_best N I0 M0 x1 x2 x3 x4 x5) (qS 3 (fun r => KX11 r.2.1 r.2.2 ∧ True)) := by
  unfold fX11_best
  have b_15895 := i32b x1
  have b_15896 := i32b x2
  refine wq_xb (tt_fX11_numberOf hN x1 x2) (by decide) (fun r10_q15894 h_r10_q15894 => ?_)
  obtain ⟨h_r10_q15894_0, h_r10_q15894_1, -⟩ := h_r10_q15894
  have b_15897 := i32b x3
  have l_0 := il_0
  have l_3 := il_3
  refine wq_b (tt_fX11_within hN x3 (0 : Int32) (3 : Int32)) (fun r11_q15898 h_r11_q15898 => ?_)
  obtain ⟨h_r11_q15898_0, h_r11_q15898_1, -⟩ := h_r11_q15898
  refine wq_eq (fun hc_15899 => ?_) (fun hc_15900 => ?_)
  · unfold fX11_best_J28
    unfold fX11_best_J29
    exact wq_xb (tt_fX11_need0 N) (by decide) (fun _ h => absurd h id)
  · have b_15902 := i32b x4
    refine wq_b (tt_fX11_isDay hN x4) (fun r12_q15903 h_r12_q15903 => ?_)
    obtain ⟨h_r12_q15903_0, h_r12_q15903_1, -⟩ := h_r12_q15903
    refine wq_eq (fun hc_15904 => ?_) (fun hc_15905 => ?_)
    · unfold fX11_best_J28
      unfold fX11_best_J29
      exact wq_xb (tt_fX11_need0 N) (by decide) (fun _ h => absurd h id)
    · unfold fX11_best_J29
      have l_1 := il_1
      refine wq_xb (tt_fX11_need hN (1 : Int32)) (by decide) (fun r1_q15907 h_r1_q15907 => ?_)
      obtain ⟨h_r1_q15907_0, -⟩ := h_r1_q15907
      have b_15908 := i32b x5
      refine wq_b (tt_fX11_isSpan hN x4 x5 ⟨by omega, by omega⟩) (fun r2_q15909 h_r2_q15909 => ?_)
      obtain ⟨h_r2_q15909_0, h_r2_q15909_1, -⟩ := h_r2_q15909
      refine wq_xb (tt_fX11_allow hN r2_q15909) (by decide) (fun r3_q15910 h_r3_q15910 => ?_)
      obtain ⟨h_r3_q15910_0, -⟩ := h_r3_q15910
      refine wq_ok ?_
      refine wq_b (tt_fX8_begin hN (wb_sh I0 13) (wb_sh M0 16) r10_q15894 x3 x4 ⟨by omega, by omega⟩ ⟨by omega, by omega⟩ ⟨by omega, by omega⟩ (KX11.s_X8_13_16 k_I0)) (fun r4_q15911 h_r4_q15911 => ?_)
      obtain ⟨h_r4_q15911_0, -⟩ := h_r4_q15911
      refine wq_v (fun I0_5_q15912 h_I0_5_q15912 => ?_)
      refine wq_v (fun M0_6_q15913 h_M0_6_q15913 => ?_)
      have k_M0_6_q15913 : KX11 I0_5_q15912 M0_6_q15913 := by rw [h_I0_5_q15912, h_M0_6_q15913]; exact KX11.p_X8_13_16 k_I0 h_r4_q15911_0
      have t_15914 := ia_add x5 (1 : Int32) (by omega) (by omega)
      refine wq_b (tt_fX8_goOn hN (wb_sh I0_5_q15912 13) (wb_sh M0_6_q15913 16) (wb_sh I0_5_q15912 9) (wb_sh M0_6_q15913 1) (wb_sh I0_5_q15912 13) (wb_sh M0_6_q15913 13) (x5 + (1 : Int32)) (KX11.s_X8_13_16 k_M0_6_q15913) (KX11.s_X5_9_1 k_M0_6_q15913) (KX11.s_X1_13_13 k_M0_6_q15913)) (fun r7_q15915 h_r7_q15915 => ?_)
      obtain ⟨h_r7_q15915_0, -⟩ := h_r7_q15915
      refine wq_v (fun I0_8_q15916 h_I0_8_q15916 => ?_)
      refine wq_v (fun M0_9_q15917 h_M0_9_q15917 => ?_)
      have k_M0_9_q15917 : KX11 I0_8_q15916 M0_9_q15917 := by rw [h_I0_8_q15916, h_M0_9_q15917]; exact KX11.p_X8_13_16 k_M0_6_q15913 h_r7_q15915_0
      exact wq_s ⟨k_M0_9_q15917, trivial⟩
set_option maxHeartbeats 4000000 in
theorem tt_fX11_day {N : Nat} (hN : 3000000000 ≤ N) (I0 : Nat → Int32) (M0 : Nat → Nat → Int32) (x1 : Int32) (k_I0 : KX11 I0 M0) : wq (fX11_day N I0 M0 x1) (qS 1 (fun r => True)) := by
  unfold fX11_day
  have t_15991 := KX11.i13 k_I0
  refine wq_xb (tt_fX11_need hN (I0 13)) (by decide) (fun r1_q15990 h_r1_q15990 => ?_)
  obtain ⟨h_r1_q15990_0, -⟩ := h_r1_q15990
  have b_15992 := i32b x1
  have l_m1 := il_m1
  refine wq_eq (fun hc_15993 => ?_) (fun hc_15994 => ?_)
  · refine wq_ok ?_
    have t_15995 := KX11.i18 k_I0
    exact wq_s trivial
  · refine wq_b (tt_fX8_howManyKept hN (wb_sh I0 13) (wb_sh M0 16) (KX11.s_X8_13_16 k_I0)) (fun r2_q15996 h_r2_q15996 => ?_)
    obtain ⟨h_r2_q15996_0, -⟩ := h_r2_q15996
    have l_0 := il_0
    have l_1 := il_1
    have t_15997 := ia_sub r2_q15996 (1 : Int32) (by omega) (by omega)
    refine wq_b (tt_fX11_within hN x1 (0 : Int32) (r2_q15996 - (1 : Int32))) (fun r3_q15998 h_r3_q15998 => ?_)
    obtain ⟨h_r3_q15998_0, h_r3_q15998_1, -⟩ := h_r3_q15998
    refine wq_xb (tt_fX11_need hN r3_q15998) (by decide) (fun r4_q15999 h_r4_q15999 => ?_)
    obtain ⟨h_r4_q15999_0, -⟩ := h_r4_q15999
    refine wq_ok ?_
    refine wq_b (tt_fX8_keptDay hN (wb_sh I0 13) (wb_sh M0 16) x1 (KX11.s_X8_13_16 k_I0)) (fun r5_q16000 h_r5_q16000 => ?_)
    obtain ⟨-⟩ := h_r5_q16000
    have b_16001 := i32b r5_q16000
    exact wq_s trivial
set_option maxHeartbeats 4000000 in
theorem tt_fX11_whose_L55 {N : Nat} (hN : 3000000000 ≤ N) (x1 : Int32) (x2 : Int32) (x3 : Int32) (x4 : Int32) (x5 : Int32) (y29_6 : Int32) (h_x1 : 0 ≤ x1.toInt ∧ x1.toInt ≤ 5) (h_x2 : 0 ≤ x2.toInt ∧ x2.toInt ≤ 19) (h_x3 : 0 ≤ x3.toInt ∧ x3.toInt ≤ 1000000) (h_x4 : 0 ≤ x4.toInt ∧ x4.toInt ≤ 50000) (h_x5 : 0 ≤ x5.toInt ∧ x5.toInt ≤ 2) (h_y29_6 : 0 ≤ y29_6.toInt ∧ y29_6.toInt ≤ 119)  : ∀ (fu : Nat) (I0_l55 : (Nat → Int32)) (M0_l55 : (Nat → Nat → Int32)) (y55_7 : Int32) (y55_8 : Int32) (y55_9 : Int32) (y55_10 : Int32), (-2147483648 ≤ y55_7.toInt ∧ y55_7.toInt ≤ 1000) → (0 ≤ y55_8.toInt ∧ y55_8.toInt ≤ 3) → (0 ≤ y55_10.toInt ∧ y55_10.toInt ≤ 4) → (KX11 I0_l55 M0_l55) → (4 - y55_10.toInt) < (fu : Int) → wq (fX11_whose_L55 N x1 x2 x3 x4 x5 y29_6 fu I0_l55 M0_l55 y55_7 y55_8 y55_9 y55_10) (fun r => KX11 r.2.1 r.2.2 ∧ True) := by
  intro fu
  induction fu with
  | zero => intro I0_l55 M0_l55 y55_7 y55_8 y55_9 y55_10 h_y55_7 h_y55_8 h_y55_10 k_I0_l55 hm; exfalso; omega
  | succ fu ih =>
    intro I0_l55 M0_l55 y55_7 y55_8 y55_9 y55_10 h_y55_7 h_y55_8 h_y55_10 k_I0_l55 hm
    rw [fX11_whose_L55.eq_2]
    have l_4 := il_4
    refine wq_le (fun hc_17143 => ?_) (fun hc_17144 => ?_)
    · have l_0 := il_0
      refine wq_eq (fun hc_17145 => ?_) (fun hc_17146 => ?_)
      · exact wq_s ⟨k_I0_l55, trivial⟩
      · have l_1 := il_1
        refine wq_eq (fun hc_17147 => ?_) (fun hc_17148 => ?_)
        · have b_17149 := i32b y55_7
          exact wq_s ⟨k_I0_l55, trivial⟩
        · have b_17150 := i32b y55_9
          exact wq_s ⟨k_I0_l55, trivial⟩
    · refine wq_b (tt_fX8_begin hN (wb_sh I0_l55 20) (wb_sh M0_l55 17) y29_6 y55_10 x3 ⟨by omega, by omega⟩ ⟨by omega, by omega⟩ ⟨by omega, by omega⟩ (KX11.s_X8_20_17 k_I0_l55)) (fun r7_q17151 h_r7_q17151 => ?_)
      obtain ⟨h_r7_q17151_0, -⟩ := h_r7_q17151
      refine wq_v (fun I0_8_q17152 h_I0_8_q17152 => ?_)
      refine wq_v (fun M0_9_q17153 h_M0_9_q17153 => ?_)
      have k_M0_9_q17153 : KX11 I0_8_q17152 M0_9_q17153 := by rw [h_I0_8_q17152, h_M0_9_q17153]; exact KX11.p_X8_20_17 k_I0_l55 h_r7_q17151_0
      have l_1 := il_1
      have t_17154 := ia_add x4 (1 : Int32) (by omega) (by omega)
      refine wq_b (tt_fX8_goOn hN (wb_sh I0_8_q17152 20) (wb_sh M0_9_q17153 17) (wb_sh I0_8_q17152 9) (wb_sh M0_9_q17153 1) (wb_sh I0_8_q17152 13) (wb_sh M0_9_q17153 13) (x4 + (1 : Int32)) (KX11.s_X8_20_17 k_M0_9_q17153) (KX11.s_X5_9_1 k_M0_9_q17153) (KX11.s_X1_13_13 k_M0_9_q17153)) (fun r10_q17155 h_r10_q17155 => ?_)
      obtain ⟨h_r10_q17155_0, -⟩ := h_r10_q17155
      refine wq_v (fun I0_11_q17156 h_I0_11_q17156 => ?_)
      refine wq_v (fun M0_12_q17157 h_M0_12_q17157 => ?_)
      have k_M0_12_q17157 : KX11 I0_11_q17156 M0_12_q17157 := by rw [h_I0_11_q17156, h_M0_12_q17157]; exact KX11.p_X8_20_17 k_M0_9_q17153 h_r10_q17155_0
      have b_17158 := i32b y55_7
      refine wq_le (fun hc_17159 => ?_) (fun hc_17160 => ?_)
      · unfold fX11_whose_J121
        refine wq_eq (fun hc_17161 => ?_) (fun hc_17162 => ?_)
        · have b_17164 := i32b y55_9
          refine wq_v (fun v5_q17163 h_v5_q17163 => ?_)
          have t_v5_q17163 := congrArg Int32.toInt h_v5_q17163
          have t_17166 := ia_add y55_10 (1 : Int32) (by omega) (by omega)
          refine wq_v (fun v6_q17165 h_v6_q17165 => ?_)
          have t_v6_q17165 := congrArg Int32.toInt h_v6_q17165
          have b_17167 := i32b v5_q17163
          exact ih I0_11_q17156 M0_12_q17157 y55_7 y55_8 v5_q17163 v6_q17165 ⟨by omega, by omega⟩ ⟨by omega, by omega⟩ ⟨by omega, by omega⟩ k_M0_12_q17157 (by omega)
        · have t_17169 := ia_add y55_10 (1 : Int32) (by omega) (by omega)
          refine wq_v (fun v4_q17168 h_v4_q17168 => ?_)
          have t_v4_q17168 := congrArg Int32.toInt h_v4_q17168
          have b_17170 := i32b y55_9
          exact ih I0_11_q17156 M0_12_q17157 y55_7 y55_8 y55_9 v4_q17168 ⟨by omega, by omega⟩ ⟨by omega, by omega⟩ ⟨by omega, by omega⟩ k_M0_12_q17157 (by omega)
      · refine wq_v (fun v13_q17171 h_v13_q17171 => ?_)
        have t_v13_q17171 := congrArg Int32.toInt h_v13_q17171
        unfold fX11_whose_J121
        have b_17172 := i32b v13_q17171
        refine wq_eq (fun hc_17173 => ?_) (fun hc_17174 => ?_)
        · have l_0 := il_0
          have t_17176 := ia_add (0 : Int32) (1 : Int32) (by omega) (by omega)
          refine wq_v (fun v5_q17175 h_v5_q17175 => ?_)
          have t_v5_q17175 := congrArg Int32.toInt h_v5_q17175
          have t_17178 := ia_add y55_10 (1 : Int32) (by omega) (by omega)
          refine wq_v (fun v6_q17177 h_v6_q17177 => ?_)
          have t_v6_q17177 := congrArg Int32.toInt h_v6_q17177
          exact ih I0_11_q17156 M0_12_q17157 v13_q17171 y55_10 v5_q17175 v6_q17177 ⟨by omega, by omega⟩ ⟨by omega, by omega⟩ ⟨by omega, by omega⟩ k_M0_12_q17157 (by omega)
        · have t_17180 := ia_add y55_10 (1 : Int32) (by omega) (by omega)
          refine wq_v (fun v4_q17179 h_v4_q17179 => ?_)
          have t_v4_q17179 := congrArg Int32.toInt h_v4_q17179
          have l_0 := il_0
          exact ih I0_11_q17156 M0_12_q17157 v13_q17171 y55_10 (0 : Int32) v4_q17179 ⟨by omega, by omega⟩ ⟨by omega, by omega⟩ ⟨by omega, by omega⟩ k_M0_12_q17157 (by omega)
set_option maxHeartbeats 4000000 in
theorem tt_fX11_whose {N : Nat} (hN : 3000000000 ≤ N) (I0 : Nat → Int32) (M0 : Nat → Nat → Int32) (x1 : Int32) (x2 : Int32) (x3 : Int32) (x4 : Int32) (x5 : Int32) (k_I0 : KX11 I0 M0) : wq (fX11_whose N I0 M0 x1 x2 x3 x4 x5) (qS 3 (fun r => KX11 r.2.1 r.2.2 ∧ True)) := by
  unfold fX11_whose
  have b_17182 := i32b x1
  have b_17183 := i32b x2
  refine wq_xb (tt_fX11_numberOf hN x1 x2) (by decide) (fun r14_q17181 h_r14_q17181 => ?_)
  obtain ⟨h_r14_q17181_0, h_r14_q17181_1, -⟩ := h_r14_q17181
  have b_17184 := i32b x3
  refine wq_b (tt_fX11_isDay hN x3) (fun r15_q17185 h_r15_q17185 => ?_)
  obtain ⟨h_r15_q17185_0, h_r15_q17185_1, -⟩ := h_r15_q17185
  have l_0 := il_0
  refine wq_eq (fun hc_17186 => ?_) (fun hc_17187 => ?_)
  · unfold fX11_whose_J28
    unfold fX11_whose_J29
    exact wq_xb (tt_fX11_need0 N) (by decide) (fun _ h => absurd h id)
  · have b_17189 := i32b x5
    have l_2 := il_2
    refine wq_b (tt_fX11_within hN x5 (0 : Int32) (2 : Int32)) (fun r16_q17190 h_r16_q17190 => ?_)
    obtain ⟨h_r16_q17190_0, h_r16_q17190_1, -⟩ := h_r16_q17190
    refine wq_eq (fun hc_17191 => ?_) (fun hc_17192 => ?_)
    · unfold fX11_whose_J28
      unfold fX11_whose_J29
      exact wq_xb (tt_fX11_need0 N) (by decide) (fun _ h => absurd h id)
    · unfold fX11_whose_J29
      have l_1 := il_1
      refine wq_xb (tt_fX11_need hN (1 : Int32)) (by decide) (fun r1_q17194 h_r1_q17194 => ?_)
      obtain ⟨h_r1_q17194_0, -⟩ := h_r1_q17194
      have b_17195 := i32b x4
      refine wq_b (tt_fX11_isSpan hN x3 x4 ⟨by omega, by omega⟩) (fun r2_q17196 h_r2_q17196 => ?_)
      obtain ⟨h_r2_q17196_0, h_r2_q17196_1, -⟩ := h_r2_q17196
      refine wq_xb (tt_fX11_allow hN r2_q17196) (by decide) (fun r3_q17197 h_r3_q17197 => ?_)
      obtain ⟨h_r3_q17197_0, -⟩ := h_r3_q17197
      refine wq_ok ?_
      have l_1000 := il_1000
      exact tt_fX11_whose_L55 hN x1 x2 x3 x4 x5 r14_q17181 ⟨by omega, by omega⟩ ⟨by omega, by omega⟩ ⟨by omega, by omega⟩ ⟨by omega, by omega⟩ ⟨by omega, by omega⟩ ⟨by omega, by omega⟩ N I0 M0 (1000 : Int32) (0 : Int32) (0 : Int32) (0 : Int32) ⟨by omega, by omega⟩ ⟨by omega, by omega⟩ ⟨by omega, by omega⟩ k_I0 (by omega)
set_option maxHeartbeats 4000000 in
theorem tt_fX11_mixed_L29 {N : Nat} (hN : 3000000000 ≤ N) (I0 : Nat → Int32) (M0 : Nat → Nat → Int32) (x1 : Int32) (x2 : Int32) (x3 : Int32) (x4 : Int32) (r1 : Int32) (h_x1 : 0 ≤ x1.toInt ∧ x1.toInt ≤ 5) (h_x2 : 0 ≤ x2.toInt ∧ x2.toInt ≤ 19) (h_x3 : 0 ≤ x3.toInt ∧ x3.toInt ≤ 1000000) (h_x4 : 0 ≤ x4.toInt ∧ x4.toInt ≤ 50000) (h_r1 : 0 ≤ r1.toInt ∧ r1.toInt ≤ 119) (k_I0 : KX11 I0 M0)  : ∀ (fu : Nat) (y29_6 : Int32) (y29_7 : Int32), (0 ≤ y29_7.toInt ∧ y29_7.toInt ≤ 50001) → (50001 - y29_7.toInt) < (fu : Int) → wq (fX11_mixed_L29 N I0 M0 x1 x2 x3 x4 r1 fu y29_6 y29_7) (fun r => True) := by
  intro fu
  induction fu with
  | zero => intro y29_6 y29_7 h_y29_7 hm; exfalso; omega
  | succ fu ih =>
    intro y29_6 y29_7 h_y29_7 hm
    rw [fX11_mixed_L29.eq_2]
    refine wq_lt (fun hc_17660 => ?_) (fun hc_17661 => ?_)
    · have b_17662 := i32b y29_6
      exact wq_s trivial
    · have t_17663 := ia_add x3 y29_7 (by omega) (by omega)
      refine wq_b (tt_fX3_isMixed hN (wb_sh I0 9) (wb_sh M0 1) (wb_sh I0 13) (wb_sh M0 13) r1 (x3 + y29_7) ⟨by omega, by omega⟩ (KX11.s_X5_9_1 k_I0) (KX11.s_X1_13_13 k_I0)) (fun r6_q17664 h_r6_q17664 => ?_)
      obtain ⟨h_r6_q17664_0, -⟩ := h_r6_q17664
      have l_0 := il_0
      refine wq_eq (fun hc_17665 => ?_) (fun hc_17666 => ?_)
      · have l_1 := il_1
        have t_17668 := ia_add y29_7 (1 : Int32) (by omega) (by omega)
        refine wq_v (fun v7_q17667 h_v7_q17667 => ?_)
        have t_v7_q17667 := congrArg Int32.toInt h_v7_q17667
        have b_17669 := i32b y29_6
        exact ih y29_6 v7_q17667 ⟨by omega, by omega⟩ (by omega)
      · have b_17671 := i32b y29_6
        have l_1 := il_1
        refine wq_v (fun v8_q17670 h_v8_q17670 => ?_)
        have t_v8_q17670 := congrArg Int32.toInt h_v8_q17670
        have t_17673 := ia_add y29_7 (1 : Int32) (by omega) (by omega)
        refine wq_v (fun v9_q17672 h_v9_q17672 => ?_)
        have t_v9_q17672 := congrArg Int32.toInt h_v9_q17672
        have b_17674 := i32b v8_q17670
        exact ih v8_q17670 v9_q17672 ⟨by omega, by omega⟩ (by omega)
set_option maxHeartbeats 4000000 in
theorem tt_fX11_mixed {N : Nat} (hN : 3000000000 ≤ N) (I0 : Nat → Int32) (M0 : Nat → Nat → Int32) (x1 : Int32) (x2 : Int32) (x3 : Int32) (x4 : Int32) (k_I0 : KX11 I0 M0) : wq (fX11_mixed N I0 M0 x1 x2 x3 x4) (qS 3 (fun r => True)) := by
  unfold fX11_mixed
  have b_17676 := i32b x1
  have b_17677 := i32b x2
  refine wq_xb (tt_fX11_numberOf hN x1 x2) (by decide) (fun r1_q17675 h_r1_q17675 => ?_)
  obtain ⟨h_r1_q17675_0, h_r1_q17675_1, -⟩ := h_r1_q17675
  have b_17678 := i32b x3
  refine wq_b (tt_fX11_isDay hN x3) (fun r2_q17679 h_r2_q17679 => ?_)
  obtain ⟨h_r2_q17679_0, h_r2_q17679_1, -⟩ := h_r2_q17679
  refine wq_xb (tt_fX11_need hN r2_q17679) (by decide) (fun r3_q17680 h_r3_q17680 => ?_)
  obtain ⟨h_r3_q17680_0, -⟩ := h_r3_q17680
  have b_17681 := i32b x4
  refine wq_b (tt_fX11_isSpan hN x3 x4 ⟨by omega, by omega⟩) (fun r4_q17682 h_r4_q17682 => ?_)
  obtain ⟨h_r4_q17682_0, h_r4_q17682_1, -⟩ := h_r4_q17682
  refine wq_xb (tt_fX11_allow hN r4_q17682) (by decide) (fun r5_q17683 h_r5_q17683 => ?_)
  obtain ⟨h_r5_q17683_0, -⟩ := h_r5_q17683
  refine wq_ok ?_
  have l_0 := il_0
  exact tt_fX11_mixed_L29 hN I0 M0 x1 x2 x3 x4 r1_q17675 ⟨by omega, by omega⟩ ⟨by omega, by omega⟩ ⟨by omega, by omega⟩ ⟨by omega, by omega⟩ ⟨by omega, by omega⟩ k_I0 N (0 : Int32) (0 : Int32) ⟨by omega, by omega⟩ (by omega)
set_option maxHeartbeats 4000000 in
theorem tt_fX11_isClimate {N : Nat} (hN : 3000000000 ≤ N) (I0 : Nat → Int32) (M0 : Nat → Nat → Int32) (x1 : Int32) (k_I0 : KX11 I0 M0) : wq (fX11_isClimate N I0 M0 x1) (fun r => (r.toInt = 0 ∨ (r.toInt = 1 ∧ 0 ≤ x1.toInt ∧ x1.toInt ≤ 6 ∧ x1.toInt < (I0 9).toInt)) ∧ (0 ≤ r.toInt ∧ r.toInt ≤ 1) ∧ True) := by
  unfold fX11_isClimate
  have b_17708 := i32b x1
  have l_0 := il_0
  have t_17709 := KX11.i9 k_I0
  have l_1 := il_1
  have t_17710 := ia_sub (I0 9) (1 : Int32) (by omega) (by omega)
  refine wq_b (tt_fX11_within hN x1 (0 : Int32) ((I0 9) - (1 : Int32))) (fun r1_q17711 h_r1_q17711 => ?_)
  obtain ⟨h_r1_q17711_0, h_r1_q17711_1, -⟩ := h_r1_q17711
  refine wq_bz (by omega) ?_
  exact wq_s ⟨(show (r1_q17711.toInt = 0 ∨ (r1_q17711.toInt = 1 ∧ 0 ≤ x1.toInt ∧ x1.toInt ≤ 6 ∧ x1.toInt < (I0 9).toInt)) from by omega), (show 0 ≤ r1_q17711.toInt ∧ r1_q17711.toInt ≤ 1 from ⟨by omega, by omega⟩), trivial⟩
set_option maxHeartbeats 4000000 in
theorem tt_fX11_climb {N : Nat} (hN : 3000000000 ≤ N) (I0 : Nat → Int32) (M0 : Nat → Nat → Int32) (x1 : Int32) (x2 : Int32) (k_I0 : KX11 I0 M0) : wq (fX11_climb N I0 M0 x1 x2) (qS 1 (fun r => True)) := by
  unfold fX11_climb
  have b_17796 := i32b x1
  refine wq_b (tt_fX11_isClimate hN I0 M0 x1 k_I0) (fun r3_q17797 h_r3_q17797 => ?_)
  obtain ⟨h_r3_q17797_0, h_r3_q17797_1, -⟩ := h_r3_q17797
  have t_17798 := KX11.i9 k_I0
  have l_0 := il_0
  refine wq_eq (fun hc_17799 => ?_) (fun hc_17800 => ?_)
  · unfold fX11_climb_J23
    unfold fX11_climb_J24
    exact wq_xb (tt_fX11_need0 N) (by decide) (fun _ h => absurd h id)
  · have b_17802 := i32b x2
    have l_21599 := il_21599
    refine wq_b (tt_fX11_within hN x2 (0 : Int32) (21599 : Int32)) (fun r4_q17803 h_r4_q17803 => ?_)
    obtain ⟨h_r4_q17803_0, h_r4_q17803_1, -⟩ := h_r4_q17803
    refine wq_eq (fun hc_17804 => ?_) (fun hc_17805 => ?_)
    · unfold fX11_climb_J23
      unfold fX11_climb_J24
      exact wq_xb (tt_fX11_need0 N) (by decide) (fun _ h => absurd h id)
    · unfold fX11_climb_J24
      have l_1 := il_1
      refine wq_xb (tt_fX11_need hN (1 : Int32)) (by decide) (fun r1_q17807 h_r1_q17807 => ?_)
      obtain ⟨h_r1_q17807_0, -⟩ := h_r1_q17807
      refine wq_ok ?_
      refine wq_b (tt_fX2_climbOf hN (wb_sh I0 9) (wb_sh M0 5) x1 x2 ⟨by omega, by omega⟩ ⟨by omega, by omega⟩ (KX11.s_X2_9_5 k_I0)) (fun r2_q17808 h_r2_q17808 => ?_)
      obtain ⟨-⟩ := h_r2_q17808
      have b_17809 := i32b r2_q17808
      exact wq_s trivial
set_option maxHeartbeats 4000000 in
theorem tt_fX11_rise {N : Nat} (hN : 3000000000 ≤ N) (I0 : Nat → Int32) (M0 : Nat → Nat → Int32) (x1 : Int32) (x2 : Int32) (x3 : Int32) (k_I0 : KX11 I0 M0) : wq (fX11_rise N I0 M0 x1 x2 x3) (qS 1 (fun r => True)) := by
  unfold fX11_rise
  have b_17924 := i32b x1
  refine wq_b (tt_fX11_isClimate hN I0 M0 x1 k_I0) (fun r3_q17925 h_r3_q17925 => ?_)
  obtain ⟨h_r3_q17925_0, h_r3_q17925_1, -⟩ := h_r3_q17925
  have t_17926 := KX11.i9 k_I0
  have l_0 := il_0
  refine wq_eq (fun hc_17927 => ?_) (fun hc_17928 => ?_)
  · unfold fX11_rise_J34
    unfold fX11_rise_J35
    exact wq_xb (tt_fX11_need0 N) (by decide) (fun _ h => absurd h id)
  · have b_17930 := i32b x2
    have l_21599 := il_21599
    refine wq_b (tt_fX11_within hN x2 (0 : Int32) (21599 : Int32)) (fun r4_q17931 h_r4_q17931 => ?_)
    obtain ⟨h_r4_q17931_0, h_r4_q17931_1, -⟩ := h_r4_q17931
    refine wq_eq (fun hc_17932 => ?_) (fun hc_17933 => ?_)
    · unfold fX11_rise_J34
      unfold fX11_rise_J35
      exact wq_xb (tt_fX11_need0 N) (by decide) (fun _ h => absurd h id)
    · have b_17935 := i32b x3
      have l_359 := il_359
      refine wq_b (tt_fX11_within hN x3 (0 : Int32) (359 : Int32)) (fun r5_q17936 h_r5_q17936 => ?_)
      obtain ⟨h_r5_q17936_0, h_r5_q17936_1, -⟩ := h_r5_q17936
      refine wq_eq (fun hc_17937 => ?_) (fun hc_17938 => ?_)
      · unfold fX11_rise_J34
        unfold fX11_rise_J35
        exact wq_xb (tt_fX11_need0 N) (by decide) (fun _ h => absurd h id)
      · unfold fX11_rise_J35
        have l_1 := il_1
        refine wq_xb (tt_fX11_need hN (1 : Int32)) (by decide) (fun r1_q17940 h_r1_q17940 => ?_)
        obtain ⟨h_r1_q17940_0, -⟩ := h_r1_q17940
        refine wq_ok ?_
        refine wq_b (tt_fX2_risingAt hN (wb_sh I0 9) (wb_sh M0 5) x1 x2 x3 ⟨by omega, by omega⟩ ⟨by omega, by omega⟩ ⟨by omega, by omega⟩ (KX11.s_X2_9_5 k_I0)) (fun r2_q17941 h_r2_q17941 => ?_)
        obtain ⟨-⟩ := h_r2_q17941
        have b_17942 := i32b r2_q17941
        exact wq_s trivial
set_option maxHeartbeats 4000000 in
theorem tt_fX11_middle {N : Nat} (hN : 3000000000 ≤ N) (I0 : Nat → Int32) (M0 : Nat → Nat → Int32) (x1 : Int32) (x2 : Int32) (k_I0 : KX11 I0 M0) : wq (fX11_middle N I0 M0 x1 x2) (qS 1 (fun r => True)) := by
  unfold fX11_middle
  have b_18027 := i32b x1
  refine wq_b (tt_fX11_isClimate hN I0 M0 x1 k_I0) (fun r3_q18028 h_r3_q18028 => ?_)
  obtain ⟨h_r3_q18028_0, h_r3_q18028_1, -⟩ := h_r3_q18028
  have t_18029 := KX11.i9 k_I0
  have l_0 := il_0
  refine wq_eq (fun hc_18030 => ?_) (fun hc_18031 => ?_)
  · unfold fX11_middle_J23
    unfold fX11_middle_J24
    exact wq_xb (tt_fX11_need0 N) (by decide) (fun _ h => absurd h id)
  · have b_18033 := i32b x2
    have l_21599 := il_21599
    refine wq_b (tt_fX11_within hN x2 (0 : Int32) (21599 : Int32)) (fun r4_q18034 h_r4_q18034 => ?_)
    obtain ⟨h_r4_q18034_0, h_r4_q18034_1, -⟩ := h_r4_q18034
    refine wq_eq (fun hc_18035 => ?_) (fun hc_18036 => ?_)
    · unfold fX11_middle_J23
      unfold fX11_middle_J24
      exact wq_xb (tt_fX11_need0 N) (by decide) (fun _ h => absurd h id)
    · unfold fX11_middle_J24
      have l_1 := il_1
      refine wq_xb (tt_fX11_need hN (1 : Int32)) (by decide) (fun r1_q18038 h_r1_q18038 => ?_)
      obtain ⟨h_r1_q18038_0, -⟩ := h_r1_q18038
      refine wq_ok ?_
      refine wq_b (tt_fX2_middleOf hN (wb_sh I0 9) (wb_sh M0 5) x1 x2 ⟨by omega, by omega⟩ ⟨by omega, by omega⟩ (KX11.s_X2_9_5 k_I0)) (fun r2_q18039 h_r2_q18039 => ?_)
      obtain ⟨-⟩ := h_r2_q18039
      have b_18040 := i32b r2_q18039
      exact wq_s trivial
set_option maxHeartbeats 4000000 in
theorem tt_fX11_hour {N : Nat} (hN : 3000000000 ≤ N) (I0 : Nat → Int32) (M0 : Nat → Nat → Int32) (x1 : Int32) (x2 : Int32) (x3 : Int32) (k_I0 : KX11 I0 M0) : wq (fX11_hour N I0 M0 x1 x2 x3) (qS 1 (fun r => True)) := by
  unfold fX11_hour
  have b_18300 := i32b x1
  have b_18301 := i32b x2
  refine wq_xb (tt_fX11_numberOf hN x1 x2) (by decide) (fun r5_q18299 h_r5_q18299 => ?_)
  obtain ⟨h_r5_q18299_0, h_r5_q18299_1, -⟩ := h_r5_q18299
  have l_0 := il_0
  refine wq_b (tt_fX1_degreeOf hN (wb_sh I0 13) (wb_sh M0 13) r5_q18299 (0 : Int32) ⟨by omega, by omega⟩ ⟨by omega, by omega⟩ (KX11.s_X1_13_13 k_I0)) (fun r6_q18302 h_r6_q18302 => ?_)
  obtain ⟨h_r6_q18302_0, h_r6_q18302_1, -⟩ := h_r6_q18302
  have l_7 := il_7
  refine wq_b (tt_fX1_degreeOf hN (wb_sh I0 13) (wb_sh M0 13) r5_q18299 (7 : Int32) ⟨by omega, by omega⟩ ⟨by omega, by omega⟩ (KX11.s_X1_13_13 k_I0)) (fun r7_q18303 h_r7_q18303 => ?_)
  obtain ⟨h_r7_q18303_0, h_r7_q18303_1, -⟩ := h_r7_q18303
  have l_m1 := il_m1
  refine wq_eq (fun hc_18304 => ?_) (fun hc_18305 => ?_)
  · unfold fX11_hour_J48
    unfold fX11_hour_J49
    have b_18306 := i32b x3
    refine wq_eq (fun hc_18307 => ?_) (fun hc_18308 => ?_)
    · refine wq_ok ?_
      refine wq_eq (fun hc_18309 => ?_) (fun hc_18310 => ?_)
      · exact wq_s trivial
      · exfalso; omega
    · refine wq_eq (fun hc_18311 => ?_) (fun hc_18312 => ?_)
      · unfold fX11_hour_J104
        refine wq_eq (fun hc_18313 => ?_) (fun hc_18314 => ?_)
        · exact wq_xb (tt_fX11_need0 N) (by decide) (fun _ h => absurd h id)
        · exfalso; omega
      · exfalso; omega
  · refine wq_eq (fun hc_18316 => ?_) (fun hc_18317 => ?_)
    · unfold fX11_hour_J48
      unfold fX11_hour_J49
      have b_18318 := i32b x3
      refine wq_eq (fun hc_18319 => ?_) (fun hc_18320 => ?_)
      · refine wq_ok ?_
        refine wq_eq (fun hc_18321 => ?_) (fun hc_18322 => ?_)
        · exact wq_s trivial
        · exfalso; omega
      · refine wq_eq (fun hc_18323 => ?_) (fun hc_18324 => ?_)
        · unfold fX11_hour_J104
          refine wq_eq (fun hc_18325 => ?_) (fun hc_18326 => ?_)
          · exact wq_xb (tt_fX11_need0 N) (by decide) (fun _ h => absurd h id)
          · exfalso; omega
        · exfalso; omega
    · unfold fX11_hour_J49
      have b_18328 := i32b x3
      refine wq_eq (fun hc_18329 => ?_) (fun hc_18330 => ?_)
      · refine wq_ok ?_
        have l_1 := il_1
        refine wq_eq (fun hc_18331 => ?_) (fun hc_18332 => ?_)
        · exfalso; omega
        · refine wq_b (tt_fX2_howManyHours hN (wb_sh I0 9) (wb_sh M0 5) r6_q18302 r7_q18303 ⟨by omega, by omega⟩ (KX11.s_X2_9_5 k_I0)) (fun r4_q18333 h_r4_q18333 => ?_)
          obtain ⟨-⟩ := h_r4_q18333
          have b_18334 := i32b r4_q18333
          exact wq_s trivial
      · have l_1 := il_1
        refine wq_eq (fun hc_18335 => ?_) (fun hc_18336 => ?_)
        · exfalso; omega
        · refine wq_b (tt_fX2_nthHour hN (wb_sh I0 9) (wb_sh M0 5) r6_q18302 r7_q18303 x3 ⟨by omega, by omega⟩ (KX11.s_X2_9_5 k_I0)) (fun r3_q18337 h_r3_q18337 => ?_)
          obtain ⟨h_r3_q18337_0, -⟩ := h_r3_q18337
          unfold fX11_hour_J104
          refine wq_eq (fun hc_18338 => ?_) (fun hc_18339 => ?_)
          · exact wq_xb (tt_fX11_need0 N) (by decide) (fun _ h => absurd h id)
          · refine wq_xb (tt_fX11_need hN (1 : Int32)) (by decide) (fun r2_q18341 h_r2_q18341 => ?_)
            obtain ⟨h_r2_q18341_0, -⟩ := h_r2_q18341
            refine wq_ok ?_
            exact wq_s trivial
set_option maxHeartbeats 4000000 in
theorem tt_fX11_isWay {N : Nat} (hN : 3000000000 ≤ N) (I0 : Nat → Int32) (M0 : Nat → Nat → Int32) (x1 : Int32) (x2 : Int32) (k_I0 : KX11 I0 M0) : wq (fX11_isWay N I0 M0 x1 x2) (fun r => (r.toInt = 0 ∨ (r.toInt = 1 ∧ ((0 ≤ x1.toInt ∧ x1.toInt ≤ 1) ∨ (x1.toInt = 2 ∧ 0 ≤ x2.toInt ∧ x2.toInt ≤ 6 ∧ x2.toInt < (I0 9).toInt)))) ∧ (0 ≤ r.toInt ∧ r.toInt ≤ 1) ∧ True) := by
  unfold fX11_isWay
  have b_18420 := i32b x1
  have l_0 := il_0
  have l_1 := il_1
  refine wq_b (tt_fX11_within hN x1 (0 : Int32) (1 : Int32)) (fun r1_q18421 h_r1_q18421 => ?_)
  obtain ⟨h_r1_q18421_0, h_r1_q18421_1, -⟩ := h_r1_q18421
  refine wq_eq (fun hc_18422 => ?_) (fun hc_18423 => ?_)
  · have l_2 := il_2
    refine wq_eq (fun hc_18424 => ?_) (fun hc_18425 => ?_)
    · have b_18426 := i32b x2
      refine wq_b (tt_fX11_isClimate hN I0 M0 x2 k_I0) (fun r2_q18427 h_r2_q18427 => ?_)
      obtain ⟨h_r2_q18427_0, h_r2_q18427_1, -⟩ := h_r2_q18427
      have t_18428 := KX11.i9 k_I0
      refine wq_eq (fun hc_18429 => ?_) (fun hc_18430 => ?_)
      · exact wq_s ⟨(show ((0 : Int32).toInt = 0 ∨ ((0 : Int32).toInt = 1 ∧ ((0 ≤ x1.toInt ∧ x1.toInt ≤ 1) ∨ (x1.toInt = 2 ∧ 0 ≤ x2.toInt ∧ x2.toInt ≤ 6 ∧ x2.toInt < (I0 9).toInt)))) from by omega), (show 0 ≤ (0 : Int32).toInt ∧ (0 : Int32).toInt ≤ 1 from ⟨by omega, by omega⟩), trivial⟩
      · exact wq_s ⟨(show ((1 : Int32).toInt = 0 ∨ ((1 : Int32).toInt = 1 ∧ ((0 ≤ x1.toInt ∧ x1.toInt ≤ 1) ∨ (x1.toInt = 2 ∧ 0 ≤ x2.toInt ∧ x2.toInt ≤ 6 ∧ x2.toInt < (I0 9).toInt)))) from by omega), (show 0 ≤ (1 : Int32).toInt ∧ (1 : Int32).toInt ≤ 1 from ⟨by omega, by omega⟩), trivial⟩
    · have t_18431 := KX11.i9 k_I0
      have b_18432 := i32b x2
      exact wq_s ⟨(show ((0 : Int32).toInt = 0 ∨ ((0 : Int32).toInt = 1 ∧ ((0 ≤ x1.toInt ∧ x1.toInt ≤ 1) ∨ (x1.toInt = 2 ∧ 0 ≤ x2.toInt ∧ x2.toInt ≤ 6 ∧ x2.toInt < (I0 9).toInt)))) from by omega), (show 0 ≤ (0 : Int32).toInt ∧ (0 : Int32).toInt ≤ 1 from ⟨by omega, by omega⟩), trivial⟩
  · have t_18433 := KX11.i9 k_I0
    have b_18434 := i32b x2
    exact wq_s ⟨(show ((1 : Int32).toInt = 0 ∨ ((1 : Int32).toInt = 1 ∧ ((0 ≤ x1.toInt ∧ x1.toInt ≤ 1) ∨ (x1.toInt = 2 ∧ 0 ≤ x2.toInt ∧ x2.toInt ≤ 6 ∧ x2.toInt < (I0 9).toInt)))) from by omega), (show 0 ≤ (1 : Int32).toInt ∧ (1 : Int32).toInt ≤ 1 from ⟨by omega, by omega⟩), trivial⟩
set_option maxHeartbeats 4000000 in
theorem tt_fX11_houseOf {N : Nat} (hN : 3000000000 ≤ N) (I0 : Nat → Int32) (M0 : Nat → Nat → Int32) (x1 : Int32) (x2 : Int32) (x3 : Int32) (x4 : Int32) (k_I0 : KX11 I0 M0) : wq (fX11_houseOf N I0 M0 x1 x2 x3 x4) (qS 1 (fun r => True)) := by
  unfold fX11_houseOf
  have b_18555 := i32b x1
  have l_0 := il_0
  have l_359 := il_359
  refine wq_b (tt_fX11_within hN x1 (0 : Int32) (359 : Int32)) (fun r3_q18556 h_r3_q18556 => ?_)
  obtain ⟨h_r3_q18556_0, h_r3_q18556_1, -⟩ := h_r3_q18556
  refine wq_eq (fun hc_18557 => ?_) (fun hc_18558 => ?_)
  · unfold fX11_houseOf_J35
    unfold fX11_houseOf_J36
    exact wq_xb (tt_fX11_need0 N) (by decide) (fun _ h => absurd h id)
  · have b_18560 := i32b x2
    have b_18561 := i32b x3
    refine wq_b (tt_fX11_isWay hN I0 M0 x2 x3 k_I0) (fun r4_q18562 h_r4_q18562 => ?_)
    obtain ⟨h_r4_q18562_0, h_r4_q18562_1, -⟩ := h_r4_q18562
    have t_18563 := KX11.i9 k_I0
    refine wq_eq (fun hc_18564 => ?_) (fun hc_18565 => ?_)
    · unfold fX11_houseOf_J35
      unfold fX11_houseOf_J36
      exact wq_xb (tt_fX11_need0 N) (by decide) (fun _ h => absurd h id)
    · have b_18567 := i32b x4
      have l_1 := il_1
      have l_12 := il_12
      refine wq_b (tt_fX11_within hN x4 (1 : Int32) (12 : Int32)) (fun r5_q18568 h_r5_q18568 => ?_)
      obtain ⟨h_r5_q18568_0, h_r5_q18568_1, -⟩ := h_r5_q18568
      refine wq_eq (fun hc_18569 => ?_) (fun hc_18570 => ?_)
      · unfold fX11_houseOf_J35
        unfold fX11_houseOf_J36
        exact wq_xb (tt_fX11_need0 N) (by decide) (fun _ h => absurd h id)
      · unfold fX11_houseOf_J36
        refine wq_xb (tt_fX11_need hN (1 : Int32)) (by decide) (fun r1_q18572 h_r1_q18572 => ?_)
        obtain ⟨h_r1_q18572_0, -⟩ := h_r1_q18572
        refine wq_ok ?_
        refine wq_b (tt_fX2_houseDegree hN (wb_sh I0 9) (wb_sh M0 5) x1 x2 x3 x4 ⟨by omega, by omega⟩ ⟨by omega, by omega⟩ (KX11.s_X2_9_5 k_I0) (by omega)) (fun r2_q18573 h_r2_q18573 => ?_)
        obtain ⟨-⟩ := h_r2_q18573
        have b_18574 := i32b r2_q18573
        exact wq_s trivial
set_option maxHeartbeats 4000000 in
theorem tt_fX11_agree {N : Nat} (hN : 3000000000 ≤ N) (I0 : Nat → Int32) (M0 : Nat → Nat → Int32) (x1 : Int32) (x2 : Int32) (x3 : Int32) (x4 : Int32) (k_I0 : KX11 I0 M0) : wq (fX11_agree N I0 M0 x1 x2 x3 x4) (qS 1 (fun r => True)) := by
  unfold fX11_agree
  have b_18666 := i32b x1
  have b_18667 := i32b x2
  refine wq_xb (tt_fX11_numberOf hN x1 x2) (by decide) (fun r1_q18665 h_r1_q18665 => ?_)
  obtain ⟨h_r1_q18665_0, h_r1_q18665_1, -⟩ := h_r1_q18665
  have b_18668 := i32b x3
  have b_18669 := i32b x4
  refine wq_b (tt_fX11_isWay hN I0 M0 x3 x4 k_I0) (fun r2_q18670 h_r2_q18670 => ?_)
  obtain ⟨h_r2_q18670_0, h_r2_q18670_1, -⟩ := h_r2_q18670
  have t_18671 := KX11.i9 k_I0
  refine wq_xb (tt_fX11_need hN r2_q18670) (by decide) (fun r3_q18672 h_r3_q18672 => ?_)
  obtain ⟨h_r3_q18672_0, -⟩ := h_r3_q18672
  refine wq_ok ?_
  have l_7 := il_7
  refine wq_b (tt_fX1_degreeOf hN (wb_sh I0 13) (wb_sh M0 13) r1_q18665 (7 : Int32) ⟨by omega, by omega⟩ ⟨by omega, by omega⟩ (KX11.s_X1_13_13 k_I0)) (fun r4_q18673 h_r4_q18673 => ?_)
  obtain ⟨h_r4_q18673_0, h_r4_q18673_1, -⟩ := h_r4_q18673
  have l_m1 := il_m1
  refine wq_eq (fun hc_18674 => ?_) (fun hc_18675 => ?_)
  · exact wq_s trivial
  · refine wq_b (tt_fX1_howManyHouses hN (wb_sh I0 13) (wb_sh M0 13) r1_q18665 ⟨by omega, by omega⟩ (KX11.s_X1_13_13 k_I0)) (fun r5_q18676 h_r5_q18676 => ?_)
    obtain ⟨-⟩ := h_r5_q18676
    refine wq_b (tt_fX1_howManyDiffer hN (wb_sh I0 13) (wb_sh M0 13) (wb_sh I0 9) (wb_sh M0 5) r1_q18665 x3 x4 ⟨by omega, by omega⟩ (KX11.s_X1_13_13 k_I0) (KX11.s_X2_9_5 k_I0) (by omega)) (fun r6_q18677 h_r6_q18677 => ?_)
    obtain ⟨-⟩ := h_r6_q18677
    have b_18678 := i32b r5_q18676
    have b_18679 := i32b r6_q18677
    exact wq_s trivial
set_option maxHeartbeats 4000000 in
theorem tt_fX11_lot {N : Nat} (hN : 3000000000 ≤ N) (I0 : Nat → Int32) (M0 : Nat → Nat → Int32) (x1 : Int32) (x2 : Int32) (x3 : Int32) (k_I0 : KX11 I0 M0) : wq (fX11_lot N I0 M0 x1 x2 x3) (qS 1 (fun r => True)) := by
  unfold fX11_lot
  have b_18783 := i32b x1
  have b_18784 := i32b x2
  refine wq_xb (tt_fX11_numberOf hN x1 x2) (by decide) (fun r1_q18782 h_r1_q18782 => ?_)
  obtain ⟨h_r1_q18782_0, h_r1_q18782_1, -⟩ := h_r1_q18782
  have b_18785 := i32b x3
  have l_0 := il_0
  have l_1 := il_1
  refine wq_b (tt_fX11_within hN x3 (0 : Int32) (1 : Int32)) (fun r2_q18786 h_r2_q18786 => ?_)
  obtain ⟨h_r2_q18786_0, h_r2_q18786_1, -⟩ := h_r2_q18786
  refine wq_xb (tt_fX11_need hN r2_q18786) (by decide) (fun r3_q18787 h_r3_q18787 => ?_)
  obtain ⟨h_r3_q18787_0, -⟩ := h_r3_q18787
  refine wq_ok ?_
  refine wq_b (tt_fX1_lotOf hN (wb_sh I0 13) (wb_sh M0 13) r1_q18782 ⟨by omega, by omega⟩ (KX11.s_X1_13_13 k_I0)) (fun r4_q18788 h_r4_q18788 => ?_)
  obtain ⟨-⟩ := h_r4_q18788
  refine wq_eq (fun hc_18789 => ?_) (fun hc_18790 => ?_)
  · have b_18791 := i32b r4_q18788
    exact wq_s trivial
  · have b_18792 := i32b r4_q18788
    have l_m1 := il_m1
    refine wq_eq (fun hc_18793 => ?_) (fun hc_18794 => ?_)
    · exact wq_s trivial
    · have l_8 := il_8
      refine wq_b (tt_fX1_degreeOf hN (wb_sh I0 13) (wb_sh M0 13) r1_q18782 (8 : Int32) ⟨by omega, by omega⟩ ⟨by omega, by omega⟩ (KX11.s_X1_13_13 k_I0)) (fun r5_q18795 h_r5_q18795 => ?_)
      obtain ⟨h_r5_q18795_0, h_r5_q18795_1, -⟩ := h_r5_q18795
      refine wq_eq (fun hc_18796 => ?_) (fun hc_18797 => ?_)
      · exact wq_s trivial
      · refine wq_b (tt_fX4_costBeside hN (wb_sh I0 10) (wb_sh M0 6) r5_q18795 r4_q18788 ⟨by omega, by omega⟩) (fun r6_q18798 h_r6_q18798 => ?_)
        obtain ⟨h_r6_q18798_0, -⟩ := h_r6_q18798
        exact wq_s trivial
set_option maxHeartbeats 4000000 in
theorem tt_fX11_price {N : Nat} (hN : 3000000000 ≤ N) (I0 : Nat → Int32) (M0 : Nat → Nat → Int32) (x1 : Int32) (x2 : Int32) (k_I0 : KX11 I0 M0) : wq (fX11_price N I0 M0 x1 x2) (qS 1 (fun r => True)) := by
  unfold fX11_price
  have b_18877 := i32b x1
  refine wq_b (tt_fX11_isBook hN x1) (fun r3_q18878 h_r3_q18878 => ?_)
  obtain ⟨h_r3_q18878_0, h_r3_q18878_1, -⟩ := h_r3_q18878
  have l_0 := il_0
  refine wq_eq (fun hc_18879 => ?_) (fun hc_18880 => ?_)
  · unfold fX11_price_J18
    unfold fX11_price_J19
    exact wq_xb (tt_fX11_need0 N) (by decide) (fun _ h => absurd h id)
  · have b_18882 := i32b x2
    refine wq_b (tt_fX11_isBook hN x2) (fun r4_q18883 h_r4_q18883 => ?_)
    obtain ⟨h_r4_q18883_0, h_r4_q18883_1, -⟩ := h_r4_q18883
    refine wq_eq (fun hc_18884 => ?_) (fun hc_18885 => ?_)
    · unfold fX11_price_J18
      unfold fX11_price_J19
      exact wq_xb (tt_fX11_need0 N) (by decide) (fun _ h => absurd h id)
    · unfold fX11_price_J19
      have l_1 := il_1
      refine wq_xb (tt_fX11_need hN (1 : Int32)) (by decide) (fun r1_q18887 h_r1_q18887 => ?_)
      obtain ⟨h_r1_q18887_0, -⟩ := h_r1_q18887
      refine wq_ok ?_
      refine wq_b (tt_fX10_priceOf hN (wb_sh I0 10) (wb_sh M0 6) (wb_sh I0 13) (wb_sh M0 13) x1 x2 ⟨by omega, by omega⟩ ⟨by omega, by omega⟩ (KX11.s_X1_13_13 k_I0)) (fun r2_q18888 h_r2_q18888 => ?_)
      obtain ⟨-⟩ := h_r2_q18888
      have b_18889 := i32b r2_q18888
      exact wq_s trivial
set_option maxHeartbeats 4000000 in
theorem tt_fX11_seek {N : Nat} (hN : 3000000000 ≤ N) (I0 : Nat → Int32) (M0 : Nat → Nat → Int32) (x1 : Int32) (x2 : Int32) (x3 : Int32) (x4 : Int32) (k_I0 : KX11 I0 M0) : wq (fX11_seek N I0 M0 x1 x2 x3 x4) (qS 1 (fun r => KX11 r.1 r.2 ∧ True)) := by
  unfold fX11_seek
  have b_18976 := i32b x1
  have b_18977 := i32b x2
  refine wq_xb (tt_fX11_numberOf hN x1 x2) (by decide) (fun r5_q18975 h_r5_q18975 => ?_)
  obtain ⟨h_r5_q18975_0, h_r5_q18975_1, -⟩ := h_r5_q18975
  have b_18978 := i32b x3
  have l_0 := il_0
  have l_3 := il_3
  refine wq_b (tt_fX11_within hN x3 (0 : Int32) (3 : Int32)) (fun r6_q18979 h_r6_q18979 => ?_)
  obtain ⟨h_r6_q18979_0, h_r6_q18979_1, -⟩ := h_r6_q18979
  refine wq_eq (fun hc_18980 => ?_) (fun hc_18981 => ?_)
  · unfold fX11_seek_J28
    unfold fX11_seek_J29
    exact wq_xb (tt_fX11_need0 N) (by decide) (fun _ h => absurd h id)
  · have b_18983 := i32b x4
    refine wq_b (tt_fX11_isDay hN x4) (fun r7_q18984 h_r7_q18984 => ?_)
    obtain ⟨h_r7_q18984_0, h_r7_q18984_1, -⟩ := h_r7_q18984
    refine wq_eq (fun hc_18985 => ?_) (fun hc_18986 => ?_)
    · unfold fX11_seek_J28
      unfold fX11_seek_J29
      exact wq_xb (tt_fX11_need0 N) (by decide) (fun _ h => absurd h id)
    · unfold fX11_seek_J29
      have l_1 := il_1
      refine wq_xb (tt_fX11_need hN (1 : Int32)) (by decide) (fun r1_q18988 h_r1_q18988 => ?_)
      obtain ⟨h_r1_q18988_0, -⟩ := h_r1_q18988
      refine wq_ok ?_
      refine wq_b (tt_fX8_begin hN (wb_sh I0 27) (wb_sh M0 18) r5_q18975 x3 x4 ⟨by omega, by omega⟩ ⟨by omega, by omega⟩ ⟨by omega, by omega⟩ (KX11.s_X8_27_18 k_I0)) (fun r2_q18989 h_r2_q18989 => ?_)
      obtain ⟨h_r2_q18989_0, -⟩ := h_r2_q18989
      refine wq_v (fun I0_3_q18990 h_I0_3_q18990 => ?_)
      refine wq_v (fun M0_4_q18991 h_M0_4_q18991 => ?_)
      have k_M0_4_q18991 : KX11 I0_3_q18990 M0_4_q18991 := by rw [h_I0_3_q18990, h_M0_4_q18991]; exact KX11.p_X8_27_18 k_I0 h_r2_q18989_0
      exact wq_s ⟨k_M0_4_q18991, trivial⟩
set_option maxHeartbeats 4000000 in
theorem tt_fX11_on {N : Nat} (hN : 3000000000 ≤ N) (I0 : Nat → Int32) (M0 : Nat → Nat → Int32) (x1 : Int32) (k_I0 : KX11 I0 M0) : wq (fX11_on N I0 M0 x1) (qS 3 (fun r => KX11 r.2.1 r.2.2 ∧ True)) := by
  unfold fX11_on
  have t_19047 := KX11.i27 k_I0
  refine wq_xb (tt_fX11_need hN (I0 27)) (by decide) (fun r1_q19046 h_r1_q19046 => ?_)
  obtain ⟨h_r1_q19046_0, -⟩ := h_r1_q19046
  have b_19048 := i32b x1
  have l_0 := il_0
  have l_50000 := il_50000
  refine wq_b (tt_fX11_within hN x1 (0 : Int32) (50000 : Int32)) (fun r2_q19049 h_r2_q19049 => ?_)
  obtain ⟨h_r2_q19049_0, h_r2_q19049_1, -⟩ := h_r2_q19049
  refine wq_xb (tt_fX11_allow hN r2_q19049) (by decide) (fun r3_q19050 h_r3_q19050 => ?_)
  obtain ⟨h_r3_q19050_0, -⟩ := h_r3_q19050
  refine wq_ok ?_
  refine wq_b (tt_fX8_goOn hN (wb_sh I0 27) (wb_sh M0 18) (wb_sh I0 9) (wb_sh M0 1) (wb_sh I0 13) (wb_sh M0 13) x1 (KX11.s_X8_27_18 k_I0) (KX11.s_X5_9_1 k_I0) (KX11.s_X1_13_13 k_I0)) (fun r4_q19051 h_r4_q19051 => ?_)
  obtain ⟨h_r4_q19051_0, -⟩ := h_r4_q19051
  refine wq_v (fun I0_5_q19052 h_I0_5_q19052 => ?_)
  refine wq_v (fun M0_6_q19053 h_M0_6_q19053 => ?_)
  have k_M0_6_q19053 : KX11 I0_5_q19052 M0_6_q19053 := by rw [h_I0_5_q19052, h_M0_6_q19053]; exact KX11.p_X8_27_18 k_I0 h_r4_q19051_0
  have b_19054 := i32b r4_q19051.1
  exact wq_s ⟨k_M0_6_q19053, trivial⟩
set_option maxHeartbeats 4000000 in
theorem tt_fX11_held {N : Nat} (hN : 3000000000 ≤ N) (I0 : Nat → Int32) (M0 : Nat → Nat → Int32) (x1 : Int32) (k_I0 : KX11 I0 M0) : wq (fX11_held N I0 M0 x1) (qS 1 (fun r => True)) := by
  unfold fX11_held
  have t_19325 := KX11.i27 k_I0
  have l_0 := il_0
  refine wq_eq (fun hc_19326 => ?_) (fun hc_19327 => ?_)
  · unfold fX11_held_J23
    unfold fX11_held_J24
    exact wq_xb (tt_fX11_need0 N) (by decide) (fun _ h => absurd h id)
  · have b_19329 := i32b x1
    have l_4 := il_4
    refine wq_b (tt_fX11_within hN x1 (0 : Int32) (4 : Int32)) (fun r3_q19330 h_r3_q19330 => ?_)
    obtain ⟨h_r3_q19330_0, h_r3_q19330_1, -⟩ := h_r3_q19330
    refine wq_eq (fun hc_19331 => ?_) (fun hc_19332 => ?_)
    · unfold fX11_held_J23
      unfold fX11_held_J24
      exact wq_xb (tt_fX11_need0 N) (by decide) (fun _ h => absurd h id)
    · unfold fX11_held_J24
      have l_1 := il_1
      refine wq_xb (tt_fX11_need hN (1 : Int32)) (by decide) (fun r2_q19334 h_r2_q19334 => ?_)
      obtain ⟨h_r2_q19334_0, -⟩ := h_r2_q19334
      refine wq_ok ?_
      have t_19335 := KX11.i32 k_I0
      refine wq_eq (fun hc_19336 => ?_) (fun hc_19337 => ?_)
      · unfold fX11_held_J42
        refine wq_eq (fun hc_19338 => ?_) (fun hc_19339 => ?_)
        · have t_19340 := KX11.i30 k_I0
          exact wq_s trivial
        · refine wq_eq (fun hc_19341 => ?_) (fun hc_19342 => ?_)
          · refine wq_eq (fun hc_19343 => ?_) (fun hc_19344 => ?_)
            · exfalso; omega
            · have l_m1 := il_m1
              exact wq_s trivial
          · have l_2 := il_2
            refine wq_eq (fun hc_19345 => ?_) (fun hc_19346 => ?_)
            · exact wq_s trivial
            · have l_3 := il_3
              refine wq_eq (fun hc_19347 => ?_) (fun hc_19348 => ?_)
              · refine wq_eq (fun hc_19349 => ?_) (fun hc_19350 => ?_)
                · exfalso; omega
                · have l_m1 := il_m1
                  exact wq_s trivial
              · refine wq_eq (fun hc_19351 => ?_) (fun hc_19352 => ?_)
                · exfalso; omega
                · have l_m1 := il_m1
                  exact wq_s trivial
      · unfold fX11_held_J42
        refine wq_eq (fun hc_19353 => ?_) (fun hc_19354 => ?_)
        · have t_19355 := KX11.i30 k_I0
          exact wq_s trivial
        · refine wq_eq (fun hc_19356 => ?_) (fun hc_19357 => ?_)
          · refine wq_eq (fun hc_19358 => ?_) (fun hc_19359 => ?_)
            · exact wq_s trivial
            · exfalso; omega
          · have l_2 := il_2
            refine wq_eq (fun hc_19360 => ?_) (fun hc_19361 => ?_)
            · exact wq_s trivial
            · have l_3 := il_3
              refine wq_eq (fun hc_19362 => ?_) (fun hc_19363 => ?_)
              · refine wq_eq (fun hc_19364 => ?_) (fun hc_19365 => ?_)
                · refine wq_b (tt_fX8_keptDay hN (wb_sh I0 27) (wb_sh M0 18) (0 : Int32) (KX11.s_X8_27_18 k_I0)) (fun r1_q19366 h_r1_q19366 => ?_)
                  obtain ⟨-⟩ := h_r1_q19366
                  have b_19367 := i32b r1_q19366
                  exact wq_s trivial
                · exfalso; omega
              · refine wq_eq (fun hc_19368 => ?_) (fun hc_19369 => ?_)
                · exact wq_s trivial
                · exfalso; omega
set_option maxHeartbeats 4000000 in
theorem tt_fX11_image {N : Nat} (hN : 3000000000 ≤ N) (I0 : Nat → Int32) (M0 : Nat → Nat → Int32) (k_I0 : KX11 I0 M0) : wq (fX11_image N I0 M0) (fun r => (0 ≤ r.1.toInt ∧ r.1.toInt ≤ 1) ∧ KX11 r.2.1 r.2.2 ∧ True) := by
  unfold fX11_image
  have t_19406 := KX11.i27 k_I0
  have l_0 := il_0
  refine wq_eq (fun hc_19407 => ?_) (fun hc_19408 => ?_)
  · exact wq_s ⟨(show 0 ≤ (0 : Int32).toInt ∧ (0 : Int32).toInt ≤ 1 from ⟨by omega, by omega⟩), k_I0, trivial⟩
  · refine wq_b (tt_fX8_copyFrom hN (wb_sh I0 34) (wb_sh M0 19) (wb_sh I0 27) (wb_sh M0 18) (KX11.s_X8_34_19 k_I0) (KX11.s_X8_27_18 k_I0)) (fun r1_q19409 h_r1_q19409 => ?_)
    obtain ⟨h_r1_q19409_0, -⟩ := h_r1_q19409
    refine wq_v (fun I0_2_q19410 h_I0_2_q19410 => ?_)
    refine wq_v (fun M0_3_q19411 h_M0_3_q19411 => ?_)
    have k_M0_3_q19411 : KX11 I0_2_q19410 M0_3_q19411 := by rw [h_I0_2_q19410, h_M0_3_q19411]; exact KX11.p_X8_34_19 k_I0 h_r1_q19409_0
    have l_1 := il_1
    exact wq_s ⟨(show 0 ≤ (1 : Int32).toInt ∧ (1 : Int32).toInt ≤ 1 from ⟨by omega, by omega⟩), k_M0_3_q19411, trivial⟩
set_option maxHeartbeats 4000000 in
theorem tt_fX11_restore {N : Nat} (hN : 3000000000 ≤ N) (I0 : Nat → Int32) (M0 : Nat → Nat → Int32) (k_I0 : KX11 I0 M0) : wq (fX11_restore N I0 M0) (fun r => (0 ≤ r.1.toInt ∧ r.1.toInt ≤ 1) ∧ KX11 r.2.1 r.2.2 ∧ True) := by
  unfold fX11_restore
  have t_19448 := KX11.i34 k_I0
  have l_0 := il_0
  refine wq_eq (fun hc_19449 => ?_) (fun hc_19450 => ?_)
  · exact wq_s ⟨(show 0 ≤ (0 : Int32).toInt ∧ (0 : Int32).toInt ≤ 1 from ⟨by omega, by omega⟩), k_I0, trivial⟩
  · refine wq_b (tt_fX8_copyFrom hN (wb_sh I0 27) (wb_sh M0 18) (wb_sh I0 34) (wb_sh M0 19) (KX11.s_X8_27_18 k_I0) (KX11.s_X8_34_19 k_I0)) (fun r1_q19451 h_r1_q19451 => ?_)
    obtain ⟨h_r1_q19451_0, -⟩ := h_r1_q19451
    refine wq_v (fun I0_2_q19452 h_I0_2_q19452 => ?_)
    refine wq_v (fun M0_3_q19453 h_M0_3_q19453 => ?_)
    have k_M0_3_q19453 : KX11 I0_2_q19452 M0_3_q19453 := by rw [h_I0_2_q19452, h_M0_3_q19453]; exact KX11.p_X8_27_18 k_I0 h_r1_q19451_0
    have l_1 := il_1
    exact wq_s ⟨(show 0 ≤ (1 : Int32).toInt ∧ (1 : Int32).toInt ≤ 1 from ⟨by omega, by omega⟩), k_M0_3_q19453, trivial⟩
set_option maxHeartbeats 4000000 in
theorem tt_fX11_misread {N : Nat} (hN : 3000000000 ≤ N) (I0 : Nat → Int32) (M0 : Nat → Nat → Int32) (x1 : Int32) (x2 : Int32) (x3 : Int32) (x4 : Int32) (x5 : Int32) (k_I0 : KX11 I0 M0) : wq (fX11_misread N I0 M0 x1 x2 x3 x4 x5) (qS 1 (fun r => (-1 ≤ r.toInt ∧ r.toInt ≤ 9) ∧ True)) := by
  unfold fX11_misread
  have b_19599 := i32b x1
  have b_19600 := i32b x2
  refine wq_xb (tt_fX11_numberOf hN x1 x2) (by decide) (fun r5_q19598 h_r5_q19598 => ?_)
  obtain ⟨h_r5_q19598_0, h_r5_q19598_1, -⟩ := h_r5_q19598
  have b_19601 := i32b x3
  have l_0 := il_0
  have l_3 := il_3
  refine wq_b (tt_fX11_within hN x3 (0 : Int32) (3 : Int32)) (fun r6_q19602 h_r6_q19602 => ?_)
  obtain ⟨h_r6_q19602_0, h_r6_q19602_1, -⟩ := h_r6_q19602
  refine wq_eq (fun hc_19603 => ?_) (fun hc_19604 => ?_)
  · unfold fX11_misread_J39
    unfold fX11_misread_J40
    exact wq_xb (tt_fX11_need0 N) (by decide) (fun _ h => absurd h id)
  · have b_19606 := i32b x4
    refine wq_b (tt_fX11_isDay hN x4) (fun r7_q19607 h_r7_q19607 => ?_)
    obtain ⟨h_r7_q19607_0, h_r7_q19607_1, -⟩ := h_r7_q19607
    refine wq_eq (fun hc_19608 => ?_) (fun hc_19609 => ?_)
    · unfold fX11_misread_J39
      unfold fX11_misread_J40
      exact wq_xb (tt_fX11_need0 N) (by decide) (fun _ h => absurd h id)
    · have b_19611 := i32b x5
      have l_6 := il_6
      refine wq_b (tt_fX11_within hN x5 (0 : Int32) (6 : Int32)) (fun r8_q19612 h_r8_q19612 => ?_)
      obtain ⟨h_r8_q19612_0, h_r8_q19612_1, -⟩ := h_r8_q19612
      refine wq_eq (fun hc_19613 => ?_) (fun hc_19614 => ?_)
      · unfold fX11_misread_J39
        unfold fX11_misread_J40
        exact wq_xb (tt_fX11_need0 N) (by decide) (fun _ h => absurd h id)
      · unfold fX11_misread_J40
        have l_1 := il_1
        refine wq_xb (tt_fX11_need hN (1 : Int32)) (by decide) (fun r1_q19616 h_r1_q19616 => ?_)
        obtain ⟨h_r1_q19616_0, -⟩ := h_r1_q19616
        refine wq_ok ?_
        refine wq_b (tt_fX1_degreeOf hN (wb_sh I0 13) (wb_sh M0 13) r5_q19598 x5 ⟨by omega, by omega⟩ ⟨by omega, by omega⟩ (KX11.s_X1_13_13 k_I0)) (fun r2_q19617 h_r2_q19617 => ?_)
        obtain ⟨h_r2_q19617_0, h_r2_q19617_1, -⟩ := h_r2_q19617
        have l_m1 := il_m1
        refine wq_eq (fun hc_19618 => ?_) (fun hc_19619 => ?_)
        · exact wq_s ⟨(show -1 ≤ (-1 : Int32).toInt ∧ (-1 : Int32).toInt ≤ 9 from ⟨by omega, by omega⟩), trivial⟩
        · refine wq_b (tt_fX5_degreeOn hN (wb_sh I0 9) (wb_sh M0 1) x3 x5 x4 ⟨by omega, by omega⟩ ⟨by omega, by omega⟩ (KX11.s_X5_9_1 k_I0)) (fun r3_q19620 h_r3_q19620 => ?_)
          obtain ⟨h_r3_q19620_0, -⟩ := h_r3_q19620
          refine wq_b (tt_fX4_misreading hN (wb_sh I0 10) (wb_sh M0 6) r2_q19617 r3_q19620 ⟨by omega, by omega⟩) (fun r4_q19621 h_r4_q19621 => ?_)
          obtain ⟨h_r4_q19621_0, -⟩ := h_r4_q19621
          exact wq_s ⟨(show -1 ≤ r4_q19621.toInt ∧ r4_q19621.toInt ≤ 9 from ⟨by omega, by omega⟩), trivial⟩
set_option maxHeartbeats 4000000 in
theorem tt_fX11_errors {N : Nat} (hN : 3000000000 ≤ N) (I0 : Nat → Int32) (M0 : Nat → Nat → Int32) (x1 : Int32) (x2 : Int32) (x3 : Int32) (x4 : Int32) (k_I0 : KX11 I0 M0) : wq (fX11_errors N I0 M0 x1 x2 x3 x4) (qS 1 (fun r => KX11 r.2.1 r.2.2 ∧ True)) := by
  unfold fX11_errors
  have b_19851 := i32b x1
  have b_19852 := i32b x2
  refine wq_xb (tt_fX11_numberOf hN x1 x2) (by decide) (fun r11_q19850 h_r11_q19850 => ?_)
  obtain ⟨h_r11_q19850_0, h_r11_q19850_1, -⟩ := h_r11_q19850
  have b_19853 := i32b x3
  refine wq_b (tt_fX11_isDay hN x3) (fun r12_q19854 h_r12_q19854 => ?_)
  obtain ⟨h_r12_q19854_0, h_r12_q19854_1, -⟩ := h_r12_q19854
  have l_0 := il_0
  refine wq_eq (fun hc_19855 => ?_) (fun hc_19856 => ?_)
  · unfold fX11_errors_J29
    unfold fX11_errors_J30
    exact wq_xb (tt_fX11_need0 N) (by decide) (fun _ h => absurd h id)
  · have b_19858 := i32b x4
    have l_10 := il_10
    refine wq_b (tt_fX11_within hN x4 (0 : Int32) (10 : Int32)) (fun r13_q19859 h_r13_q19859 => ?_)
    obtain ⟨h_r13_q19859_0, h_r13_q19859_1, -⟩ := h_r13_q19859
    refine wq_eq (fun hc_19860 => ?_) (fun hc_19861 => ?_)
    · unfold fX11_errors_J29
      unfold fX11_errors_J30
      exact wq_xb (tt_fX11_need0 N) (by decide) (fun _ h => absurd h id)
    · unfold fX11_errors_J30
      have l_1 := il_1
      refine wq_xb (tt_fX11_need hN (1 : Int32)) (by decide) (fun r1_q19863 h_r1_q19863 => ?_)
      obtain ⟨h_r1_q19863_0, -⟩ := h_r1_q19863
      refine wq_ok ?_
      refine wq_b (tt_fX3_setSharers hN (wb_sh I0 13) (wb_sh M0 15) (wb_sh I0 9) (wb_sh M0 1) (wb_sh I0 13) (wb_sh M0 13) r11_q19850 x3 ⟨by omega, by omega⟩ (KX11.s_X5_9_1 k_I0) (KX11.s_X1_13_13 k_I0)) (fun r2_q19864 h_r2_q19864 => ?_)
      obtain ⟨-⟩ := h_r2_q19864
      refine wq_v (fun I0_3_q19865 h_I0_3_q19865 => ?_)
      refine wq_v (fun M0_4_q19866 h_M0_4_q19866 => ?_)
      have k_M0_4_q19866 : KX11 I0_3_q19865 M0_4_q19866 := by rw [h_I0_3_q19865, h_M0_4_q19866]; exact KX11.p_X3_13_15 k_I0
      refine wq_eq (fun hc_19867 => ?_) (fun hc_19868 => ?_)
      · refine wq_b (tt_fX3_howManyErrors hN (wb_sh I0_3_q19865 13) (wb_sh M0_4_q19866 15)) (fun r10_q19869 h_r10_q19869 => ?_)
        obtain ⟨-⟩ := h_r10_q19869
        have b_19870 := i32b r10_q19869
        exact wq_s ⟨k_M0_4_q19866, trivial⟩
      · refine wq_eq (fun hc_19871 => ?_) (fun hc_19872 => ?_)
        · refine wq_b (tt_fX3_setFollowed hN (wb_sh I0_3_q19865 13) (wb_sh M0_4_q19866 15)) (fun r9b_q19873 h_r9b_q19873 => ?_)
          obtain ⟨h_r9b_q19873_0, -⟩ := h_r9b_q19873
          exact wq_s ⟨k_M0_4_q19866, trivial⟩
        · have l_2 := il_2
          have t_19875 := ia_sub x4 (2 : Int32) (by omega) (by omega)
          have l_3 := il_3
          have t_19876 := ia_rem (x4 - (2 : Int32)) (3 : Int32) 3 il_3 (by decide) (by omega)
          have t_19877 := ia_add ((x4 - (2 : Int32)) - (((x4 - (2 : Int32)) / (3 : Int32)) * (3 : Int32))) (1 : Int32) (by omega) (by omega)
          refine wq_v (fun v5_q19874 h_v5_q19874 => ?_)
          have t_v5_q19874 := congrArg Int32.toInt h_v5_q19874
          have l_5 := il_5
          refine wq_le (fun hc_19878 => ?_) (fun hc_19879 => ?_)
          · have l_8 := il_8
            refine wq_le (fun hc_19880 => ?_) (fun hc_19881 => ?_)
            · refine wq_b (tt_fX3_weightOf hN (wb_sh I0_3_q19865 13) (wb_sh M0_4_q19866 15) v5_q19874) (fun r6_q19882 h_r6_q19882 => ?_)
              obtain ⟨-⟩ := h_r6_q19882
              have b_19883 := i32b r6_q19882
              exact wq_s ⟨k_M0_4_q19866, trivial⟩
            · refine wq_b (tt_fX3_howManyAlone hN (wb_sh I0_3_q19865 13) (wb_sh M0_4_q19866 15) v5_q19874) (fun r7_q19884 h_r7_q19884 => ?_)
              obtain ⟨-⟩ := h_r7_q19884
              have b_19885 := i32b r7_q19884
              exact wq_s ⟨k_M0_4_q19866, trivial⟩
          · refine wq_b (tt_fX3_howManyShared hN (wb_sh I0_3_q19865 13) (wb_sh M0_4_q19866 15) v5_q19874) (fun r8_q19886 h_r8_q19886 => ?_)
            obtain ⟨-⟩ := h_r8_q19886
            have b_19887 := i32b r8_q19886
            exact wq_s ⟨k_M0_4_q19866, trivial⟩
set_option maxHeartbeats 4000000 in
theorem tt_fX11_climatesThatCanBe_L27 {N : Nat} (hN : 3000000000 ≤ N) (I0 : Nat → Int32) (M0 : Nat → Nat → Int32) (x1 : Int32) (r1 : Int32) (r2 : Int32) (h_x1 : 0 ≤ x1.toInt ∧ x1.toInt ≤ 119) (h_r1 : -1 ≤ r1.toInt ∧ r1.toInt ≤ 359) (h_r2 : -1 ≤ r2.toInt ∧ r2.toInt ≤ 359) (k_I0 : KX11 I0 M0)  : ∀ (fu : Nat) (y27_4 : Int32) (y27_5 : Int32), (0 ≤ y27_4.toInt ∧ y27_4.toInt ≤ 255) → (0 ≤ y27_5.toInt ∧ y27_5.toInt ≤ 7) → (7 - y27_5.toInt) < (fu : Int) → wq (fX11_climatesThatCanBe_L27 N I0 M0 x1 r1 r2 fu y27_4 y27_5) (fun r => (0 ≤ r.toInt ∧ r.toInt ≤ 255) ∧ True) := by
  intro fu
  induction fu with
  | zero => intro y27_4 y27_5 h_y27_4 h_y27_5 hm; exfalso; omega
  | succ fu ih =>
    intro y27_4 y27_5 h_y27_4 h_y27_5 hm
    rw [fX11_climatesThatCanBe_L27.eq_2]
    have t_20128 := KX11.i9 k_I0
    refine wq_le (fun hc_20129 => ?_) (fun hc_20130 => ?_)
    · exact wq_s ⟨(show 0 ≤ y27_4.toInt ∧ y27_4.toInt ≤ 255 from ⟨by omega, by omega⟩), trivial⟩
    · have l_2 := il_2
      refine wq_b (tt_fX1_howManyDiffer hN (wb_sh I0 13) (wb_sh M0 13) (wb_sh I0 9) (wb_sh M0 5) x1 (2 : Int32) y27_5 ⟨by omega, by omega⟩ (KX11.s_X1_13_13 k_I0) (KX11.s_X2_9_5 k_I0) (by omega)) (fun r8_q20131 h_r8_q20131 => ?_)
      obtain ⟨-⟩ := h_r8_q20131
      have b_20132 := i32b r8_q20131
      have l_0 := il_0
      refine wq_eq (fun hc_20133 => ?_) (fun hc_20134 => ?_)
      · unfold fX11_climatesThatCanBe_J68
        have l_1 := il_1
        refine wq_eq (fun hc_20135 => ?_) (fun hc_20136 => ?_)
        · exfalso; omega
        · refine wq_b (tt_fX2_hasHour hN (wb_sh I0 9) (wb_sh M0 5) y27_5 r1 r2 ⟨by omega, by omega⟩ ⟨by omega, by omega⟩ (KX11.s_X2_9_5 k_I0)) (fun r4_q20137 h_r4_q20137 => ?_)
          obtain ⟨h_r4_q20137_0, -⟩ := h_r4_q20137
          refine wq_eq (fun hc_20138 => ?_) (fun hc_20139 => ?_)
          · have t_20141 := ia_add y27_5 (1 : Int32) (by omega) (by omega)
            refine wq_v (fun v5_q20140 h_v5_q20140 => ?_)
            have t_v5_q20140 := congrArg Int32.toInt h_v5_q20140
            exact ih y27_4 v5_q20140 ⟨by omega, by omega⟩ ⟨by omega, by omega⟩ (by omega)
          · have t_20143 := or_sh y27_4 y27_5 ⟨by omega, by omega⟩ ⟨by omega, by omega⟩
            refine wq_v (fun v6_q20142 h_v6_q20142 => ?_)
            have t_v6_q20142 := congrArg Int32.toInt h_v6_q20142
            have t_20145 := ia_add y27_5 (1 : Int32) (by omega) (by omega)
            refine wq_v (fun v7_q20144 h_v7_q20144 => ?_)
            have t_v7_q20144 := congrArg Int32.toInt h_v7_q20144
            exact ih v6_q20142 v7_q20144 ⟨by omega, by omega⟩ ⟨by omega, by omega⟩ (by omega)
      · unfold fX11_climatesThatCanBe_J68
        refine wq_eq (fun hc_20146 => ?_) (fun hc_20147 => ?_)
        · have l_1 := il_1
          have t_20149 := ia_add y27_5 (1 : Int32) (by omega) (by omega)
          refine wq_v (fun v3_q20148 h_v3_q20148 => ?_)
          have t_v3_q20148 := congrArg Int32.toInt h_v3_q20148
          exact ih y27_4 v3_q20148 ⟨by omega, by omega⟩ ⟨by omega, by omega⟩ (by omega)
        · exfalso; omega
set_option maxHeartbeats 4000000 in
theorem tt_fX11_climatesThatCanBe {N : Nat} (hN : 3000000000 ≤ N) (I0 : Nat → Int32) (M0 : Nat → Nat → Int32) (x1 : Int32) (h_x1 : 0 ≤ x1.toInt ∧ x1.toInt ≤ 119) (k_I0 : KX11 I0 M0) : wq (fX11_climatesThatCanBe N I0 M0 x1) (fun r => (0 ≤ r.toInt ∧ r.toInt ≤ 255) ∧ True) := by
  unfold fX11_climatesThatCanBe
  have l_0 := il_0
  refine wq_b (tt_fX1_degreeOf hN (wb_sh I0 13) (wb_sh M0 13) x1 (0 : Int32) ⟨by omega, by omega⟩ ⟨by omega, by omega⟩ (KX11.s_X1_13_13 k_I0)) (fun r1_q20150 h_r1_q20150 => ?_)
  obtain ⟨h_r1_q20150_0, h_r1_q20150_1, -⟩ := h_r1_q20150
  have l_7 := il_7
  refine wq_b (tt_fX1_degreeOf hN (wb_sh I0 13) (wb_sh M0 13) x1 (7 : Int32) ⟨by omega, by omega⟩ ⟨by omega, by omega⟩ (KX11.s_X1_13_13 k_I0)) (fun r2_q20151 h_r2_q20151 => ?_)
  obtain ⟨h_r2_q20151_0, h_r2_q20151_1, -⟩ := h_r2_q20151
  exact tt_fX11_climatesThatCanBe_L27 hN I0 M0 x1 r1_q20150 r2_q20151 ⟨by omega, by omega⟩ ⟨by omega, by omega⟩ ⟨by omega, by omega⟩ k_I0 N (0 : Int32) (0 : Int32) ⟨by omega, by omega⟩ ⟨by omega, by omega⟩ (by omega)
set_option maxHeartbeats 4000000 in
theorem tt_fX11_waysThatCanBe_L52 {N : Nat} (hN : 3000000000 ≤ N) (I0 : Nat → Int32) (M0 : Nat → Nat → Int32) (x1 : Int32) (h_x1 : 0 ≤ x1.toInt ∧ x1.toInt ≤ 119) (k_I0 : KX11 I0 M0)  : ∀ (fu : Nat) (y52_2 : Int32) (y52_3 : Int32), (0 ≤ y52_3.toInt ∧ y52_3.toInt ≤ 7) → (7 - y52_3.toInt) < (fu : Int) → wq (fX11_waysThatCanBe_L52 N I0 M0 x1 fu y52_2 y52_3) (fun r => True) := by
  intro fu
  induction fu with
  | zero => intro y52_2 y52_3 h_y52_3 hm; exfalso; omega
  | succ fu ih =>
    intro y52_2 y52_3 h_y52_3 hm
    rw [fX11_waysThatCanBe_L52.eq_2]
    have t_20515 := KX11.i9 k_I0
    refine wq_le (fun hc_20516 => ?_) (fun hc_20517 => ?_)
    · have b_20518 := i32b y52_2
      exact wq_s trivial
    · have l_2 := il_2
      refine wq_b (tt_fX1_howManyDiffer hN (wb_sh I0 13) (wb_sh M0 13) (wb_sh I0 9) (wb_sh M0 5) x1 (2 : Int32) y52_3 ⟨by omega, by omega⟩ (KX11.s_X1_13_13 k_I0) (KX11.s_X2_9_5 k_I0) (by omega)) (fun r1_q20519 h_r1_q20519 => ?_)
      obtain ⟨-⟩ := h_r1_q20519
      have b_20520 := i32b r1_q20519
      have l_0 := il_0
      refine wq_eq (fun hc_20521 => ?_) (fun hc_20522 => ?_)
      · refine wq_v (fun v3_q20523 h_v3_q20523 => ?_)
        have t_v3_q20523 := congrArg Int32.toInt h_v3_q20523
        have l_1 := il_1
        have t_20525 := ia_add y52_3 (1 : Int32) (by omega) (by omega)
        refine wq_v (fun v4_q20524 h_v4_q20524 => ?_)
        have t_v4_q20524 := congrArg Int32.toInt h_v4_q20524
        have b_20526 := i32b v3_q20523
        exact ih v3_q20523 v4_q20524 ⟨by omega, by omega⟩ (by omega)
      · have l_1 := il_1
        have t_20528 := ia_add y52_3 (1 : Int32) (by omega) (by omega)
        refine wq_v (fun v2_q20527 h_v2_q20527 => ?_)
        have t_v2_q20527 := congrArg Int32.toInt h_v2_q20527
        have b_20529 := i32b y52_2
        exact ih y52_2 v2_q20527 ⟨by omega, by omega⟩ (by omega)
set_option maxHeartbeats 4000000 in
theorem tt_fX11_waysThatCanBe {N : Nat} (hN : 3000000000 ≤ N) (I0 : Nat → Int32) (M0 : Nat → Nat → Int32) (x1 : Int32) (h_x1 : 0 ≤ x1.toInt ∧ x1.toInt ≤ 119) (k_I0 : KX11 I0 M0) : wq (fX11_waysThatCanBe N I0 M0 x1) (fun r => True) := by
  unfold fX11_waysThatCanBe
  have l_0 := il_0
  refine wq_b (tt_fX1_howManyDiffer hN (wb_sh I0 13) (wb_sh M0 13) (wb_sh I0 9) (wb_sh M0 5) x1 (0 : Int32) (0 : Int32) ⟨by omega, by omega⟩ (KX11.s_X1_13_13 k_I0) (KX11.s_X2_9_5 k_I0) (by omega)) (fun r7_q20530 h_r7_q20530 => ?_)
  obtain ⟨-⟩ := h_r7_q20530
  have b_20531 := i32b r7_q20530
  refine wq_eq (fun hc_20532 => ?_) (fun hc_20533 => ?_)
  · refine wq_v (fun v8_q20534 h_v8_q20534 => ?_)
    have t_v8_q20534 := congrArg Int32.toInt h_v8_q20534
    unfold fX11_waysThatCanBe_J26
    have l_1 := il_1
    refine wq_b (tt_fX1_howManyDiffer hN (wb_sh I0 13) (wb_sh M0 13) (wb_sh I0 9) (wb_sh M0 5) x1 (1 : Int32) (0 : Int32) ⟨by omega, by omega⟩ (KX11.s_X1_13_13 k_I0) (KX11.s_X2_9_5 k_I0) (by omega)) (fun r5_q20535 h_r5_q20535 => ?_)
    obtain ⟨-⟩ := h_r5_q20535
    have b_20536 := i32b r5_q20535
    refine wq_eq (fun hc_20537 => ?_) (fun hc_20538 => ?_)
    · refine wq_v (fun v6_q20539 h_v6_q20539 => ?_)
      have t_v6_q20539 := congrArg Int32.toInt h_v6_q20539
      unfold fX11_waysThatCanBe_J50
      have b_20540 := i32b v6_q20539
      exact tt_fX11_waysThatCanBe_L52 hN I0 M0 x1 ⟨by omega, by omega⟩ k_I0 N v6_q20539 (0 : Int32) ⟨by omega, by omega⟩ (by omega)
    · unfold fX11_waysThatCanBe_J50
      have b_20541 := i32b v8_q20534
      exact tt_fX11_waysThatCanBe_L52 hN I0 M0 x1 ⟨by omega, by omega⟩ k_I0 N v8_q20534 (0 : Int32) ⟨by omega, by omega⟩ (by omega)
  · unfold fX11_waysThatCanBe_J26
    have l_1 := il_1
    refine wq_b (tt_fX1_howManyDiffer hN (wb_sh I0 13) (wb_sh M0 13) (wb_sh I0 9) (wb_sh M0 5) x1 (1 : Int32) (0 : Int32) ⟨by omega, by omega⟩ (KX11.s_X1_13_13 k_I0) (KX11.s_X2_9_5 k_I0) (by omega)) (fun r5_q20542 h_r5_q20542 => ?_)
    obtain ⟨-⟩ := h_r5_q20542
    have b_20543 := i32b r5_q20542
    refine wq_eq (fun hc_20544 => ?_) (fun hc_20545 => ?_)
    · refine wq_v (fun v6_q20546 h_v6_q20546 => ?_)
      have t_v6_q20546 := congrArg Int32.toInt h_v6_q20546
      unfold fX11_waysThatCanBe_J50
      have b_20547 := i32b v6_q20546
      exact tt_fX11_waysThatCanBe_L52 hN I0 M0 x1 ⟨by omega, by omega⟩ k_I0 N v6_q20546 (0 : Int32) ⟨by omega, by omega⟩ (by omega)
    · unfold fX11_waysThatCanBe_J50
      exact tt_fX11_waysThatCanBe_L52 hN I0 M0 x1 ⟨by omega, by omega⟩ k_I0 N (0 : Int32) (0 : Int32) ⟨by omega, by omega⟩ (by omega)
set_option maxHeartbeats 4000000 in
theorem tt_fX11_possible {N : Nat} (hN : 3000000000 ≤ N) (I0 : Nat → Int32) (M0 : Nat → Nat → Int32) (x1 : Int32) (x2 : Int32) (x3 : Int32) (k_I0 : KX11 I0 M0) : wq (fX11_possible N I0 M0 x1 x2 x3) (qS 1 (fun r => True)) := by
  unfold fX11_possible
  have b_20651 := i32b x1
  have b_20652 := i32b x2
  refine wq_xb (tt_fX11_numberOf hN x1 x2) (by decide) (fun r1_q20650 h_r1_q20650 => ?_)
  obtain ⟨h_r1_q20650_0, h_r1_q20650_1, -⟩ := h_r1_q20650
  have b_20653 := i32b x3
  have l_0 := il_0
  have l_1 := il_1
  refine wq_b (tt_fX11_within hN x3 (0 : Int32) (1 : Int32)) (fun r2_q20654 h_r2_q20654 => ?_)
  obtain ⟨h_r2_q20654_0, h_r2_q20654_1, -⟩ := h_r2_q20654
  refine wq_xb (tt_fX11_need hN r2_q20654) (by decide) (fun r3_q20655 h_r3_q20655 => ?_)
  obtain ⟨h_r3_q20655_0, -⟩ := h_r3_q20655
  refine wq_ok ?_
  have l_7 := il_7
  refine wq_b (tt_fX1_degreeOf hN (wb_sh I0 13) (wb_sh M0 13) r1_q20650 (7 : Int32) ⟨by omega, by omega⟩ ⟨by omega, by omega⟩ (KX11.s_X1_13_13 k_I0)) (fun r4_q20656 h_r4_q20656 => ?_)
  obtain ⟨h_r4_q20656_0, h_r4_q20656_1, -⟩ := h_r4_q20656
  have l_m1 := il_m1
  refine wq_eq (fun hc_20657 => ?_) (fun hc_20658 => ?_)
  · exact wq_s trivial
  · refine wq_eq (fun hc_20659 => ?_) (fun hc_20660 => ?_)
    · refine wq_b (tt_fX11_waysThatCanBe hN I0 M0 r1_q20650 ⟨by omega, by omega⟩ k_I0) (fun r7_q20661 h_r7_q20661 => ?_)
      obtain ⟨-⟩ := h_r7_q20661
      have b_20662 := i32b r7_q20661
      exact wq_s trivial
    · refine wq_b (tt_fX1_degreeOf hN (wb_sh I0 13) (wb_sh M0 13) r1_q20650 (0 : Int32) ⟨by omega, by omega⟩ ⟨by omega, by omega⟩ (KX11.s_X1_13_13 k_I0)) (fun r5_q20663 h_r5_q20663 => ?_)
      obtain ⟨h_r5_q20663_0, h_r5_q20663_1, -⟩ := h_r5_q20663
      refine wq_eq (fun hc_20664 => ?_) (fun hc_20665 => ?_)
      · exact wq_s trivial
      · refine wq_b (tt_fX11_climatesThatCanBe hN I0 M0 r1_q20650 ⟨by omega, by omega⟩ k_I0) (fun r6_q20666 h_r6_q20666 => ?_)
        obtain ⟨h_r6_q20666_0, -⟩ := h_r6_q20666
        exact wq_s trivial
set_option maxHeartbeats 4000000 in
theorem tt_fX11_slips {N : Nat} (hN : 3000000000 ≤ N) (I0 : Nat → Int32) (M0 : Nat → Nat → Int32) (x1 : Int32) (x2 : Int32) (k_I0 : KX11 I0 M0) : wq (fX11_slips N I0 M0 x1 x2) (qS 1 (fun r => True)) := by
  unfold fX11_slips
  have b_20769 := i32b x1
  have l_0 := il_0
  have l_29 := il_29
  refine wq_b (tt_fX11_within hN x1 (0 : Int32) (29 : Int32)) (fun r3_q20770 h_r3_q20770 => ?_)
  obtain ⟨h_r3_q20770_0, h_r3_q20770_1, -⟩ := h_r3_q20770
  refine wq_eq (fun hc_20771 => ?_) (fun hc_20772 => ?_)
  · unfold fX11_slips_J34
    unfold fX11_slips_J35
    exact wq_xb (tt_fX11_need0 N) (by decide) (fun _ h => absurd h id)
  · have b_20774 := i32b x2
    refine wq_b (tt_fX11_within hN x2 (0 : Int32) (29 : Int32)) (fun r4_q20775 h_r4_q20775 => ?_)
    obtain ⟨h_r4_q20775_0, h_r4_q20775_1, -⟩ := h_r4_q20775
    refine wq_eq (fun hc_20776 => ?_) (fun hc_20777 => ?_)
    · unfold fX11_slips_J34
      unfold fX11_slips_J35
      exact wq_xb (tt_fX11_need0 N) (by decide) (fun _ h => absurd h id)
    · have t_20779 := KX11.i42 k_I0
      refine wq_eq (fun hc_20780 => ?_) (fun hc_20781 => ?_)
      · unfold fX11_slips_J34
        unfold fX11_slips_J35
        exact wq_xb (tt_fX11_need0 N) (by decide) (fun _ h => absurd h id)
      · unfold fX11_slips_J35
        have l_1 := il_1
        refine wq_xb (tt_fX11_need hN (1 : Int32)) (by decide) (fun r1_q20783 h_r1_q20783 => ?_)
        obtain ⟨h_r1_q20783_0, -⟩ := h_r1_q20783
        refine wq_ok ?_
        refine wq_b (tt_fX10_howManySlips hN (wb_sh I0 41) (wb_sh M0 20) (wb_sh I0 10) (wb_sh M0 6) (wb_sh I0 13) (wb_sh M0 13) x1 x2 (KX11.s_X10_41_20 k_I0) (KX11.s_X1_13_13 k_I0)) (fun r2_q20784 h_r2_q20784 => ?_)
        obtain ⟨-⟩ := h_r2_q20784
        have b_20785 := i32b r2_q20784
        exact wq_s trivial
set_option maxHeartbeats 4000000 in
theorem tt_fX11_handed {N : Nat} (hN : 3000000000 ≤ N) (I0 : Nat → Int32) (M0 : Nat → Nat → Int32) (x1 : Int32) (x2 : Int32) (x3 : Int32) (k_I0 : KX11 I0 M0) : wq (fX11_handed N I0 M0 x1 x2 x3) (qS 1 (fun r => True)) := by
  unfold fX11_handed
  have b_20894 := i32b x1
  refine wq_b (tt_fX11_isBook hN x1) (fun r3_q20895 h_r3_q20895 => ?_)
  obtain ⟨h_r3_q20895_0, h_r3_q20895_1, -⟩ := h_r3_q20895
  have l_0 := il_0
  refine wq_eq (fun hc_20896 => ?_) (fun hc_20897 => ?_)
  · unfold fX11_handed_J25
    unfold fX11_handed_J26
    exact wq_xb (tt_fX11_need0 N) (by decide) (fun _ h => absurd h id)
  · have b_20899 := i32b x2
    refine wq_b (tt_fX11_isBook hN x2) (fun r4_q20900 h_r4_q20900 => ?_)
    obtain ⟨h_r4_q20900_0, h_r4_q20900_1, -⟩ := h_r4_q20900
    refine wq_eq (fun hc_20901 => ?_) (fun hc_20902 => ?_)
    · unfold fX11_handed_J25
      unfold fX11_handed_J26
      exact wq_xb (tt_fX11_need0 N) (by decide) (fun _ h => absurd h id)
    · have b_20904 := i32b x3
      refine wq_b (tt_fX11_isBook hN x3) (fun r5_q20905 h_r5_q20905 => ?_)
      obtain ⟨h_r5_q20905_0, h_r5_q20905_1, -⟩ := h_r5_q20905
      refine wq_eq (fun hc_20906 => ?_) (fun hc_20907 => ?_)
      · unfold fX11_handed_J25
        unfold fX11_handed_J26
        exact wq_xb (tt_fX11_need0 N) (by decide) (fun _ h => absurd h id)
      · unfold fX11_handed_J26
        have l_1 := il_1
        refine wq_xb (tt_fX11_need hN (1 : Int32)) (by decide) (fun r1_q20909 h_r1_q20909 => ?_)
        obtain ⟨h_r1_q20909_0, -⟩ := h_r1_q20909
        refine wq_ok ?_
        refine wq_b (tt_fX1_howManyHanded hN (wb_sh I0 13) (wb_sh M0 13) x1 x2 x3 ⟨by omega, by omega⟩ ⟨by omega, by omega⟩ ⟨by omega, by omega⟩ (KX11.s_X1_13_13 k_I0)) (fun r2_q20910 h_r2_q20910 => ?_)
        obtain ⟨-⟩ := h_r2_q20910
        have b_20911 := i32b r2_q20910
        exact wq_s trivial
set_option maxHeartbeats 4000000 in
theorem tt_fX11_leaf {N : Nat} (hN : 3000000000 ≤ N) (I0 : Nat → Int32) (M0 : Nat → Nat → Int32) (x1 : Int32) (x2 : Int32) (k_I0 : KX11 I0 M0) : wq (fX11_leaf N I0 M0 x1 x2) (qS 1 (fun r => (-1 ≤ r.1.toInt ∧ r.1.toInt ≤ 20) ∧ KX11 r.2.1 r.2.2 ∧ True)) := by
  unfold fX11_leaf
  have b_20996 := i32b x1
  refine wq_b (tt_fX11_isBook hN x1) (fun r5_q20997 h_r5_q20997 => ?_)
  obtain ⟨h_r5_q20997_0, h_r5_q20997_1, -⟩ := h_r5_q20997
  have l_0 := il_0
  refine wq_eq (fun hc_20998 => ?_) (fun hc_20999 => ?_)
  · unfold fX11_leaf_J21
    exact wq_xb (tt_fX11_need0 N) (by decide) (fun _ h => absurd h id)
  · have b_21001 := i32b x2
    have l_19 := il_19
    refine wq_b (tt_fX11_within hN x2 (0 : Int32) (19 : Int32)) (fun r6_q21002 h_r6_q21002 => ?_)
    obtain ⟨h_r6_q21002_0, h_r6_q21002_1, -⟩ := h_r6_q21002
    refine wq_eq (fun hc_21003 => ?_) (fun hc_21004 => ?_)
    · unfold fX11_leaf_J21
      exact wq_xb (tt_fX11_need0 N) (by decide) (fun _ h => absurd h id)
    · have l_1 := il_1
      refine wq_xb (tt_fX11_need hN (1 : Int32)) (by decide) (fun r7_q21006 h_r7_q21006 => ?_)
      obtain ⟨h_r7_q21006_0, -⟩ := h_r7_q21006
      refine wq_ok ?_
      refine wq_b (tt_fX6_addTo hN (wb_sh I0 43) (wb_sh M0 23) x1 x2 ⟨by omega, by omega⟩ (KX11.s_X6_43_23 k_I0)) (fun r8_q21007 h_r8_q21007 => ?_)
      obtain ⟨h_r8_q21007_0, h_r8_q21007_1, -⟩ := h_r8_q21007
      refine wq_v (fun I0_9_q21008 h_I0_9_q21008 => ?_)
      refine wq_v (fun M0_10_q21009 h_M0_10_q21009 => ?_)
      have k_M0_10_q21009 : KX11 I0_9_q21008 M0_10_q21009 := by rw [h_I0_9_q21008, h_M0_10_q21009]; exact KX11.p_X6_43_23 k_I0 h_r8_q21007_1
      exact wq_s ⟨(show -1 ≤ r8_q21007.1.toInt ∧ r8_q21007.1.toInt ≤ 20 from ⟨by omega, by omega⟩), k_M0_10_q21009, trivial⟩

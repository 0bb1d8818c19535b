set_option maxHeartbeats 4000000 in
theorem tt_fX11_place {N : Nat} (hN : 3000000000 ≤ N) (I0 : Nat → Int32) (M0 : Nat → Nat → Int32) (x1 : Int32) (x2 : Int32) (x3 : Int32) (k_I0 : KX11 I0 M0) : wq (fX11_place N I0 M0 x1 x2 x3) (qS 1 (fun r => True)) := by
  unfold fX11_place
  have b_15522 := i32b x1
  have l_0 := il_0
  have l_3 := il_3
  refine wq_b (tt_fX11_within hN x1 (0 : Int32) (3 : Int32)) (fun r3_q15523 h_r3_q15523 => ?_)
  obtain ⟨h_r3_q15523_0, h_r3_q15523_1, -⟩ := h_r3_q15523
  refine wq_eq (fun hc_15524 => ?_) (fun hc_15525 => ?_)
  · unfold fX11_place_J30
    unfold fX11_place_J31
    exact wq_xb (tt_fX11_need0 N) (by decide) (fun _ h => absurd h id)
  · have b_15527 := i32b x2
    have l_6 := il_6
    refine wq_b (tt_fX11_within hN x2 (0 : Int32) (6 : Int32)) (fun r4_q15528 h_r4_q15528 => ?_)
    obtain ⟨h_r4_q15528_0, h_r4_q15528_1, -⟩ := h_r4_q15528
    refine wq_eq (fun hc_15529 => ?_) (fun hc_15530 => ?_)
    · unfold fX11_place_J30
      unfold fX11_place_J31
      exact wq_xb (tt_fX11_need0 N) (by decide) (fun _ h => absurd h id)
    · have b_15532 := i32b x3
      refine wq_b (tt_fX11_isDay hN x3) (fun r5_q15533 h_r5_q15533 => ?_)
      obtain ⟨h_r5_q15533_0, h_r5_q15533_1, -⟩ := h_r5_q15533
      refine wq_eq (fun hc_15534 => ?_) (fun hc_15535 => ?_)
      · unfold fX11_place_J30
        unfold fX11_place_J31
        exact wq_xb (tt_fX11_need0 N) (by decide) (fun _ h => absurd h id)
      · unfold fX11_place_J31
        have l_1 := il_1
        refine wq_xb (tt_fX11_need hN (1 : Int32)) (by decide) (fun r1_q15537 h_r1_q15537 => ?_)
        obtain ⟨h_r1_q15537_0, -⟩ := h_r1_q15537
        refine wq_ok ?_
        refine wq_b (tt_fX5_placeOn hN (wb_sh I0 9) (wb_sh M0 1) x1 x2 x3 ⟨by omega, by omega⟩ ⟨by omega, by omega⟩ (KX11.s_X5_9_1 k_I0)) (fun r2_q15538 h_r2_q15538 => ?_)
        obtain ⟨-⟩ := h_r2_q15538
        have b_15539 := i32b r2_q15538
        exact wq_s trivial
set_option maxHeartbeats 4000000 in
theorem tt_fX11_entry {N : Nat} (hN : 3000000000 ≤ N) (I0 : Nat → Int32) (M0 : Nat → Nat → Int32) (x1 : Int32) (x2 : Int32) (x3 : Int32) (k_I0 : KX11 I0 M0) : wq (fX11_entry N I0 M0 x1 x2 x3) (qS 1 (fun r => (-1 ≤ r.toInt ∧ r.toInt ≤ 389) ∧ True)) := by
  unfold fX11_entry
  have b_15583 := i32b x1
  have b_15584 := i32b x2
  refine wq_xb (tt_fX11_numberOf hN x1 x2) (by decide) (fun r1_q15582 h_r1_q15582 => ?_)
  obtain ⟨h_r1_q15582_0, h_r1_q15582_1, -⟩ := h_r1_q15582
  have b_15585 := i32b x3
  have l_0 := il_0
  have l_21 := il_21
  refine wq_b (tt_fX11_within hN x3 (0 : Int32) (21 : Int32)) (fun r2_q15586 h_r2_q15586 => ?_)
  obtain ⟨h_r2_q15586_0, h_r2_q15586_1, -⟩ := h_r2_q15586
  refine wq_xb (tt_fX11_need hN r2_q15586) (by decide) (fun r3_q15587 h_r3_q15587 => ?_)
  obtain ⟨h_r3_q15587_0, -⟩ := h_r3_q15587
  refine wq_ok ?_
  refine wq_b (tt_fX1_degreeOf hN (wb_sh I0 13) (wb_sh M0 13) r1_q15582 x3 ⟨by omega, by omega⟩ ⟨by omega, by omega⟩ (KX11.s_X1_13_13 k_I0)) (fun r4_q15588 h_r4_q15588 => ?_)
  obtain ⟨h_r4_q15588_0, h_r4_q15588_1, -⟩ := h_r4_q15588
  exact wq_s ⟨(show -1 ≤ r4_q15588.toInt ∧ r4_q15588.toInt ≤ 389 from ⟨by omega, by omega⟩), trivial⟩
set_option maxHeartbeats 4000000 in
theorem tt_fX11_cost {N : Nat} (hN : 3000000000 ≤ N) (I0 : Nat → Int32) (M0 : Nat → Nat → Int32) (x1 : Int32) (x2 : Int32) (x3 : Int32) (x4 : Int32) (k_I0 : KX11 I0 M0) : wq (fX11_cost N I0 M0 x1 x2 x3 x4) (qS 1 (fun r => True)) := by
  unfold fX11_cost
  have b_15686 := i32b x1
  have b_15687 := i32b x2
  refine wq_xb (tt_fX11_numberOf hN x1 x2) (by decide) (fun r3_q15685 h_r3_q15685 => ?_)
  obtain ⟨h_r3_q15685_0, h_r3_q15685_1, -⟩ := h_r3_q15685
  have b_15688 := i32b x3
  have l_0 := il_0
  have l_3 := il_3
  refine wq_b (tt_fX11_within hN x3 (0 : Int32) (3 : Int32)) (fun r4_q15689 h_r4_q15689 => ?_)
  obtain ⟨h_r4_q15689_0, h_r4_q15689_1, -⟩ := h_r4_q15689
  refine wq_eq (fun hc_15690 => ?_) (fun hc_15691 => ?_)
  · unfold fX11_cost_J28
    unfold fX11_cost_J29
    exact wq_xb (tt_fX11_need0 N) (by decide) (fun _ h => absurd h id)
  · have b_15693 := i32b x4
    refine wq_b (tt_fX11_isDay hN x4) (fun r5_q15694 h_r5_q15694 => ?_)
    obtain ⟨h_r5_q15694_0, h_r5_q15694_1, -⟩ := h_r5_q15694
    refine wq_eq (fun hc_15695 => ?_) (fun hc_15696 => ?_)
    · unfold fX11_cost_J28
      unfold fX11_cost_J29
      exact wq_xb (tt_fX11_need0 N) (by decide) (fun _ h => absurd h id)
    · unfold fX11_cost_J29
      have l_1 := il_1
      refine wq_xb (tt_fX11_need hN (1 : Int32)) (by decide) (fun r1_q15698 h_r1_q15698 => ?_)
      obtain ⟨h_r1_q15698_0, -⟩ := h_r1_q15698
      refine wq_ok ?_
      have l_1000 := il_1000
      refine wq_b (tt_fX3_costOn hN (wb_sh I0 9) (wb_sh M0 1) (wb_sh I0 13) (wb_sh M0 13) r3_q15685 x3 x4 (1000 : Int32) ⟨by omega, by omega⟩ ⟨by omega, by omega⟩ ⟨by omega, by omega⟩ (KX11.s_X5_9_1 k_I0) (KX11.s_X1_13_13 k_I0)) (fun r2_q15699 h_r2_q15699 => ?_)
      obtain ⟨-⟩ := h_r2_q15699
      have b_15700 := i32b r2_q15699
      exact wq_s trivial
set_option maxHeartbeats 4000000 in
theorem tt_fX11_isSpan {N : Nat} (hN : 3000000000 ≤ N) (x0 : Int32) (x1 : Int32) (h_x0 : 0 ≤ x0.toInt ∧ x0.toInt ≤ 1000000) : wq (fX11_isSpan N x0 x1) (fun r => (r.toInt = 0 ∨ (r.toInt = 1 ∧ 0 ≤ x1.toInt ∧ x1.toInt ≤ 50000 ∧ x1.toInt + x0.toInt ≤ 1000000)) ∧ (0 ≤ r.toInt ∧ r.toInt ≤ 1) ∧ True) := by
  unfold fX11_isSpan
  have b_15743 := i32b x1
  have l_0 := il_0
  have l_50000 := il_50000
  refine wq_b (tt_fX11_within hN x1 (0 : Int32) (50000 : Int32)) (fun r1_q15744 h_r1_q15744 => ?_)
  obtain ⟨h_r1_q15744_0, h_r1_q15744_1, -⟩ := h_r1_q15744
  refine wq_eq (fun hc_15745 => ?_) (fun hc_15746 => ?_)
  · exact wq_s ⟨(show ((0 : Int32).toInt = 0 ∨ ((0 : Int32).toInt = 1 ∧ 0 ≤ x1.toInt ∧ x1.toInt ≤ 50000 ∧ x1.toInt + x0.toInt ≤ 1000000)) from by omega), (show 0 ≤ (0 : Int32).toInt ∧ (0 : Int32).toInt ≤ 1 from ⟨by omega, by omega⟩), trivial⟩
  · have l_1000000 := il_1000000
    have t_15747 := ia_sub (1000000 : Int32) x0 (by omega) (by omega)
    refine wq_lt (fun hc_15748 => ?_) (fun hc_15749 => ?_)
    · exact wq_s ⟨(show ((0 : Int32).toInt = 0 ∨ ((0 : Int32).toInt = 1 ∧ 0 ≤ x1.toInt ∧ x1.toInt ≤ 50000 ∧ x1.toInt + x0.toInt ≤ 1000000)) from by omega), (show 0 ≤ (0 : Int32).toInt ∧ (0 : Int32).toInt ≤ 1 from ⟨by omega, by omega⟩), trivial⟩
    · have l_1 := il_1
      exact wq_s ⟨(show ((1 : Int32).toInt = 0 ∨ ((1 : Int32).toInt = 1 ∧ 0 ≤ x1.toInt ∧ x1.toInt ≤ 50000 ∧ x1.toInt + x0.toInt ≤ 1000000)) from by omega), (show 0 ≤ (1 : Int32).toInt ∧ (1 : Int32).toInt ≤ 1 from ⟨by omega, by omega⟩), trivial⟩
set_option maxHeartbeats 4000000 in
theorem tt_fX11_best {N : Nat} (hN : 3000000000 ≤ N) (I0 : Nat → Int32) (M0 : Nat → Nat → Int32) (x1 : Int32) (x2 : Int32) (x3 : Int32) (x4 : Int32) (x5 : Int32) (k_I0 : KX11 I0 M0) : wq (fX11_best N I0 M0 x1 x2 x3 x4 x5) (qS 3 (fun r => KX11 r.2.1 r.2.2 ∧ True)) := by
  unfold fX11_best
  have b_15895 := i32b x1
  have b_15896 := i32b x2
  refine wq_xb (tt_fX11_numberOf hN x1 x2) (by decide) (fun r10_q15894 h_r10_q15894 => ?_)
  obtain ⟨h_r10_q15894_0, h_r10_q15894_1, -⟩ := h_r10_q15894
  have b_15897 := i32b x3
  have l_0 := il_0
  have l_3 := il_3
  refine wq_b (tt_fX11_within hN x3 (0 : Int32) (3 : Int32)) (fun r11_q15898 h_r11_q15898 => ?_)
  obtain ⟨h_r11_q15898_0, h_r11_q15898_1, -⟩ := h_r11_q15898
  refine wq_eq (fun hc_15899 => ?_) (fun hc_15900 => ?_)
  · unfold fX11_best_J28
    unfold fX11_best_J29
    exact wq_xb (tt_fX11_need0 N) (by decide) (fun _ h => absurd h id)
  · have b_15902 := i32b x4
    refine wq_b (tt_fX11_isDay hN x4) (fun r12_q15903 h_r12_q15903 => ?_)
    obtain ⟨h_r12_q15903_0, h_r12_q15903_1, -⟩ := h_r12_q15903
    refine wq_eq (fun hc_15904 => ?_) (fun hc_15905 => ?_)
    · unfold fX11_best_J28
      unfold fX11_best_J29
      exact wq_xb (tt_fX11_need0 N) (by decide) (fun _ h => absurd h id)
    · unfold fX11_best_J29
      have l_1 := il_1
      refine wq_xb (tt_fX11_need hN (1 : Int32)) (by decide) (fun r1_q15907 h_r1_q15907 => ?_)
      obtain ⟨h_r1_q15907_0, -⟩ := h_r1_q15907
      have b_15908 := i32b x5
      refine wq_b (tt_fX11_isSpan hN x4 x5 ⟨by omega, by omega⟩) (fun r2_q15909 h_r2_q15909 => ?_)
      obtain ⟨h_r2_q15909_0, h_r2_q15909_1, -⟩ := h_r2_q15909
      refine wq_xb (tt_fX11_allow hN r2_q15909) (by decide) (fun r3_q15910 h_r3_q15910 => ?_)
      obtain ⟨h_r3_q15910_0, -⟩ := h_r3_q15910
      refine wq_ok ?_
      refine wq_b (tt_fX8_begin hN (wb_sh I0 13) (wb_sh M0 16) r10_q15894 x3 x4 ⟨by omega, by omega⟩ ⟨by omega, by omega⟩ ⟨by omega, by omega⟩ (KX11.s_X8_13_16 k_I0)) (fun r4_q15911 h_r4_q15911 => ?_)
      obtain ⟨h_r4_q15911_0, -⟩ := h_r4_q15911
      refine wq_v (fun I0_5_q15912 h_I0_5_q15912 => ?_)
      refine wq_v (fun M0_6_q15913 h_M0_6_q15913 => ?_)
      have k_M0_6_q15913 : KX11 I0_5_q15912 M0_6_q15913 := by rw [h_I0_5_q15912, h_M0_6_q15913]; exact KX11.p_X8_13_16 k_I0 h_r4_q15911_0
      have t_15914 := ia_add x5 (1 : Int32) (by omega) (by omega)
      refine wq_b (tt_fX8_goOn hN (wb_sh I0_5_q15912 13) (wb_sh M0_6_q15913 16) (wb_sh I0_5_q15912 9) (wb_sh M0_6_q15913 1) (wb_sh I0_5_q15912 13) (wb_sh M0_6_q15913 13) (x5 + (1 : Int32)) (KX11.s_X8_13_16 k_M0_6_q15913) (KX11.s_X5_9_1 k_M0_6_q15913) (KX11.s_X1_13_13 k_M0_6_q15913)) (fun r7_q15915 h_r7_q15915 => ?_)
      obtain ⟨h_r7_q15915_0, -⟩ := h_r7_q15915
      refine wq_v (fun I0_8_q15916 h_I0_8_q15916 => ?_)
      refine wq_v (fun M0_9_q15917 h_M0_9_q15917 => ?_)
      have k_M0_9_q15917 : KX11 I0_8_q15916 M0_9_q15917 := by rw [h_I0_8_q15916, h_M0_9_q15917]; exact KX11.p_X8_13_16 k_M0_6_q15913 h_r7_q15915_0
      exact wq_s ⟨k_M0_9_q15917, trivial⟩
set_option maxHeartbeats 4000000 in
theorem tt_fX11_day {N : Nat} (hN : 3000000000 ≤ N) (I0 : Nat → Int32) (M0 : Nat → Nat → Int32) (x1 : Int32) (k_I0 : KX11 I0 M0) : wq (fX11_day N I0 M0 x1) (qS 1 (fun r => True)) := by
  unfold fX11_day
  have t_15991 := KX11.i13 k_I0
  refine wq_xb (tt_fX11_need hN (I0 13)) (by decide) (fun r1_q15990 h_r1_q15990 => ?_)
  obtain ⟨h_r1_q15990_0, -⟩ := h_r1_q15990
  have b_15992 := i32b x1
  have l_m1 := il_m1
  refine wq_eq (fun hc_15993 => ?_) (fun hc_15994 => ?_)
  · refine wq_ok ?_
    have t_15995 := KX11.i18 k_I0
    exact wq_s trivial
  · refine wq_b (tt_fX8_howManyKept hN (wb_sh I0 13) (wb_sh M0 16) (KX11.s_X8_13_16 k_I0)) (fun r2_q15996 h_r2_q15996 => ?_)
    obtain ⟨h_r2_q15996_0, -⟩ := h_r2_q15996
    have l_0 := il_0
    have l_1 := il_1
    have t_15997 := ia_sub r2_q15996 (1 : Int32) (by omega) (by omega)
    refine wq_b (tt_fX11_within hN x1 (0 : Int32) (r2_q15996 - (1 : Int32))) (fun r3_q15998 h_r3_q15998 => ?_)
    obtain ⟨h_r3_q15998_0, h_r3_q15998_1, -⟩ := h_r3_q15998
    refine wq_xb (tt_fX11_need hN r3_q15998) (by decide) (fun r4_q15999 h_r4_q15999 => ?_)
    obtain ⟨h_r4_q15999_0, -⟩ := h_r4_q15999
    refine wq_ok ?_
    refine wq_b (tt_fX8_keptDay hN (wb_sh I0 13) (wb_sh M0 16) x1 (KX11.s_X8_13_16 k_I0)) (fun r5_q16000 h_r5_q16000 => ?_)
    obtain ⟨-⟩ := h_r5_q16000
    have b_16001 := i32b r5_q16000
    exact wq_s trivial
set_option maxHeartbeats 4000000 in
theorem tt_fX11_whose_L55 {N : Nat} (hN : 3000000000 ≤ N) (x1 : Int32) (x2 : Int32) (x3 : Int32) (x4 : Int32) (x5 : Int32) (y29_6 : Int32) (h_x1 : 0 ≤ x1.toInt ∧ x1.toInt ≤ 5) (h_x2 : 0 ≤ x2.toInt ∧ x2.toInt ≤ 19) (h_x3 : 0 ≤ x3.toInt ∧ x3.toInt ≤ 1000000) (h_x4 : 0 ≤ x4.toInt ∧ x4.toInt ≤ 50000) (h_x5 : 0 ≤ x5.toInt ∧ x5.toInt ≤ 2) (h_y29_6 : 0 ≤ y29_6.toInt ∧ y29_6.toInt ≤ 119)  : ∀ (fu : Nat) (I0_l55 : (Nat → Int32)) (M0_l55 : (Nat → Nat → Int32)) (y55_7 : Int32) (y55_8 : Int32) (y55_9 : Int32) (y55_10 : Int32), (-2147483648 ≤ y55_7.toInt ∧ y55_7.toInt ≤ 1000) → (0 ≤ y55_8.toInt ∧ y55_8.toInt ≤ 3) → (0 ≤ y55_10.toInt ∧ y55_10.toInt ≤ 4) → (KX11 I0_l55 M0_l55) → (4 - y55_10.toInt) < (fu : Int) → wq (fX11_whose_L55 N x1 x2 x3 x4 x5 y29_6 fu I0_l55 M0_l55 y55_7 y55_8 y55_9 y55_10) (fun r => KX11 r.2.1 r.2.2 ∧ True) := by
  intro fu
  induction fu with
  | zero => intro I0_l55 M0_l55 y55_7 y55_8 y55_9 y55_10 h_y55_7 h_y55_8 h_y55_10 k_I0_l55 hm; exfalso; omega
  | succ fu ih =>
    intro I0_l55 M0_l55 y55_7 y55_8 y55_9 y55_10 h_y55_7 h_y55_8 h_y55_10 k_I0_l55 hm
    rw [fX11_whose_L55.eq_2]
    have l_4 := il_4
    refine wq_le (fun hc_17143 => ?_) (fun hc_17144 => ?_)
    · have l_0 := il_0
      refine wq_eq (fun hc_17145 => ?_) (fun hc_17146 => ?_)
      · exact wq_s ⟨k_I0_l55, trivial⟩
      · have l_1 := il_1
        refine wq_eq (fun hc_17147 => ?_) (fun hc_17148 => ?_)
        · have b_17149 := i32b y55_7
          exact wq_s ⟨k_I0_l55, trivial⟩
        · have b_17150 := i32b y55_9
          exact wq_s ⟨k_I0_l55, trivial⟩
    · refine wq_b (tt_fX8_begin hN (wb_sh I0_l55 20) (wb_sh M0_l55 17) y29_6 y55_10 x3 ⟨by omega, by omega⟩ ⟨by omega, by omega⟩ ⟨by omega, by omega⟩ (KX11.s_X8_20_17 k_I0_l55)) (fun r7_q17151 h_r7_q17151 => ?_)
      obtain ⟨h_r7_q17151_0, -⟩ := h_r7_q17151
      refine wq_v (fun I0_8_q17152 h_I0_8_q17152 => ?_)
      refine wq_v (fun M0_9_q17153 h_M0_9_q17153 => ?_)
      have k_M0_9_q17153 : KX11 I0_8_q17152 M0_9_q17153 := by rw [h_I0_8_q17152, h_M0_9_q17153]; exact KX11.p_X8_20_17 k_I0_l55 h_r7_q17151_0
      have l_1 := il_1
      have t_17154 := ia_add x4 (1 : Int32) (by omega) (by omega)
      refine wq_b (tt_fX8_goOn hN (wb_sh I0_8_q17152 20) (wb_sh M0_9_q17153 17) (wb_sh I0_8_q17152 9) (wb_sh M0_9_q17153 1) (wb_sh I0_8_q17152 13) (wb_sh M0_9_q17153 13) (x4 + (1 : Int32)) (KX11.s_X8_20_17 k_M0_9_q17153) (KX11.s_X5_9_1 k_M0_9_q17153) (KX11.s_X1_13_13 k_M0_9_q17153)) (fun r10_q17155 h_r10_q17155 => ?_)
      obtain ⟨h_r10_q17155_0, -⟩ := h_r10_q17155
      refine wq_v (fun I0_11_q17156 h_I0_11_q17156 => ?_)
      refine wq_v (fun M0_12_q17157 h_M0_12_q17157 => ?_)
      have k_M0_12_q17157 : KX11 I0_11_q17156 M0_12_q17157 := by rw [h_I0_11_q17156, h_M0_12_q17157]; exact KX11.p_X8_20_17 k_M0_9_q17153 h_r10_q17155_0
      have b_17158 := i32b y55_7
      refine wq_le (fun hc_17159 => ?_) (fun hc_17160 => ?_)
      · unfold fX11_whose_J121
        refine wq_eq (fun hc_17161 => ?_) (fun hc_17162 => ?_)
        · have b_17164 := i32b y55_9
          refine wq_v (fun v5_q17163 h_v5_q17163 => ?_)
          have t_v5_q17163 := congrArg Int32.toInt h_v5_q17163
          have t_17166 := ia_add y55_10 (1 : Int32) (by omega) (by omega)
          refine wq_v (fun v6_q17165 h_v6_q17165 => ?_)
          have t_v6_q17165 := congrArg Int32.toInt h_v6_q17165
          have b_17167 := i32b v5_q17163
          exact ih I0_11_q17156 M0_12_q17157 y55_7 y55_8 v5_q17163 v6_q17165 ⟨by omega, by omega⟩ ⟨by omega, by omega⟩ ⟨by omega, by omega⟩ k_M0_12_q17157 (by omega)
        · have t_17169 := ia_add y55_10 (1 : Int32) (by omega) (by omega)
          refine wq_v (fun v4_q17168 h_v4_q17168 => ?_)
          have t_v4_q17168 := congrArg Int32.toInt h_v4_q17168
          have b_17170 := i32b y55_9
          exact ih I0_11_q17156 M0_12_q17157 y55_7 y55_8 y55_9 v4_q17168 ⟨by omega, by omega⟩ ⟨by omega, by omega⟩ ⟨by omega, by omega⟩ k_M0_12_q17157 (by omega)
      · refine wq_v (fun v13_q17171 h_v13_q17171 => ?_)
        have t_v13_q17171 := congrArg Int32.toInt h_v13_q17171
        unfold fX11_whose_J121
        have b_17172 := i32b v13_q17171
        refine wq_eq (fun hc_17173 => ?_) (fun hc_17174 => ?_)
        · have l_0 := il_0
          have t_17176 := ia_add (0 : Int32) (1 : Int32) (by omega) (by omega)
          refine wq_v (fun v5_q17175 h_v5_q17175 => ?_)
          have t_v5_q17175 := congrArg Int32.toInt h_v5_q17175
          have t_17178 := ia_add y55_10 (1 : Int32) (by omega) (by omega)
          refine wq_v (fun v6_q17177 h_v6_q17177 => ?_)
          have t_v6_q17177 := congrArg Int32.toInt h_v6_q17177
          exact ih I0_11_q17156 M0_12_q17157 v13_q17171 y55_10 v5_q17175 v6_q17177 ⟨by omega, by omega⟩ ⟨by omega, by omega⟩ ⟨by omega, by omega⟩ k_M0_12_q17157 (by omega)
        · have t_17180 := ia_add y55_10 (1 : Int32) (by omega) (by omega)
          refine wq_v (fun v4_q17179 h_v4_q17179 => ?_)
          have t_v4_q17179 := congrArg Int32.toInt h_v4_q17179
          have l_0 := il_0
          exact ih I0_11_q17156 M0_12_q17157 v13_q17171 y55_10 (0 : Int32) v4_q17179 ⟨by omega, by omega⟩ ⟨by omega, by omega⟩ ⟨by omega, by omega⟩ k_M0_12_q17157 (by omega)
set_option maxHeartbeats 4000000 in
theorem tt_fX11_whose {N : Nat} (hN : 3000000000 ≤ N) (I0 : Nat → Int32) (M0 : Nat → Nat → Int32) (x1 : Int32) (x2 : Int32) (x3 : Int32) (x4 : Int32) (x5 : Int32) (k_I0 : KX11 I0 M0) : wq (fX11_whose N I0 M0 x1 x2 x3 x4 x5) (qS 3 (fun r => KX11 r.2.1 r.2.2 ∧ True)) := by
  unfold fX11_whose
  have b_17182 := i32b x1
  have b_17183 := i32b x2
  refine wq_xb (tt_fX11_numberOf hN x1 x2) (by decide) (fun r14_q17181 h_r14_q17181 => ?_)
  obtain ⟨h_r14_q17181_0, h_r14_q17181_1, -⟩ := h_r14_q17181
  have b_17184 := i32b x3
  refine wq_b (tt_fX11_isDay hN x3) (fun r15_q17185 h_r15_q17185 => ?_)
  obtain ⟨h_r15_q17185_0, h_r15_q17185_1, -⟩ := h_r15_q17185
  have l_0 := il_0
  refine wq_eq (fun hc_17186 => ?_) (fun hc_17187 => ?_)
  · unfold fX11_whose_J28
    unfold fX11_whose_J29
    exact wq_xb (tt_fX11_need0 N) (by decide) (fun _ h => absurd h id)
  · have b_17189 := i32b x5
    have l_2 := il_2
    refine wq_b (tt_fX11_within hN x5 (0 : Int32) (2 : Int32)) (fun r16_q17190 h_r16_q17190 => ?_)
    obtain ⟨h_r16_q17190_0, h_r16_q17190_1, -⟩ := h_r16_q17190
    refine wq_eq (fun hc_17191 => ?_) (fun hc_17192 => ?_)
    · unfold fX11_whose_J28
      unfold fX11_whose_J29
      exact wq_xb (tt_fX11_need0 N) (by decide) (fun _ h => absurd h id)
    · unfold fX11_whose_J29
      have l_1 := il_1
      refine wq_xb (tt_fX11_need hN (1 : Int32)) (by decide) (fun r1_q17194 h_r1_q17194 => ?_)
      obtain ⟨h_r1_q17194_0, -⟩ := h_r1_q17194
      have b_17195 := i32b x4
      refine wq_b (tt_fX11_isSpan hN x3 x4 ⟨by omega, by omega⟩) (fun r2_q17196 h_r2_q17196 => ?_)
      obtain ⟨h_r2_q17196_0, h_r2_q17196_1, -⟩ := h_r2_q17196
      refine wq_xb (tt_fX11_allow hN r2_q17196) (by decide) (fun r3_q17197 h_r3_q17197 => ?_)
      obtain ⟨h_r3_q17197_0, -⟩ := h_r3_q17197
      refine wq_ok ?_
      have l_1000 := il_1000
      exact tt_fX11_whose_L55 hN x1 x2 x3 x4 x5 r14_q17181 ⟨by omega, by omega⟩ ⟨by omega, by omega⟩ ⟨by omega, by omega⟩ ⟨by omega, by omega⟩ ⟨by omega, by omega⟩ ⟨by omega, by omega⟩ N I0 M0 (1000 : Int32) (0 : Int32) (0 : Int32) (0 : Int32) ⟨by omega, by omega⟩ ⟨by omega, by omega⟩ ⟨by omega, by omega⟩ k_I0 (by omega)
set_option maxHeartbeats 4000000 in
theorem tt_fX11_mixed_L29 {N : Nat} (hN : 3000000000 ≤ N) (I0 : Nat → Int32) (M0 : Nat → Nat → Int32) (x1 : Int32) (x2 : Int32) (x3 : Int32) (x4 : Int32) (r1 : Int32) (h_x1 : 0 ≤ x1.toInt ∧ x1.toInt ≤ 5) (h_x2 : 0 ≤ x2.toInt ∧ x2.toInt ≤ 19) (h_x3 : 0 ≤ x3.toInt ∧ x3.toInt ≤ 1000000) (h_x4 : 0 ≤ x4.toInt ∧ x4.toInt ≤ 50000) (h_r1 : 0 ≤ r1.toInt ∧ r1.toInt ≤ 119) (k_I0 : KX11 I0 M0)  : ∀ (fu : Nat) (y29_6 : Int32) (y29_7 : Int32), (0 ≤ y29_7.toInt ∧ y29_7.toInt ≤ 50001) → (50001 - y29_7.toInt) < (fu : Int) → wq (fX11_mixed_L29 N I0 M0 x1 x2 x3 x4 r1 fu y29_6 y29_7) (fun r => True) := by
  intro fu
  induction fu with
  | zero => intro y29_6 y29_7 h_y29_7 hm; exfalso; omega
  | succ fu ih =>
    intro y29_6 y29_7 h_y29_7 hm
    rw [fX11_mixed_L29.eq_2]
    refine wq_lt (fun hc_17660 => ?_) (fun hc_17661 => ?_)
    · have b_17662 := i32b y29_6
      exact wq_s trivial
    · have t_17663 := ia_add x3 y29_7 (by omega) (by omega)
      refine wq_b (tt_fX3_isMixed hN (wb_sh I0 9) (wb_sh M0 1) (wb_sh I0 13) (wb_sh M0 13) r1 (x3 + y29_7) ⟨by omega, by omega⟩ (KX11.s_X5_9_1 k_I0) (KX11.s_X1_13_13 k_I0)) (fun r6_q17664 h_r6_q17664 => ?_)
      obtain ⟨h_r6_q17664_0, -⟩ := h_r6_q17664
      have l_0 := il_0
      refine wq_eq (fun hc_17665 => ?_) (fun hc_17666 => ?_)
      · have l_1 := il_1
        have t_17668 := ia_add y29_7 (1 : Int32) (by omega) (by omega)
        refine wq_v (fun v7_q17667 h_v7_q17667 => ?_)
        have t_v7_q17667 := congrArg Int32.toInt h_v7_q17667
        have b_17669 := i32b y29_6
        exact ih y29_6 v7_q17667 ⟨by omega, by omega⟩ (by omega)
      · have b_17671 := i32b y29_6
        have l_1 := il_1
        refine wq_v (fun v8_q17670 h_v8_q17670 => ?_)
        have t_v8_q17670 := congrArg Int32.toInt h_v8_q17670
        have t_17673 := ia_add y29_7 (1 : Int32) (by omega) (by omega)
        refine wq_v (fun v9_q17672 h_v9_q17672 => ?_)
        have t_v9_q17672 := congrArg Int32.toInt h_v9_q17672
        have b_17674 := i32b v8_q17670
        exact ih v8_q17670 v9_q17672 ⟨by omega, by omega⟩ (by omega)
set_option maxHeartbeats 4000000 in
theorem tt_fX11_mixed {N : Nat} (hN : 3000000000 ≤ N) (I0 : Nat → Int32) (M0 : Nat → Nat → Int32) (x1 : Int32) (x2 : Int32) (x3 : Int32) (x4 : Int32) (k_I0 : KX11 I0 M0) : wq (fX11_mixed N I0 M0 x1 x2 x3 x4) (qS 3 (fun r => True)) := by
  unfold fX11_mixed
  have b_17676 := i32b x1
  have b_17677 := i32b x2
  refine wq_xb (tt_fX11_numberOf hN x1 x2) (by decide) (fun r1_q17675 h_r1_q17675 => ?_)
  obtain ⟨h_r1_q17675_0, h_r1_q17675_1, -⟩ := h_r1_q17675
  have b_17678 := i32b x3
  refine wq_b (tt_fX11_isDay hN x3) (fun r2_q17679 h_r2_q17679 => ?_)
  obtain ⟨h_r2_q17679_0, h_r2_q17679_1, -⟩ := h_r2_q17679
  refine wq_xb (tt_fX11_need hN r2_q17679) (by decide) (fun r3_q17680 h_r3_q17680 => ?_)
  obtain ⟨h_r3_q17680_0, -⟩ := h_r3_q17680
  have b_17681 := i32b x4
  refine wq_b (tt_fX11_isSpan hN x3 x4 ⟨by omega, by omega⟩) (fun r4_q17682 h_r4_q17682 => ?_)
  obtain ⟨h_r4_q17682_0, h_r4_q17682_1, -⟩ := h_r4_q17682
  refine wq_xb (tt_fX11_allow hN r4_q17682) (by decide) (fun r5_q17683 h_r5_q17683 => ?_)
  obtain ⟨h_r5_q17683_0, -⟩ := h_r5_q17683
  refine wq_ok ?_
  have l_0 := il_0
  exact tt_fX11_mixed_L29 hN I0 M0 x1 x2 x3 x4 r1_q17675 ⟨by omega, by omega⟩ ⟨by omega, by omega⟩ ⟨by omega, by omega⟩ ⟨by omega, by omega⟩ ⟨by omega, by omega⟩ k_I0 N (0 : Int32) (0 : Int32) ⟨by omega, by omega⟩ (by omega)
set_option maxHeartbeats 4000000 in
theorem tt_fX11_isClimate {N : Nat} (hN : 3000000000 ≤ N) (I0 : Nat → Int32) (M0 : Nat → Nat → Int32) (x1 : Int32) (k_I0 : KX11 I0 M0) : wq (fX11_isClimate N I0 M0 x1) (fun r => (r.toInt = 0 ∨ (r.toInt = 1 ∧ 0 ≤ x1.toInt ∧ x1.toInt ≤ 6 ∧ x1.toInt < (I0 9).toInt)) ∧ (0 ≤ r.toInt ∧ r.toInt ≤ 1) ∧ True) := by
  unfold fX11_isClimate
  have b_17708 := i32b x1
  have l_0 := il_0
  have t_17709 := KX11.i9 k_I0
  have l_1 := il_1
  have t_17710 := ia_sub (I0 9) (1 : Int32) (by omega) (by omega)
  refine wq_b (tt_fX11_within hN x1 (0 : Int32) ((I0 9) - (1 : Int32))) (fun r1_q17711 h_r1_q17711 => ?_)
  obtain ⟨h_r1_q17711_0, h_r1_q17711_1, -⟩ := h_r1_q17711
  refine wq_bz (by omega) ?_
  exact wq_s ⟨(show (r1_q17711.toInt = 0 ∨ (r1_q17711.toInt = 1 ∧ 0 ≤ x1.toInt ∧ x1.toInt ≤ 6 ∧ x1.toInt < (I0 9).toInt)) from by omega), (show 0 ≤ r1_q17711.toInt ∧ r1_q17711.toInt ≤ 1 from ⟨by omega, by omega⟩), trivial⟩
set_option maxHeartbeats 4000000 in
theorem tt_fX11_climb {N : Nat} (hN : 3000000000 ≤ N) (I0 : Nat → Int32) (M0 : Nat → Nat → Int32) (x1 : Int32) (x2 : Int32) (k_I0 : KX11 I0 M0) : wq (fX11_climb N I0 M0 x1 x2) (qS 1 (fun r => True)) := by
  unfold fX11_climb
  have b_17790 := i32b x1
  refine wq_b (tt_fX11_isClimate hN I0 M0 x1 k_I0) (fun r3_q17791 h_r3_q17791 => ?_)
  obtain ⟨h_r3_q17791_0, h_r3_q17791_1, -⟩ := h_r3_q17791
  have l_0 := il_0
  refine wq_eq (fun hc_17792 => ?_) (fun hc_17793 => ?_)
  · unfold fX11_climb_J23
    unfold fX11_climb_J24
    exact wq_xb (tt_fX11_need0 N) (by decide) (fun _ h => absurd h id)
  · have b_17795 := i32b x2
    have l_21599 := il_21599
    refine wq_b (tt_fX11_within hN x2 (0 : Int32) (21599 : Int32)) (fun r4_q17796 h_r4_q17796 => ?_)
    obtain ⟨h_r4_q17796_0, h_r4_q17796_1, -⟩ := h_r4_q17796
    refine wq_eq (fun hc_17797 => ?_) (fun hc_17798 => ?_)
    · unfold fX11_climb_J23
      unfold fX11_climb_J24
      exact wq_xb (tt_fX11_need0 N) (by decide) (fun _ h => absurd h id)
    · unfold fX11_climb_J24
      have l_1 := il_1
      refine wq_xb (tt_fX11_need hN (1 : Int32)) (by decide) (fun r1_q17800 h_r1_q17800 => ?_)
      obtain ⟨h_r1_q17800_0, -⟩ := h_r1_q17800
      refine wq_ok ?_
      refine wq_b (tt_fX2_climbOf hN (wb_sh I0 9) (wb_sh M0 5) x1 x2 ⟨by omega, by omega⟩ ⟨by omega, by omega⟩ (KX11.s_X2_9_5 k_I0)) (fun r2_q17801 h_r2_q17801 => ?_)
      obtain ⟨-⟩ := h_r2_q17801
      have b_17802 := i32b r2_q17801
      exact wq_s trivial
set_option maxHeartbeats 4000000 in
theorem tt_fX11_rise {N : Nat} (hN : 3000000000 ≤ N) (I0 : Nat → Int32) (M0 : Nat → Nat → Int32) (x1 : Int32) (x2 : Int32) (x3 : Int32) (k_I0 : KX11 I0 M0) : wq (fX11_rise N I0 M0 x1 x2 x3) (qS 1 (fun r => True)) := by
  unfold fX11_rise
  have b_17911 := i32b x1
  refine wq_b (tt_fX11_isClimate hN I0 M0 x1 k_I0) (fun r3_q17912 h_r3_q17912 => ?_)
  obtain ⟨h_r3_q17912_0, h_r3_q17912_1, -⟩ := h_r3_q17912
  have l_0 := il_0
  refine wq_eq (fun hc_17913 => ?_) (fun hc_17914 => ?_)
  · unfold fX11_rise_J34
    unfold fX11_rise_J35
    exact wq_xb (tt_fX11_need0 N) (by decide) (fun _ h => absurd h id)
  · have b_17916 := i32b x2
    have l_21599 := il_21599
    refine wq_b (tt_fX11_within hN x2 (0 : Int32) (21599 : Int32)) (fun r4_q17917 h_r4_q17917 => ?_)
    obtain ⟨h_r4_q17917_0, h_r4_q17917_1, -⟩ := h_r4_q17917
    refine wq_eq (fun hc_17918 => ?_) (fun hc_17919 => ?_)
    · unfold fX11_rise_J34
      unfold fX11_rise_J35
      exact wq_xb (tt_fX11_need0 N) (by decide) (fun _ h => absurd h id)
    · have b_17921 := i32b x3
      have l_359 := il_359
      refine wq_b (tt_fX11_within hN x3 (0 : Int32) (359 : Int32)) (fun r5_q17922 h_r5_q17922 => ?_)
      obtain ⟨h_r5_q17922_0, h_r5_q17922_1, -⟩ := h_r5_q17922
      refine wq_eq (fun hc_17923 => ?_) (fun hc_17924 => ?_)
      · unfold fX11_rise_J34
        unfold fX11_rise_J35
        exact wq_xb (tt_fX11_need0 N) (by decide) (fun _ h => absurd h id)
      · unfold fX11_rise_J35
        have l_1 := il_1
        refine wq_xb (tt_fX11_need hN (1 : Int32)) (by decide) (fun r1_q17926 h_r1_q17926 => ?_)
        obtain ⟨h_r1_q17926_0, -⟩ := h_r1_q17926
        refine wq_ok ?_
        refine wq_b (tt_fX2_risingAt hN (wb_sh I0 9) (wb_sh M0 5) x1 x2 x3 ⟨by omega, by omega⟩ ⟨by omega, by omega⟩ ⟨by omega, by omega⟩ (KX11.s_X2_9_5 k_I0)) (fun r2_q17927 h_r2_q17927 => ?_)
        obtain ⟨-⟩ := h_r2_q17927
        have b_17928 := i32b r2_q17927
        exact wq_s trivial
set_option maxHeartbeats 4000000 in
theorem tt_fX11_middle {N : Nat} (hN : 3000000000 ≤ N) (I0 : Nat → Int32) (M0 : Nat → Nat → Int32) (x1 : Int32) (x2 : Int32) (k_I0 : KX11 I0 M0) : wq (fX11_middle N I0 M0 x1 x2) (qS 1 (fun r => True)) := by
  unfold fX11_middle
  have b_18007 := i32b x1
  refine wq_b (tt_fX11_isClimate hN I0 M0 x1 k_I0) (fun r3_q18008 h_r3_q18008 => ?_)
  obtain ⟨h_r3_q18008_0, h_r3_q18008_1, -⟩ := h_r3_q18008
  have l_0 := il_0
  refine wq_eq (fun hc_18009 => ?_) (fun hc_18010 => ?_)
  · unfold fX11_middle_J23
    unfold fX11_middle_J24
    exact wq_xb (tt_fX11_need0 N) (by decide) (fun _ h => absurd h id)
  · have b_18012 := i32b x2
    have l_21599 := il_21599
    refine wq_b (tt_fX11_within hN x2 (0 : Int32) (21599 : Int32)) (fun r4_q18013 h_r4_q18013 => ?_)
    obtain ⟨h_r4_q18013_0, h_r4_q18013_1, -⟩ := h_r4_q18013
    refine wq_eq (fun hc_18014 => ?_) (fun hc_18015 => ?_)
    · unfold fX11_middle_J23
      unfold fX11_middle_J24
      exact wq_xb (tt_fX11_need0 N) (by decide) (fun _ h => absurd h id)
    · unfold fX11_middle_J24
      have l_1 := il_1
      refine wq_xb (tt_fX11_need hN (1 : Int32)) (by decide) (fun r1_q18017 h_r1_q18017 => ?_)
      obtain ⟨h_r1_q18017_0, -⟩ := h_r1_q18017
      refine wq_ok ?_
      refine wq_b (tt_fX2_middleOf hN (wb_sh I0 9) (wb_sh M0 5) x1 x2 ⟨by omega, by omega⟩ ⟨by omega, by omega⟩ (KX11.s_X2_9_5 k_I0)) (fun r2_q18018 h_r2_q18018 => ?_)
      obtain ⟨-⟩ := h_r2_q18018
      have b_18019 := i32b r2_q18018
      exact wq_s trivial
set_option maxHeartbeats 4000000 in
theorem tt_fX11_hour {N : Nat} (hN : 3000000000 ≤ N) (I0 : Nat → Int32) (M0 : Nat → Nat → Int32) (x1 : Int32) (x2 : Int32) (x3 : Int32) (k_I0 : KX11 I0 M0) : wq (fX11_hour N I0 M0 x1 x2 x3) (qS 1 (fun r => True)) := by
  unfold fX11_hour
  have b_18279 := i32b x1
  have b_18280 := i32b x2
  refine wq_xb (tt_fX11_numberOf hN x1 x2) (by decide) (fun r5_q18278 h_r5_q18278 => ?_)
  obtain ⟨h_r5_q18278_0, h_r5_q18278_1, -⟩ := h_r5_q18278
  have l_0 := il_0
  refine wq_b (tt_fX1_degreeOf hN (wb_sh I0 13) (wb_sh M0 13) r5_q18278 (0 : Int32) ⟨by omega, by omega⟩ ⟨by omega, by omega⟩ (KX11.s_X1_13_13 k_I0)) (fun r6_q18281 h_r6_q18281 => ?_)
  obtain ⟨h_r6_q18281_0, h_r6_q18281_1, -⟩ := h_r6_q18281
  have l_7 := il_7
  refine wq_b (tt_fX1_degreeOf hN (wb_sh I0 13) (wb_sh M0 13) r5_q18278 (7 : Int32) ⟨by omega, by omega⟩ ⟨by omega, by omega⟩ (KX11.s_X1_13_13 k_I0)) (fun r7_q18282 h_r7_q18282 => ?_)
  obtain ⟨h_r7_q18282_0, h_r7_q18282_1, -⟩ := h_r7_q18282
  have l_m1 := il_m1
  refine wq_eq (fun hc_18283 => ?_) (fun hc_18284 => ?_)
  · unfold fX11_hour_J48
    unfold fX11_hour_J49
    have b_18285 := i32b x3
    refine wq_eq (fun hc_18286 => ?_) (fun hc_18287 => ?_)
    · refine wq_ok ?_
      refine wq_eq (fun hc_18288 => ?_) (fun hc_18289 => ?_)
      · exact wq_s trivial
      · exfalso; omega
    · refine wq_eq (fun hc_18290 => ?_) (fun hc_18291 => ?_)
      · unfold fX11_hour_J104
        refine wq_eq (fun hc_18292 => ?_) (fun hc_18293 => ?_)
        · exact wq_xb (tt_fX11_need0 N) (by decide) (fun _ h => absurd h id)
        · exfalso; omega
      · exfalso; omega
  · refine wq_eq (fun hc_18295 => ?_) (fun hc_18296 => ?_)
    · unfold fX11_hour_J48
      unfold fX11_hour_J49
      have b_18297 := i32b x3
      refine wq_eq (fun hc_18298 => ?_) (fun hc_18299 => ?_)
      · refine wq_ok ?_
        refine wq_eq (fun hc_18300 => ?_) (fun hc_18301 => ?_)
        · exact wq_s trivial
        · exfalso; omega
      · refine wq_eq (fun hc_18302 => ?_) (fun hc_18303 => ?_)
        · unfold fX11_hour_J104
          refine wq_eq (fun hc_18304 => ?_) (fun hc_18305 => ?_)
          · exact wq_xb (tt_fX11_need0 N) (by decide) (fun _ h => absurd h id)
          · exfalso; omega
        · exfalso; omega
    · unfold fX11_hour_J49
      have b_18307 := i32b x3
      refine wq_eq (fun hc_18308 => ?_) (fun hc_18309 => ?_)
      · refine wq_ok ?_
        have l_1 := il_1
        refine wq_eq (fun hc_18310 => ?_) (fun hc_18311 => ?_)
        · exfalso; omega
        · refine wq_b (tt_fX2_howManyHours hN (wb_sh I0 9) (wb_sh M0 5) r6_q18281 r7_q18282 ⟨by omega, by omega⟩ (KX11.s_X2_9_5 k_I0)) (fun r4_q18312 h_r4_q18312 => ?_)
          obtain ⟨-⟩ := h_r4_q18312
          have b_18313 := i32b r4_q18312
          exact wq_s trivial
      · have l_1 := il_1
        refine wq_eq (fun hc_18314 => ?_) (fun hc_18315 => ?_)
        · exfalso; omega
        · refine wq_b (tt_fX2_nthHour hN (wb_sh I0 9) (wb_sh M0 5) r6_q18281 r7_q18282 x3 ⟨by omega, by omega⟩ (KX11.s_X2_9_5 k_I0)) (fun r3_q18316 h_r3_q18316 => ?_)
          obtain ⟨h_r3_q18316_0, -⟩ := h_r3_q18316
          unfold fX11_hour_J104
          refine wq_eq (fun hc_18317 => ?_) (fun hc_18318 => ?_)
          · exact wq_xb (tt_fX11_need0 N) (by decide) (fun _ h => absurd h id)
          · refine wq_xb (tt_fX11_need hN (1 : Int32)) (by decide) (fun r2_q18320 h_r2_q18320 => ?_)
            obtain ⟨h_r2_q18320_0, -⟩ := h_r2_q18320
            refine wq_ok ?_
            exact wq_s trivial
set_option maxHeartbeats 4000000 in
theorem tt_fX11_isWay {N : Nat} (hN : 3000000000 ≤ N) (I0 : Nat → Int32) (M0 : Nat → Nat → Int32) (x1 : Int32) (x2 : Int32) (k_I0 : KX11 I0 M0) : wq (fX11_isWay N I0 M0 x1 x2) (fun r => (r.toInt = 0 ∨ (r.toInt = 1 ∧ ((0 ≤ x1.toInt ∧ x1.toInt ≤ 1) ∨ (x1.toInt = 2 ∧ 0 ≤ x2.toInt ∧ x2.toInt ≤ 6 ∧ x2.toInt < (I0 9).toInt)))) ∧ (0 ≤ r.toInt ∧ r.toInt ≤ 1) ∧ True) := by
  unfold fX11_isWay
  have b_18381 := i32b x1
  have l_0 := il_0
  have l_1 := il_1
  refine wq_b (tt_fX11_within hN x1 (0 : Int32) (1 : Int32)) (fun r1_q18382 h_r1_q18382 => ?_)
  obtain ⟨h_r1_q18382_0, h_r1_q18382_1, -⟩ := h_r1_q18382
  refine wq_eq (fun hc_18383 => ?_) (fun hc_18384 => ?_)
  · have l_2 := il_2
    refine wq_eq (fun hc_18385 => ?_) (fun hc_18386 => ?_)
    · have b_18387 := i32b x2
      refine wq_b (tt_fX11_isClimate hN I0 M0 x2 k_I0) (fun r2_q18388 h_r2_q18388 => ?_)
      obtain ⟨h_r2_q18388_0, h_r2_q18388_1, -⟩ := h_r2_q18388
      refine wq_eq (fun hc_18389 => ?_) (fun hc_18390 => ?_)
      · exact wq_s ⟨(show ((0 : Int32).toInt = 0 ∨ ((0 : Int32).toInt = 1 ∧ ((0 ≤ x1.toInt ∧ x1.toInt ≤ 1) ∨ (x1.toInt = 2 ∧ 0 ≤ x2.toInt ∧ x2.toInt ≤ 6 ∧ x2.toInt < (I0 9).toInt)))) from by omega), (show 0 ≤ (0 : Int32).toInt ∧ (0 : Int32).toInt ≤ 1 from ⟨by omega, by omega⟩), trivial⟩
      · exact wq_s ⟨(show ((1 : Int32).toInt = 0 ∨ ((1 : Int32).toInt = 1 ∧ ((0 ≤ x1.toInt ∧ x1.toInt ≤ 1) ∨ (x1.toInt = 2 ∧ 0 ≤ x2.toInt ∧ x2.toInt ≤ 6 ∧ x2.toInt < (I0 9).toInt)))) from by omega), (show 0 ≤ (1 : Int32).toInt ∧ (1 : Int32).toInt ≤ 1 from ⟨by omega, by omega⟩), trivial⟩
    · have b_18391 := i32b x2
      exact wq_s ⟨(show ((0 : Int32).toInt = 0 ∨ ((0 : Int32).toInt = 1 ∧ ((0 ≤ x1.toInt ∧ x1.toInt ≤ 1) ∨ (x1.toInt = 2 ∧ 0 ≤ x2.toInt ∧ x2.toInt ≤ 6 ∧ x2.toInt < (I0 9).toInt)))) from by omega), (show 0 ≤ (0 : Int32).toInt ∧ (0 : Int32).toInt ≤ 1 from ⟨by omega, by omega⟩), trivial⟩
  · have b_18392 := i32b x2
    exact wq_s ⟨(show ((1 : Int32).toInt = 0 ∨ ((1 : Int32).toInt = 1 ∧ ((0 ≤ x1.toInt ∧ x1.toInt ≤ 1) ∨ (x1.toInt = 2 ∧ 0 ≤ x2.toInt ∧ x2.toInt ≤ 6 ∧ x2.toInt < (I0 9).toInt)))) from by omega), (show 0 ≤ (1 : Int32).toInt ∧ (1 : Int32).toInt ≤ 1 from ⟨by omega, by omega⟩), trivial⟩
set_option maxHeartbeats 4000000 in
theorem tt_fX11_houseOf {N : Nat} (hN : 3000000000 ≤ N) (I0 : Nat → Int32) (M0 : Nat → Nat → Int32) (x1 : Int32) (x2 : Int32) (x3 : Int32) (x4 : Int32) (k_I0 : KX11 I0 M0) : wq (fX11_houseOf N I0 M0 x1 x2 x3 x4) (qS 1 (fun r => True)) := by
  unfold fX11_houseOf
  have b_18507 := i32b x1
  have l_0 := il_0
  have l_359 := il_359
  refine wq_b (tt_fX11_within hN x1 (0 : Int32) (359 : Int32)) (fun r3_q18508 h_r3_q18508 => ?_)
  obtain ⟨h_r3_q18508_0, h_r3_q18508_1, -⟩ := h_r3_q18508
  refine wq_eq (fun hc_18509 => ?_) (fun hc_18510 => ?_)
  · unfold fX11_houseOf_J35
    unfold fX11_houseOf_J36
    exact wq_xb (tt_fX11_need0 N) (by decide) (fun _ h => absurd h id)
  · have b_18512 := i32b x2
    have b_18513 := i32b x3
    refine wq_b (tt_fX11_isWay hN I0 M0 x2 x3 k_I0) (fun r4_q18514 h_r4_q18514 => ?_)
    obtain ⟨h_r4_q18514_0, h_r4_q18514_1, -⟩ := h_r4_q18514
    refine wq_eq (fun hc_18515 => ?_) (fun hc_18516 => ?_)
    · unfold fX11_houseOf_J35
      unfold fX11_houseOf_J36
      exact wq_xb (tt_fX11_need0 N) (by decide) (fun _ h => absurd h id)
    · have b_18518 := i32b x4
      have l_1 := il_1
      have l_12 := il_12
      refine wq_b (tt_fX11_within hN x4 (1 : Int32) (12 : Int32)) (fun r5_q18519 h_r5_q18519 => ?_)
      obtain ⟨h_r5_q18519_0, h_r5_q18519_1, -⟩ := h_r5_q18519
      refine wq_eq (fun hc_18520 => ?_) (fun hc_18521 => ?_)
      · unfold fX11_houseOf_J35
        unfold fX11_houseOf_J36
        exact wq_xb (tt_fX11_need0 N) (by decide) (fun _ h => absurd h id)
      · unfold fX11_houseOf_J36
        refine wq_xb (tt_fX11_need hN (1 : Int32)) (by decide) (fun r1_q18523 h_r1_q18523 => ?_)
        obtain ⟨h_r1_q18523_0, -⟩ := h_r1_q18523
        refine wq_ok ?_
        refine wq_b (tt_fX2_houseDegree hN (wb_sh I0 9) (wb_sh M0 5) x1 x2 x3 x4 ⟨by omega, by omega⟩ ⟨by omega, by omega⟩ (KX11.s_X2_9_5 k_I0) (by omega)) (fun r2_q18524 h_r2_q18524 => ?_)
        obtain ⟨-⟩ := h_r2_q18524
        have b_18525 := i32b r2_q18524
        exact wq_s trivial
set_option maxHeartbeats 4000000 in
theorem tt_fX11_agree {N : Nat} (hN : 3000000000 ≤ N) (I0 : Nat → Int32) (M0 : Nat → Nat → Int32) (x1 : Int32) (x2 : Int32) (x3 : Int32) (x4 : Int32) (k_I0 : KX11 I0 M0) : wq (fX11_agree N I0 M0 x1 x2 x3 x4) (qS 1 (fun r => True)) := by
  unfold fX11_agree
  have b_18611 := i32b x1
  have b_18612 := i32b x2
  refine wq_xb (tt_fX11_numberOf hN x1 x2) (by decide) (fun r1_q18610 h_r1_q18610 => ?_)
  obtain ⟨h_r1_q18610_0, h_r1_q18610_1, -⟩ := h_r1_q18610
  have b_18613 := i32b x3
  have b_18614 := i32b x4
  refine wq_b (tt_fX11_isWay hN I0 M0 x3 x4 k_I0) (fun r2_q18615 h_r2_q18615 => ?_)
  obtain ⟨h_r2_q18615_0, h_r2_q18615_1, -⟩ := h_r2_q18615
  refine wq_xb (tt_fX11_need hN r2_q18615) (by decide) (fun r3_q18616 h_r3_q18616 => ?_)
  obtain ⟨h_r3_q18616_0, -⟩ := h_r3_q18616
  refine wq_ok ?_
  have l_7 := il_7
  refine wq_b (tt_fX1_degreeOf hN (wb_sh I0 13) (wb_sh M0 13) r1_q18610 (7 : Int32) ⟨by omega, by omega⟩ ⟨by omega, by omega⟩ (KX11.s_X1_13_13 k_I0)) (fun r4_q18617 h_r4_q18617 => ?_)
  obtain ⟨h_r4_q18617_0, h_r4_q18617_1, -⟩ := h_r4_q18617
  have l_m1 := il_m1
  refine wq_eq (fun hc_18618 => ?_) (fun hc_18619 => ?_)
  · exact wq_s trivial
  · refine wq_b (tt_fX1_howManyHouses hN (wb_sh I0 13) (wb_sh M0 13) r1_q18610 ⟨by omega, by omega⟩ (KX11.s_X1_13_13 k_I0)) (fun r5_q18620 h_r5_q18620 => ?_)
    obtain ⟨-⟩ := h_r5_q18620
    refine wq_b (tt_fX1_howManyDiffer hN (wb_sh I0 13) (wb_sh M0 13) (wb_sh I0 9) (wb_sh M0 5) r1_q18610 x3 x4 ⟨by omega, by omega⟩ (KX11.s_X1_13_13 k_I0) (KX11.s_X2_9_5 k_I0) (by omega)) (fun r6_q18621 h_r6_q18621 => ?_)
    obtain ⟨-⟩ := h_r6_q18621
    have b_18622 := i32b r5_q18620
    have b_18623 := i32b r6_q18621
    exact wq_s trivial
set_option maxHeartbeats 4000000 in
theorem tt_fX11_lot {N : Nat} (hN : 3000000000 ≤ N) (I0 : Nat → Int32) (M0 : Nat → Nat → Int32) (x1 : Int32) (x2 : Int32) (x3 : Int32) (k_I0 : KX11 I0 M0) : wq (fX11_lot N I0 M0 x1 x2 x3) (qS 1 (fun r => True)) := by
  unfold fX11_lot
  have b_18727 := i32b x1
  have b_18728 := i32b x2
  refine wq_xb (tt_fX11_numberOf hN x1 x2) (by decide) (fun r1_q18726 h_r1_q18726 => ?_)
  obtain ⟨h_r1_q18726_0, h_r1_q18726_1, -⟩ := h_r1_q18726
  have b_18729 := i32b x3
  have l_0 := il_0
  have l_1 := il_1
  refine wq_b (tt_fX11_within hN x3 (0 : Int32) (1 : Int32)) (fun r2_q18730 h_r2_q18730 => ?_)
  obtain ⟨h_r2_q18730_0, h_r2_q18730_1, -⟩ := h_r2_q18730
  refine wq_xb (tt_fX11_need hN r2_q18730) (by decide) (fun r3_q18731 h_r3_q18731 => ?_)
  obtain ⟨h_r3_q18731_0, -⟩ := h_r3_q18731
  refine wq_ok ?_
  refine wq_b (tt_fX1_lotOf hN (wb_sh I0 13) (wb_sh M0 13) r1_q18726 ⟨by omega, by omega⟩ (KX11.s_X1_13_13 k_I0)) (fun r4_q18732 h_r4_q18732 => ?_)
  obtain ⟨-⟩ := h_r4_q18732
  refine wq_eq (fun hc_18733 => ?_) (fun hc_18734 => ?_)
  · have b_18735 := i32b r4_q18732
    exact wq_s trivial
  · have b_18736 := i32b r4_q18732
    have l_m1 := il_m1
    refine wq_eq (fun hc_18737 => ?_) (fun hc_18738 => ?_)
    · exact wq_s trivial
    · have l_8 := il_8
      refine wq_b (tt_fX1_degreeOf hN (wb_sh I0 13) (wb_sh M0 13) r1_q18726 (8 : Int32) ⟨by omega, by omega⟩ ⟨by omega, by omega⟩ (KX11.s_X1_13_13 k_I0)) (fun r5_q18739 h_r5_q18739 => ?_)
      obtain ⟨h_r5_q18739_0, h_r5_q18739_1, -⟩ := h_r5_q18739
      refine wq_eq (fun hc_18740 => ?_) (fun hc_18741 => ?_)
      · exact wq_s trivial
      · refine wq_b (tt_fX4_costBeside hN (wb_sh I0 10) (wb_sh M0 6) r5_q18739 r4_q18732 ⟨by omega, by omega⟩) (fun r6_q18742 h_r6_q18742 => ?_)
        obtain ⟨h_r6_q18742_0, -⟩ := h_r6_q18742
        exact wq_s trivial
set_option maxHeartbeats 4000000 in
theorem tt_fX11_price {N : Nat} (hN : 3000000000 ≤ N) (I0 : Nat → Int32) (M0 : Nat → Nat → Int32) (x1 : Int32) (x2 : Int32) (k_I0 : KX11 I0 M0) : wq (fX11_price N I0 M0 x1 x2) (qS 1 (fun r => True)) := by
  unfold fX11_price
  have b_18821 := i32b x1
  refine wq_b (tt_fX11_isBook hN x1) (fun r3_q18822 h_r3_q18822 => ?_)
  obtain ⟨h_r3_q18822_0, h_r3_q18822_1, -⟩ := h_r3_q18822
  have l_0 := il_0
  refine wq_eq (fun hc_18823 => ?_) (fun hc_18824 => ?_)
  · unfold fX11_price_J18
    unfold fX11_price_J19
    exact wq_xb (tt_fX11_need0 N) (by decide) (fun _ h => absurd h id)
  · have b_18826 := i32b x2
    refine wq_b (tt_fX11_isBook hN x2) (fun r4_q18827 h_r4_q18827 => ?_)
    obtain ⟨h_r4_q18827_0, h_r4_q18827_1, -⟩ := h_r4_q18827
    refine wq_eq (fun hc_18828 => ?_) (fun hc_18829 => ?_)
    · unfold fX11_price_J18
      unfold fX11_price_J19
      exact wq_xb (tt_fX11_need0 N) (by decide) (fun _ h => absurd h id)
    · unfold fX11_price_J19
      have l_1 := il_1
      refine wq_xb (tt_fX11_need hN (1 : Int32)) (by decide) (fun r1_q18831 h_r1_q18831 => ?_)
      obtain ⟨h_r1_q18831_0, -⟩ := h_r1_q18831
      refine wq_ok ?_
      refine wq_b (tt_fX10_priceOf hN (wb_sh I0 10) (wb_sh M0 6) (wb_sh I0 13) (wb_sh M0 13) x1 x2 ⟨by omega, by omega⟩ ⟨by omega, by omega⟩ (KX11.s_X1_13_13 k_I0)) (fun r2_q18832 h_r2_q18832 => ?_)
      obtain ⟨-⟩ := h_r2_q18832
      have b_18833 := i32b r2_q18832
      exact wq_s trivial
set_option maxHeartbeats 4000000 in
theorem tt_fX11_seek {N : Nat} (hN : 3000000000 ≤ N) (I0 : Nat → Int32) (M0 : Nat → Nat → Int32) (x1 : Int32) (x2 : Int32) (x3 : Int32) (x4 : Int32) (k_I0 : KX11 I0 M0) : wq (fX11_seek N I0 M0 x1 x2 x3 x4) (qS 1 (fun r => KX11 r.1 r.2 ∧ True)) := by
  unfold fX11_seek
  have b_18920 := i32b x1
  have b_18921 := i32b x2
  refine wq_xb (tt_fX11_numberOf hN x1 x2) (by decide) (fun r5_q18919 h_r5_q18919 => ?_)
  obtain ⟨h_r5_q18919_0, h_r5_q18919_1, -⟩ := h_r5_q18919
  have b_18922 := i32b x3
  have l_0 := il_0
  have l_3 := il_3
  refine wq_b (tt_fX11_within hN x3 (0 : Int32) (3 : Int32)) (fun r6_q18923 h_r6_q18923 => ?_)
  obtain ⟨h_r6_q18923_0, h_r6_q18923_1, -⟩ := h_r6_q18923
  refine wq_eq (fun hc_18924 => ?_) (fun hc_18925 => ?_)
  · unfold fX11_seek_J28
    unfold fX11_seek_J29
    exact wq_xb (tt_fX11_need0 N) (by decide) (fun _ h => absurd h id)
  · have b_18927 := i32b x4
    refine wq_b (tt_fX11_isDay hN x4) (fun r7_q18928 h_r7_q18928 => ?_)
    obtain ⟨h_r7_q18928_0, h_r7_q18928_1, -⟩ := h_r7_q18928
    refine wq_eq (fun hc_18929 => ?_) (fun hc_18930 => ?_)
    · unfold fX11_seek_J28
      unfold fX11_seek_J29
      exact wq_xb (tt_fX11_need0 N) (by decide) (fun _ h => absurd h id)
    · unfold fX11_seek_J29
      have l_1 := il_1
      refine wq_xb (tt_fX11_need hN (1 : Int32)) (by decide) (fun r1_q18932 h_r1_q18932 => ?_)
      obtain ⟨h_r1_q18932_0, -⟩ := h_r1_q18932
      refine wq_ok ?_
      refine wq_b (tt_fX8_begin hN (wb_sh I0 27) (wb_sh M0 18) r5_q18919 x3 x4 ⟨by omega, by omega⟩ ⟨by omega, by omega⟩ ⟨by omega, by omega⟩ (KX11.s_X8_27_18 k_I0)) (fun r2_q18933 h_r2_q18933 => ?_)
      obtain ⟨h_r2_q18933_0, -⟩ := h_r2_q18933
      refine wq_v (fun I0_3_q18934 h_I0_3_q18934 => ?_)
      refine wq_v (fun M0_4_q18935 h_M0_4_q18935 => ?_)
      have k_M0_4_q18935 : KX11 I0_3_q18934 M0_4_q18935 := by rw [h_I0_3_q18934, h_M0_4_q18935]; exact KX11.p_X8_27_18 k_I0 h_r2_q18933_0
      exact wq_s ⟨k_M0_4_q18935, trivial⟩
set_option maxHeartbeats 4000000 in
theorem tt_fX11_on {N : Nat} (hN : 3000000000 ≤ N) (I0 : Nat → Int32) (M0 : Nat → Nat → Int32) (x1 : Int32) (k_I0 : KX11 I0 M0) : wq (fX11_on N I0 M0 x1) (qS 3 (fun r => KX11 r.2.1 r.2.2 ∧ True)) := by
  unfold fX11_on
  have t_18991 := KX11.i27 k_I0
  refine wq_xb (tt_fX11_need hN (I0 27)) (by decide) (fun r1_q18990 h_r1_q18990 => ?_)
  obtain ⟨h_r1_q18990_0, -⟩ := h_r1_q18990
  have b_18992 := i32b x1
  have l_0 := il_0
  have l_50000 := il_50000
  refine wq_b (tt_fX11_within hN x1 (0 : Int32) (50000 : Int32)) (fun r2_q18993 h_r2_q18993 => ?_)
  obtain ⟨h_r2_q18993_0, h_r2_q18993_1, -⟩ := h_r2_q18993
  refine wq_xb (tt_fX11_allow hN r2_q18993) (by decide) (fun r3_q18994 h_r3_q18994 => ?_)
  obtain ⟨h_r3_q18994_0, -⟩ := h_r3_q18994
  refine wq_ok ?_
  refine wq_b (tt_fX8_goOn hN (wb_sh I0 27) (wb_sh M0 18) (wb_sh I0 9) (wb_sh M0 1) (wb_sh I0 13) (wb_sh M0 13) x1 (KX11.s_X8_27_18 k_I0) (KX11.s_X5_9_1 k_I0) (KX11.s_X1_13_13 k_I0)) (fun r4_q18995 h_r4_q18995 => ?_)
  obtain ⟨h_r4_q18995_0, -⟩ := h_r4_q18995
  refine wq_v (fun I0_5_q18996 h_I0_5_q18996 => ?_)
  refine wq_v (fun M0_6_q18997 h_M0_6_q18997 => ?_)
  have k_M0_6_q18997 : KX11 I0_5_q18996 M0_6_q18997 := by rw [h_I0_5_q18996, h_M0_6_q18997]; exact KX11.p_X8_27_18 k_I0 h_r4_q18995_0
  have b_18998 := i32b r4_q18995.1
  exact wq_s ⟨k_M0_6_q18997, trivial⟩
set_option maxHeartbeats 4000000 in
theorem tt_fX11_held {N : Nat} (hN : 3000000000 ≤ N) (I0 : Nat → Int32) (M0 : Nat → Nat → Int32) (x1 : Int32) (k_I0 : KX11 I0 M0) : wq (fX11_held N I0 M0 x1) (qS 1 (fun r => True)) := by
  unfold fX11_held
  have t_19269 := KX11.i27 k_I0
  have l_0 := il_0
  refine wq_eq (fun hc_19270 => ?_) (fun hc_19271 => ?_)
  · unfold fX11_held_J23
    unfold fX11_held_J24
    exact wq_xb (tt_fX11_need0 N) (by decide) (fun _ h => absurd h id)
  · have b_19273 := i32b x1
    have l_4 := il_4
    refine wq_b (tt_fX11_within hN x1 (0 : Int32) (4 : Int32)) (fun r3_q19274 h_r3_q19274 => ?_)
    obtain ⟨h_r3_q19274_0, h_r3_q19274_1, -⟩ := h_r3_q19274
    refine wq_eq (fun hc_19275 => ?_) (fun hc_19276 => ?_)
    · unfold fX11_held_J23
      unfold fX11_held_J24
      exact wq_xb (tt_fX11_need0 N) (by decide) (fun _ h => absurd h id)
    · unfold fX11_held_J24
      have l_1 := il_1
      refine wq_xb (tt_fX11_need hN (1 : Int32)) (by decide) (fun r2_q19278 h_r2_q19278 => ?_)
      obtain ⟨h_r2_q19278_0, -⟩ := h_r2_q19278
      refine wq_ok ?_
      have t_19279 := KX11.i32 k_I0
      refine wq_eq (fun hc_19280 => ?_) (fun hc_19281 => ?_)
      · unfold fX11_held_J42
        refine wq_eq (fun hc_19282 => ?_) (fun hc_19283 => ?_)
        · have t_19284 := KX11.i30 k_I0
          exact wq_s trivial
        · refine wq_eq (fun hc_19285 => ?_) (fun hc_19286 => ?_)
          · refine wq_eq (fun hc_19287 => ?_) (fun hc_19288 => ?_)
            · exfalso; omega
            · have l_m1 := il_m1
              exact wq_s trivial
          · have l_2 := il_2
            refine wq_eq (fun hc_19289 => ?_) (fun hc_19290 => ?_)
            · exact wq_s trivial
            · have l_3 := il_3
              refine wq_eq (fun hc_19291 => ?_) (fun hc_19292 => ?_)
              · refine wq_eq (fun hc_19293 => ?_) (fun hc_19294 => ?_)
                · exfalso; omega
                · have l_m1 := il_m1
                  exact wq_s trivial
              · refine wq_eq (fun hc_19295 => ?_) (fun hc_19296 => ?_)
                · exfalso; omega
                · have l_m1 := il_m1
                  exact wq_s trivial
      · unfold fX11_held_J42
        refine wq_eq (fun hc_19297 => ?_) (fun hc_19298 => ?_)
        · have t_19299 := KX11.i30 k_I0
          exact wq_s trivial
        · refine wq_eq (fun hc_19300 => ?_) (fun hc_19301 => ?_)
          · refine wq_eq (fun hc_19302 => ?_) (fun hc_19303 => ?_)
            · exact wq_s trivial
            · exfalso; omega
          · have l_2 := il_2
            refine wq_eq (fun hc_19304 => ?_) (fun hc_19305 => ?_)
            · exact wq_s trivial
            · have l_3 := il_3
              refine wq_eq (fun hc_19306 => ?_) (fun hc_19307 => ?_)
              · refine wq_eq (fun hc_19308 => ?_) (fun hc_19309 => ?_)
                · refine wq_b (tt_fX8_keptDay hN (wb_sh I0 27) (wb_sh M0 18) (0 : Int32) (KX11.s_X8_27_18 k_I0)) (fun r1_q19310 h_r1_q19310 => ?_)
                  obtain ⟨-⟩ := h_r1_q19310
                  have b_19311 := i32b r1_q19310
                  exact wq_s trivial
                · exfalso; omega
              · refine wq_eq (fun hc_19312 => ?_) (fun hc_19313 => ?_)
                · exact wq_s trivial
                · exfalso; omega
set_option maxHeartbeats 4000000 in
theorem tt_fX11_image {N : Nat} (hN : 3000000000 ≤ N) (I0 : Nat → Int32) (M0 : Nat → Nat → Int32) (k_I0 : KX11 I0 M0) : wq (fX11_image N I0 M0) (fun r => (0 ≤ r.1.toInt ∧ r.1.toInt ≤ 1) ∧ KX11 r.2.1 r.2.2 ∧ True) := by
  unfold fX11_image
  have t_19350 := KX11.i27 k_I0
  have l_0 := il_0
  refine wq_eq (fun hc_19351 => ?_) (fun hc_19352 => ?_)
  · exact wq_s ⟨(show 0 ≤ (0 : Int32).toInt ∧ (0 : Int32).toInt ≤ 1 from ⟨by omega, by omega⟩), k_I0, trivial⟩
  · refine wq_b (tt_fX8_copyFrom hN (wb_sh I0 34) (wb_sh M0 19) (wb_sh I0 27) (wb_sh M0 18) (KX11.s_X8_34_19 k_I0) (KX11.s_X8_27_18 k_I0)) (fun r1_q19353 h_r1_q19353 => ?_)
    obtain ⟨h_r1_q19353_0, -⟩ := h_r1_q19353
    refine wq_v (fun I0_2_q19354 h_I0_2_q19354 => ?_)
    refine wq_v (fun M0_3_q19355 h_M0_3_q19355 => ?_)
    have k_M0_3_q19355 : KX11 I0_2_q19354 M0_3_q19355 := by rw [h_I0_2_q19354, h_M0_3_q19355]; exact KX11.p_X8_34_19 k_I0 h_r1_q19353_0
    have l_1 := il_1
    exact wq_s ⟨(show 0 ≤ (1 : Int32).toInt ∧ (1 : Int32).toInt ≤ 1 from ⟨by omega, by omega⟩), k_M0_3_q19355, trivial⟩
set_option maxHeartbeats 4000000 in
theorem tt_fX11_restore {N : Nat} (hN : 3000000000 ≤ N) (I0 : Nat → Int32) (M0 : Nat → Nat → Int32) (k_I0 : KX11 I0 M0) : wq (fX11_restore N I0 M0) (fun r => (0 ≤ r.1.toInt ∧ r.1.toInt ≤ 1) ∧ KX11 r.2.1 r.2.2 ∧ True) := by
  unfold fX11_restore
  have t_19392 := KX11.i34 k_I0
  have l_0 := il_0
  refine wq_eq (fun hc_19393 => ?_) (fun hc_19394 => ?_)
  · exact wq_s ⟨(show 0 ≤ (0 : Int32).toInt ∧ (0 : Int32).toInt ≤ 1 from ⟨by omega, by omega⟩), k_I0, trivial⟩
  · refine wq_b (tt_fX8_copyFrom hN (wb_sh I0 27) (wb_sh M0 18) (wb_sh I0 34) (wb_sh M0 19) (KX11.s_X8_27_18 k_I0) (KX11.s_X8_34_19 k_I0)) (fun r1_q19395 h_r1_q19395 => ?_)
    obtain ⟨h_r1_q19395_0, -⟩ := h_r1_q19395
    refine wq_v (fun I0_2_q19396 h_I0_2_q19396 => ?_)
    refine wq_v (fun M0_3_q19397 h_M0_3_q19397 => ?_)
    have k_M0_3_q19397 : KX11 I0_2_q19396 M0_3_q19397 := by rw [h_I0_2_q19396, h_M0_3_q19397]; exact KX11.p_X8_27_18 k_I0 h_r1_q19395_0
    have l_1 := il_1
    exact wq_s ⟨(show 0 ≤ (1 : Int32).toInt ∧ (1 : Int32).toInt ≤ 1 from ⟨by omega, by omega⟩), k_M0_3_q19397, trivial⟩
set_option maxHeartbeats 4000000 in
theorem tt_fX11_misread {N : Nat} (hN : 3000000000 ≤ N) (I0 : Nat → Int32) (M0 : Nat → Nat → Int32) (x1 : Int32) (x2 : Int32) (x3 : Int32) (x4 : Int32) (x5 : Int32) (k_I0 : KX11 I0 M0) : wq (fX11_misread N I0 M0 x1 x2 x3 x4 x5) (qS 1 (fun r => (-1 ≤ r.toInt ∧ r.toInt ≤ 9) ∧ True)) := by
  unfold fX11_misread
  have b_19543 := i32b x1
  have b_19544 := i32b x2
  refine wq_xb (tt_fX11_numberOf hN x1 x2) (by decide) (fun r5_q19542 h_r5_q19542 => ?_)
  obtain ⟨h_r5_q19542_0, h_r5_q19542_1, -⟩ := h_r5_q19542
  have b_19545 := i32b x3
  have l_0 := il_0
  have l_3 := il_3
  refine wq_b (tt_fX11_within hN x3 (0 : Int32) (3 : Int32)) (fun r6_q19546 h_r6_q19546 => ?_)
  obtain ⟨h_r6_q19546_0, h_r6_q19546_1, -⟩ := h_r6_q19546
  refine wq_eq (fun hc_19547 => ?_) (fun hc_19548 => ?_)
  · unfold fX11_misread_J39
    unfold fX11_misread_J40
    exact wq_xb (tt_fX11_need0 N) (by decide) (fun _ h => absurd h id)
  · have b_19550 := i32b x4
    refine wq_b (tt_fX11_isDay hN x4) (fun r7_q19551 h_r7_q19551 => ?_)
    obtain ⟨h_r7_q19551_0, h_r7_q19551_1, -⟩ := h_r7_q19551
    refine wq_eq (fun hc_19552 => ?_) (fun hc_19553 => ?_)
    · unfold fX11_misread_J39
      unfold fX11_misread_J40
      exact wq_xb (tt_fX11_need0 N) (by decide) (fun _ h => absurd h id)
    · have b_19555 := i32b x5
      have l_6 := il_6
      refine wq_b (tt_fX11_within hN x5 (0 : Int32) (6 : Int32)) (fun r8_q19556 h_r8_q19556 => ?_)
      obtain ⟨h_r8_q19556_0, h_r8_q19556_1, -⟩ := h_r8_q19556
      refine wq_eq (fun hc_19557 => ?_) (fun hc_19558 => ?_)
      · unfold fX11_misread_J39
        unfold fX11_misread_J40
        exact wq_xb (tt_fX11_need0 N) (by decide) (fun _ h => absurd h id)
      · unfold fX11_misread_J40
        have l_1 := il_1
        refine wq_xb (tt_fX11_need hN (1 : Int32)) (by decide) (fun r1_q19560 h_r1_q19560 => ?_)
        obtain ⟨h_r1_q19560_0, -⟩ := h_r1_q19560
        refine wq_ok ?_
        refine wq_b (tt_fX1_degreeOf hN (wb_sh I0 13) (wb_sh M0 13) r5_q19542 x5 ⟨by omega, by omega⟩ ⟨by omega, by omega⟩ (KX11.s_X1_13_13 k_I0)) (fun r2_q19561 h_r2_q19561 => ?_)
        obtain ⟨h_r2_q19561_0, h_r2_q19561_1, -⟩ := h_r2_q19561
        have l_m1 := il_m1
        refine wq_eq (fun hc_19562 => ?_) (fun hc_19563 => ?_)
        · exact wq_s ⟨(show -1 ≤ (-1 : Int32).toInt ∧ (-1 : Int32).toInt ≤ 9 from ⟨by omega, by omega⟩), trivial⟩
        · refine wq_b (tt_fX5_degreeOn hN (wb_sh I0 9) (wb_sh M0 1) x3 x5 x4 ⟨by omega, by omega⟩ ⟨by omega, by omega⟩ (KX11.s_X5_9_1 k_I0)) (fun r3_q19564 h_r3_q19564 => ?_)
          obtain ⟨h_r3_q19564_0, -⟩ := h_r3_q19564
          refine wq_b (tt_fX4_misreading hN (wb_sh I0 10) (wb_sh M0 6) r2_q19561 r3_q19564 ⟨by omega, by omega⟩) (fun r4_q19565 h_r4_q19565 => ?_)
          obtain ⟨h_r4_q19565_0, -⟩ := h_r4_q19565
          exact wq_s ⟨(show -1 ≤ r4_q19565.toInt ∧ r4_q19565.toInt ≤ 9 from ⟨by omega, by omega⟩), trivial⟩
set_option maxHeartbeats 4000000 in
theorem tt_fX11_errors {N : Nat} (hN : 3000000000 ≤ N) (I0 : Nat → Int32) (M0 : Nat → Nat → Int32) (x1 : Int32) (x2 : Int32) (x3 : Int32) (x4 : Int32) (k_I0 : KX11 I0 M0) : wq (fX11_errors N I0 M0 x1 x2 x3 x4) (qS 1 (fun r => KX11 r.2.1 r.2.2 ∧ True)) := by
  unfold fX11_errors
  have b_19795 := i32b x1
  have b_19796 := i32b x2
  refine wq_xb (tt_fX11_numberOf hN x1 x2) (by decide) (fun r11_q19794 h_r11_q19794 => ?_)
  obtain ⟨h_r11_q19794_0, h_r11_q19794_1, -⟩ := h_r11_q19794
  have b_19797 := i32b x3
  refine wq_b (tt_fX11_isDay hN x3) (fun r12_q19798 h_r12_q19798 => ?_)
  obtain ⟨h_r12_q19798_0, h_r12_q19798_1, -⟩ := h_r12_q19798
  have l_0 := il_0
  refine wq_eq (fun hc_19799 => ?_) (fun hc_19800 => ?_)
  · unfold fX11_errors_J29
    unfold fX11_errors_J30
    exact wq_xb (tt_fX11_need0 N) (by decide) (fun _ h => absurd h id)
  · have b_19802 := i32b x4
    have l_10 := il_10
    refine wq_b (tt_fX11_within hN x4 (0 : Int32) (10 : Int32)) (fun r13_q19803 h_r13_q19803 => ?_)
    obtain ⟨h_r13_q19803_0, h_r13_q19803_1, -⟩ := h_r13_q19803
    refine wq_eq (fun hc_19804 => ?_) (fun hc_19805 => ?_)
    · unfold fX11_errors_J29
      unfold fX11_errors_J30
      exact wq_xb (tt_fX11_need0 N) (by decide) (fun _ h => absurd h id)
    · unfold fX11_errors_J30
      have l_1 := il_1
      refine wq_xb (tt_fX11_need hN (1 : Int32)) (by decide) (fun r1_q19807 h_r1_q19807 => ?_)
      obtain ⟨h_r1_q19807_0, -⟩ := h_r1_q19807
      refine wq_ok ?_
      refine wq_b (tt_fX3_setSharers hN (wb_sh I0 13) (wb_sh M0 15) (wb_sh I0 9) (wb_sh M0 1) (wb_sh I0 13) (wb_sh M0 13) r11_q19794 x3 ⟨by omega, by omega⟩ (KX11.s_X5_9_1 k_I0) (KX11.s_X1_13_13 k_I0)) (fun r2_q19808 h_r2_q19808 => ?_)
      obtain ⟨-⟩ := h_r2_q19808
      refine wq_v (fun I0_3_q19809 h_I0_3_q19809 => ?_)
      refine wq_v (fun M0_4_q19810 h_M0_4_q19810 => ?_)
      have k_M0_4_q19810 : KX11 I0_3_q19809 M0_4_q19810 := by rw [h_I0_3_q19809, h_M0_4_q19810]; exact KX11.p_X3_13_15 k_I0
      refine wq_eq (fun hc_19811 => ?_) (fun hc_19812 => ?_)
      · refine wq_b (tt_fX3_howManyErrors hN (wb_sh I0_3_q19809 13) (wb_sh M0_4_q19810 15)) (fun r10_q19813 h_r10_q19813 => ?_)
        obtain ⟨-⟩ := h_r10_q19813
        have b_19814 := i32b r10_q19813
        exact wq_s ⟨k_M0_4_q19810, trivial⟩
      · refine wq_eq (fun hc_19815 => ?_) (fun hc_19816 => ?_)
        · refine wq_b (tt_fX3_setFollowed hN (wb_sh I0_3_q19809 13) (wb_sh M0_4_q19810 15)) (fun r9b_q19817 h_r9b_q19817 => ?_)
          obtain ⟨h_r9b_q19817_0, -⟩ := h_r9b_q19817
          exact wq_s ⟨k_M0_4_q19810, trivial⟩
        · have l_2 := il_2
          have t_19819 := ia_sub x4 (2 : Int32) (by omega) (by omega)
          have l_3 := il_3
          have t_19820 := ia_rem (x4 - (2 : Int32)) (3 : Int32) 3 il_3 (by decide) (by omega)
          have t_19821 := ia_add ((x4 - (2 : Int32)) - (((x4 - (2 : Int32)) / (3 : Int32)) * (3 : Int32))) (1 : Int32) (by omega) (by omega)
          refine wq_v (fun v5_q19818 h_v5_q19818 => ?_)
          have t_v5_q19818 := congrArg Int32.toInt h_v5_q19818
          have l_5 := il_5
          refine wq_le (fun hc_19822 => ?_) (fun hc_19823 => ?_)
          · have l_8 := il_8
            refine wq_le (fun hc_19824 => ?_) (fun hc_19825 => ?_)
            · refine wq_b (tt_fX3_weightOf hN (wb_sh I0_3_q19809 13) (wb_sh M0_4_q19810 15) v5_q19818) (fun r6_q19826 h_r6_q19826 => ?_)
              obtain ⟨-⟩ := h_r6_q19826
              have b_19827 := i32b r6_q19826
              exact wq_s ⟨k_M0_4_q19810, trivial⟩
            · refine wq_b (tt_fX3_howManyAlone hN (wb_sh I0_3_q19809 13) (wb_sh M0_4_q19810 15) v5_q19818) (fun r7_q19828 h_r7_q19828 => ?_)
              obtain ⟨-⟩ := h_r7_q19828
              have b_19829 := i32b r7_q19828
              exact wq_s ⟨k_M0_4_q19810, trivial⟩
          · refine wq_b (tt_fX3_howManyShared hN (wb_sh I0_3_q19809 13) (wb_sh M0_4_q19810 15) v5_q19818) (fun r8_q19830 h_r8_q19830 => ?_)
            obtain ⟨-⟩ := h_r8_q19830
            have b_19831 := i32b r8_q19830
            exact wq_s ⟨k_M0_4_q19810, trivial⟩
set_option maxHeartbeats 4000000 in
theorem tt_fX11_climatesThatCanBe_L27 {N : Nat} (hN : 3000000000 ≤ N) (I0 : Nat → Int32) (M0 : Nat → Nat → Int32) (x1 : Int32) (r1 : Int32) (r2 : Int32) (h_x1 : 0 ≤ x1.toInt ∧ x1.toInt ≤ 119) (h_r1 : -1 ≤ r1.toInt ∧ r1.toInt ≤ 359) (h_r2 : -1 ≤ r2.toInt ∧ r2.toInt ≤ 359) (k_I0 : KX11 I0 M0)  : ∀ (fu : Nat) (y27_4 : Int32) (y27_5 : Int32), (0 ≤ y27_4.toInt ∧ y27_4.toInt ≤ 255) → (0 ≤ y27_5.toInt ∧ y27_5.toInt ≤ 7) → (7 - y27_5.toInt) < (fu : Int) → wq (fX11_climatesThatCanBe_L27 N I0 M0 x1 r1 r2 fu y27_4 y27_5) (fun r => (0 ≤ r.toInt ∧ r.toInt ≤ 255) ∧ True) := by
  intro fu
  induction fu with
  | zero => intro y27_4 y27_5 h_y27_4 h_y27_5 hm; exfalso; omega
  | succ fu ih =>
    intro y27_4 y27_5 h_y27_4 h_y27_5 hm
    rw [fX11_climatesThatCanBe_L27.eq_2]
    have t_20072 := KX11.i9 k_I0
    refine wq_le (fun hc_20073 => ?_) (fun hc_20074 => ?_)
    · exact wq_s ⟨(show 0 ≤ y27_4.toInt ∧ y27_4.toInt ≤ 255 from ⟨by omega, by omega⟩), trivial⟩
    · have l_2 := il_2
      refine wq_b (tt_fX1_howManyDiffer hN (wb_sh I0 13) (wb_sh M0 13) (wb_sh I0 9) (wb_sh M0 5) x1 (2 : Int32) y27_5 ⟨by omega, by omega⟩ (KX11.s_X1_13_13 k_I0) (KX11.s_X2_9_5 k_I0) (by omega)) (fun r8_q20075 h_r8_q20075 => ?_)
      obtain ⟨-⟩ := h_r8_q20075
      have b_20076 := i32b r8_q20075
      have l_0 := il_0
      refine wq_eq (fun hc_20077 => ?_) (fun hc_20078 => ?_)
      · unfold fX11_climatesThatCanBe_J68
        have l_1 := il_1
        refine wq_eq (fun hc_20079 => ?_) (fun hc_20080 => ?_)
        · exfalso; omega
        · refine wq_b (tt_fX2_hasHour hN (wb_sh I0 9) (wb_sh M0 5) y27_5 r1 r2 ⟨by omega, by omega⟩ ⟨by omega, by omega⟩ (KX11.s_X2_9_5 k_I0)) (fun r4_q20081 h_r4_q20081 => ?_)
          obtain ⟨h_r4_q20081_0, -⟩ := h_r4_q20081
          refine wq_eq (fun hc_20082 => ?_) (fun hc_20083 => ?_)
          · have t_20085 := ia_add y27_5 (1 : Int32) (by omega) (by omega)
            refine wq_v (fun v5_q20084 h_v5_q20084 => ?_)
            have t_v5_q20084 := congrArg Int32.toInt h_v5_q20084
            exact ih y27_4 v5_q20084 ⟨by omega, by omega⟩ ⟨by omega, by omega⟩ (by omega)
          · have t_20087 := or_sh y27_4 y27_5 ⟨by omega, by omega⟩ ⟨by omega, by omega⟩
            refine wq_v (fun v6_q20086 h_v6_q20086 => ?_)
            have t_v6_q20086 := congrArg Int32.toInt h_v6_q20086
            have t_20089 := ia_add y27_5 (1 : Int32) (by omega) (by omega)
            refine wq_v (fun v7_q20088 h_v7_q20088 => ?_)
            have t_v7_q20088 := congrArg Int32.toInt h_v7_q20088
            exact ih v6_q20086 v7_q20088 ⟨by omega, by omega⟩ ⟨by omega, by omega⟩ (by omega)
      · unfold fX11_climatesThatCanBe_J68
        refine wq_eq (fun hc_20090 => ?_) (fun hc_20091 => ?_)
        · have l_1 := il_1
          have t_20093 := ia_add y27_5 (1 : Int32) (by omega) (by omega)
          refine wq_v (fun v3_q20092 h_v3_q20092 => ?_)
          have t_v3_q20092 := congrArg Int32.toInt h_v3_q20092
          exact ih y27_4 v3_q20092 ⟨by omega, by omega⟩ ⟨by omega, by omega⟩ (by omega)
        · exfalso; omega
set_option maxHeartbeats 4000000 in
theorem tt_fX11_climatesThatCanBe {N : Nat} (hN : 3000000000 ≤ N) (I0 : Nat → Int32) (M0 : Nat → Nat → Int32) (x1 : Int32) (h_x1 : 0 ≤ x1.toInt ∧ x1.toInt ≤ 119) (k_I0 : KX11 I0 M0) : wq (fX11_climatesThatCanBe N I0 M0 x1) (fun r => (0 ≤ r.toInt ∧ r.toInt ≤ 255) ∧ True) := by
  unfold fX11_climatesThatCanBe
  have l_0 := il_0
  refine wq_b (tt_fX1_degreeOf hN (wb_sh I0 13) (wb_sh M0 13) x1 (0 : Int32) ⟨by omega, by omega⟩ ⟨by omega, by omega⟩ (KX11.s_X1_13_13 k_I0)) (fun r1_q20094 h_r1_q20094 => ?_)
  obtain ⟨h_r1_q20094_0, h_r1_q20094_1, -⟩ := h_r1_q20094
  have l_7 := il_7
  refine wq_b (tt_fX1_degreeOf hN (wb_sh I0 13) (wb_sh M0 13) x1 (7 : Int32) ⟨by omega, by omega⟩ ⟨by omega, by omega⟩ (KX11.s_X1_13_13 k_I0)) (fun r2_q20095 h_r2_q20095 => ?_)
  obtain ⟨h_r2_q20095_0, h_r2_q20095_1, -⟩ := h_r2_q20095
  exact tt_fX11_climatesThatCanBe_L27 hN I0 M0 x1 r1_q20094 r2_q20095 ⟨by omega, by omega⟩ ⟨by omega, by omega⟩ ⟨by omega, by omega⟩ k_I0 N (0 : Int32) (0 : Int32) ⟨by omega, by omega⟩ ⟨by omega, by omega⟩ (by omega)
set_option maxHeartbeats 4000000 in
theorem tt_fX11_waysThatCanBe_L52 {N : Nat} (hN : 3000000000 ≤ N) (I0 : Nat → Int32) (M0 : Nat → Nat → Int32) (x1 : Int32) (h_x1 : 0 ≤ x1.toInt ∧ x1.toInt ≤ 119) (k_I0 : KX11 I0 M0)  : ∀ (fu : Nat) (y52_2 : Int32) (y52_3 : Int32), (0 ≤ y52_3.toInt ∧ y52_3.toInt ≤ 7) → (7 - y52_3.toInt) < (fu : Int) → wq (fX11_waysThatCanBe_L52 N I0 M0 x1 fu y52_2 y52_3) (fun r => True) := by
  intro fu
  induction fu with
  | zero => intro y52_2 y52_3 h_y52_3 hm; exfalso; omega
  | succ fu ih =>
    intro y52_2 y52_3 h_y52_3 hm
    rw [fX11_waysThatCanBe_L52.eq_2]
    have t_20459 := KX11.i9 k_I0
    refine wq_le (fun hc_20460 => ?_) (fun hc_20461 => ?_)
    · have b_20462 := i32b y52_2
      exact wq_s trivial
    · have l_2 := il_2
      refine wq_b (tt_fX1_howManyDiffer hN (wb_sh I0 13) (wb_sh M0 13) (wb_sh I0 9) (wb_sh M0 5) x1 (2 : Int32) y52_3 ⟨by omega, by omega⟩ (KX11.s_X1_13_13 k_I0) (KX11.s_X2_9_5 k_I0) (by omega)) (fun r1_q20463 h_r1_q20463 => ?_)
      obtain ⟨-⟩ := h_r1_q20463
      have b_20464 := i32b r1_q20463
      have l_0 := il_0
      refine wq_eq (fun hc_20465 => ?_) (fun hc_20466 => ?_)
      · refine wq_v (fun v3_q20467 h_v3_q20467 => ?_)
        have t_v3_q20467 := congrArg Int32.toInt h_v3_q20467
        have l_1 := il_1
        have t_20469 := ia_add y52_3 (1 : Int32) (by omega) (by omega)
        refine wq_v (fun v4_q20468 h_v4_q20468 => ?_)
        have t_v4_q20468 := congrArg Int32.toInt h_v4_q20468
        have b_20470 := i32b v3_q20467
        exact ih v3_q20467 v4_q20468 ⟨by omega, by omega⟩ (by omega)
      · have l_1 := il_1
        have t_20472 := ia_add y52_3 (1 : Int32) (by omega) (by omega)
        refine wq_v (fun v2_q20471 h_v2_q20471 => ?_)
        have t_v2_q20471 := congrArg Int32.toInt h_v2_q20471
        have b_20473 := i32b y52_2
        exact ih y52_2 v2_q20471 ⟨by omega, by omega⟩ (by omega)
set_option maxHeartbeats 4000000 in
theorem tt_fX11_waysThatCanBe {N : Nat} (hN : 3000000000 ≤ N) (I0 : Nat → Int32) (M0 : Nat → Nat → Int32) (x1 : Int32) (h_x1 : 0 ≤ x1.toInt ∧ x1.toInt ≤ 119) (k_I0 : KX11 I0 M0) : wq (fX11_waysThatCanBe N I0 M0 x1) (fun r => True) := by
  unfold fX11_waysThatCanBe
  have l_0 := il_0
  refine wq_b (tt_fX1_howManyDiffer hN (wb_sh I0 13) (wb_sh M0 13) (wb_sh I0 9) (wb_sh M0 5) x1 (0 : Int32) (0 : Int32) ⟨by omega, by omega⟩ (KX11.s_X1_13_13 k_I0) (KX11.s_X2_9_5 k_I0) (by omega)) (fun r7_q20474 h_r7_q20474 => ?_)
  obtain ⟨-⟩ := h_r7_q20474
  have b_20475 := i32b r7_q20474
  refine wq_eq (fun hc_20476 => ?_) (fun hc_20477 => ?_)
  · refine wq_v (fun v8_q20478 h_v8_q20478 => ?_)
    have t_v8_q20478 := congrArg Int32.toInt h_v8_q20478
    unfold fX11_waysThatCanBe_J26
    have l_1 := il_1
    refine wq_b (tt_fX1_howManyDiffer hN (wb_sh I0 13) (wb_sh M0 13) (wb_sh I0 9) (wb_sh M0 5) x1 (1 : Int32) (0 : Int32) ⟨by omega, by omega⟩ (KX11.s_X1_13_13 k_I0) (KX11.s_X2_9_5 k_I0) (by omega)) (fun r5_q20479 h_r5_q20479 => ?_)
    obtain ⟨-⟩ := h_r5_q20479
    have b_20480 := i32b r5_q20479
    refine wq_eq (fun hc_20481 => ?_) (fun hc_20482 => ?_)
    · refine wq_v (fun v6_q20483 h_v6_q20483 => ?_)
      have t_v6_q20483 := congrArg Int32.toInt h_v6_q20483
      unfold fX11_waysThatCanBe_J50
      have b_20484 := i32b v6_q20483
      exact tt_fX11_waysThatCanBe_L52 hN I0 M0 x1 ⟨by omega, by omega⟩ k_I0 N v6_q20483 (0 : Int32) ⟨by omega, by omega⟩ (by omega)
    · unfold fX11_waysThatCanBe_J50
      have b_20485 := i32b v8_q20478
      exact tt_fX11_waysThatCanBe_L52 hN I0 M0 x1 ⟨by omega, by omega⟩ k_I0 N v8_q20478 (0 : Int32) ⟨by omega, by omega⟩ (by omega)
  · unfold fX11_waysThatCanBe_J26
    have l_1 := il_1
    refine wq_b (tt_fX1_howManyDiffer hN (wb_sh I0 13) (wb_sh M0 13) (wb_sh I0 9) (wb_sh M0 5) x1 (1 : Int32) (0 : Int32) ⟨by omega, by omega⟩ (KX11.s_X1_13_13 k_I0) (KX11.s_X2_9_5 k_I0) (by omega)) (fun r5_q20486 h_r5_q20486 => ?_)
    obtain ⟨-⟩ := h_r5_q20486
    have b_20487 := i32b r5_q20486
    refine wq_eq (fun hc_20488 => ?_) (fun hc_20489 => ?_)
    · refine wq_v (fun v6_q20490 h_v6_q20490 => ?_)
      have t_v6_q20490 := congrArg Int32.toInt h_v6_q20490
      unfold fX11_waysThatCanBe_J50
      have b_20491 := i32b v6_q20490
      exact tt_fX11_waysThatCanBe_L52 hN I0 M0 x1 ⟨by omega, by omega⟩ k_I0 N v6_q20490 (0 : Int32) ⟨by omega, by omega⟩ (by omega)
    · unfold fX11_waysThatCanBe_J50
      exact tt_fX11_waysThatCanBe_L52 hN I0 M0 x1 ⟨by omega, by omega⟩ k_I0 N (0 : Int32) (0 : Int32) ⟨by omega, by omega⟩ (by omega)
set_option maxHeartbeats 4000000 in
theorem tt_fX11_possible {N : Nat} (hN : 3000000000 ≤ N) (I0 : Nat → Int32) (M0 : Nat → Nat → Int32) (x1 : Int32) (x2 : Int32) (x3 : Int32) (k_I0 : KX11 I0 M0) : wq (fX11_possible N I0 M0 x1 x2 x3) (qS 1 (fun r => True)) := by
  unfold fX11_possible
  have b_20595 := i32b x1
  have b_20596 := i32b x2
  refine wq_xb (tt_fX11_numberOf hN x1 x2) (by decide) (fun r1_q20594 h_r1_q20594 => ?_)
  obtain ⟨h_r1_q20594_0, h_r1_q20594_1, -⟩ := h_r1_q20594
  have b_20597 := i32b x3
  have l_0 := il_0
  have l_1 := il_1
  refine wq_b (tt_fX11_within hN x3 (0 : Int32) (1 : Int32)) (fun r2_q20598 h_r2_q20598 => ?_)
  obtain ⟨h_r2_q20598_0, h_r2_q20598_1, -⟩ := h_r2_q20598
  refine wq_xb (tt_fX11_need hN r2_q20598) (by decide) (fun r3_q20599 h_r3_q20599 => ?_)
  obtain ⟨h_r3_q20599_0, -⟩ := h_r3_q20599
  refine wq_ok ?_
  have l_7 := il_7
  refine wq_b (tt_fX1_degreeOf hN (wb_sh I0 13) (wb_sh M0 13) r1_q20594 (7 : Int32) ⟨by omega, by omega⟩ ⟨by omega, by omega⟩ (KX11.s_X1_13_13 k_I0)) (fun r4_q20600 h_r4_q20600 => ?_)
  obtain ⟨h_r4_q20600_0, h_r4_q20600_1, -⟩ := h_r4_q20600
  have l_m1 := il_m1
  refine wq_eq (fun hc_20601 => ?_) (fun hc_20602 => ?_)
  · exact wq_s trivial
  · refine wq_eq (fun hc_20603 => ?_) (fun hc_20604 => ?_)
    · refine wq_b (tt_fX11_waysThatCanBe hN I0 M0 r1_q20594 ⟨by omega, by omega⟩ k_I0) (fun r7_q20605 h_r7_q20605 => ?_)
      obtain ⟨-⟩ := h_r7_q20605
      have b_20606 := i32b r7_q20605
      exact wq_s trivial
    · refine wq_b (tt_fX1_degreeOf hN (wb_sh I0 13) (wb_sh M0 13) r1_q20594 (0 : Int32) ⟨by omega, by omega⟩ ⟨by omega, by omega⟩ (KX11.s_X1_13_13 k_I0)) (fun r5_q20607 h_r5_q20607 => ?_)
      obtain ⟨h_r5_q20607_0, h_r5_q20607_1, -⟩ := h_r5_q20607
      refine wq_eq (fun hc_20608 => ?_) (fun hc_20609 => ?_)
      · exact wq_s trivial
      · refine wq_b (tt_fX11_climatesThatCanBe hN I0 M0 r1_q20594 ⟨by omega, by omega⟩ k_I0) (fun r6_q20610 h_r6_q20610 => ?_)
        obtain ⟨h_r6_q20610_0, -⟩ := h_r6_q20610
        exact wq_s trivial
set_option maxHeartbeats 4000000 in
theorem tt_fX11_slips {N : Nat} (hN : 3000000000 ≤ N) (I0 : Nat → Int32) (M0 : Nat → Nat → Int32) (x1 : Int32) (x2 : Int32) (k_I0 : KX11 I0 M0) : wq (fX11_slips N I0 M0 x1 x2) (qS 1 (fun r => True)) := by
  unfold fX11_slips
  have b_20713 := i32b x1
  have l_0 := il_0
  have l_29 := il_29
  refine wq_b (tt_fX11_within hN x1 (0 : Int32) (29 : Int32)) (fun r3_q20714 h_r3_q20714 => ?_)
  obtain ⟨h_r3_q20714_0, h_r3_q20714_1, -⟩ := h_r3_q20714
  refine wq_eq (fun hc_20715 => ?_) (fun hc_20716 => ?_)
  · unfold fX11_slips_J34
    unfold fX11_slips_J35
    exact wq_xb (tt_fX11_need0 N) (by decide) (fun _ h => absurd h id)
  · have b_20718 := i32b x2
    refine wq_b (tt_fX11_within hN x2 (0 : Int32) (29 : Int32)) (fun r4_q20719 h_r4_q20719 => ?_)
    obtain ⟨h_r4_q20719_0, h_r4_q20719_1, -⟩ := h_r4_q20719
    refine wq_eq (fun hc_20720 => ?_) (fun hc_20721 => ?_)
    · unfold fX11_slips_J34
      unfold fX11_slips_J35
      exact wq_xb (tt_fX11_need0 N) (by decide) (fun _ h => absurd h id)
    · have t_20723 := KX11.i42 k_I0
      refine wq_eq (fun hc_20724 => ?_) (fun hc_20725 => ?_)
      · unfold fX11_slips_J34
        unfold fX11_slips_J35
        exact wq_xb (tt_fX11_need0 N) (by decide) (fun _ h => absurd h id)
      · unfold fX11_slips_J35
        have l_1 := il_1
        refine wq_xb (tt_fX11_need hN (1 : Int32)) (by decide) (fun r1_q20727 h_r1_q20727 => ?_)
        obtain ⟨h_r1_q20727_0, -⟩ := h_r1_q20727
        refine wq_ok ?_
        refine wq_b (tt_fX10_howManySlips hN (wb_sh I0 41) (wb_sh M0 20) (wb_sh I0 10) (wb_sh M0 6) (wb_sh I0 13) (wb_sh M0 13) x1 x2 (KX11.s_X10_41_20 k_I0) (KX11.s_X1_13_13 k_I0)) (fun r2_q20728 h_r2_q20728 => ?_)
        obtain ⟨-⟩ := h_r2_q20728
        have b_20729 := i32b r2_q20728
        exact wq_s trivial
set_option maxHeartbeats 4000000 in
theorem tt_fX11_handed {N : Nat} (hN : 3000000000 ≤ N) (I0 : Nat → Int32) (M0 : Nat → Nat → Int32) (x1 : Int32) (x2 : Int32) (x3 : Int32) (k_I0 : KX11 I0 M0) : wq (fX11_handed N I0 M0 x1 x2 x3) (qS 1 (fun r => True)) := by
  unfold fX11_handed
  have b_20838 := i32b x1
  refine wq_b (tt_fX11_isBook hN x1) (fun r3_q20839 h_r3_q20839 => ?_)
  obtain ⟨h_r3_q20839_0, h_r3_q20839_1, -⟩ := h_r3_q20839
  have l_0 := il_0
  refine wq_eq (fun hc_20840 => ?_) (fun hc_20841 => ?_)
  · unfold fX11_handed_J25
    unfold fX11_handed_J26
    exact wq_xb (tt_fX11_need0 N) (by decide) (fun _ h => absurd h id)
  · have b_20843 := i32b x2
    refine wq_b (tt_fX11_isBook hN x2) (fun r4_q20844 h_r4_q20844 => ?_)
    obtain ⟨h_r4_q20844_0, h_r4_q20844_1, -⟩ := h_r4_q20844
    refine wq_eq (fun hc_20845 => ?_) (fun hc_20846 => ?_)
    · unfold fX11_handed_J25
      unfold fX11_handed_J26
      exact wq_xb (tt_fX11_need0 N) (by decide) (fun _ h => absurd h id)
    · have b_20848 := i32b x3
      refine wq_b (tt_fX11_isBook hN x3) (fun r5_q20849 h_r5_q20849 => ?_)
      obtain ⟨h_r5_q20849_0, h_r5_q20849_1, -⟩ := h_r5_q20849
      refine wq_eq (fun hc_20850 => ?_) (fun hc_20851 => ?_)
      · unfold fX11_handed_J25
        unfold fX11_handed_J26
        exact wq_xb (tt_fX11_need0 N) (by decide) (fun _ h => absurd h id)
      · unfold fX11_handed_J26
        have l_1 := il_1
        refine wq_xb (tt_fX11_need hN (1 : Int32)) (by decide) (fun r1_q20853 h_r1_q20853 => ?_)
        obtain ⟨h_r1_q20853_0, -⟩ := h_r1_q20853
        refine wq_ok ?_
        refine wq_b (tt_fX1_howManyHanded hN (wb_sh I0 13) (wb_sh M0 13) x1 x2 x3 ⟨by omega, by omega⟩ ⟨by omega, by omega⟩ ⟨by omega, by omega⟩ (KX11.s_X1_13_13 k_I0)) (fun r2_q20854 h_r2_q20854 => ?_)
        obtain ⟨-⟩ := h_r2_q20854
        have b_20855 := i32b r2_q20854
        exact wq_s trivial
set_option maxHeartbeats 4000000 in
theorem tt_fX11_leaf {N : Nat} (hN : 3000000000 ≤ N) (I0 : Nat → Int32) (M0 : Nat → Nat → Int32) (x1 : Int32) (x2 : Int32) (k_I0 : KX11 I0 M0) : wq (fX11_leaf N I0 M0 x1 x2) (qS 1 (fun r => (-1 ≤ r.1.toInt ∧ r.1.toInt ≤ 20) ∧ KX11 r.2.1 r.2.2 ∧ True)) := by
  unfold fX11_leaf
  have b_20940 := i32b x1
  refine wq_b (tt_fX11_isBook hN x1) (fun r5_q20941 h_r5_q20941 => ?_)
  obtain ⟨h_r5_q20941_0, h_r5_q20941_1, -⟩ := h_r5_q20941
  have l_0 := il_0
  refine wq_eq (fun hc_20942 => ?_) (fun hc_20943 => ?_)
  · unfold fX11_leaf_J21
    exact wq_xb (tt_fX11_need0 N) (by decide) (fun _ h => absurd h id)
  · have b_20945 := i32b x2
    have l_19 := il_19
    refine wq_b (tt_fX11_within hN x2 (0 : Int32) (19 : Int32)) (fun r6_q20946 h_r6_q20946 => ?_)
    obtain ⟨h_r6_q20946_0, h_r6_q20946_1, -⟩ := h_r6_q20946
    refine wq_eq (fun hc_20947 => ?_) (fun hc_20948 => ?_)
    · unfold fX11_leaf_J21
      exact wq_xb (tt_fX11_need0 N) (by decide) (fun _ h => absurd h id)
    · have l_1 := il_1
      refine wq_xb (tt_fX11_need hN (1 : Int32)) (by decide) (fun r7_q20950 h_r7_q20950 => ?_)
      obtain ⟨h_r7_q20950_0, -⟩ := h_r7_q20950
      refine wq_ok ?_
      refine wq_b (tt_fX6_addTo hN (wb_sh I0 43) (wb_sh M0 23) x1 x2 ⟨by omega, by omega⟩ (KX11.s_X6_43_23 k_I0)) (fun r8_q20951 h_r8_q20951 => ?_)
      obtain ⟨h_r8_q20951_0, h_r8_q20951_1, -⟩ := h_r8_q20951
      refine wq_v (fun I0_9_q20952 h_I0_9_q20952 => ?_)
      refine wq_v (fun M0_10_q20953 h_M0_10_q20953 => ?_)
      have k_M0_10_q20953 : KX11 I0_9_q20952 M0_10_q20953 := by rw [h_I0_9_q20952, h_M0_10_q20953]; exact KX11.p_X6_43_23 k_I0 h_r8_q20951_1
      exact wq_s ⟨(show -1 ≤ r8_q20951.1.toInt ∧ r8_q20951.1.toInt ≤ 20 from ⟨by omega, by omega⟩), k_M0_10_q20953, trivial⟩
set_option maxHeartbeats 4000000 in
theorem tt_fX11_order {N : Nat} (hN : 3000000000 ≤ N) (I0 : Nat → Int32) (M0 : Nat → Nat → Int32) (x1 : Int32) (x2 : Int32) (x3 : Int32) (k_I0 : KX11 I0 M0) : wq (fX11_order N I0 M0 x1 x2 x3) (qS 1 (fun r => KX11 r.2.1 r.2.2 ∧ True)) := by
  unfold fX11_order
  have b_21110 := i32b x1
  refine wq_b (tt_fX11_isBook hN x1) (fun r8_q21111 h_r8_q21111 => ?_)
  obtain ⟨h_r8_q21111_0, h_r8_q21111_1, -⟩ := h_r8_q21111
  have l_0 := il_0
  refine wq_eq (fun hc_21112 => ?_) (fun hc_21113 => ?_)
  · unfold fX11_order_J27
    unfold fX11_order_J28
    exact wq_xb (tt_fX11_need0 N) (by decide) (fun _ h => absurd h id)
  · have b_21115 := i32b x2
    refine wq_b (tt_fX11_isBook hN x2) (fun r9b_q21116 h_r9b_q21116 => ?_)
    obtain ⟨h_r9b_q21116_0, h_r9b_q21116_1, -⟩ := h_r9b_q21116
    refine wq_eq (fun hc_21117 => ?_) (fun hc_21118 => ?_)
    · unfold fX11_order_J27
      unfold fX11_order_J28
      exact wq_xb (tt_fX11_need0 N) (by decide) (fun _ h => absurd h id)
    · have b_21120 := i32b x3
      have l_1 := il_1
      refine wq_b (tt_fX11_within hN x3 (0 : Int32) (1 : Int32)) (fun r10_q21121 h_r10_q21121 => ?_)
      obtain ⟨h_r10_q21121_0, h_r10_q21121_1, -⟩ := h_r10_q21121
      refine wq_eq (fun hc_21122 => ?_) (fun hc_21123 => ?_)
      · unfold fX11_order_J27
        unfold fX11_order_J28
        exact wq_xb (tt_fX11_need0 N) (by decide) (fun _ h => absurd h id)
      · unfold fX11_order_J28
        refine wq_xb (tt_fX11_need hN (1 : Int32)) (by decide) (fun r1_q21125 h_r1_q21125 => ?_)
        obtain ⟨h_r1_q21125_0, -⟩ := h_r1_q21125
        refine wq_ok ?_
        refine wq_eq (fun hc_21126 => ?_) (fun hc_21127 => ?_)
        · refine wq_b (tt_fX6_howManyInOrder hN (wb_sh I0 43) (wb_sh M0 23) x1 x2 ⟨by omega, by omega⟩ ⟨by omega, by omega⟩ (KX11.s_X6_43_23 k_I0)) (fun r5_q21128 h_r5_q21128 => ?_)
          obtain ⟨h_r5_q21128_0, h_r5_q21128_1, -⟩ := h_r5_q21128
          refine wq_v (fun I0_6_q21129 h_I0_6_q21129 => ?_)
          refine wq_v (fun M0_7_q21130 h_M0_7_q21130 => ?_)
          have k_M0_7_q21130 : KX11 I0_6_q21129 M0_7_q21130 := by rw [h_I0_6_q21129, h_M0_7_q21130]; exact KX11.p_X6_43_23 k_I0 h_r5_q21128_1
          have b_21131 := i32b r5_q21128.1
          exact wq_s ⟨k_M0_7_q21130, trivial⟩
        · refine wq_b (tt_fX6_howManyTurned hN (wb_sh I0 43) (wb_sh M0 23) x1 x2 ⟨by omega, by omega⟩ ⟨by omega, by omega⟩ (KX11.s_X6_43_23 k_I0)) (fun r2_q21132 h_r2_q21132 => ?_)
          obtain ⟨h_r2_q21132_0, -⟩ := h_r2_q21132
          refine wq_v (fun I0_3_q21133 h_I0_3_q21133 => ?_)
          refine wq_v (fun M0_4_q21134 h_M0_4_q21134 => ?_)
          have k_M0_4_q21134 : KX11 I0_3_q21133 M0_4_q21134 := by rw [h_I0_3_q21133, h_M0_4_q21134]; exact KX11.p_X6_43_23 k_I0 h_r2_q21132_0
          have b_21135 := i32b r2_q21132.1
          exact wq_s ⟨k_M0_4_q21134, trivial⟩

set_option maxHeartbeats 4000000 in
theorem tt_fX11_isNumber {N : Nat} (hN : 3000000000 ≤ N) (x0 : Int32)  : wq (fX11_isNumber N x0) (fun r => (r.toInt = 0 ∨ (r.toInt = 1 ∧ 0 ≤ x0.toInt ∧ x0.toInt ≤ 119)) ∧ (0 ≤ r.toInt ∧ r.toInt ≤ 1) ∧ True) := by
  unfold fX11_isNumber
  have b_21148 := i32b x0
  have l_0 := il_0
  have l_119 := il_119
  refine wq_b (tt_fX11_within hN x0 (0 : Int32) (119 : Int32)) (fun r1_q21149 h_r1_q21149 => ?_)
  obtain ⟨h_r1_q21149_0, h_r1_q21149_1, -⟩ := h_r1_q21149
  refine wq_bz (by omega) ?_
  exact wq_s ⟨(show (r1_q21149.toInt = 0 ∨ (r1_q21149.toInt = 1 ∧ 0 ≤ x0.toInt ∧ x0.toInt ≤ 119)) from by omega), (show 0 ≤ r1_q21149.toInt ∧ r1_q21149.toInt ≤ 1 from ⟨by omega, by omega⟩), trivial⟩
set_option maxHeartbeats 4000000 in
theorem tt_fX11_same {N : Nat} (hN : 3000000000 ≤ N) (I0 : Nat → Int32) (M0 : Nat → Nat → Int32) (x1 : Int32) (x2 : Int32) (x3 : Int32) (k_I0 : KX11 I0 M0) : wq (fX11_same N I0 M0 x1 x2 x3) (qS 1 (fun r => (0 ≤ r.toInt ∧ r.toInt ≤ 1) ∧ True)) := by
  unfold fX11_same
  have b_21252 := i32b x1
  refine wq_b (tt_fX11_isNumber hN x1) (fun r3_q21253 h_r3_q21253 => ?_)
  obtain ⟨h_r3_q21253_0, h_r3_q21253_1, -⟩ := h_r3_q21253
  have l_0 := il_0
  refine wq_eq (fun hc_21254 => ?_) (fun hc_21255 => ?_)
  · unfold fX11_same_J28
    unfold fX11_same_J29
    exact wq_xb (tt_fX11_need0 N) (by decide) (fun _ h => absurd h id)
  · have b_21257 := i32b x2
    refine wq_b (tt_fX11_isNumber hN x2) (fun r4_q21258 h_r4_q21258 => ?_)
    obtain ⟨h_r4_q21258_0, h_r4_q21258_1, -⟩ := h_r4_q21258
    refine wq_eq (fun hc_21259 => ?_) (fun hc_21260 => ?_)
    · unfold fX11_same_J28
      unfold fX11_same_J29
      exact wq_xb (tt_fX11_need0 N) (by decide) (fun _ h => absurd h id)
    · have b_21262 := i32b x3
      have l_1 := il_1
      have l_7 := il_7
      refine wq_b (tt_fX11_within hN x3 (1 : Int32) (7 : Int32)) (fun r5_q21263 h_r5_q21263 => ?_)
      obtain ⟨h_r5_q21263_0, h_r5_q21263_1, -⟩ := h_r5_q21263
      refine wq_eq (fun hc_21264 => ?_) (fun hc_21265 => ?_)
      · unfold fX11_same_J28
        unfold fX11_same_J29
        exact wq_xb (tt_fX11_need0 N) (by decide) (fun _ h => absurd h id)
      · unfold fX11_same_J29
        refine wq_xb (tt_fX11_need hN (1 : Int32)) (by decide) (fun r1_q21267 h_r1_q21267 => ?_)
        obtain ⟨h_r1_q21267_0, -⟩ := h_r1_q21267
        refine wq_ok ?_
        refine wq_b (tt_fX0_areOne hN (wb_sh I0 10) (wb_sh M0 6) (wb_sh I0 13) (wb_sh M0 13) x1 x2 x3 ⟨by omega, by omega⟩ ⟨by omega, by omega⟩ (KX11.s_X1_13_13 k_I0)) (fun r2_q21268 h_r2_q21268 => ?_)
        obtain ⟨h_r2_q21268_0, -⟩ := h_r2_q21268
        refine wq_bz (by omega) ?_
        exact wq_s ⟨(show 0 ≤ r2_q21268.toInt ∧ r2_q21268.toInt ≤ 1 from ⟨by omega, by omega⟩), trivial⟩
set_option maxHeartbeats 4000000 in
theorem tt_fX11_births {N : Nat} (hN : 3000000000 ≤ N) (I0 : Nat → Int32) (M0 : Nat → Nat → Int32) (x1 : Int32) (x2 : Int32) (k_I0 : KX11 I0 M0) : wq (fX11_births N I0 M0 x1 x2) (qS 1 (fun r => KX11 r.2.1 r.2.2 ∧ True)) := by
  unfold fX11_births
  have b_21467 := i32b x1
  have l_m1 := il_m1
  refine wq_eq (fun hc_21468 => ?_) (fun hc_21469 => ?_)
  · unfold fX11_births_J12
    have b_21470 := i32b x2
    have l_1 := il_1
    have l_7 := il_7
    refine wq_b (tt_fX11_within hN x2 (1 : Int32) (7 : Int32)) (fun r7_q21471 h_r7_q21471 => ?_)
    obtain ⟨h_r7_q21471_0, h_r7_q21471_1, -⟩ := h_r7_q21471
    have l_0 := il_0
    refine wq_eq (fun hc_21472 => ?_) (fun hc_21473 => ?_)
    · unfold fX11_births_J26
      unfold fX11_births_J27
      exact wq_xb (tt_fX11_need0 N) (by decide) (fun _ h => absurd h id)
    · unfold fX11_births_J27
      refine wq_xb (tt_fX11_need hN (1 : Int32)) (by decide) (fun r1_q21475 h_r1_q21475 => ?_)
      obtain ⟨h_r1_q21475_0, -⟩ := h_r1_q21475
      refine wq_ok ?_
      refine wq_b (tt_fX0_partBy hN (wb_sh I0 43) (wb_sh M0 27) (wb_sh I0 10) (wb_sh M0 6) (wb_sh I0 13) (wb_sh M0 13) x2 (KX11.s_X1_13_13 k_I0)) (fun r2_q21476 h_r2_q21476 => ?_)
      obtain ⟨-⟩ := h_r2_q21476
      refine wq_v (fun I0_3_q21477 h_I0_3_q21477 => ?_)
      refine wq_v (fun M0_4_q21478 h_M0_4_q21478 => ?_)
      have k_M0_4_q21478 : KX11 I0_3_q21477 M0_4_q21478 := by rw [h_I0_3_q21477, h_M0_4_q21478]; exact KX11.p_X0_43_27 k_I0
      refine wq_eq (fun hc_21479 => ?_) (fun hc_21480 => ?_)
      · refine wq_b (tt_fX0_howManyParts hN (wb_sh I0_3_q21477 43) (wb_sh M0_4_q21478 27) (wb_sh I0_3_q21477 13) (wb_sh M0_4_q21478 13) (KX11.s_X1_13_13 k_M0_4_q21478)) (fun r6_q21481 h_r6_q21481 => ?_)
        obtain ⟨-⟩ := h_r6_q21481
        have b_21482 := i32b r6_q21481
        exact wq_s ⟨k_M0_4_q21478, trivial⟩
      · exfalso; omega
  · refine wq_b (tt_fX11_isNumber hN x1) (fun r8_q21483 h_r8_q21483 => ?_)
    obtain ⟨h_r8_q21483_0, h_r8_q21483_1, -⟩ := h_r8_q21483
    have l_0 := il_0
    refine wq_eq (fun hc_21484 => ?_) (fun hc_21485 => ?_)
    · unfold fX11_births_J26
      unfold fX11_births_J27
      exact wq_xb (tt_fX11_need0 N) (by decide) (fun _ h => absurd h id)
    · unfold fX11_births_J12
      have b_21487 := i32b x2
      have l_1 := il_1
      have l_7 := il_7
      refine wq_b (tt_fX11_within hN x2 (1 : Int32) (7 : Int32)) (fun r7_q21488 h_r7_q21488 => ?_)
      obtain ⟨h_r7_q21488_0, h_r7_q21488_1, -⟩ := h_r7_q21488
      refine wq_eq (fun hc_21489 => ?_) (fun hc_21490 => ?_)
      · unfold fX11_births_J26
        unfold fX11_births_J27
        exact wq_xb (tt_fX11_need0 N) (by decide) (fun _ h => absurd h id)
      · unfold fX11_births_J27
        refine wq_xb (tt_fX11_need hN (1 : Int32)) (by decide) (fun r1_q21492 h_r1_q21492 => ?_)
        obtain ⟨h_r1_q21492_0, -⟩ := h_r1_q21492
        refine wq_ok ?_
        refine wq_b (tt_fX0_partBy hN (wb_sh I0 43) (wb_sh M0 27) (wb_sh I0 10) (wb_sh M0 6) (wb_sh I0 13) (wb_sh M0 13) x2 (KX11.s_X1_13_13 k_I0)) (fun r2_q21493 h_r2_q21493 => ?_)
        obtain ⟨-⟩ := h_r2_q21493
        refine wq_v (fun I0_3_q21494 h_I0_3_q21494 => ?_)
        refine wq_v (fun M0_4_q21495 h_M0_4_q21495 => ?_)
        have k_M0_4_q21495 : KX11 I0_3_q21494 M0_4_q21495 := by rw [h_I0_3_q21494, h_M0_4_q21495]; exact KX11.p_X0_43_27 k_I0
        refine wq_eq (fun hc_21496 => ?_) (fun hc_21497 => ?_)
        · exfalso; omega
        · refine wq_b (tt_fX0_leastOf hN (wb_sh I0_3_q21494 43) (wb_sh M0_4_q21495 27) x1 ⟨by omega, by omega⟩) (fun r5_q21498 h_r5_q21498 => ?_)
          obtain ⟨-⟩ := h_r5_q21498
          have b_21499 := i32b r5_q21498
          exact wq_s ⟨k_M0_4_q21495, trivial⟩
set_option maxHeartbeats 4000000 in
theorem tt_fX11_tree {N : Nat} (hN : 3000000000 ≤ N) (I0 : Nat → Int32) (M0 : Nat → Nat → Int32) (k_I0 : KX11 I0 M0) : wq (fX11_tree N I0 M0) (fun r => KX11 r.2.1 r.2.2 ∧ True) := by sorry
set_option maxHeartbeats 4000000 in
theorem tt_fX11_whence {N : Nat} (hN : 3000000000 ≤ N) (I0 : Nat → Int32) (M0 : Nat → Nat → Int32) (x1 : Int32) (k_I0 : KX11 I0 M0) : wq (fX11_whence N I0 M0 x1) (qS 1 (fun r => (-2 ≤ r.toInt ∧ r.toInt ≤ 5) ∧ True)) := by
  unfold fX11_whence
  have b_21590 := i32b x1
  refine wq_b (tt_fX11_isBook hN x1) (fun r1_q21591 h_r1_q21591 => ?_)
  obtain ⟨h_r1_q21591_0, h_r1_q21591_1, -⟩ := h_r1_q21591
  have l_0 := il_0
  refine wq_eq (fun hc_21592 => ?_) (fun hc_21593 => ?_)
  · exact wq_xb (tt_fX11_need0 N) (by decide) (fun _ h => absurd h id)
  · have t_21595 := KX11.i42 k_I0
    refine wq_eq (fun hc_21596 => ?_) (fun hc_21597 => ?_)
    · exact wq_xb (tt_fX11_need0 N) (by decide) (fun _ h => absurd h id)
    · refine wq_b (tt_fX10_holds hN (wb_sh I0 41) (wb_sh M0 20) x1 ⟨by omega, by omega⟩ (KX11.s_X10_41_20 k_I0)) (fun r6_q21599 h_r6_q21599 => ?_)
      obtain ⟨h_r6_q21599_0, -⟩ := h_r6_q21599
      refine wq_eq (fun hc_21600 => ?_) (fun hc_21601 => ?_)
      · exact wq_xb (tt_fX11_need0 N) (by decide) (fun _ h => absurd h id)
      · have l_1 := il_1
        refine wq_xb (tt_fX11_need hN (1 : Int32)) (by decide) (fun r9b_q21603 h_r9b_q21603 => ?_)
        obtain ⟨h_r9b_q21603_0, -⟩ := h_r9b_q21603
        refine wq_ok ?_
        refine wq_b (tt_fX10_parentOf hN (wb_sh I0 41) (wb_sh M0 20) x1 ⟨by omega, by omega⟩ (KX11.s_X10_41_20 k_I0)) (fun r10_q21604 h_r10_q21604 => ?_)
        obtain ⟨h_r10_q21604_0, -⟩ := h_r10_q21604
        exact wq_s ⟨(show -2 ≤ r10_q21604.toInt ∧ r10_q21604.toInt ≤ 5 from ⟨by omega, by omega⟩), trivial⟩
set_option maxHeartbeats 4000000 in
theorem tt_fX11_life {N : Nat} (hN : 3000000000 ≤ N) (I0 : Nat → Int32) (M0 : Nat → Nat → Int32) (x1 : Int32) (x2 : Int32) (x3 : Int32) (k_I0 : KX11 I0 M0) : wq (fX11_life N I0 M0 x1 x2 x3) (qS 1 (fun r => (0 ≤ r.1.toInt ∧ r.1.toInt ≤ 1) ∧ KX11 r.2.1 r.2.2 ∧ True)) := by
  unfold fX11_life
  have b_21689 := i32b x1
  have l_0 := il_0
  have l_19 := il_19
  refine wq_b (tt_fX11_within hN x1 (0 : Int32) (19 : Int32)) (fun r1_q21690 h_r1_q21690 => ?_)
  obtain ⟨h_r1_q21690_0, h_r1_q21690_1, -⟩ := h_r1_q21690
  refine wq_xb (tt_fX11_need hN r1_q21690) (by decide) (fun r2_q21691 h_r2_q21691 => ?_)
  obtain ⟨h_r2_q21691_0, -⟩ := h_r2_q21691
  refine wq_ok ?_
  have b_21692 := i32b x2
  have l_120 := il_120
  refine wq_b (tt_fX11_within hN x2 (0 : Int32) (120 : Int32)) (fun r3_q21693 h_r3_q21693 => ?_)
  obtain ⟨h_r3_q21693_0, h_r3_q21693_1, -⟩ := h_r3_q21693
  refine wq_eq (fun hc_21694 => ?_) (fun hc_21695 => ?_)
  · exact wq_s ⟨(show 0 ≤ (0 : Int32).toInt ∧ (0 : Int32).toInt ≤ 1 from ⟨by omega, by omega⟩), k_I0, trivial⟩
  · have b_21696 := i32b x3
    refine wq_b (tt_fX11_within hN x3 (0 : Int32) (120 : Int32)) (fun r4_q21697 h_r4_q21697 => ?_)
    obtain ⟨h_r4_q21697_0, h_r4_q21697_1, -⟩ := h_r4_q21697
    refine wq_eq (fun hc_21698 => ?_) (fun hc_21699 => ?_)
    · exact wq_s ⟨(show 0 ≤ (0 : Int32).toInt ∧ (0 : Int32).toInt ≤ 1 from ⟨by omega, by omega⟩), k_I0, trivial⟩
    · refine wq_b (tt_fX7_tellLife hN (wb_sh I0 43) (wb_sh M0 28) x1 x2 x3 ⟨by omega, by omega⟩ (KX11.s_X7_43_28 k_I0)) (fun r5_q21700 h_r5_q21700 => ?_)
      obtain ⟨h_r5_q21700_0, -⟩ := h_r5_q21700
      refine wq_v (fun I0_6_q21701 h_I0_6_q21701 => ?_)
      refine wq_v (fun M0_7_q21702 h_M0_7_q21702 => ?_)
      have k_M0_7_q21702 : KX11 I0_6_q21701 M0_7_q21702 := by rw [h_I0_6_q21701, h_M0_7_q21702]; exact KX11.p_X7_43_28 k_I0 h_r5_q21700_0
      have l_1 := il_1
      exact wq_s ⟨(show 0 ≤ (1 : Int32).toInt ∧ (1 : Int32).toInt ≤ 1 from ⟨by omega, by omega⟩), k_M0_7_q21702, trivial⟩
set_option maxHeartbeats 4000000 in
theorem tt_fX11_fate {N : Nat} (hN : 3000000000 ≤ N) (I0 : Nat → Int32) (M0 : Nat → Nat → Int32) (x1 : Int32) (x2 : Int32) (k_I0 : KX11 I0 M0) : wq (fX11_fate N I0 M0 x1 x2) (qS 1 (fun r => (0 ≤ r.1.toInt ∧ r.1.toInt ≤ 1) ∧ KX11 r.2.1 r.2.2 ∧ True)) := by
  unfold fX11_fate
  have b_21763 := i32b x1
  have l_0 := il_0
  have l_19 := il_19
  refine wq_b (tt_fX11_within hN x1 (0 : Int32) (19 : Int32)) (fun r1_q21764 h_r1_q21764 => ?_)
  obtain ⟨h_r1_q21764_0, h_r1_q21764_1, -⟩ := h_r1_q21764
  refine wq_xb (tt_fX11_need hN r1_q21764) (by decide) (fun r2_q21765 h_r2_q21765 => ?_)
  obtain ⟨h_r2_q21765_0, -⟩ := h_r2_q21765
  refine wq_ok ?_
  have b_21766 := i32b x2
  have l_1 := il_1
  have l_12 := il_12
  refine wq_b (tt_fX11_within hN x2 (1 : Int32) (12 : Int32)) (fun r3_q21767 h_r3_q21767 => ?_)
  obtain ⟨h_r3_q21767_0, h_r3_q21767_1, -⟩ := h_r3_q21767
  refine wq_eq (fun hc_21768 => ?_) (fun hc_21769 => ?_)
  · exact wq_s ⟨(show 0 ≤ (0 : Int32).toInt ∧ (0 : Int32).toInt ≤ 1 from ⟨by omega, by omega⟩), k_I0, trivial⟩
  · refine wq_b (tt_fX7_tellFate hN (wb_sh I0 43) (wb_sh M0 28) x1 x2 ⟨by omega, by omega⟩ (KX11.s_X7_43_28 k_I0)) (fun r4_q21770 h_r4_q21770 => ?_)
    obtain ⟨h_r4_q21770_0, -⟩ := h_r4_q21770
    refine wq_v (fun I0_5_q21771 h_I0_5_q21771 => ?_)
    refine wq_v (fun M0_6_q21772 h_M0_6_q21772 => ?_)
    have k_M0_6_q21772 : KX11 I0_5_q21771 M0_6_q21772 := by rw [h_I0_5_q21771, h_M0_6_q21772]; exact KX11.p_X7_43_28 k_I0 h_r4_q21770_0
    exact wq_s ⟨(show 0 ≤ (1 : Int32).toInt ∧ (1 : Int32).toInt ≤ 1 from ⟨by omega, by omega⟩), k_M0_6_q21772, trivial⟩
set_option maxHeartbeats 4000000 in
theorem tt_fX11_fates {N : Nat} (hN : 3000000000 ≤ N) (I0 : Nat → Int32) (M0 : Nat → Nat → Int32) (x1 : Int32) (k_I0 : KX11 I0 M0) : wq (fX11_fates N I0 M0 x1) (qS 1 (fun r => KX11 r.2.1 r.2.2 ∧ True)) := by
  unfold fX11_fates
  have b_21845 := i32b x1
  have l_0 := il_0
  have l_1 := il_1
  refine wq_b (tt_fX11_within hN x1 (0 : Int32) (1 : Int32)) (fun r1_q21846 h_r1_q21846 => ?_)
  obtain ⟨h_r1_q21846_0, h_r1_q21846_1, -⟩ := h_r1_q21846
  refine wq_xb (tt_fX11_need hN r1_q21846) (by decide) (fun r2_q21847 h_r2_q21847 => ?_)
  obtain ⟨h_r2_q21847_0, -⟩ := h_r2_q21847
  refine wq_ok ?_
  refine wq_eq (fun hc_21848 => ?_) (fun hc_21849 => ?_)
  · refine wq_b (tt_fX7_howManyToldByLot hN (wb_sh I0 43) (wb_sh M0 28) (wb_sh I0 13) (wb_sh M0 13) (KX11.s_X7_43_28 k_I0) (KX11.s_X1_13_13 k_I0)) (fun r6_q21850 h_r6_q21850 => ?_)
    obtain ⟨h_r6_q21850_0, h_r6_q21850_1, -⟩ := h_r6_q21850
    refine wq_v (fun I0_7_q21851 h_I0_7_q21851 => ?_)
    refine wq_v (fun M0_8_q21852 h_M0_8_q21852 => ?_)
    have k_M0_8_q21852 : KX11 I0_7_q21851 M0_8_q21852 := by rw [h_I0_7_q21851, h_M0_8_q21852]; exact KX11.p_X7_43_28 k_I0 h_r6_q21850_1
    exact wq_s ⟨k_M0_8_q21852, trivial⟩
  · refine wq_b (tt_fX7_chanceOfFates hN (wb_sh I0 43) (wb_sh M0 28) (wb_sh I0 13) (wb_sh M0 13) (KX11.s_X7_43_28 k_I0) (KX11.s_X1_13_13 k_I0)) (fun r3_q21853 h_r3_q21853 => ?_)
    obtain ⟨h_r3_q21853_0, -⟩ := h_r3_q21853
    refine wq_v (fun I0_4_q21854 h_I0_4_q21854 => ?_)
    refine wq_v (fun M0_5_q21855 h_M0_5_q21855 => ?_)
    have k_M0_5_q21855 : KX11 I0_4_q21854 M0_5_q21855 := by rw [h_I0_4_q21854, h_M0_5_q21855]; exact KX11.p_X7_43_28 k_I0 h_r3_q21853_0
    have b_21856 := i32b r3_q21853.1
    exact wq_s ⟨k_M0_5_q21855, trivial⟩
set_option maxHeartbeats 4000000 in
theorem tt_fX11_hits {N : Nat} (hN : 3000000000 ≤ N) (I0 : Nat → Int32) (M0 : Nat → Nat → Int32) (x1 : Int32) (x2 : Int32) (k_I0 : KX11 I0 M0) : wq (fX11_hits N I0 M0 x1 x2) (qS 1 (fun r => KX11 r.2.1 r.2.2 ∧ True)) := by
  unfold fX11_hits
  have b_21977 := i32b x1
  have l_0 := il_0
  have l_1 := il_1
  refine wq_b (tt_fX11_within hN x1 (0 : Int32) (1 : Int32)) (fun r8_q21978 h_r8_q21978 => ?_)
  obtain ⟨h_r8_q21978_0, h_r8_q21978_1, -⟩ := h_r8_q21978
  refine wq_eq (fun hc_21979 => ?_) (fun hc_21980 => ?_)
  · unfold fX11_hits_J23
    unfold fX11_hits_J24
    exact wq_xb (tt_fX11_need0 N) (by decide) (fun _ h => absurd h id)
  · have b_21982 := i32b x2
    have l_120 := il_120
    refine wq_b (tt_fX11_within hN x2 (0 : Int32) (120 : Int32)) (fun r9b_q21983 h_r9b_q21983 => ?_)
    obtain ⟨h_r9b_q21983_0, h_r9b_q21983_1, -⟩ := h_r9b_q21983
    refine wq_eq (fun hc_21984 => ?_) (fun hc_21985 => ?_)
    · unfold fX11_hits_J23
      unfold fX11_hits_J24
      exact wq_xb (tt_fX11_need0 N) (by decide) (fun _ h => absurd h id)
    · unfold fX11_hits_J24
      refine wq_xb (tt_fX11_need hN (1 : Int32)) (by decide) (fun r1_q21987 h_r1_q21987 => ?_)
      obtain ⟨h_r1_q21987_0, -⟩ := h_r1_q21987
      refine wq_ok ?_
      refine wq_eq (fun hc_21988 => ?_) (fun hc_21989 => ?_)
      · refine wq_b (tt_fX7_howManyHits hN (wb_sh I0 43) (wb_sh M0 28) x2 (KX11.s_X7_43_28 k_I0)) (fun r5_q21990 h_r5_q21990 => ?_)
        obtain ⟨h_r5_q21990_0, h_r5_q21990_1, -⟩ := h_r5_q21990
        refine wq_v (fun I0_6_q21991 h_I0_6_q21991 => ?_)
        refine wq_v (fun M0_7_q21992 h_M0_7_q21992 => ?_)
        have k_M0_7_q21992 : KX11 I0_6_q21991 M0_7_q21992 := by rw [h_I0_6_q21991, h_M0_7_q21992]; exact KX11.p_X7_43_28 k_I0 h_r5_q21990_1
        exact wq_s ⟨k_M0_7_q21992, trivial⟩
      · refine wq_b (tt_fX7_chanceOfLives hN (wb_sh I0 43) (wb_sh M0 28) x2 (KX11.s_X7_43_28 k_I0)) (fun r2_q21993 h_r2_q21993 => ?_)
        obtain ⟨h_r2_q21993_0, -⟩ := h_r2_q21993
        refine wq_v (fun I0_3_q21994 h_I0_3_q21994 => ?_)
        refine wq_v (fun M0_4_q21995 h_M0_4_q21995 => ?_)
        have k_M0_4_q21995 : KX11 I0_3_q21994 M0_4_q21995 := by rw [h_I0_3_q21994, h_M0_4_q21995]; exact KX11.p_X7_43_28 k_I0 h_r2_q21993_0
        have b_21996 := i32b r2_q21993.1
        exact wq_s ⟨k_M0_4_q21995, trivial⟩
set_option maxHeartbeats 4000000 in
theorem tt_fX12_thrown {N : Nat} (hN : 3000000000 ≤ N) (I0 : Nat → Int32) (L0 : Int64) (M0 : Nat → Nat → Int32) (k_I0 : KX12 I0 M0) : wq (fX12_thrown N I0 L0 M0) (fun r => True) := by
  unfold fX12_thrown
  exact wq_s trivial
set_option maxHeartbeats 4000000 in
theorem tt_fX12_right {N : Nat} (hN : 3000000000 ≤ N) (I0 : Nat → Int32) (L0 : Int64) (M0 : Nat → Nat → Int32) (x1 : Int32) (x2 : Int32) (h_x2 : 1 ≤ x2.toInt ∧ x2.toInt ≤ 2) (k_I0 : KX12 I0 M0) : wq (fX12_right N I0 L0 M0 x1 x2) (fun r => (r.1.toInt = 0 ∨ (r.1.toInt = 1 ∧ x1.toInt ≠ 0)) ∧ (r.2.1 1).toInt = (I0 1).toInt ∧ (0 ≤ r.1.toInt ∧ r.1.toInt ≤ 1) ∧ KX12 r.2.1 r.2.2.2 ∧ True) := by
  unfold fX12_right
  have l_0 := il_0
  refine wq_eq (fun hc_22087 => ?_) (fun hc_22088 => ?_)
  · have b_22089 := i32b x1
    refine wq_eq (fun hc_22090 => ?_) (fun hc_22091 => ?_)
    · refine wq_v (fun I0_1_q22092 h_I0_1_q22092 => ?_)
      have k_I0_1_q22092 : KX12 I0_1_q22092 M0 := by rw [h_I0_1_q22092]; exact KX12.si0 k_I0
      have tr_22093 : (I0_1_q22092 0).toInt = x2.toInt := by rw [h_I0_1_q22092]; rfl
      have tr_22094 : (I0_1_q22092 1).toInt = (I0 1).toInt := by rw [h_I0_1_q22092]; rfl
      have t_22095 : (I0_1_q22092 0).toInt = x2.toInt := by rw [h_I0_1_q22092]; rfl
      refine wq_eq (fun hc_22096 => ?_) (fun hc_22097 => ?_)
      · exfalso; omega
      · exact wq_s ⟨(show ((0 : Int32).toInt = 0 ∨ ((0 : Int32).toInt = 1 ∧ x1.toInt ≠ 0)) from by omega), (show (I0_1_q22092 1).toInt = (I0 1).toInt from by omega), (show 0 ≤ (0 : Int32).toInt ∧ (0 : Int32).toInt ≤ 1 from ⟨by omega, by omega⟩), k_I0_1_q22092, trivial⟩
    · refine wq_eq (fun hc_22098 => ?_) (fun hc_22099 => ?_)
      · have l_1 := il_1
        exact wq_s ⟨(show ((1 : Int32).toInt = 0 ∨ ((1 : Int32).toInt = 1 ∧ x1.toInt ≠ 0)) from by omega), (show (I0 1).toInt = (I0 1).toInt from by omega), (show 0 ≤ (1 : Int32).toInt ∧ (1 : Int32).toInt ≤ 1 from ⟨by omega, by omega⟩), k_I0, trivial⟩
      · exfalso; omega
  · refine wq_eq (fun hc_22100 => ?_) (fun hc_22101 => ?_)
    · have b_22102 := i32b x1
      have l_1 := il_1
      exact wq_s ⟨(show ((1 : Int32).toInt = 0 ∨ ((1 : Int32).toInt = 1 ∧ x1.toInt ≠ 0)) from by omega), (show (I0 1).toInt = (I0 1).toInt from by omega), (show 0 ≤ (1 : Int32).toInt ∧ (1 : Int32).toInt ≤ 1 from ⟨by omega, by omega⟩), k_I0, trivial⟩
    · have b_22103 := i32b x1
      exact wq_s ⟨(show ((0 : Int32).toInt = 0 ∨ ((0 : Int32).toInt = 1 ∧ x1.toInt ≠ 0)) from by omega), (show (I0 1).toInt = (I0 1).toInt from by omega), (show 0 ≤ (0 : Int32).toInt ∧ (0 : Int32).toInt ≤ 1 from ⟨by omega, by omega⟩), k_I0, trivial⟩
set_option maxHeartbeats 4000000 in
theorem tt_fX12_within {N : Nat} (hN : 3000000000 ≤ N) (x0 : Int32) (x1 : Int32) (x2 : Int32)  : wq (fX12_within N x0 x1 x2) (fun r => (r.toInt = 0 ∨ (r.toInt = 1 ∧ x1.toInt ≤ x0.toInt ∧ x0.toInt ≤ x2.toInt)) ∧ (0 ≤ r.toInt ∧ r.toInt ≤ 1) ∧ True) := by
  unfold fX12_within
  have b_22146 := i32b x0
  have b_22147 := i32b x1
  refine wq_lt (fun hc_22148 => ?_) (fun hc_22149 => ?_)
  · have b_22150 := i32b x2
    have l_0 := il_0
    exact wq_s ⟨(show ((0 : Int32).toInt = 0 ∨ ((0 : Int32).toInt = 1 ∧ x1.toInt ≤ x0.toInt ∧ x0.toInt ≤ x2.toInt)) from by omega), (show 0 ≤ (0 : Int32).toInt ∧ (0 : Int32).toInt ≤ 1 from ⟨by omega, by omega⟩), trivial⟩
  · have b_22151 := i32b x2
    refine wq_lt (fun hc_22152 => ?_) (fun hc_22153 => ?_)
    · have l_0 := il_0
      exact wq_s ⟨(show ((0 : Int32).toInt = 0 ∨ ((0 : Int32).toInt = 1 ∧ x1.toInt ≤ x0.toInt ∧ x0.toInt ≤ x2.toInt)) from by omega), (show 0 ≤ (0 : Int32).toInt ∧ (0 : Int32).toInt ≤ 1 from ⟨by omega, by omega⟩), trivial⟩
    · have l_1 := il_1
      exact wq_s ⟨(show ((1 : Int32).toInt = 0 ∨ ((1 : Int32).toInt = 1 ∧ x1.toInt ≤ x0.toInt ∧ x0.toInt ≤ x2.toInt)) from by omega), (show 0 ≤ (1 : Int32).toInt ∧ (1 : Int32).toInt ≤ 1 from ⟨by omega, by omega⟩), trivial⟩
theorem tt_lay1 (N fu : Nat) (x y : Int32) (I : Nat → Int32) (L : Int64) (M : Nat → Nat → Int32) (k : KX12 I M) (h : (I 3).toInt ≤ 599) (hy : ¬ y < 0) : ∃ (J : Nat → Int32) (M2 : Nat → Nat → Int32), fX12_lays_L3 N x (fu + 1) I L M y = fX12_lays_L3 N x fu J L M2 (y + (-8)) ∧ KX12 J M2 ∧ (J 3).toInt = (I 3).toInt + 1 := by
  have k3 := k.i3
  have l_1 := il_1
  have ta := ia_add (I 3) (1 : Int32) (by omega) (by omega)
  have hin : ¬ (I 3 < 0 ∨ 600 ≤ (I 3).toNatClampNeg) := by
    rw [nI_back (I 3) k3.1]
    exact wp_in (by omega) (by decide)
  refine ⟨upd I 3 (I 3 + 1), wb_um M 8 (I 3).toNatClampNeg ((x >>> (y &&& 31)) &&& (255 : Int32)), ?_, KX12.si3 (KX12.sm8 k) ⟨by omega, by omega⟩, ?_⟩
  · rw [fX12_lays_L3.eq_2, if_neg hy, if_neg hin, Option.bind_some, Option.bind_some, Option.bind_some]
  · show (I 3 + 1).toInt = _
    omega
theorem tt_fX12_lays {N : Nat} (hN : 3000000000 ≤ N) (I0 : Nat → Int32) (L0 : Int64) (M0 : Nat → Nat → Int32) (x1 : Int32) (k_I0 : KX12 I0 M0) (hr_1 : (I0 3).toInt ≤ 596) : wq (fX12_lays N I0 L0 M0 x1) (fun r => (r.1 3).toInt = (I0 3).toInt + 4 ∧ KX12 r.1 r.2.2 ∧ True) := by
  obtain ⟨n, rfl⟩ : ∃ n, N = n + 5 := ⟨N - 5, by omega⟩
  unfold fX12_lays
  obtain ⟨J1, M1, h1, k1, e1⟩ := tt_lay1 (n + 5) (n + 4) x1 24 I0 L0 M0 k_I0 (by omega) (by decide)
  obtain ⟨J2, M2, h2, k2, e2⟩ := tt_lay1 (n + 5) (n + 3) x1 (24 + -8) J1 L0 M1 k1 (by omega) (by decide)
  obtain ⟨J3, M3, h3, k3, e3⟩ := tt_lay1 (n + 5) (n + 2) x1 (24 + -8 + -8) J2 L0 M2 k2 (by omega) (by decide)
  obtain ⟨J4, M4, h4, k4, e4⟩ := tt_lay1 (n + 5) (n + 1) x1 (24 + -8 + -8 + -8) J3 L0 M3 k3 (by omega) (by decide)
  refine ⟨(J4, L0, M4), h1.trans (h2.trans (h3.trans (h4.trans ?_))), ?_, k4, trivial⟩
  · rw [fX12_lays_L3.eq_2, if_pos (by decide)]
  · show (J4 3).toInt = (I0 3).toInt + 4
    omega
set_option maxHeartbeats 4000000 in
theorem tt_fX12_feed {N : Nat} (hN : 3000000000 ≤ N) (I0 : Nat → Int32) (L0 : Int64) (M0 : Nat → Nat → Int32) (x1 : Int32) (x2 : Int32) (x3 : Int32) (x4 : Int32) (x5 : Int32) (k_I0 : KX12 I0 M0) : wq (fX12_feed N I0 L0 M0 x1 x2 x3 x4 x5) (fun r => (-1 ≤ r.1.toInt ∧ r.1.toInt ≤ 600) ∧ KX12 r.2.1 r.2.2.2 ∧ True) := by
  unfold fX12_feed
  refine wq_v (fun I0_1_q22256 h_I0_1_q22256 => ?_)
  have k_I0_1_q22256 : KX12 I0_1_q22256 M0 := by rw [h_I0_1_q22256]; exact KX12.si0 k_I0
  have t_22257 := KX12.i3 k_I0
  have t_22258 : (I0_1_q22256 3).toInt = (I0 3).toInt := by rw [h_I0_1_q22256]; rfl
  have l_20 := il_20
  have t_22259 := ia_add (I0_1_q22256 3) (20 : Int32) (by omega) (by omega)
  have l_600 := il_600
  refine wq_le (fun hc_22260 => ?_) (fun hc_22261 => ?_)
  · have b_22262 := i32b x1
    refine wq_b (tt_fX12_lays hN I0_1_q22256 L0 M0 x1 k_I0_1_q22256 (by omega)) (fun r2_q22263 h_r2_q22263 => ?_)
    obtain ⟨h_r2_q22263_0, h_r2_q22263_1, -⟩ := h_r2_q22263
    have b_22264 := i32b x2
    have t_22265 := KX12.i3 h_r2_q22263_1
    refine wq_b (tt_fX12_lays hN r2_q22263.1 r2_q22263.2.1 r2_q22263.2.2 x2 h_r2_q22263_1 (by omega)) (fun r3_q22266 h_r3_q22266 => ?_)
    obtain ⟨h_r3_q22266_0, h_r3_q22266_1, -⟩ := h_r3_q22266
    have b_22267 := i32b x3
    have t_22268 := KX12.i3 h_r3_q22266_1
    refine wq_b (tt_fX12_lays hN r3_q22266.1 r3_q22266.2.1 r3_q22266.2.2 x3 h_r3_q22266_1 (by omega)) (fun r4_q22269 h_r4_q22269 => ?_)
    obtain ⟨h_r4_q22269_0, h_r4_q22269_1, -⟩ := h_r4_q22269
    have b_22270 := i32b x4
    have t_22271 := KX12.i3 h_r4_q22269_1
    refine wq_b (tt_fX12_lays hN r4_q22269.1 r4_q22269.2.1 r4_q22269.2.2 x4 h_r4_q22269_1 (by omega)) (fun r5_q22272 h_r5_q22272 => ?_)
    obtain ⟨h_r5_q22272_0, h_r5_q22272_1, -⟩ := h_r5_q22272
    have b_22273 := i32b x5
    have t_22274 := KX12.i3 h_r5_q22272_1
    refine wq_b (tt_fX12_lays hN r5_q22272.1 r5_q22272.2.1 r5_q22272.2.2 x5 h_r5_q22272_1 (by omega)) (fun r6_q22275 h_r6_q22275 => ?_)
    obtain ⟨h_r6_q22275_0, h_r6_q22275_1, -⟩ := h_r6_q22275
    have t_22276 := KX12.i3 h_r6_q22275_1
    exact wq_s ⟨(show -1 ≤ (r6_q22275.1 3).toInt ∧ (r6_q22275.1 3).toInt ≤ 600 from ⟨by omega, by omega⟩), h_r6_q22275_1, trivial⟩
  · have l_m1 := il_m1
    exact wq_s ⟨(show -1 ≤ (-1 : Int32).toInt ∧ (-1 : Int32).toInt ≤ 600 from ⟨by omega, by omega⟩), k_I0_1_q22256, trivial⟩
set_option maxHeartbeats 4000000 in
theorem tt_fX12_byteAt {N : Nat} (hN : 3000000000 ≤ N) (I0 : Nat → Int32) (L0 : Int64) (M0 : Nat → Nat → Int32) (x1 : Int32) (h_x1 : 0 ≤ x1.toInt ∧ x1.toInt ≤ 600) (k_I0 : KX12 I0 M0) : wq (fX12_byteAt N I0 L0 M0 x1) (fun r => (r.toInt = 0 ∨ x1.toInt < (I0 6).toInt) ∧ True) := by
  unfold fX12_byteAt
  have t_22295 := KX12.i6 k_I0
  refine wq_le (fun hc_22296 => ?_) (fun hc_22297 => ?_)
  · have l_0 := il_0
    exact wq_s ⟨(show ((0 : Int32).toInt = 0 ∨ x1.toInt < (I0 6).toInt) from by omega), trivial⟩
  · refine wq_in (n := 600) ⟨by omega, by omega⟩ ?_
    exact wq_s ⟨(show ((M0 8 x1.toNatClampNeg).toInt = 0 ∨ x1.toInt < (I0 6).toInt) from by omega), trivial⟩
set_option maxHeartbeats 4000000 in
theorem tt_fX12_isLetter {N : Nat} (hN : 3000000000 ≤ N) (x0 : Int32)  : wq (fX12_isLetter N x0) (fun r => (r.toInt = 0 ∨ (r.toInt = 1 ∧ 97 ≤ x0.toInt)) ∧ (0 ≤ r.toInt ∧ r.toInt ≤ 1) ∧ True) := by
  unfold fX12_isLetter
  have b_22328 := i32b x0
  have l_97 := il_97
  refine wq_lt (fun hc_22329 => ?_) (fun hc_22330 => ?_)
  · have l_0 := il_0
    exact wq_s ⟨(show ((0 : Int32).toInt = 0 ∨ ((0 : Int32).toInt = 1 ∧ 97 ≤ x0.toInt)) from by omega), (show 0 ≤ (0 : Int32).toInt ∧ (0 : Int32).toInt ≤ 1 from ⟨by omega, by omega⟩), trivial⟩
  · have l_122 := il_122
    refine wq_lt (fun hc_22331 => ?_) (fun hc_22332 => ?_)
    · have l_0 := il_0
      exact wq_s ⟨(show ((0 : Int32).toInt = 0 ∨ ((0 : Int32).toInt = 1 ∧ 97 ≤ x0.toInt)) from by omega), (show 0 ≤ (0 : Int32).toInt ∧ (0 : Int32).toInt ≤ 1 from ⟨by omega, by omega⟩), trivial⟩
    · have l_1 := il_1
      exact wq_s ⟨(show ((1 : Int32).toInt = 0 ∨ ((1 : Int32).toInt = 1 ∧ 97 ≤ x0.toInt)) from by omega), (show 0 ≤ (1 : Int32).toInt ∧ (1 : Int32).toInt ≤ 1 from ⟨by omega, by omega⟩), trivial⟩
set_option maxHeartbeats 4000000 in
theorem tt_fX12_isDigit {N : Nat} (hN : 3000000000 ≤ N) (x0 : Int32)  : wq (fX12_isDigit N x0) (fun r => (r.toInt = 0 ∨ (r.toInt = 1 ∧ 48 ≤ x0.toInt)) ∧ (0 ≤ r.toInt ∧ r.toInt ≤ 1) ∧ True) := by
  unfold fX12_isDigit
  have b_22363 := i32b x0
  have l_48 := il_48
  refine wq_lt (fun hc_22364 => ?_) (fun hc_22365 => ?_)
  · have l_0 := il_0
    exact wq_s ⟨(show ((0 : Int32).toInt = 0 ∨ ((0 : Int32).toInt = 1 ∧ 48 ≤ x0.toInt)) from by omega), (show 0 ≤ (0 : Int32).toInt ∧ (0 : Int32).toInt ≤ 1 from ⟨by omega, by omega⟩), trivial⟩
  · have l_57 := il_57
    refine wq_lt (fun hc_22366 => ?_) (fun hc_22367 => ?_)
    · have l_0 := il_0
      exact wq_s ⟨(show ((0 : Int32).toInt = 0 ∨ ((0 : Int32).toInt = 1 ∧ 48 ≤ x0.toInt)) from by omega), (show 0 ≤ (0 : Int32).toInt ∧ (0 : Int32).toInt ≤ 1 from ⟨by omega, by omega⟩), trivial⟩
    · have l_1 := il_1
      exact wq_s ⟨(show ((1 : Int32).toInt = 0 ∨ ((1 : Int32).toInt = 1 ∧ 48 ≤ x0.toInt)) from by omega), (show 0 ≤ (1 : Int32).toInt ∧ (1 : Int32).toInt ≤ 1 from ⟨by omega, by omega⟩), trivial⟩
theorem FR.rf (I : Nat → Int32) : FR I I := fun _ _ _ _ _ _ _ _ => rfl
theorem FR.tr {I J K : Nat → Int32} (h : FR I J) (g : FR J K) : FR I K := fun k a b c d e f m => (g k a b c d e f m).trans (h k a b c d e f m)
theorem FR.up {I J : Nat → Int32} (h : FR I J) {j : Nat} {v : Int32} (hj : j = 4 ∨ j = 5 ∨ j = 7 ∨ j = 8 ∨ j = 9 ∨ j = 10 ∨ j = 11) : FR I (upd J j v) := by
  intro k a b c d e f m
  unfold upd
  rw [if_neg (by omega)]
  exact h k a b c d e f m
/-- what a step does: rows stay, of the ints only those of the text move, no fault; the end, or a byte on -/
def SP (I : Nat → Int32) (M : Nat → Nat → Int32) (r : (Nat → Int32) × Int64 × (Nat → Nat → Int32)) : Prop := r.2.2 = M ∧ FR I r.1 ∧ r.1 4 = I 4 ∧ r.1 5 = I 5 ∧ KX12 r.1 M ∧ (I 7).toInt ≤ (r.1 7).toInt ∧ ((r.1 8).toInt = 0 ∨ (I 7).toInt < (r.1 7).toInt)
theorem tt_st279 (N : Nat) (I0 I : Nat → Int32) (L : Int64) (M : Nat → Nat → Int32) (k : KX12 I M) (hf : FR I0 I) (h4 : I 4 = I0 4) (h5 : I 5 = I0 5) (hp : (I0 7).toInt ≤ (I 7).toInt ∧ ((I 8).toInt = 0 ∨ (I0 7).toInt < (I 7).toInt)) : wq (fX12_steps_J279 N I L M) (SP I0 M) := by
  unfold fX12_steps_J279
  refine wq_v (fun J e => ?_)
  rw [e]
  exact wq_s ⟨rfl, hf.up (by omega), h4, h5, KX12.si10 k, hp.1, hp.2⟩
theorem tt_st182 {N : Nat} (hN : 3000000000 ≤ N) (I0 : Nat → Int32) (M : Nat → Nat → Int32) : ∀ (fu : Nat) (I : Nat → Int32) (L : Int64), KX12 I M → FR I0 I → I 4 = I0 4 → I 5 = I0 5 → (I0 7).toInt < (I 7).toInt → 600 - (I 7).toInt < (fu : Int) → wq (fX12_steps_L182 N fu I L M) (SP I0 M) := by
  intro fu
  induction fu with
  | zero => intro I L k hf h4 h5 hp hm; have := k.i7; exfalso; omega
  | succ fu ih =>
    intro I L k hf h4 h5 hp hm
    rw [fX12_steps_L182.eq_2]
    have h7 := k.i7
    have h6 := k.i6
    have l_0 := il_0
    have l_1 := il_1
    refine wq_b (tt_fX12_byteAt hN I L M (I 7) h7 k) (fun r10 h10 => ?_)
    obtain ⟨h10, -⟩ := h10
    refine wq_b (tt_fX12_isDigit hN r10) (fun r11 h11 => ?_)
    obtain ⟨h11, -, -⟩ := h11
    refine wq_eq (fun hc => ?_) (fun hc => ?_)
    · refine wq_v (fun J e => ?_)
      subst e
      exact tt_st279 N I0 _ L M (KX12.si8 k) (hf.up (by omega)) h4 h5 ⟨by show _ ≤ (I 7).toInt; omega, Or.inr hp⟩
    · have ta := ia_add (I 7) (1 : Int32) (by omega) (by omega)
      have hgo : ∀ (J : Nat → Int32) (L2 : Int64), KX12 J M → FR I0 J → J 4 = I0 4 → J 5 = I0 5 → J 7 = I 7 → wq (fX12_steps_L182 N fu (upd J 7 (I 7 + 1)) L2 M) (SP I0 M) := by
        intro J L2 kJ fJ j4 j5 j7
        refine ih _ L2 (KX12.si7 kJ ⟨by omega, by omega⟩) (fJ.up (by omega)) j4 j5 ?_ ?_
        · show (I0 7).toInt < (I 7 + 1).toInt
          omega
        · show 600 - (I 7 + 1).toInt < _
          omega
      refine wq_le (fun hc2 => ?_) (fun hc2 => ?_)
      · refine wq_v (fun J e => ?_)
        subst e
        exact hgo I L k hf h4 h5 rfl
      · refine wq_b (tt_fX12_byteAt hN I L M (I 7) h7 k) (fun r14 h14 => ?_)
        refine wq_v (fun J e => ?_)
        refine wq_v (fun J2 e2 => ?_)
        have q7 : J 7 = I 7 := by rw [e]; rfl
        rw [q7] at e2
        subst e2
        refine hgo J L ?_ ?_ ?_ ?_ q7
        · rw [e]; exact KX12.si11 k
        · rw [e]; exact hf.up (by omega)
        · rw [e]; exact h4
        · rw [e]; exact h5
theorem tt_st103 {N : Nat} (hN : 3000000000 ≤ N) (I0 : Nat → Int32) (M : Nat → Nat → Int32) : ∀ (fu : Nat) (I : Nat → Int32) (L : Int64), KX12 I M → FR I0 I → I 4 = I0 4 → I 5 = I0 5 → (I0 7).toInt < (I 7).toInt → 600 - (I 7).toInt < (fu : Int) → wq (fX12_steps_L103 N fu I L M) (SP I0 M) := by
  intro fu
  induction fu with
  | zero => intro I L k hf h4 h5 hp hm; have := k.i7; exfalso; omega
  | succ fu ih =>
    intro I L k hf h4 h5 hp hm
    rw [fX12_steps_L103.eq_2]
    have h7 := k.i7
    have h6 := k.i6
    have l_0 := il_0
    have l_1 := il_1
    refine wq_b (tt_fX12_byteAt hN I L M (I 7) h7 k) (fun r10 h10 => ?_)
    obtain ⟨h10, -⟩ := h10
    refine wq_b (tt_fX12_isLetter hN r10) (fun r11 h11 => ?_)
    obtain ⟨h11, -, -⟩ := h11
    refine wq_eq (fun hc => ?_) (fun hc => ?_)
    · refine wq_v (fun J e => ?_)
      subst e
      exact tt_st279 N I0 _ L M (KX12.si8 k) (hf.up (by omega)) h4 h5 ⟨by show _ ≤ (I 7).toInt; omega, Or.inr hp⟩
    · have ta := ia_add (I 7) (1 : Int32) (by omega) (by omega)
      have hgo : ∀ (J : Nat → Int32) (L2 : Int64), KX12 J M → FR I0 J → J 4 = I0 4 → J 5 = I0 5 → J 7 = I 7 → wq (fX12_steps_L103 N fu (upd J 7 (I 7 + 1)) L2 M) (SP I0 M) := by
        intro J L2 kJ fJ j4 j5 j7
        refine ih _ L2 (KX12.si7 kJ ⟨by omega, by omega⟩) (fJ.up (by omega)) j4 j5 ?_ ?_
        · show (I0 7).toInt < (I 7 + 1).toInt
          omega
        · show 600 - (I 7 + 1).toInt < _
          omega
      refine wq_le (fun hc2 => ?_) (fun hc2 => ?_)
      · refine wq_v (fun J e => ?_)
        subst e
        exact hgo I L k hf h4 h5 rfl
      · refine wq_b (tt_fX12_byteAt hN I L M (I 7) h7 k) (fun r14 h14 => ?_)
        refine wq_v (fun L2 eL => ?_)
        refine wq_v (fun J e => ?_)
        subst e
        exact hgo I L2 k hf h4 h5 rfl
theorem tt_st50 {N : Nat} (hN : 3000000000 ≤ N) (I0 I : Nat → Int32) (L : Int64) (M : Nat → Nat → Int32) (k : KX12 I M) (hf : FR I0 I) (h4 : I 4 = I0 4) (h5 : I 5 = I0 5) (hp : (I0 7).toInt ≤ (I 7).toInt) : wq (fX12_steps_J50 N I L M) (SP I0 M) := by
  unfold fX12_steps_J50
  refine wq_v (fun I3 e3 => ?_)
  refine wq_v (fun L4 e4 => ?_)
  refine wq_v (fun I5 e5 => ?_)
  have k5 : KX12 I5 M := by rw [e5, e3]; exact KX12.si11 (KX12.si9 k)
  have f5 : FR I0 I5 := by rw [e5, e3]; exact (hf.up (by omega)).up (by omega)
  have g4 : I5 4 = I0 4 := by rw [e5, e3]; exact h4
  have g5 : I5 5 = I0 5 := by rw [e5, e3]; exact h5
  have g7 : I5 7 = I 7 := by rw [e5, e3]; rfl
  rw [← g7] at hp
  clear e5 e3
  have h7 := k5.i7
  have h6 := k5.i6
  have l_0 := il_0
  have l_1 := il_1
  obtain ⟨r6, e6, -⟩ := tt_fX12_byteAt hN I5 L4 M (I5 7) h7 k5
  rw [e6, Option.bind_some]
  refine wq_lt (fun hc => ?_) (fun hc => ?_)
  · obtain ⟨r7, e7, -⟩ := tt_fX12_isLetter hN r6
    rw [e7, Option.bind_some]
    refine wq_eq (fun hc1 => ?_) (fun hc1 => ?_)
    · obtain ⟨r8, e8, -⟩ := tt_fX12_isDigit hN r6
      rw [e8, Option.bind_some]
      refine wq_eq (fun hc2 => ?_) (fun hc2 => ?_)
      · have ta := ia_add (I5 7) (1 : Int32) (by omega) (by omega)
        refine wq_v (fun I9 e9 => ?_)
        subst e9
        have k9 : KX12 (upd I5 7 (I5 7 + 1)) M := KX12.si7 k5 ⟨by omega, by omega⟩
        have hz : ∀ z : Int32, wq (fX12_steps_J276 N (upd I5 7 (I5 7 + 1)) L4 M z) (SP I0 M) := by
          intro z
          unfold fX12_steps_J276
          refine wq_v (fun J e => ?_)
          subst e
          refine tt_st279 N I0 _ L4 M (KX12.si8 k9) ((f5.up (by omega)).up (by omega)) g4 g5 ⟨?_, Or.inr ?_⟩
          · show _ ≤ (I5 7 + 1).toInt
            omega
          · show _ < (I5 7 + 1).toInt
            omega
        exact wq_i (fun _ => hz _) (fun _ => hz _)
      · have hq : wq (fX12_steps_L182 N N I5 L4 M) (SP I0 M) := by
          obtain ⟨n, rfl⟩ : ∃ n, N = n + 1 := ⟨N - 1, by omega⟩
          rw [fX12_steps_L182.eq_2, e6, Option.bind_some, e8, Option.bind_some]
          have ta := ia_add (I5 7) (1 : Int32) (by omega) (by omega)
          have hgo : ∀ (J : Nat → Int32) (L2 : Int64), KX12 J M → FR I0 J → J 4 = I0 4 → J 5 = I0 5 → J 7 = I5 7 → wq (fX12_steps_L182 (n + 1) n (upd J 7 (I5 7 + 1)) L2 M) (SP I0 M) := by
            intro J L2 kJ fJ j4 j5 j7
            refine tt_st182 hN I0 M n _ L2 (KX12.si7 kJ ⟨by omega, by omega⟩) (fJ.up (by omega)) j4 j5 ?_ ?_
            · show (I0 7).toInt < (I5 7 + 1).toInt
              omega
            · show 600 - (I5 7 + 1).toInt < _
              omega
          refine wq_eq (fun hx => absurd hx hc2) (fun _ => ?_)
          refine wq_le (fun hc2 => ?_) (fun hc2 => ?_)
          · refine wq_v (fun J e => ?_)
            subst e
            exact hgo I5 L4 k5 f5 g4 g5 rfl
          · rw [Option.bind_some]
            refine wq_v (fun J e => ?_)
            refine wq_v (fun J2 e2 => ?_)
            have q7 : J 7 = I5 7 := by rw [e]; rfl
            rw [q7] at e2
            subst e2
            refine hgo J L4 ?_ ?_ ?_ ?_ q7
            · rw [e]; exact KX12.si11 k5
            · rw [e]; exact f5.up (by omega)
            · rw [e]; exact g4
            · rw [e]; exact g5
        exact hq
    · have hq : wq (fX12_steps_L103 N N I5 L4 M) (SP I0 M) := by
        obtain ⟨n, rfl⟩ : ∃ n, N = n + 1 := ⟨N - 1, by omega⟩
        rw [fX12_steps_L103.eq_2, e6, Option.bind_some, e7, Option.bind_some]
        have ta := ia_add (I5 7) (1 : Int32) (by omega) (by omega)
        have hgo : ∀ (J : Nat → Int32) (L2 : Int64), KX12 J M → FR I0 J → J 4 = I0 4 → J 5 = I0 5 → J 7 = I5 7 → wq (fX12_steps_L103 (n + 1) n (upd J 7 (I5 7 + 1)) L2 M) (SP I0 M) := by
          intro J L2 kJ fJ j4 j5 j7
          refine tt_st103 hN I0 M n _ L2 (KX12.si7 kJ ⟨by omega, by omega⟩) (fJ.up (by omega)) j4 j5 ?_ ?_
          · show (I0 7).toInt < (I5 7 + 1).toInt
            omega
          · show 600 - (I5 7 + 1).toInt < _
            omega
        refine wq_eq (fun hx => absurd hx hc1) (fun _ => ?_)
        refine wq_le (fun hc2 => ?_) (fun hc2 => ?_)
        · refine wq_v (fun J e => ?_)
          subst e
          exact hgo I5 L4 k5 f5 g4 g5 rfl
        · rw [Option.bind_some]
          refine wq_v (fun L2 eL => ?_)
          refine wq_v (fun J e => ?_)
          subst e
          exact hgo I5 L2 k5 f5 g4 g5 rfl
      exact hq
  · refine wq_v (fun J e => ?_)
    subst e
    exact tt_st279 N I0 _ L4 M (KX12.si8 k5) (f5.up (by omega)) g4 g5 ⟨hp, Or.inl il_0⟩
theorem tt_st0 {N : Nat} (hN : 3000000000 ≤ N) (I0 : Nat → Int32) (M : Nat → Nat → Int32) : ∀ (fu : Nat) (I : Nat → Int32) (L : Int64), KX12 I M → FR I0 I → I 4 = I0 4 → I 5 = I0 5 → (I0 7).toInt ≤ (I 7).toInt → 600 - (I 7).toInt < (fu : Int) → wq (fX12_steps_L0 N fu I L M) (SP I0 M) := by
  intro fu
  induction fu with
  | zero => intro I L k hf h4 h5 hp hm; have := k.i7; exfalso; omega
  | succ fu ih =>
    intro I L k hf h4 h5 hp hm
    rw [fX12_steps_L0.eq_2]
    have h7 := k.i7
    have h6 := k.i6
    have l_0 := il_0
    have l_1 := il_1
    refine wq_le (fun hc => ?_) (fun hc => ?_)
    · exact tt_st50 hN I0 I L M k hf h4 h5 hp
    · have ta := ia_add (I 7) (1 : Int32) (by omega) (by omega)
      have hn : wq (fX12_steps_L0 N fu (upd I 7 (I 7 + 1)) L M) (SP I0 M) := by
        refine ih _ L (KX12.si7 k ⟨by omega, by omega⟩) (hf.up (by omega)) h4 h5 ?_ ?_
        · show _ ≤ (I 7 + 1).toInt
          omega
        · show 600 - (I 7 + 1).toInt < _
          omega
      refine wq_b (tt_fX12_byteAt hN I L M (I 7) h7 k) (fun r25 h25 => ?_)
      refine wq_i (fun _ => ?_) (fun _ => ?_)
      · exact wq_v (fun J e => by subst e; exact hn)
      · refine wq_b (tt_fX12_byteAt hN I L M (I 7) h7 k) (fun r27 h27 => ?_)
        refine wq_i (fun _ => ?_) (fun _ => ?_)
        · exact wq_v (fun J e => by subst e; exact hn)
        · exact tt_st50 hN I0 I L M k hf h4 h5 hp
theorem tt_steps {N : Nat} (hN : 3000000000 ≤ N) (I : Nat → Int32) (L : Int64) (M : Nat → Nat → Int32) (k : KX12 I M) : wq (fX12_steps N I L M) (SP I M) := by
  unfold fX12_steps
  have h7 := k.i7
  exact tt_st0 hN I M N I L k (FR.rf I) rfl rfl (by omega) (by omega)
theorem tt_fX12_steps {N : Nat} (hN : 3000000000 ≤ N) (I0 : Nat → Int32) (L0 : Int64) (M0 : Nat → Nat → Int32) (k_I0 : KX12 I0 M0) : wq (fX12_steps N I0 L0 M0) (fun r => KX12 r.1 r.2.2 ∧ True) := wq_w (tt_steps hN I0 L0 M0 k_I0) (fun r h => by rw [h.1]; exact ⟨h.2.2.2.2.1, trivial⟩)
set_option maxHeartbeats 4000000 in
theorem tt_fX12_spelled {N : Nat} (hN : 3000000000 ≤ N) (x0 : Int32) (x1 : Int32) (x2 : Int32) (x3 : Int32) (x4 : Int32) (x5 : Int32) (x6 : Int32)  : wq (fX12_spelled N x0 x1 x2 x3 x4 x5 x6) (fun r => True) := by
  unfold fX12_spelled
  refine wq_v (fun v6_q23633 h_v6_q23633 => ?_)
  have b_23634 := i32b x1
  have l_0 := il_0
  refine wq_eq (fun hc_23635 => ?_) (fun hc_23636 => ?_)
  · unfold fX12_spelled_J23
    have b_23637 := i32b x2
    refine wq_eq (fun hc_23638 => ?_) (fun hc_23639 => ?_)
    · unfold fX12_spelled_J39
      have b_23640 := i32b x3
      refine wq_eq (fun hc_23641 => ?_) (fun hc_23642 => ?_)
      · unfold fX12_spelled_J55
        have b_23643 := i32b x4
        refine wq_eq (fun hc_23644 => ?_) (fun hc_23645 => ?_)
        · unfold fX12_spelled_J73
          have b_23646 := i32b x5
          refine wq_eq (fun hc_23647 => ?_) (fun hc_23648 => ?_)
          · unfold fX12_spelled_J91
            have b_23649 := i32b x6
            refine wq_eq (fun hc_23650 => ?_) (fun hc_23651 => ?_)
            · exact wq_s trivial
            · refine wq_v (fun v1_q23652 h_v1_q23652 => ?_)
              exact wq_s trivial
          · refine wq_v (fun v2_q23653 h_v2_q23653 => ?_)
            unfold fX12_spelled_J91
            have b_23654 := i32b x6
            refine wq_eq (fun hc_23655 => ?_) (fun hc_23656 => ?_)
            · exact wq_s trivial
            · refine wq_v (fun v1_q23657 h_v1_q23657 => ?_)
              exact wq_s trivial
        · refine wq_v (fun v3_q23658 h_v3_q23658 => ?_)
          unfold fX12_spelled_J73
          have b_23659 := i32b x5
          refine wq_eq (fun hc_23660 => ?_) (fun hc_23661 => ?_)
          · unfold fX12_spelled_J91
            have b_23662 := i32b x6
            refine wq_eq (fun hc_23663 => ?_) (fun hc_23664 => ?_)
            · exact wq_s trivial
            · refine wq_v (fun v1_q23665 h_v1_q23665 => ?_)
              exact wq_s trivial
          · refine wq_v (fun v2_q23666 h_v2_q23666 => ?_)
            unfold fX12_spelled_J91
            have b_23667 := i32b x6
            refine wq_eq (fun hc_23668 => ?_) (fun hc_23669 => ?_)
            · exact wq_s trivial
            · refine wq_v (fun v1_q23670 h_v1_q23670 => ?_)
              exact wq_s trivial
      · refine wq_v (fun v4_q23671 h_v4_q23671 => ?_)
        unfold fX12_spelled_J55
        have b_23672 := i32b x4
        refine wq_eq (fun hc_23673 => ?_) (fun hc_23674 => ?_)
        · unfold fX12_spelled_J73
          have b_23675 := i32b x5
          refine wq_eq (fun hc_23676 => ?_) (fun hc_23677 => ?_)
          · unfold fX12_spelled_J91
            have b_23678 := i32b x6
            refine wq_eq (fun hc_23679 => ?_) (fun hc_23680 => ?_)
            · exact wq_s trivial
            · refine wq_v (fun v1_q23681 h_v1_q23681 => ?_)
              exact wq_s trivial
          · refine wq_v (fun v2_q23682 h_v2_q23682 => ?_)
            unfold fX12_spelled_J91
            have b_23683 := i32b x6
            refine wq_eq (fun hc_23684 => ?_) (fun hc_23685 => ?_)
            · exact wq_s trivial
            · refine wq_v (fun v1_q23686 h_v1_q23686 => ?_)
              exact wq_s trivial
        · refine wq_v (fun v3_q23687 h_v3_q23687 => ?_)
          unfold fX12_spelled_J73
          have b_23688 := i32b x5
          refine wq_eq (fun hc_23689 => ?_) (fun hc_23690 => ?_)
          · unfold fX12_spelled_J91
            have b_23691 := i32b x6
            refine wq_eq (fun hc_23692 => ?_) (fun hc_23693 => ?_)
            · exact wq_s trivial
            · refine wq_v (fun v1_q23694 h_v1_q23694 => ?_)
              exact wq_s trivial
          · refine wq_v (fun v2_q23695 h_v2_q23695 => ?_)
            unfold fX12_spelled_J91
            have b_23696 := i32b x6
            refine wq_eq (fun hc_23697 => ?_) (fun hc_23698 => ?_)
            · exact wq_s trivial
            · refine wq_v (fun v1_q23699 h_v1_q23699 => ?_)
              exact wq_s trivial
    · refine wq_v (fun v5_q23700 h_v5_q23700 => ?_)
      unfold fX12_spelled_J39
      have b_23701 := i32b x3
      refine wq_eq (fun hc_23702 => ?_) (fun hc_23703 => ?_)
      · unfold fX12_spelled_J55
        have b_23704 := i32b x4
        refine wq_eq (fun hc_23705 => ?_) (fun hc_23706 => ?_)
        · unfold fX12_spelled_J73
          have b_23707 := i32b x5
          refine wq_eq (fun hc_23708 => ?_) (fun hc_23709 => ?_)
          · unfold fX12_spelled_J91
            have b_23710 := i32b x6
            refine wq_eq (fun hc_23711 => ?_) (fun hc_23712 => ?_)
            · exact wq_s trivial
            · refine wq_v (fun v1_q23713 h_v1_q23713 => ?_)
              exact wq_s trivial
          · refine wq_v (fun v2_q23714 h_v2_q23714 => ?_)
            unfold fX12_spelled_J91
            have b_23715 := i32b x6
            refine wq_eq (fun hc_23716 => ?_) (fun hc_23717 => ?_)
            · exact wq_s trivial
            · refine wq_v (fun v1_q23718 h_v1_q23718 => ?_)
              exact wq_s trivial
        · refine wq_v (fun v3_q23719 h_v3_q23719 => ?_)
          unfold fX12_spelled_J73
          have b_23720 := i32b x5
          refine wq_eq (fun hc_23721 => ?_) (fun hc_23722 => ?_)
          · unfold fX12_spelled_J91
            have b_23723 := i32b x6
            refine wq_eq (fun hc_23724 => ?_) (fun hc_23725 => ?_)
            · exact wq_s trivial
            · refine wq_v (fun v1_q23726 h_v1_q23726 => ?_)
              exact wq_s trivial
          · refine wq_v (fun v2_q23727 h_v2_q23727 => ?_)
            unfold fX12_spelled_J91
            have b_23728 := i32b x6
            refine wq_eq (fun hc_23729 => ?_) (fun hc_23730 => ?_)
            · exact wq_s trivial
            · refine wq_v (fun v1_q23731 h_v1_q23731 => ?_)
              exact wq_s trivial
      · refine wq_v (fun v4_q23732 h_v4_q23732 => ?_)
        unfold fX12_spelled_J55
        have b_23733 := i32b x4
        refine wq_eq (fun hc_23734 => ?_) (fun hc_23735 => ?_)
        · unfold fX12_spelled_J73
          have b_23736 := i32b x5
          refine wq_eq (fun hc_23737 => ?_) (fun hc_23738 => ?_)
          · unfold fX12_spelled_J91
            have b_23739 := i32b x6
            refine wq_eq (fun hc_23740 => ?_) (fun hc_23741 => ?_)
            · exact wq_s trivial
            · refine wq_v (fun v1_q23742 h_v1_q23742 => ?_)
              exact wq_s trivial
          · refine wq_v (fun v2_q23743 h_v2_q23743 => ?_)
            unfold fX12_spelled_J91
            have b_23744 := i32b x6
            refine wq_eq (fun hc_23745 => ?_) (fun hc_23746 => ?_)
            · exact wq_s trivial
            · refine wq_v (fun v1_q23747 h_v1_q23747 => ?_)
              exact wq_s trivial
        · refine wq_v (fun v3_q23748 h_v3_q23748 => ?_)
          unfold fX12_spelled_J73
          have b_23749 := i32b x5
          refine wq_eq (fun hc_23750 => ?_) (fun hc_23751 => ?_)
          · unfold fX12_spelled_J91
            have b_23752 := i32b x6
            refine wq_eq (fun hc_23753 => ?_) (fun hc_23754 => ?_)
            · exact wq_s trivial
            · refine wq_v (fun v1_q23755 h_v1_q23755 => ?_)
              exact wq_s trivial
          · refine wq_v (fun v2_q23756 h_v2_q23756 => ?_)
            unfold fX12_spelled_J91
            have b_23757 := i32b x6
            refine wq_eq (fun hc_23758 => ?_) (fun hc_23759 => ?_)
            · exact wq_s trivial
            · refine wq_v (fun v1_q23760 h_v1_q23760 => ?_)
              exact wq_s trivial
  · refine wq_v (fun v7_q23761 h_v7_q23761 => ?_)
    unfold fX12_spelled_J23
    have b_23762 := i32b x2
    refine wq_eq (fun hc_23763 => ?_) (fun hc_23764 => ?_)
    · unfold fX12_spelled_J39
      have b_23765 := i32b x3
      refine wq_eq (fun hc_23766 => ?_) (fun hc_23767 => ?_)
      · unfold fX12_spelled_J55
        have b_23768 := i32b x4
        refine wq_eq (fun hc_23769 => ?_) (fun hc_23770 => ?_)
        · unfold fX12_spelled_J73
          have b_23771 := i32b x5
          refine wq_eq (fun hc_23772 => ?_) (fun hc_23773 => ?_)
          · unfold fX12_spelled_J91
            have b_23774 := i32b x6
            refine wq_eq (fun hc_23775 => ?_) (fun hc_23776 => ?_)
            · exact wq_s trivial
            · refine wq_v (fun v1_q23777 h_v1_q23777 => ?_)
              exact wq_s trivial
          · refine wq_v (fun v2_q23778 h_v2_q23778 => ?_)
            unfold fX12_spelled_J91
            have b_23779 := i32b x6
            refine wq_eq (fun hc_23780 => ?_) (fun hc_23781 => ?_)
            · exact wq_s trivial
            · refine wq_v (fun v1_q23782 h_v1_q23782 => ?_)
              exact wq_s trivial
        · refine wq_v (fun v3_q23783 h_v3_q23783 => ?_)
          unfold fX12_spelled_J73
          have b_23784 := i32b x5
          refine wq_eq (fun hc_23785 => ?_) (fun hc_23786 => ?_)
          · unfold fX12_spelled_J91
            have b_23787 := i32b x6
            refine wq_eq (fun hc_23788 => ?_) (fun hc_23789 => ?_)
            · exact wq_s trivial
            · refine wq_v (fun v1_q23790 h_v1_q23790 => ?_)
              exact wq_s trivial
          · refine wq_v (fun v2_q23791 h_v2_q23791 => ?_)
            unfold fX12_spelled_J91
            have b_23792 := i32b x6
            refine wq_eq (fun hc_23793 => ?_) (fun hc_23794 => ?_)
            · exact wq_s trivial
            · refine wq_v (fun v1_q23795 h_v1_q23795 => ?_)
              exact wq_s trivial
      · refine wq_v (fun v4_q23796 h_v4_q23796 => ?_)
        unfold fX12_spelled_J55
        have b_23797 := i32b x4
        refine wq_eq (fun hc_23798 => ?_) (fun hc_23799 => ?_)
        · unfold fX12_spelled_J73
          have b_23800 := i32b x5
          refine wq_eq (fun hc_23801 => ?_) (fun hc_23802 => ?_)
          · unfold fX12_spelled_J91
            have b_23803 := i32b x6
            refine wq_eq (fun hc_23804 => ?_) (fun hc_23805 => ?_)
            · exact wq_s trivial
            · refine wq_v (fun v1_q23806 h_v1_q23806 => ?_)
              exact wq_s trivial
          · refine wq_v (fun v2_q23807 h_v2_q23807 => ?_)
            unfold fX12_spelled_J91
            have b_23808 := i32b x6
            refine wq_eq (fun hc_23809 => ?_) (fun hc_23810 => ?_)
            · exact wq_s trivial
            · refine wq_v (fun v1_q23811 h_v1_q23811 => ?_)
              exact wq_s trivial
        · refine wq_v (fun v3_q23812 h_v3_q23812 => ?_)
          unfold fX12_spelled_J73
          have b_23813 := i32b x5
          refine wq_eq (fun hc_23814 => ?_) (fun hc_23815 => ?_)
          · unfold fX12_spelled_J91
            have b_23816 := i32b x6
            refine wq_eq (fun hc_23817 => ?_) (fun hc_23818 => ?_)
            · exact wq_s trivial
            · refine wq_v (fun v1_q23819 h_v1_q23819 => ?_)
              exact wq_s trivial
          · refine wq_v (fun v2_q23820 h_v2_q23820 => ?_)
            unfold fX12_spelled_J91
            have b_23821 := i32b x6
            refine wq_eq (fun hc_23822 => ?_) (fun hc_23823 => ?_)
            · exact wq_s trivial
            · refine wq_v (fun v1_q23824 h_v1_q23824 => ?_)
              exact wq_s trivial
    · refine wq_v (fun v5_q23825 h_v5_q23825 => ?_)
      unfold fX12_spelled_J39
      have b_23826 := i32b x3
      refine wq_eq (fun hc_23827 => ?_) (fun hc_23828 => ?_)
      · unfold fX12_spelled_J55
        have b_23829 := i32b x4
        refine wq_eq (fun hc_23830 => ?_) (fun hc_23831 => ?_)
        · unfold fX12_spelled_J73
          have b_23832 := i32b x5
          refine wq_eq (fun hc_23833 => ?_) (fun hc_23834 => ?_)
          · unfold fX12_spelled_J91
            have b_23835 := i32b x6
            refine wq_eq (fun hc_23836 => ?_) (fun hc_23837 => ?_)
            · exact wq_s trivial
            · refine wq_v (fun v1_q23838 h_v1_q23838 => ?_)
              exact wq_s trivial
          · refine wq_v (fun v2_q23839 h_v2_q23839 => ?_)
            unfold fX12_spelled_J91
            have b_23840 := i32b x6
            refine wq_eq (fun hc_23841 => ?_) (fun hc_23842 => ?_)
            · exact wq_s trivial
            · refine wq_v (fun v1_q23843 h_v1_q23843 => ?_)
              exact wq_s trivial
        · refine wq_v (fun v3_q23844 h_v3_q23844 => ?_)
          unfold fX12_spelled_J73
          have b_23845 := i32b x5
          refine wq_eq (fun hc_23846 => ?_) (fun hc_23847 => ?_)
          · unfold fX12_spelled_J91
            have b_23848 := i32b x6
            refine wq_eq (fun hc_23849 => ?_) (fun hc_23850 => ?_)
            · exact wq_s trivial
            · refine wq_v (fun v1_q23851 h_v1_q23851 => ?_)
              exact wq_s trivial
          · refine wq_v (fun v2_q23852 h_v2_q23852 => ?_)
            unfold fX12_spelled_J91
            have b_23853 := i32b x6
            refine wq_eq (fun hc_23854 => ?_) (fun hc_23855 => ?_)
            · exact wq_s trivial
            · refine wq_v (fun v1_q23856 h_v1_q23856 => ?_)
              exact wq_s trivial
      · refine wq_v (fun v4_q23857 h_v4_q23857 => ?_)
        unfold fX12_spelled_J55
        have b_23858 := i32b x4
        refine wq_eq (fun hc_23859 => ?_) (fun hc_23860 => ?_)
        · unfold fX12_spelled_J73
          have b_23861 := i32b x5
          refine wq_eq (fun hc_23862 => ?_) (fun hc_23863 => ?_)
          · unfold fX12_spelled_J91
            have b_23864 := i32b x6
            refine wq_eq (fun hc_23865 => ?_) (fun hc_23866 => ?_)
            · exact wq_s trivial
            · refine wq_v (fun v1_q23867 h_v1_q23867 => ?_)
              exact wq_s trivial
          · refine wq_v (fun v2_q23868 h_v2_q23868 => ?_)
            unfold fX12_spelled_J91
            have b_23869 := i32b x6
            refine wq_eq (fun hc_23870 => ?_) (fun hc_23871 => ?_)
            · exact wq_s trivial
            · refine wq_v (fun v1_q23872 h_v1_q23872 => ?_)
              exact wq_s trivial
        · refine wq_v (fun v3_q23873 h_v3_q23873 => ?_)
          unfold fX12_spelled_J73
          have b_23874 := i32b x5
          refine wq_eq (fun hc_23875 => ?_) (fun hc_23876 => ?_)
          · unfold fX12_spelled_J91
            have b_23877 := i32b x6
            refine wq_eq (fun hc_23878 => ?_) (fun hc_23879 => ?_)
            · exact wq_s trivial
            · refine wq_v (fun v1_q23880 h_v1_q23880 => ?_)
              exact wq_s trivial
          · refine wq_v (fun v2_q23881 h_v2_q23881 => ?_)
            unfold fX12_spelled_J91
            have b_23882 := i32b x6
            refine wq_eq (fun hc_23883 => ?_) (fun hc_23884 => ?_)
            · exact wq_s trivial
            · refine wq_v (fun v1_q23885 h_v1_q23885 => ?_)
              exact wq_s trivial
set_option maxHeartbeats 4000000 in
theorem tt_fX12_letters {N : Nat} (hN : 3000000000 ≤ N) (x0 : Int32)  : wq (fX12_letters N x0) (fun r => True) := by
  unfold fX12_letters
  have b_24166 := i32b x0
  have l_0 := il_0
  refine wq_eq (fun hc_24167 => ?_) (fun hc_24168 => ?_)
  · have l_115 := il_115
    have l_117 := il_117
    have l_110 := il_110
    refine wq_b (tt_fX12_spelled hN (115 : Int32) (117 : Int32) (110 : Int32) (0 : Int32) (0 : Int32) (0 : Int32) (0 : Int32)) (fun r1_q24169 h_r1_q24169 => ?_)
    obtain ⟨-⟩ := h_r1_q24169
    exact wq_s trivial
  · have l_1 := il_1
    refine wq_eq (fun hc_24170 => ?_) (fun hc_24171 => ?_)
    · have l_109 := il_109
      have l_111 := il_111
      have l_110 := il_110
      refine wq_b (tt_fX12_spelled hN (109 : Int32) (111 : Int32) (111 : Int32) (110 : Int32) (0 : Int32) (0 : Int32) (0 : Int32)) (fun r2_q24172 h_r2_q24172 => ?_)
      obtain ⟨-⟩ := h_r2_q24172
      exact wq_s trivial
    · have l_2 := il_2
      refine wq_eq (fun hc_24173 => ?_) (fun hc_24174 => ?_)
      · have l_109 := il_109
        have l_101 := il_101
        have l_114 := il_114
        have l_99 := il_99
        have l_117 := il_117
        have l_121 := il_121
        refine wq_b (tt_fX12_spelled hN (109 : Int32) (101 : Int32) (114 : Int32) (99 : Int32) (117 : Int32) (114 : Int32) (121 : Int32)) (fun r3_q24175 h_r3_q24175 => ?_)
        obtain ⟨-⟩ := h_r3_q24175
        exact wq_s trivial
      · have l_3 := il_3
        refine wq_eq (fun hc_24176 => ?_) (fun hc_24177 => ?_)
        · have l_118 := il_118
          have l_101 := il_101
          have l_110 := il_110
          have l_117 := il_117
          have l_115 := il_115
          refine wq_b (tt_fX12_spelled hN (118 : Int32) (101 : Int32) (110 : Int32) (117 : Int32) (115 : Int32) (0 : Int32) (0 : Int32)) (fun r4_q24178 h_r4_q24178 => ?_)
          obtain ⟨-⟩ := h_r4_q24178
          exact wq_s trivial
        · have l_4 := il_4
          refine wq_eq (fun hc_24179 => ?_) (fun hc_24180 => ?_)
          · have l_109 := il_109
            have l_97 := il_97
            have l_114 := il_114
            have l_115 := il_115
            refine wq_b (tt_fX12_spelled hN (109 : Int32) (97 : Int32) (114 : Int32) (115 : Int32) (0 : Int32) (0 : Int32) (0 : Int32)) (fun r5_q24181 h_r5_q24181 => ?_)
            obtain ⟨-⟩ := h_r5_q24181
            exact wq_s trivial
          · have l_5 := il_5
            refine wq_eq (fun hc_24182 => ?_) (fun hc_24183 => ?_)
            · have l_106 := il_106
              have l_117 := il_117
              have l_112 := il_112
              have l_105 := il_105
              have l_116 := il_116
              have l_101 := il_101
              have l_114 := il_114
              refine wq_b (tt_fX12_spelled hN (106 : Int32) (117 : Int32) (112 : Int32) (105 : Int32) (116 : Int32) (101 : Int32) (114 : Int32)) (fun r6_q24184 h_r6_q24184 => ?_)
              obtain ⟨-⟩ := h_r6_q24184
              exact wq_s trivial
            · have l_6 := il_6
              refine wq_eq (fun hc_24185 => ?_) (fun hc_24186 => ?_)
              · have l_115 := il_115
                have l_97 := il_97
                have l_116 := il_116
                have l_117 := il_117
                have l_114 := il_114
                have l_110 := il_110
                refine wq_b (tt_fX12_spelled hN (115 : Int32) (97 : Int32) (116 : Int32) (117 : Int32) (114 : Int32) (110 : Int32) (0 : Int32)) (fun r7_q24187 h_r7_q24187 => ?_)
                obtain ⟨-⟩ := h_r7_q24187
                exact wq_s trivial
              · have l_7 := il_7
                refine wq_eq (fun hc_24188 => ?_) (fun hc_24189 => ?_)
                · have l_114 := il_114
                  have l_105 := il_105
                  have l_115 := il_115
                  have l_101 := il_101
                  refine wq_b (tt_fX12_spelled hN (114 : Int32) (105 : Int32) (115 : Int32) (101 : Int32) (0 : Int32) (0 : Int32) (0 : Int32)) (fun r8_q24190 h_r8_q24190 => ?_)
                  obtain ⟨-⟩ := h_r8_q24190
                  exact wq_s trivial
                · have l_8 := il_8
                  refine wq_eq (fun hc_24191 => ?_) (fun hc_24192 => ?_)
                  · have l_108 := il_108
                    have l_111 := il_111
                    have l_116 := il_116
                    refine wq_b (tt_fX12_spelled hN (108 : Int32) (111 : Int32) (116 : Int32) (0 : Int32) (0 : Int32) (0 : Int32) (0 : Int32)) (fun r9b_q24193 h_r9b_q24193 => ?_)
                    obtain ⟨-⟩ := h_r9b_q24193
                    exact wq_s trivial
                  · have l_9 := il_9
                    refine wq_eq (fun hc_24194 => ?_) (fun hc_24195 => ?_)
                    · have l_104 := il_104
                      have l_111 := il_111
                      have l_117 := il_117
                      have l_115 := il_115
                      have l_101 := il_101
                      refine wq_b (tt_fX12_spelled hN (104 : Int32) (111 : Int32) (117 : Int32) (115 : Int32) (101 : Int32) (0 : Int32) (0 : Int32)) (fun r10_q24196 h_r10_q24196 => ?_)
                      obtain ⟨-⟩ := h_r10_q24196
                      exact wq_s trivial
                    · have l_10 := il_10
                      refine wq_eq (fun hc_24197 => ?_) (fun hc_24198 => ?_)
                      · have l_100 := il_100
                        have l_97 := il_97
                        have l_116 := il_116
                        have l_101 := il_101
                        refine wq_b (tt_fX12_spelled hN (100 : Int32) (97 : Int32) (116 : Int32) (101 : Int32) (0 : Int32) (0 : Int32) (0 : Int32)) (fun r11_q24199 h_r11_q24199 => ?_)
                        obtain ⟨-⟩ := h_r11_q24199
                        exact wq_s trivial
                      · have l_11 := il_11
                        refine wq_eq (fun hc_24200 => ?_) (fun hc_24201 => ?_)
                        · have l_115 := il_115
                          have l_101 := il_101
                          have l_116 := il_116
                          refine wq_b (tt_fX12_spelled hN (115 : Int32) (101 : Int32) (116 : Int32) (0 : Int32) (0 : Int32) (0 : Int32) (0 : Int32)) (fun r12_q24202 h_r12_q24202 => ?_)
                          obtain ⟨-⟩ := h_r12_q24202
                          exact wq_s trivial
                        · have l_12 := il_12
                          refine wq_eq (fun hc_24203 => ?_) (fun hc_24204 => ?_)
                          · have l_97 := il_97
                            have l_116 := il_116
                            refine wq_b (tt_fX12_spelled hN (97 : Int32) (116 : Int32) (0 : Int32) (0 : Int32) (0 : Int32) (0 : Int32) (0 : Int32)) (fun r13_q24205 h_r13_q24205 => ?_)
                            obtain ⟨-⟩ := h_r13_q24205
                            exact wq_s trivial
                          · have l_13 := il_13
                            refine wq_eq (fun hc_24206 => ?_) (fun hc_24207 => ?_)
                            · have l_103 := il_103
                              have l_111 := il_111
                              have l_101 := il_101
                              have l_115 := il_115
                              refine wq_b (tt_fX12_spelled hN (103 : Int32) (111 : Int32) (101 : Int32) (115 : Int32) (0 : Int32) (0 : Int32) (0 : Int32)) (fun r14_q24208 h_r14_q24208 => ?_)
                              obtain ⟨-⟩ := h_r14_q24208
                              exact wq_s trivial
                            · have l_14 := il_14
                              refine wq_eq (fun hc_24209 => ?_) (fun hc_24210 => ?_)
                              · have l_115 := il_115
                                have l_119 := il_119
                                have l_105 := il_105
                                have l_110 := il_110
                                have l_103 := il_103
                                refine wq_b (tt_fX12_spelled hN (115 : Int32) (119 : Int32) (105 : Int32) (110 : Int32) (103 : Int32) (0 : Int32) (0 : Int32)) (fun r15_q24211 h_r15_q24211 => ?_)
                                obtain ⟨-⟩ := h_r15_q24211
                                exact wq_s trivial
                              · have l_15 := il_15
                                refine wq_eq (fun hc_24212 => ?_) (fun hc_24213 => ?_)
                                · have l_105 := il_105
                                  have l_110 := il_110
                                  refine wq_b (tt_fX12_spelled hN (105 : Int32) (110 : Int32) (0 : Int32) (0 : Int32) (0 : Int32) (0 : Int32) (0 : Int32)) (fun r16_q24214 h_r16_q24214 => ?_)
                                  obtain ⟨-⟩ := h_r16_q24214
                                  exact wq_s trivial
                                · have l_16 := il_16
                                  refine wq_eq (fun hc_24215 => ?_) (fun hc_24216 => ?_)
                                  · have l_99 := il_99
                                    have l_108 := il_108
                                    have l_105 := il_105
                                    have l_109 := il_109
                                    have l_97 := il_97
                                    have l_116 := il_116
                                    have l_101 := il_101
                                    refine wq_b (tt_fX12_spelled hN (99 : Int32) (108 : Int32) (105 : Int32) (109 : Int32) (97 : Int32) (116 : Int32) (101 : Int32)) (fun r17_q24217 h_r17_q24217 => ?_)
                                    obtain ⟨-⟩ := h_r17_q24217
                                    exact wq_s trivial
                                  · have l_17 := il_17
                                    refine wq_eq (fun hc_24218 => ?_) (fun hc_24219 => ?_)
                                    · have l_104 := il_104
                                      have l_97 := il_97
                                      have l_110 := il_110
                                      have l_100 := il_100
                                      refine wq_b (tt_fX12_spelled hN (104 : Int32) (97 : Int32) (110 : Int32) (100 : Int32) (0 : Int32) (0 : Int32) (0 : Int32)) (fun r18_q24220 h_r18_q24220 => ?_)
                                      obtain ⟨-⟩ := h_r18_q24220
                                      exact wq_s trivial
                                    · have l_102 := il_102
                                      have l_111 := il_111
                                      have l_114 := il_114
                                      refine wq_b (tt_fX12_spelled hN (102 : Int32) (111 : Int32) (114 : Int32) (0 : Int32) (0 : Int32) (0 : Int32) (0 : Int32)) (fun r19_q24221 h_r19_q24221 => ?_)
                                      obtain ⟨-⟩ := h_r19_q24221
                                      exact wq_s trivial
set_option maxHeartbeats 4000000 in
theorem tt_fX12_knownWord_L21 {N : Nat} (hN : 3000000000 ≤ N) (I0 : Nat → Int32) (L0 : Int64) (M0 : Nat → Nat → Int32) (k_I0 : KX12 I0 M0)  : ∀ (fu : Nat) (y21_1 : Int32), (0 ≤ y21_1.toInt ∧ y21_1.toInt ≤ 19) → (19 - y21_1.toInt) < (fu : Int) → wq (fX12_knownWord_L21 N I0 L0 M0 fu y21_1) (fun r => (-1 ≤ r.toInt ∧ r.toInt ≤ 18) ∧ True) := by
  intro fu
  induction fu with
  | zero => intro y21_1 h_y21_1 hm; exfalso; omega
  | succ fu ih =>
    intro y21_1 h_y21_1 hm
    rw [fX12_knownWord_L21.eq_2]
    have l_19 := il_19
    refine wq_le (fun hc_24365 => ?_) (fun hc_24366 => ?_)
    · have l_m1 := il_m1
      exact wq_s ⟨(show -1 ≤ (-1 : Int32).toInt ∧ (-1 : Int32).toInt ≤ 18 from ⟨by omega, by omega⟩), trivial⟩
    · refine wq_b (tt_fX12_letters hN y21_1) (fun r1_q24367 h_r1_q24367 => ?_)
      obtain ⟨-⟩ := h_r1_q24367
      have l_0 := il_0
      refine wq_eq (fun hc_24368 => ?_) (fun hc_24369 => ?_)
      · exact wq_s ⟨(show -1 ≤ y21_1.toInt ∧ y21_1.toInt ≤ 18 from ⟨by omega, by omega⟩), trivial⟩
      · have l_1 := il_1
        have t_24371 := ia_add y21_1 (1 : Int32) (by omega) (by omega)
        refine wq_v (fun v2_q24370 h_v2_q24370 => ?_)
        have t_v2_q24370 := congrArg Int32.toInt h_v2_q24370
        exact ih v2_q24370 ⟨by omega, by omega⟩ (by omega)
set_option maxHeartbeats 4000000 in
theorem tt_fX12_knownWord {N : Nat} (hN : 3000000000 ≤ N) (I0 : Nat → Int32) (L0 : Int64) (M0 : Nat → Nat → Int32) (k_I0 : KX12 I0 M0) : wq (fX12_knownWord N I0 L0 M0) (fun r => (-1 ≤ r.toInt ∧ r.toInt ≤ 18) ∧ True) := by
  unfold fX12_knownWord
  have l_1 := il_1
  refine wq_eq (fun hc_24372 => ?_) (fun hc_24373 => ?_)
  · have l_7 := il_7
    refine wq_le (fun hc_24374 => ?_) (fun hc_24375 => ?_)
    · have l_0 := il_0
      exact tt_fX12_knownWord_L21 hN I0 L0 M0 k_I0 N (0 : Int32) ⟨by omega, by omega⟩ (by omega)
    · have l_m1 := il_m1
      exact wq_s ⟨(show -1 ≤ (-1 : Int32).toInt ∧ (-1 : Int32).toInt ≤ 18 from ⟨by omega, by omega⟩), trivial⟩
  · have l_m1 := il_m1
    exact wq_s ⟨(show -1 ≤ (-1 : Int32).toInt ∧ (-1 : Int32).toInt ≤ 18 from ⟨by omega, by omega⟩), trivial⟩
/-- a call that reads: rows stay, only the text's ints move, a fault stays -/
def NP (I : Nat → Int32) (M : Nat → Nat → Int32) (r : (Nat → Int32) × Int64 × (Nat → Nat → Int32)) : Prop := r.2.2 = M ∧ FR I r.1 ∧ KX12 r.1 M ∧ ((I 4).toInt = 0 ∨ (r.1 4).toInt ≠ 0) ∧ (I 7).toInt ≤ (r.1 7).toInt
theorem NP.of {I : Nat → Int32} {M : Nat → Nat → Int32} {r : (Nat → Int32) × Int64 × (Nat → Nat → Int32)} (h : SP I M r) : NP I M r := ⟨h.1, h.2.1, h.2.2.2.2.1, by rw [h.2.2.1]; omega, h.2.2.2.2.2.1⟩
theorem NP.tr {I : Nat → Int32} {M : Nat → Nat → Int32} {r q : (Nat → Int32) × Int64 × (Nat → Nat → Int32)} (h : NP I M r) (g : NP r.1 M q) : NP I M q := ⟨g.1, h.2.1.tr g.2.1, g.2.2.1, by have a := h.2.2.2.1; have b := g.2.2.2.1; omega, by have a := h.2.2.2.2; have b := g.2.2.2.2; omega⟩
theorem NP.rf {I : Nat → Int32} {L : Int64} {M : Nat → Nat → Int32} (k : KX12 I M) : NP I M (I, L, M) := ⟨rfl, FR.rf I, k, by show _ ∨ (I 4).toInt ≠ 0; omega, Int.le_refl _⟩
theorem tt_wrong (N : Nat) (I : Nat → Int32) (L : Int64) (M : Nat → Nat → Int32) (x : Int32) (hx : x.toInt ≠ 0) (k : KX12 I M) : wq (fX12_wrong N I L M x) (fun r => NP I M r ∧ (r.1 4).toInt ≠ 0) := by
  unfold fX12_wrong
  have l_0 := il_0
  refine wq_eq (fun hc => ?_) (fun hc => ?_)
  · refine wq_v (fun J e => ?_)
    refine wq_v (fun J2 e2 => ?_)
    subst e
    subst e2
    refine wq_s ⟨⟨rfl, ((FR.rf I).up (by omega)).up (by omega), KX12.si5 (KX12.si4 k), Or.inr hx, Int.le_refl _⟩, hx⟩
  · exact wq_s ⟨NP.rf k, by show (I 4).toInt ≠ 0; omega⟩
theorem tt_fX12_wrong {N : Nat} (hN : 3000000000 ≤ N) (I0 : Nat → Int32) (L0 : Int64) (M0 : Nat → Nat → Int32) (x1 : Int32) (k_I0 : KX12 I0 M0) : wq (fX12_wrong N I0 L0 M0 x1) (fun r => KX12 r.1 r.2.2 ∧ True) := by
  unfold fX12_wrong
  refine wq_i (fun _ => ?_) (fun _ => ?_)
  · refine wq_v (fun J e => ?_)
    refine wq_v (fun J2 e2 => ?_)
    subst e
    subst e2
    exact wq_s ⟨KX12.si5 (KX12.si4 k_I0), trivial⟩
  · exact wq_s ⟨k_I0, trivial⟩
set_option maxHeartbeats 4000000 in
theorem tt_fX12_isGood {N : Nat} (hN : 3000000000 ≤ N) (I0 : Nat → Int32) (L0 : Int64) (M0 : Nat → Nat → Int32) (k_I0 : KX12 I0 M0) : wq (fX12_isGood N I0 L0 M0) (fun r => (0 ≤ r.toInt ∧ r.toInt ≤ 1) ∧ True) := by
  unfold fX12_isGood
  have l_0 := il_0
  refine wq_eq (fun hc_24388 => ?_) (fun hc_24389 => ?_)
  · have l_1 := il_1
    exact wq_s ⟨(show 0 ≤ (1 : Int32).toInt ∧ (1 : Int32).toInt ≤ 1 from ⟨by omega, by omega⟩), trivial⟩
  · exact wq_s ⟨(show 0 ≤ (0 : Int32).toInt ∧ (0 : Int32).toInt ≤ 1 from ⟨by omega, by omega⟩), trivial⟩
theorem tt_good (N : Nat) (I : Nat → Int32) (L : Int64) (M : Nat → Nat → Int32) : wq (fX12_isGood N I L M) (fun r => (r.toInt = 0 ∧ (I 4).toInt ≠ 0) ∨ (r.toInt = 1 ∧ (I 4).toInt = 0)) := by
  unfold fX12_isGood
  have l_0 := il_0
  have l_1 := il_1
  refine wq_eq (fun hc => ?_) (fun hc => ?_)
  · exact wq_s (by omega)
  · exact wq_s (by omega)
theorem tt_need {N : Nat} (hN : 3000000000 ≤ N) (I : Nat → Int32) (L : Int64) (M : Nat → Nat → Int32) (x : Int32) (k : KX12 I M) : wq (fX12_need N I L M x) (fun r => NP I M r ∧ ((r.1 4).toInt ≠ 0 ∨ (x.toInt ≠ 0 ∧ ((r.1 8).toInt = 0 ∨ (I 7).toInt < (r.1 7).toInt)))) := by
  unfold fX12_need
  have l_0 := il_0
  refine wq_b (tt_good N I L M) (fun r1 h1 => ?_)
  refine wq_eq (fun hc => ?_) (fun hc => ?_)
  · exact wq_s ⟨NP.rf k, Or.inl (by show (I 4).toInt ≠ 0; omega)⟩
  · refine wq_eq (fun hc2 => ?_) (fun hc2 => ?_)
    · refine wq_b (tt_wrong N I L M 1 (by decide) k) (fun r2 h2 => ?_)
      exact wq_s ⟨h2.1, Or.inl h2.2⟩
    · refine wq_b (tt_steps hN I L M k) (fun r3 h3 => ?_)
      exact wq_s ⟨NP.of h3, Or.inr ⟨by omega, h3.2.2.2.2.2.2⟩⟩
theorem tt_fX12_need {N : Nat} (hN : 3000000000 ≤ N) (I0 : Nat → Int32) (L0 : Int64) (M0 : Nat → Nat → Int32) (x1 : Int32) (k_I0 : KX12 I0 M0) : wq (fX12_need N I0 L0 M0 x1) (fun r => KX12 r.1 r.2.2 ∧ True) := wq_w (tt_need hN I0 L0 M0 x1 k_I0) (fun r h => by rw [h.1.1]; exact ⟨h.1.2.2.1, trivial⟩)
theorem tt_num55 {N : Nat} (hN : 3000000000 ≤ N) (I0 I : Nat → Int32) (L : Int64) (M : Nat → Nat → Int32) (x1 x2 : Int32) (P : Int32 → Prop) (h : NP I0 M (I, L, M)) (hp : (I 4).toInt ≠ 0 ∨ P (I 11)) : wq (fX12_number_J55 N x1 x2 I L M) (fun r => NP I0 M r.2 ∧ ((r.2.1 4).toInt ≠ 0 ∨ P r.1)) := by
  unfold fX12_number_J55
  have l_0 := il_0
  refine wq_v (fun v e => ?_)
  subst e
  refine wq_b (tt_good N I L M) (fun r1 h1 => ?_)
  refine wq_eq (fun hc => ?_) (fun hc => ?_)
  · exact wq_s ⟨h, hp⟩
  · refine wq_b (tt_steps hN I L M h.2.2.1) (fun r3 h3 => ?_)
    refine wq_s ⟨NP.tr h (NP.of h3), ?_⟩
    rcases hp with q | q
    · exact absurd q (by omega)
    · exact Or.inr q

set_option maxHeartbeats 4000000 in
theorem tt_fX11_isNumber {N : Nat} (hN : 3000000000 ≤ N) (x0 : Int32)  : wq (fX11_isNumber N x0) (fun r => (r.toInt = 0 ∨ (r.toInt = 1 ∧ 0 ≤ x0.toInt ∧ x0.toInt ≤ 119)) ∧ (0 ≤ r.toInt ∧ r.toInt ≤ 1) ∧ True) := by
  unfold fX11_isNumber
  have b_21148 := i32b x0
  have l_0 := il_0
  have l_119 := il_119
  refine wq_b (tt_fX11_within hN x0 (0 : Int32) (119 : Int32)) (fun r1_q21149 h_r1_q21149 => ?_)
  obtain ⟨h_r1_q21149_0, h_r1_q21149_1, -⟩ := h_r1_q21149
  refine wq_bz (by omega) ?_
  exact wq_s ⟨(show (r1_q21149.toInt = 0 ∨ (r1_q21149.toInt = 1 ∧ 0 ≤ x0.toInt ∧ x0.toInt ≤ 119)) from by omega), (show 0 ≤ r1_q21149.toInt ∧ r1_q21149.toInt ≤ 1 from ⟨by omega, by omega⟩), trivial⟩
set_option maxHeartbeats 4000000 in
theorem tt_fX11_same {N : Nat} (hN : 3000000000 ≤ N) (I0 : Nat → Int32) (M0 : Nat → Nat → Int32) (x1 : Int32) (x2 : Int32) (x3 : Int32) (k_I0 : KX11 I0 M0) : wq (fX11_same N I0 M0 x1 x2 x3) (qS 1 (fun r => (0 ≤ r.toInt ∧ r.toInt ≤ 1) ∧ True)) := by
  unfold fX11_same
  have b_21252 := i32b x1
  refine wq_b (tt_fX11_isNumber hN x1) (fun r3_q21253 h_r3_q21253 => ?_)
  obtain ⟨h_r3_q21253_0, h_r3_q21253_1, -⟩ := h_r3_q21253
  have l_0 := il_0
  refine wq_eq (fun hc_21254 => ?_) (fun hc_21255 => ?_)
  · unfold fX11_same_J28
    unfold fX11_same_J29
    exact wq_xb (tt_fX11_need0 N) (by decide) (fun _ h => absurd h id)
  · have b_21257 := i32b x2
    refine wq_b (tt_fX11_isNumber hN x2) (fun r4_q21258 h_r4_q21258 => ?_)
    obtain ⟨h_r4_q21258_0, h_r4_q21258_1, -⟩ := h_r4_q21258
    refine wq_eq (fun hc_21259 => ?_) (fun hc_21260 => ?_)
    · unfold fX11_same_J28
      unfold fX11_same_J29
      exact wq_xb (tt_fX11_need0 N) (by decide) (fun _ h => absurd h id)
    · have b_21262 := i32b x3
      have l_1 := il_1
      have l_7 := il_7
      refine wq_b (tt_fX11_within hN x3 (1 : Int32) (7 : Int32)) (fun r5_q21263 h_r5_q21263 => ?_)
      obtain ⟨h_r5_q21263_0, h_r5_q21263_1, -⟩ := h_r5_q21263
      refine wq_eq (fun hc_21264 => ?_) (fun hc_21265 => ?_)
      · unfold fX11_same_J28
        unfold fX11_same_J29
        exact wq_xb (tt_fX11_need0 N) (by decide) (fun _ h => absurd h id)
      · unfold fX11_same_J29
        refine wq_xb (tt_fX11_need hN (1 : Int32)) (by decide) (fun r1_q21267 h_r1_q21267 => ?_)
        obtain ⟨h_r1_q21267_0, -⟩ := h_r1_q21267
        refine wq_ok ?_
        refine wq_b (tt_fX0_areOne hN (wb_sh I0 10) (wb_sh M0 6) (wb_sh I0 13) (wb_sh M0 13) x1 x2 x3 ⟨by omega, by omega⟩ ⟨by omega, by omega⟩ (KX11.s_X1_13_13 k_I0)) (fun r2_q21268 h_r2_q21268 => ?_)
        obtain ⟨h_r2_q21268_0, -⟩ := h_r2_q21268
        refine wq_bz (by omega) ?_
        exact wq_s ⟨(show 0 ≤ r2_q21268.toInt ∧ r2_q21268.toInt ≤ 1 from ⟨by omega, by omega⟩), trivial⟩
set_option maxHeartbeats 4000000 in
theorem tt_fX11_births {N : Nat} (hN : 3000000000 ≤ N) (I0 : Nat → Int32) (M0 : Nat → Nat → Int32) (x1 : Int32) (x2 : Int32) (k_I0 : KX11 I0 M0) : wq (fX11_births N I0 M0 x1 x2) (qS 1 (fun r => KX11 r.2.1 r.2.2 ∧ True)) := by
  unfold fX11_births
  have b_21467 := i32b x1
  have l_m1 := il_m1
  refine wq_eq (fun hc_21468 => ?_) (fun hc_21469 => ?_)
  · unfold fX11_births_J12
    have b_21470 := i32b x2
    have l_1 := il_1
    have l_7 := il_7
    refine wq_b (tt_fX11_within hN x2 (1 : Int32) (7 : Int32)) (fun r7_q21471 h_r7_q21471 => ?_)
    obtain ⟨h_r7_q21471_0, h_r7_q21471_1, -⟩ := h_r7_q21471
    have l_0 := il_0
    refine wq_eq (fun hc_21472 => ?_) (fun hc_21473 => ?_)
    · unfold fX11_births_J26
      unfold fX11_births_J27
      exact wq_xb (tt_fX11_need0 N) (by decide) (fun _ h => absurd h id)
    · unfold fX11_births_J27
      refine wq_xb (tt_fX11_need hN (1 : Int32)) (by decide) (fun r1_q21475 h_r1_q21475 => ?_)
      obtain ⟨h_r1_q21475_0, -⟩ := h_r1_q21475
      refine wq_ok ?_
      refine wq_b (tt_fX0_partBy hN (wb_sh I0 43) (wb_sh M0 27) (wb_sh I0 10) (wb_sh M0 6) (wb_sh I0 13) (wb_sh M0 13) x2 (KX11.s_X1_13_13 k_I0)) (fun r2_q21476 h_r2_q21476 => ?_)
      obtain ⟨-⟩ := h_r2_q21476
      refine wq_v (fun I0_3_q21477 h_I0_3_q21477 => ?_)
      refine wq_v (fun M0_4_q21478 h_M0_4_q21478 => ?_)
      have k_M0_4_q21478 : KX11 I0_3_q21477 M0_4_q21478 := by rw [h_I0_3_q21477, h_M0_4_q21478]; exact KX11.p_X0_43_27 k_I0
      refine wq_eq (fun hc_21479 => ?_) (fun hc_21480 => ?_)
      · refine wq_b (tt_fX0_howManyParts hN (wb_sh I0_3_q21477 43) (wb_sh M0_4_q21478 27) (wb_sh I0_3_q21477 13) (wb_sh M0_4_q21478 13) (KX11.s_X1_13_13 k_M0_4_q21478)) (fun r6_q21481 h_r6_q21481 => ?_)
        obtain ⟨-⟩ := h_r6_q21481
        have b_21482 := i32b r6_q21481
        exact wq_s ⟨k_M0_4_q21478, trivial⟩
      · exfalso; omega
  · refine wq_b (tt_fX11_isNumber hN x1) (fun r8_q21483 h_r8_q21483 => ?_)
    obtain ⟨h_r8_q21483_0, h_r8_q21483_1, -⟩ := h_r8_q21483
    have l_0 := il_0
    refine wq_eq (fun hc_21484 => ?_) (fun hc_21485 => ?_)
    · unfold fX11_births_J26
      unfold fX11_births_J27
      exact wq_xb (tt_fX11_need0 N) (by decide) (fun _ h => absurd h id)
    · unfold fX11_births_J12
      have b_21487 := i32b x2
      have l_1 := il_1
      have l_7 := il_7
      refine wq_b (tt_fX11_within hN x2 (1 : Int32) (7 : Int32)) (fun r7_q21488 h_r7_q21488 => ?_)
      obtain ⟨h_r7_q21488_0, h_r7_q21488_1, -⟩ := h_r7_q21488
      refine wq_eq (fun hc_21489 => ?_) (fun hc_21490 => ?_)
      · unfold fX11_births_J26
        unfold fX11_births_J27
        exact wq_xb (tt_fX11_need0 N) (by decide) (fun _ h => absurd h id)
      · unfold fX11_births_J27
        refine wq_xb (tt_fX11_need hN (1 : Int32)) (by decide) (fun r1_q21492 h_r1_q21492 => ?_)
        obtain ⟨h_r1_q21492_0, -⟩ := h_r1_q21492
        refine wq_ok ?_
        refine wq_b (tt_fX0_partBy hN (wb_sh I0 43) (wb_sh M0 27) (wb_sh I0 10) (wb_sh M0 6) (wb_sh I0 13) (wb_sh M0 13) x2 (KX11.s_X1_13_13 k_I0)) (fun r2_q21493 h_r2_q21493 => ?_)
        obtain ⟨-⟩ := h_r2_q21493
        refine wq_v (fun I0_3_q21494 h_I0_3_q21494 => ?_)
        refine wq_v (fun M0_4_q21495 h_M0_4_q21495 => ?_)
        have k_M0_4_q21495 : KX11 I0_3_q21494 M0_4_q21495 := by rw [h_I0_3_q21494, h_M0_4_q21495]; exact KX11.p_X0_43_27 k_I0
        refine wq_eq (fun hc_21496 => ?_) (fun hc_21497 => ?_)
        · exfalso; omega
        · refine wq_b (tt_fX0_leastOf hN (wb_sh I0_3_q21494 43) (wb_sh M0_4_q21495 27) x1 ⟨by omega, by omega⟩) (fun r5_q21498 h_r5_q21498 => ?_)
          obtain ⟨-⟩ := h_r5_q21498
          have b_21499 := i32b r5_q21498
          exact wq_s ⟨k_M0_4_q21495, trivial⟩
set_option maxHeartbeats 4000000 in
theorem tt_fX11_tree {N : Nat} (hN : 3000000000 ≤ N) (I0 : Nat → Int32) (M0 : Nat → Nat → Int32) (k_I0 : KX11 I0 M0) : wq (fX11_tree N I0 M0) (fun r => (-1 ≤ r.1.toInt ∧ r.1.toInt ≤ -1) ∧ KX11 r.2.1 r.2.2 ∧ True) := by
  unfold fX11_tree
  refine wq_b (tt_fX10_setBooks hN (wb_sh I0 41) (wb_sh M0 20) (wb_sh I0 13) (wb_sh M0 13) (KX11.s_X10_41_20 k_I0) (KX11.s_X1_13_13 k_I0)) (fun r1_q21548 h_r1_q21548 => ?_)
  obtain ⟨h_r1_q21548_0, h_r1_q21548_1, -⟩ := h_r1_q21548
  refine wq_v (fun I0_2_q21549 h_I0_2_q21549 => ?_)
  refine wq_v (fun M0_3_q21550 h_M0_3_q21550 => ?_)
  have k_M0_3_q21550 : KX11 I0_2_q21549 M0_3_q21550 := by rw [h_I0_2_q21549, h_M0_3_q21550]; exact KX11.p_X10_41_20 k_I0 h_r1_q21548_1
  have l_0 := il_0
  refine wq_eq (fun hc_21551 => ?_) (fun hc_21552 => ?_)
  · have l_m1 := il_m1
    exact wq_s ⟨(show -1 ≤ (-1 : Int32).toInt ∧ (-1 : Int32).toInt ≤ -1 from ⟨by omega, by omega⟩), k_M0_3_q21550, trivial⟩
  · refine wq_b (tt_fX10_setPrices hN (wb_sh I0_2_q21549 41) (wb_sh M0_3_q21550 20) (wb_sh I0_2_q21549 10) (wb_sh M0_3_q21550 6) (wb_sh I0_2_q21549 13) (wb_sh M0_3_q21550 13) (KX11.s_X10_41_20 k_M0_3_q21550) (KX11.s_X1_13_13 k_M0_3_q21550)) (fun r4_q21553 h_r4_q21553 => ?_)
    obtain ⟨h_r4_q21553_0, -⟩ := h_r4_q21553
    refine wq_v (fun I0_5_q21554 h_I0_5_q21554 => ?_)
    refine wq_v (fun M0_6_q21555 h_M0_6_q21555 => ?_)
    have k_M0_6_q21555 : KX11 I0_5_q21554 M0_6_q21555 := by rw [h_I0_5_q21554, h_M0_6_q21555]; exact KX11.p_X10_41_20 k_M0_3_q21550 h_r4_q21553_0
    exfalso; omega
set_option maxHeartbeats 4000000 in
theorem tt_fX11_whence {N : Nat} (hN : 3000000000 ≤ N) (I0 : Nat → Int32) (M0 : Nat → Nat → Int32) (x1 : Int32) (k_I0 : KX11 I0 M0) : wq (fX11_whence N I0 M0 x1) (qS 1 (fun r => (-2 ≤ r.toInt ∧ r.toInt ≤ 5) ∧ True)) := by
  unfold fX11_whence
  have b_21646 := i32b x1
  refine wq_b (tt_fX11_isBook hN x1) (fun r1_q21647 h_r1_q21647 => ?_)
  obtain ⟨h_r1_q21647_0, h_r1_q21647_1, -⟩ := h_r1_q21647
  have l_0 := il_0
  refine wq_eq (fun hc_21648 => ?_) (fun hc_21649 => ?_)
  · exact wq_xb (tt_fX11_need0 N) (by decide) (fun _ h => absurd h id)
  · have t_21651 := KX11.i42 k_I0
    refine wq_eq (fun hc_21652 => ?_) (fun hc_21653 => ?_)
    · exact wq_xb (tt_fX11_need0 N) (by decide) (fun _ h => absurd h id)
    · refine wq_b (tt_fX10_holds hN (wb_sh I0 41) (wb_sh M0 20) x1 ⟨by omega, by omega⟩ (KX11.s_X10_41_20 k_I0)) (fun r6_q21655 h_r6_q21655 => ?_)
      obtain ⟨h_r6_q21655_0, -⟩ := h_r6_q21655
      refine wq_eq (fun hc_21656 => ?_) (fun hc_21657 => ?_)
      · exact wq_xb (tt_fX11_need0 N) (by decide) (fun _ h => absurd h id)
      · have l_1 := il_1
        refine wq_xb (tt_fX11_need hN (1 : Int32)) (by decide) (fun r9b_q21659 h_r9b_q21659 => ?_)
        obtain ⟨h_r9b_q21659_0, -⟩ := h_r9b_q21659
        refine wq_ok ?_
        refine wq_b (tt_fX10_parentOf hN (wb_sh I0 41) (wb_sh M0 20) x1 ⟨by omega, by omega⟩ (KX11.s_X10_41_20 k_I0)) (fun r10_q21660 h_r10_q21660 => ?_)
        obtain ⟨h_r10_q21660_0, -⟩ := h_r10_q21660
        exact wq_s ⟨(show -2 ≤ r10_q21660.toInt ∧ r10_q21660.toInt ≤ 5 from ⟨by omega, by omega⟩), trivial⟩
set_option maxHeartbeats 4000000 in
theorem tt_fX11_life {N : Nat} (hN : 3000000000 ≤ N) (I0 : Nat → Int32) (M0 : Nat → Nat → Int32) (x1 : Int32) (x2 : Int32) (x3 : Int32) (k_I0 : KX11 I0 M0) : wq (fX11_life N I0 M0 x1 x2 x3) (qS 1 (fun r => (0 ≤ r.1.toInt ∧ r.1.toInt ≤ 1) ∧ KX11 r.2.1 r.2.2 ∧ True)) := by
  unfold fX11_life
  have b_21745 := i32b x1
  have l_0 := il_0
  have l_19 := il_19
  refine wq_b (tt_fX11_within hN x1 (0 : Int32) (19 : Int32)) (fun r1_q21746 h_r1_q21746 => ?_)
  obtain ⟨h_r1_q21746_0, h_r1_q21746_1, -⟩ := h_r1_q21746
  refine wq_xb (tt_fX11_need hN r1_q21746) (by decide) (fun r2_q21747 h_r2_q21747 => ?_)
  obtain ⟨h_r2_q21747_0, -⟩ := h_r2_q21747
  refine wq_ok ?_
  have b_21748 := i32b x2
  have l_120 := il_120
  refine wq_b (tt_fX11_within hN x2 (0 : Int32) (120 : Int32)) (fun r3_q21749 h_r3_q21749 => ?_)
  obtain ⟨h_r3_q21749_0, h_r3_q21749_1, -⟩ := h_r3_q21749
  refine wq_eq (fun hc_21750 => ?_) (fun hc_21751 => ?_)
  · exact wq_s ⟨(show 0 ≤ (0 : Int32).toInt ∧ (0 : Int32).toInt ≤ 1 from ⟨by omega, by omega⟩), k_I0, trivial⟩
  · have b_21752 := i32b x3
    refine wq_b (tt_fX11_within hN x3 (0 : Int32) (120 : Int32)) (fun r4_q21753 h_r4_q21753 => ?_)
    obtain ⟨h_r4_q21753_0, h_r4_q21753_1, -⟩ := h_r4_q21753
    refine wq_eq (fun hc_21754 => ?_) (fun hc_21755 => ?_)
    · exact wq_s ⟨(show 0 ≤ (0 : Int32).toInt ∧ (0 : Int32).toInt ≤ 1 from ⟨by omega, by omega⟩), k_I0, trivial⟩
    · refine wq_b (tt_fX7_tellLife hN (wb_sh I0 43) (wb_sh M0 28) x1 x2 x3 ⟨by omega, by omega⟩ (KX11.s_X7_43_28 k_I0)) (fun r5_q21756 h_r5_q21756 => ?_)
      obtain ⟨h_r5_q21756_0, -⟩ := h_r5_q21756
      refine wq_v (fun I0_6_q21757 h_I0_6_q21757 => ?_)
      refine wq_v (fun M0_7_q21758 h_M0_7_q21758 => ?_)
      have k_M0_7_q21758 : KX11 I0_6_q21757 M0_7_q21758 := by rw [h_I0_6_q21757, h_M0_7_q21758]; exact KX11.p_X7_43_28 k_I0 h_r5_q21756_0
      have l_1 := il_1
      exact wq_s ⟨(show 0 ≤ (1 : Int32).toInt ∧ (1 : Int32).toInt ≤ 1 from ⟨by omega, by omega⟩), k_M0_7_q21758, trivial⟩
set_option maxHeartbeats 4000000 in
theorem tt_fX11_fate {N : Nat} (hN : 3000000000 ≤ N) (I0 : Nat → Int32) (M0 : Nat → Nat → Int32) (x1 : Int32) (x2 : Int32) (k_I0 : KX11 I0 M0) : wq (fX11_fate N I0 M0 x1 x2) (qS 1 (fun r => (0 ≤ r.1.toInt ∧ r.1.toInt ≤ 1) ∧ KX11 r.2.1 r.2.2 ∧ True)) := by
  unfold fX11_fate
  have b_21819 := i32b x1
  have l_0 := il_0
  have l_19 := il_19
  refine wq_b (tt_fX11_within hN x1 (0 : Int32) (19 : Int32)) (fun r1_q21820 h_r1_q21820 => ?_)
  obtain ⟨h_r1_q21820_0, h_r1_q21820_1, -⟩ := h_r1_q21820
  refine wq_xb (tt_fX11_need hN r1_q21820) (by decide) (fun r2_q21821 h_r2_q21821 => ?_)
  obtain ⟨h_r2_q21821_0, -⟩ := h_r2_q21821
  refine wq_ok ?_
  have b_21822 := i32b x2
  have l_1 := il_1
  have l_12 := il_12
  refine wq_b (tt_fX11_within hN x2 (1 : Int32) (12 : Int32)) (fun r3_q21823 h_r3_q21823 => ?_)
  obtain ⟨h_r3_q21823_0, h_r3_q21823_1, -⟩ := h_r3_q21823
  refine wq_eq (fun hc_21824 => ?_) (fun hc_21825 => ?_)
  · exact wq_s ⟨(show 0 ≤ (0 : Int32).toInt ∧ (0 : Int32).toInt ≤ 1 from ⟨by omega, by omega⟩), k_I0, trivial⟩
  · refine wq_b (tt_fX7_tellFate hN (wb_sh I0 43) (wb_sh M0 28) x1 x2 ⟨by omega, by omega⟩ (KX11.s_X7_43_28 k_I0)) (fun r4_q21826 h_r4_q21826 => ?_)
    obtain ⟨h_r4_q21826_0, -⟩ := h_r4_q21826
    refine wq_v (fun I0_5_q21827 h_I0_5_q21827 => ?_)
    refine wq_v (fun M0_6_q21828 h_M0_6_q21828 => ?_)
    have k_M0_6_q21828 : KX11 I0_5_q21827 M0_6_q21828 := by rw [h_I0_5_q21827, h_M0_6_q21828]; exact KX11.p_X7_43_28 k_I0 h_r4_q21826_0
    exact wq_s ⟨(show 0 ≤ (1 : Int32).toInt ∧ (1 : Int32).toInt ≤ 1 from ⟨by omega, by omega⟩), k_M0_6_q21828, trivial⟩
set_option maxHeartbeats 4000000 in
theorem tt_fX11_fates {N : Nat} (hN : 3000000000 ≤ N) (I0 : Nat → Int32) (M0 : Nat → Nat → Int32) (x1 : Int32) (k_I0 : KX11 I0 M0) : wq (fX11_fates N I0 M0 x1) (qS 1 (fun r => KX11 r.2.1 r.2.2 ∧ True)) := by
  unfold fX11_fates
  have b_21901 := i32b x1
  have l_0 := il_0
  have l_1 := il_1
  refine wq_b (tt_fX11_within hN x1 (0 : Int32) (1 : Int32)) (fun r1_q21902 h_r1_q21902 => ?_)
  obtain ⟨h_r1_q21902_0, h_r1_q21902_1, -⟩ := h_r1_q21902
  refine wq_xb (tt_fX11_need hN r1_q21902) (by decide) (fun r2_q21903 h_r2_q21903 => ?_)
  obtain ⟨h_r2_q21903_0, -⟩ := h_r2_q21903
  refine wq_ok ?_
  refine wq_eq (fun hc_21904 => ?_) (fun hc_21905 => ?_)
  · refine wq_b (tt_fX7_howManyToldByLot hN (wb_sh I0 43) (wb_sh M0 28) (wb_sh I0 13) (wb_sh M0 13) (KX11.s_X7_43_28 k_I0) (KX11.s_X1_13_13 k_I0)) (fun r6_q21906 h_r6_q21906 => ?_)
    obtain ⟨h_r6_q21906_0, h_r6_q21906_1, -⟩ := h_r6_q21906
    refine wq_v (fun I0_7_q21907 h_I0_7_q21907 => ?_)
    refine wq_v (fun M0_8_q21908 h_M0_8_q21908 => ?_)
    have k_M0_8_q21908 : KX11 I0_7_q21907 M0_8_q21908 := by rw [h_I0_7_q21907, h_M0_8_q21908]; exact KX11.p_X7_43_28 k_I0 h_r6_q21906_1
    exact wq_s ⟨k_M0_8_q21908, trivial⟩
  · refine wq_b (tt_fX7_chanceOfFates hN (wb_sh I0 43) (wb_sh M0 28) (wb_sh I0 13) (wb_sh M0 13) (KX11.s_X7_43_28 k_I0) (KX11.s_X1_13_13 k_I0)) (fun r3_q21909 h_r3_q21909 => ?_)
    obtain ⟨h_r3_q21909_0, -⟩ := h_r3_q21909
    refine wq_v (fun I0_4_q21910 h_I0_4_q21910 => ?_)
    refine wq_v (fun M0_5_q21911 h_M0_5_q21911 => ?_)
    have k_M0_5_q21911 : KX11 I0_4_q21910 M0_5_q21911 := by rw [h_I0_4_q21910, h_M0_5_q21911]; exact KX11.p_X7_43_28 k_I0 h_r3_q21909_0
    have b_21912 := i32b r3_q21909.1
    exact wq_s ⟨k_M0_5_q21911, trivial⟩
set_option maxHeartbeats 4000000 in
theorem tt_fX11_hits {N : Nat} (hN : 3000000000 ≤ N) (I0 : Nat → Int32) (M0 : Nat → Nat → Int32) (x1 : Int32) (x2 : Int32) (k_I0 : KX11 I0 M0) : wq (fX11_hits N I0 M0 x1 x2) (qS 1 (fun r => KX11 r.2.1 r.2.2 ∧ True)) := by
  unfold fX11_hits
  have b_22033 := i32b x1
  have l_0 := il_0
  have l_1 := il_1
  refine wq_b (tt_fX11_within hN x1 (0 : Int32) (1 : Int32)) (fun r8_q22034 h_r8_q22034 => ?_)
  obtain ⟨h_r8_q22034_0, h_r8_q22034_1, -⟩ := h_r8_q22034
  refine wq_eq (fun hc_22035 => ?_) (fun hc_22036 => ?_)
  · unfold fX11_hits_J23
    unfold fX11_hits_J24
    exact wq_xb (tt_fX11_need0 N) (by decide) (fun _ h => absurd h id)
  · have b_22038 := i32b x2
    have l_120 := il_120
    refine wq_b (tt_fX11_within hN x2 (0 : Int32) (120 : Int32)) (fun r9b_q22039 h_r9b_q22039 => ?_)
    obtain ⟨h_r9b_q22039_0, h_r9b_q22039_1, -⟩ := h_r9b_q22039
    refine wq_eq (fun hc_22040 => ?_) (fun hc_22041 => ?_)
    · unfold fX11_hits_J23
      unfold fX11_hits_J24
      exact wq_xb (tt_fX11_need0 N) (by decide) (fun _ h => absurd h id)
    · unfold fX11_hits_J24
      refine wq_xb (tt_fX11_need hN (1 : Int32)) (by decide) (fun r1_q22043 h_r1_q22043 => ?_)
      obtain ⟨h_r1_q22043_0, -⟩ := h_r1_q22043
      refine wq_ok ?_
      refine wq_eq (fun hc_22044 => ?_) (fun hc_22045 => ?_)
      · refine wq_b (tt_fX7_howManyHits hN (wb_sh I0 43) (wb_sh M0 28) x2 (KX11.s_X7_43_28 k_I0)) (fun r5_q22046 h_r5_q22046 => ?_)
        obtain ⟨h_r5_q22046_0, h_r5_q22046_1, -⟩ := h_r5_q22046
        refine wq_v (fun I0_6_q22047 h_I0_6_q22047 => ?_)
        refine wq_v (fun M0_7_q22048 h_M0_7_q22048 => ?_)
        have k_M0_7_q22048 : KX11 I0_6_q22047 M0_7_q22048 := by rw [h_I0_6_q22047, h_M0_7_q22048]; exact KX11.p_X7_43_28 k_I0 h_r5_q22046_1
        exact wq_s ⟨k_M0_7_q22048, trivial⟩
      · refine wq_b (tt_fX7_chanceOfLives hN (wb_sh I0 43) (wb_sh M0 28) x2 (KX11.s_X7_43_28 k_I0)) (fun r2_q22049 h_r2_q22049 => ?_)
        obtain ⟨h_r2_q22049_0, -⟩ := h_r2_q22049
        refine wq_v (fun I0_3_q22050 h_I0_3_q22050 => ?_)
        refine wq_v (fun M0_4_q22051 h_M0_4_q22051 => ?_)
        have k_M0_4_q22051 : KX11 I0_3_q22050 M0_4_q22051 := by rw [h_I0_3_q22050, h_M0_4_q22051]; exact KX11.p_X7_43_28 k_I0 h_r2_q22049_0
        have b_22052 := i32b r2_q22049.1
        exact wq_s ⟨k_M0_4_q22051, trivial⟩
set_option maxHeartbeats 4000000 in
theorem tt_fX12_thrown {N : Nat} (hN : 3000000000 ≤ N) (I0 : Nat → Int32) (L0 : Int64) (M0 : Nat → Nat → Int32) (k_I0 : KX12 I0 M0) : wq (fX12_thrown N I0 L0 M0) (fun r => True) := by
  unfold fX12_thrown
  exact wq_s trivial
set_option maxHeartbeats 4000000 in
theorem tt_fX12_right {N : Nat} (hN : 3000000000 ≤ N) (I0 : Nat → Int32) (L0 : Int64) (M0 : Nat → Nat → Int32) (x1 : Int32) (x2 : Int32) (h_x2 : 1 ≤ x2.toInt ∧ x2.toInt ≤ 2) (k_I0 : KX12 I0 M0) : wq (fX12_right N I0 L0 M0 x1 x2) (fun r => (r.1.toInt = 0 ∨ (r.1.toInt = 1 ∧ x1.toInt ≠ 0)) ∧ (r.2.1 1).toInt = (I0 1).toInt ∧ (0 ≤ r.1.toInt ∧ r.1.toInt ≤ 1) ∧ KX12 r.2.1 r.2.2.2 ∧ True) := by
  unfold fX12_right
  have l_0 := il_0
  refine wq_eq (fun hc_22143 => ?_) (fun hc_22144 => ?_)
  · have b_22145 := i32b x1
    refine wq_eq (fun hc_22146 => ?_) (fun hc_22147 => ?_)
    · refine wq_v (fun I0_1_q22148 h_I0_1_q22148 => ?_)
      have k_I0_1_q22148 : KX12 I0_1_q22148 M0 := by rw [h_I0_1_q22148]; exact KX12.si0 k_I0
      have tr_22149 : (I0_1_q22148 0).toInt = x2.toInt := by rw [h_I0_1_q22148]; rfl
      have tr_22150 : (I0_1_q22148 1).toInt = (I0 1).toInt := by rw [h_I0_1_q22148]; rfl
      have t_22151 : (I0_1_q22148 0).toInt = x2.toInt := by rw [h_I0_1_q22148]; rfl
      refine wq_eq (fun hc_22152 => ?_) (fun hc_22153 => ?_)
      · exfalso; omega
      · exact wq_s ⟨(show ((0 : Int32).toInt = 0 ∨ ((0 : Int32).toInt = 1 ∧ x1.toInt ≠ 0)) from by omega), (show (I0_1_q22148 1).toInt = (I0 1).toInt from by omega), (show 0 ≤ (0 : Int32).toInt ∧ (0 : Int32).toInt ≤ 1 from ⟨by omega, by omega⟩), k_I0_1_q22148, trivial⟩
    · refine wq_eq (fun hc_22154 => ?_) (fun hc_22155 => ?_)
      · have l_1 := il_1
        exact wq_s ⟨(show ((1 : Int32).toInt = 0 ∨ ((1 : Int32).toInt = 1 ∧ x1.toInt ≠ 0)) from by omega), (show (I0 1).toInt = (I0 1).toInt from by omega), (show 0 ≤ (1 : Int32).toInt ∧ (1 : Int32).toInt ≤ 1 from ⟨by omega, by omega⟩), k_I0, trivial⟩
      · exfalso; omega
  · refine wq_eq (fun hc_22156 => ?_) (fun hc_22157 => ?_)
    · have b_22158 := i32b x1
      have l_1 := il_1
      exact wq_s ⟨(show ((1 : Int32).toInt = 0 ∨ ((1 : Int32).toInt = 1 ∧ x1.toInt ≠ 0)) from by omega), (show (I0 1).toInt = (I0 1).toInt from by omega), (show 0 ≤ (1 : Int32).toInt ∧ (1 : Int32).toInt ≤ 1 from ⟨by omega, by omega⟩), k_I0, trivial⟩
    · have b_22159 := i32b x1
      exact wq_s ⟨(show ((0 : Int32).toInt = 0 ∨ ((0 : Int32).toInt = 1 ∧ x1.toInt ≠ 0)) from by omega), (show (I0 1).toInt = (I0 1).toInt from by omega), (show 0 ≤ (0 : Int32).toInt ∧ (0 : Int32).toInt ≤ 1 from ⟨by omega, by omega⟩), k_I0, trivial⟩
set_option maxHeartbeats 4000000 in
theorem tt_fX12_within {N : Nat} (hN : 3000000000 ≤ N) (x0 : Int32) (x1 : Int32) (x2 : Int32)  : wq (fX12_within N x0 x1 x2) (fun r => (r.toInt = 0 ∨ (r.toInt = 1 ∧ x1.toInt ≤ x0.toInt ∧ x0.toInt ≤ x2.toInt)) ∧ (0 ≤ r.toInt ∧ r.toInt ≤ 1) ∧ True) := by
  unfold fX12_within
  have b_22202 := i32b x0
  have b_22203 := i32b x1
  refine wq_lt (fun hc_22204 => ?_) (fun hc_22205 => ?_)
  · have b_22206 := i32b x2
    have l_0 := il_0
    exact wq_s ⟨(show ((0 : Int32).toInt = 0 ∨ ((0 : Int32).toInt = 1 ∧ x1.toInt ≤ x0.toInt ∧ x0.toInt ≤ x2.toInt)) from by omega), (show 0 ≤ (0 : Int32).toInt ∧ (0 : Int32).toInt ≤ 1 from ⟨by omega, by omega⟩), trivial⟩
  · have b_22207 := i32b x2
    refine wq_lt (fun hc_22208 => ?_) (fun hc_22209 => ?_)
    · have l_0 := il_0
      exact wq_s ⟨(show ((0 : Int32).toInt = 0 ∨ ((0 : Int32).toInt = 1 ∧ x1.toInt ≤ x0.toInt ∧ x0.toInt ≤ x2.toInt)) from by omega), (show 0 ≤ (0 : Int32).toInt ∧ (0 : Int32).toInt ≤ 1 from ⟨by omega, by omega⟩), trivial⟩
    · have l_1 := il_1
      exact wq_s ⟨(show ((1 : Int32).toInt = 0 ∨ ((1 : Int32).toInt = 1 ∧ x1.toInt ≤ x0.toInt ∧ x0.toInt ≤ x2.toInt)) from by omega), (show 0 ≤ (1 : Int32).toInt ∧ (1 : Int32).toInt ≤ 1 from ⟨by omega, by omega⟩), trivial⟩
set_option maxHeartbeats 4000000 in
theorem tt_fX12_lays_L3 {N : Nat} (hN : 3000000000 ≤ N) (x1 : Int32)   : ∀ (fu : Nat) (I0_l3 : (Nat → Int32)) (L0_l3 : Int64) (M0_l3 : (Nat → Nat → Int32)) (y3_2 : Int32), (-8 ≤ y3_2.toInt ∧ y3_2.toInt ≤ 24) → (KX12 I0_l3 M0_l3) → (y3_2.toInt - -8) < (fu : Int) → wq (fX12_lays_L3 N x1 fu I0_l3 L0_l3 M0_l3 y3_2) (fun r => KX12 r.1 r.2.2 ∧ True) := by
  intro fu
  induction fu with
  | zero => intro I0_l3 L0_l3 M0_l3 y3_2 h_y3_2 k_I0_l3 hm; exfalso; omega
  | succ fu ih =>
    intro I0_l3 L0_l3 M0_l3 y3_2 h_y3_2 k_I0_l3 hm
    rw [fX12_lays_L3.eq_2]
    have l_0 := il_0
    refine wq_lt (fun hc_22291 => ?_) (fun hc_22292 => ?_)
    · exact wq_s ⟨k_I0_l3, trivial⟩
    · have t_22293 := KX12.i3 k_I0_l3
      refine wq_in (n := 600) ⟨by omega, by omega⟩ ?_
      refine wq_v (fun M0_1_q22294 h_M0_1_q22294 => ?_)
      have k_M0_1_q22294 : KX12 I0_l3 M0_1_q22294 := by rw [h_M0_1_q22294]; exact KX12.sm8 k_I0_l3
      refine wq_v (fun I0_2_q22295 h_I0_2_q22295 => ?_)
      have l_1 := il_1
      have t_22296 := ia_add (I0_l3 3) (1 : Int32) (by omega) (by omega)
      have k_I0_2_q22295 : KX12 I0_2_q22295 M0_1_q22294 := by rw [h_I0_2_q22295]; exact KX12.si3 k_M0_1_q22294 ⟨by omega, by omega⟩
      have l_m8 := il_m8
      have t_22298 := ia_add y3_2 ((-8) : Int32) (by omega) (by omega)
      refine wq_v (fun v3_q22297 h_v3_q22297 => ?_)
      have t_v3_q22297 := congrArg Int32.toInt h_v3_q22297
      exact ih I0_2_q22295 L0_l3 M0_1_q22294 v3_q22297 ⟨by omega, by omega⟩ k_I0_2_q22295 (by omega)
set_option maxHeartbeats 4000000 in
theorem tt_fX12_lays {N : Nat} (hN : 3000000000 ≤ N) (I0 : Nat → Int32) (L0 : Int64) (M0 : Nat → Nat → Int32) (x1 : Int32) (k_I0 : KX12 I0 M0) : wq (fX12_lays N I0 L0 M0 x1) (fun r => KX12 r.1 r.2.2 ∧ True) := by
  unfold fX12_lays
  have b_22299 := i32b x1
  have l_24 := il_24
  exact tt_fX12_lays_L3 hN x1 N I0 L0 M0 (24 : Int32) ⟨by omega, by omega⟩ k_I0 (by omega)
set_option maxHeartbeats 4000000 in
theorem tt_fX12_feed {N : Nat} (hN : 3000000000 ≤ N) (I0 : Nat → Int32) (L0 : Int64) (M0 : Nat → Nat → Int32) (x1 : Int32) (x2 : Int32) (x3 : Int32) (x4 : Int32) (x5 : Int32) (k_I0 : KX12 I0 M0) : wq (fX12_feed N I0 L0 M0 x1 x2 x3 x4 x5) (fun r => (-1 ≤ r.1.toInt ∧ r.1.toInt ≤ 600) ∧ KX12 r.2.1 r.2.2.2 ∧ True) := by
  unfold fX12_feed
  refine wq_v (fun I0_1_q22402 h_I0_1_q22402 => ?_)
  have k_I0_1_q22402 : KX12 I0_1_q22402 M0 := by rw [h_I0_1_q22402]; exact KX12.si0 k_I0
  have t_22403 := KX12.i3 k_I0
  have t_22404 : (I0_1_q22402 3).toInt = (I0 3).toInt := by rw [h_I0_1_q22402]; rfl
  have l_20 := il_20
  have t_22405 := ia_add (I0_1_q22402 3) (20 : Int32) (by omega) (by omega)
  have l_600 := il_600
  refine wq_le (fun hc_22406 => ?_) (fun hc_22407 => ?_)
  · have b_22408 := i32b x1
    refine wq_b (tt_fX12_lays hN I0_1_q22402 L0 M0 x1 k_I0_1_q22402) (fun r2_q22409 h_r2_q22409 => ?_)
    obtain ⟨h_r2_q22409_0, -⟩ := h_r2_q22409
    have b_22410 := i32b x2
    refine wq_b (tt_fX12_lays hN r2_q22409.1 r2_q22409.2.1 r2_q22409.2.2 x2 h_r2_q22409_0) (fun r3_q22411 h_r3_q22411 => ?_)
    obtain ⟨h_r3_q22411_0, -⟩ := h_r3_q22411
    have b_22412 := i32b x3
    refine wq_b (tt_fX12_lays hN r3_q22411.1 r3_q22411.2.1 r3_q22411.2.2 x3 h_r3_q22411_0) (fun r4_q22413 h_r4_q22413 => ?_)
    obtain ⟨h_r4_q22413_0, -⟩ := h_r4_q22413
    have b_22414 := i32b x4
    refine wq_b (tt_fX12_lays hN r4_q22413.1 r4_q22413.2.1 r4_q22413.2.2 x4 h_r4_q22413_0) (fun r5_q22415 h_r5_q22415 => ?_)
    obtain ⟨h_r5_q22415_0, -⟩ := h_r5_q22415
    have b_22416 := i32b x5
    refine wq_b (tt_fX12_lays hN r5_q22415.1 r5_q22415.2.1 r5_q22415.2.2 x5 h_r5_q22415_0) (fun r6_q22417 h_r6_q22417 => ?_)
    obtain ⟨h_r6_q22417_0, -⟩ := h_r6_q22417
    have t_22418 := KX12.i3 h_r6_q22417_0
    exact wq_s ⟨(show -1 ≤ (r6_q22417.1 3).toInt ∧ (r6_q22417.1 3).toInt ≤ 600 from ⟨by omega, by omega⟩), h_r6_q22417_0, trivial⟩
  · have l_m1 := il_m1
    exact wq_s ⟨(show -1 ≤ (-1 : Int32).toInt ∧ (-1 : Int32).toInt ≤ 600 from ⟨by omega, by omega⟩), k_I0_1_q22402, trivial⟩
set_option maxHeartbeats 4000000 in
theorem tt_fX12_byteAt {N : Nat} (hN : 3000000000 ≤ N) (I0 : Nat → Int32) (L0 : Int64) (M0 : Nat → Nat → Int32) (x1 : Int32) (h_x1 : 0 ≤ x1.toInt ∧ x1.toInt ≤ 600) (k_I0 : KX12 I0 M0) : wq (fX12_byteAt N I0 L0 M0 x1) (fun r => (r.toInt = 0 ∨ x1.toInt < (I0 6).toInt) ∧ True) := by
  unfold fX12_byteAt
  have t_22437 := KX12.i6 k_I0
  refine wq_le (fun hc_22438 => ?_) (fun hc_22439 => ?_)
  · have l_0 := il_0
    exact wq_s ⟨(show ((0 : Int32).toInt = 0 ∨ x1.toInt < (I0 6).toInt) from by omega), trivial⟩
  · refine wq_in (n := 600) ⟨by omega, by omega⟩ ?_
    exact wq_s ⟨(show ((M0 8 x1.toNatClampNeg).toInt = 0 ∨ x1.toInt < (I0 6).toInt) from by omega), trivial⟩
set_option maxHeartbeats 4000000 in
theorem tt_fX12_isLetter {N : Nat} (hN : 3000000000 ≤ N) (x0 : Int32)  : wq (fX12_isLetter N x0) (fun r => (r.toInt = 0 ∨ (r.toInt = 1 ∧ 97 ≤ x0.toInt)) ∧ (0 ≤ r.toInt ∧ r.toInt ≤ 1) ∧ True) := by
  unfold fX12_isLetter
  have b_22470 := i32b x0
  have l_97 := il_97
  refine wq_lt (fun hc_22471 => ?_) (fun hc_22472 => ?_)
  · have l_0 := il_0
    exact wq_s ⟨(show ((0 : Int32).toInt = 0 ∨ ((0 : Int32).toInt = 1 ∧ 97 ≤ x0.toInt)) from by omega), (show 0 ≤ (0 : Int32).toInt ∧ (0 : Int32).toInt ≤ 1 from ⟨by omega, by omega⟩), trivial⟩
  · have l_122 := il_122
    refine wq_lt (fun hc_22473 => ?_) (fun hc_22474 => ?_)
    · have l_0 := il_0
      exact wq_s ⟨(show ((0 : Int32).toInt = 0 ∨ ((0 : Int32).toInt = 1 ∧ 97 ≤ x0.toInt)) from by omega), (show 0 ≤ (0 : Int32).toInt ∧ (0 : Int32).toInt ≤ 1 from ⟨by omega, by omega⟩), trivial⟩
    · have l_1 := il_1
      exact wq_s ⟨(show ((1 : Int32).toInt = 0 ∨ ((1 : Int32).toInt = 1 ∧ 97 ≤ x0.toInt)) from by omega), (show 0 ≤ (1 : Int32).toInt ∧ (1 : Int32).toInt ≤ 1 from ⟨by omega, by omega⟩), trivial⟩
set_option maxHeartbeats 4000000 in
theorem tt_fX12_isDigit {N : Nat} (hN : 3000000000 ≤ N) (x0 : Int32)  : wq (fX12_isDigit N x0) (fun r => (r.toInt = 0 ∨ (r.toInt = 1 ∧ 48 ≤ x0.toInt)) ∧ (0 ≤ r.toInt ∧ r.toInt ≤ 1) ∧ True) := by
  unfold fX12_isDigit
  have b_22505 := i32b x0
  have l_48 := il_48
  refine wq_lt (fun hc_22506 => ?_) (fun hc_22507 => ?_)
  · have l_0 := il_0
    exact wq_s ⟨(show ((0 : Int32).toInt = 0 ∨ ((0 : Int32).toInt = 1 ∧ 48 ≤ x0.toInt)) from by omega), (show 0 ≤ (0 : Int32).toInt ∧ (0 : Int32).toInt ≤ 1 from ⟨by omega, by omega⟩), trivial⟩
  · have l_57 := il_57
    refine wq_lt (fun hc_22508 => ?_) (fun hc_22509 => ?_)
    · have l_0 := il_0
      exact wq_s ⟨(show ((0 : Int32).toInt = 0 ∨ ((0 : Int32).toInt = 1 ∧ 48 ≤ x0.toInt)) from by omega), (show 0 ≤ (0 : Int32).toInt ∧ (0 : Int32).toInt ≤ 1 from ⟨by omega, by omega⟩), trivial⟩
    · have l_1 := il_1
      exact wq_s ⟨(show ((1 : Int32).toInt = 0 ∨ ((1 : Int32).toInt = 1 ∧ 48 ≤ x0.toInt)) from by omega), (show 0 ≤ (1 : Int32).toInt ∧ (1 : Int32).toInt ≤ 1 from ⟨by omega, by omega⟩), trivial⟩
theorem FR.rf (I : Nat → Int32) : FR I I := fun _ _ _ _ _ _ _ _ => rfl
theorem FR.tr {I J K : Nat → Int32} (h : FR I J) (g : FR J K) : FR I K := fun k a b c d e f m => (g k a b c d e f m).trans (h k a b c d e f m)
theorem FR.up {I J : Nat → Int32} (h : FR I J) {j : Nat} {v : Int32} (hj : j = 4 ∨ j = 5 ∨ j = 7 ∨ j = 8 ∨ j = 9 ∨ j = 10 ∨ j = 11) : FR I (upd J j v) := by
  intro k a b c d e f m
  unfold upd
  rw [if_neg (by omega)]
  exact h k a b c d e f m
/-- what a step does: rows stay, of the ints only those of the text move, no fault; the end, or a byte on -/
def SP (I : Nat → Int32) (M : Nat → Nat → Int32) (r : (Nat → Int32) × Int64 × (Nat → Nat → Int32)) : Prop := r.2.2 = M ∧ FR I r.1 ∧ r.1 4 = I 4 ∧ r.1 5 = I 5 ∧ KX12 r.1 M ∧ (I 7).toInt ≤ (r.1 7).toInt ∧ ((r.1 8).toInt = 0 ∨ (I 7).toInt < (r.1 7).toInt)
theorem tt_st279 (N : Nat) (I0 I : Nat → Int32) (L : Int64) (M : Nat → Nat → Int32) (k : KX12 I M) (hf : FR I0 I) (h4 : I 4 = I0 4) (h5 : I 5 = I0 5) (hp : (I0 7).toInt ≤ (I 7).toInt ∧ ((I 8).toInt = 0 ∨ (I0 7).toInt < (I 7).toInt)) : wq (fX12_steps_J279 N I L M) (SP I0 M) := by
  unfold fX12_steps_J279
  refine wq_v (fun J e => ?_)
  rw [e]
  exact wq_s ⟨rfl, hf.up (by omega), h4, h5, KX12.si10 k, hp.1, hp.2⟩
theorem tt_st182 {N : Nat} (hN : 3000000000 ≤ N) (I0 : Nat → Int32) (M : Nat → Nat → Int32) : ∀ (fu : Nat) (I : Nat → Int32) (L : Int64), KX12 I M → FR I0 I → I 4 = I0 4 → I 5 = I0 5 → (I0 7).toInt < (I 7).toInt → 600 - (I 7).toInt < (fu : Int) → wq (fX12_steps_L182 N fu I L M) (SP I0 M) := by
  intro fu
  induction fu with
  | zero => intro I L k hf h4 h5 hp hm; have := k.i7; exfalso; omega
  | succ fu ih =>
    intro I L k hf h4 h5 hp hm
    rw [fX12_steps_L182.eq_2]
    have h7 := k.i7
    have h6 := k.i6
    have l_0 := il_0
    have l_1 := il_1
    refine wq_b (tt_fX12_byteAt hN I L M (I 7) h7 k) (fun r10 h10 => ?_)
    obtain ⟨h10, -⟩ := h10
    refine wq_b (tt_fX12_isDigit hN r10) (fun r11 h11 => ?_)
    obtain ⟨h11, -, -⟩ := h11
    refine wq_eq (fun hc => ?_) (fun hc => ?_)
    · refine wq_v (fun J e => ?_)
      subst e
      exact tt_st279 N I0 _ L M (KX12.si8 k) (hf.up (by omega)) h4 h5 ⟨by show _ ≤ (I 7).toInt; omega, Or.inr hp⟩
    · have ta := ia_add (I 7) (1 : Int32) (by omega) (by omega)
      have hgo : ∀ (J : Nat → Int32) (L2 : Int64), KX12 J M → FR I0 J → J 4 = I0 4 → J 5 = I0 5 → J 7 = I 7 → wq (fX12_steps_L182 N fu (upd J 7 (I 7 + 1)) L2 M) (SP I0 M) := by
        intro J L2 kJ fJ j4 j5 j7
        refine ih _ L2 (KX12.si7 kJ ⟨by omega, by omega⟩) (fJ.up (by omega)) j4 j5 ?_ ?_
        · show (I0 7).toInt < (I 7 + 1).toInt
          omega
        · show 600 - (I 7 + 1).toInt < _
          omega
      refine wq_le (fun hc2 => ?_) (fun hc2 => ?_)
      · refine wq_v (fun J e => ?_)
        subst e
        exact hgo I L k hf h4 h5 rfl
      · refine wq_b (tt_fX12_byteAt hN I L M (I 7) h7 k) (fun r14 h14 => ?_)
        refine wq_v (fun J e => ?_)
        refine wq_v (fun J2 e2 => ?_)
        have q7 : J 7 = I 7 := by rw [e]; rfl
        rw [q7] at e2
        subst e2
        refine hgo J L ?_ ?_ ?_ ?_ q7
        · rw [e]; exact KX12.si11 k
        · rw [e]; exact hf.up (by omega)
        · rw [e]; exact h4
        · rw [e]; exact h5
theorem tt_st103 {N : Nat} (hN : 3000000000 ≤ N) (I0 : Nat → Int32) (M : Nat → Nat → Int32) : ∀ (fu : Nat) (I : Nat → Int32) (L : Int64), KX12 I M → FR I0 I → I 4 = I0 4 → I 5 = I0 5 → (I0 7).toInt < (I 7).toInt → 600 - (I 7).toInt < (fu : Int) → wq (fX12_steps_L103 N fu I L M) (SP I0 M) := by
  intro fu
  induction fu with
  | zero => intro I L k hf h4 h5 hp hm; have := k.i7; exfalso; omega
  | succ fu ih =>
    intro I L k hf h4 h5 hp hm
    rw [fX12_steps_L103.eq_2]
    have h7 := k.i7
    have h6 := k.i6
    have l_0 := il_0
    have l_1 := il_1
    refine wq_b (tt_fX12_byteAt hN I L M (I 7) h7 k) (fun r10 h10 => ?_)
    obtain ⟨h10, -⟩ := h10
    refine wq_b (tt_fX12_isLetter hN r10) (fun r11 h11 => ?_)
    obtain ⟨h11, -, -⟩ := h11
    refine wq_eq (fun hc => ?_) (fun hc => ?_)
    · refine wq_v (fun J e => ?_)
      subst e
      exact tt_st279 N I0 _ L M (KX12.si8 k) (hf.up (by omega)) h4 h5 ⟨by show _ ≤ (I 7).toInt; omega, Or.inr hp⟩
    · have ta := ia_add (I 7) (1 : Int32) (by omega) (by omega)
      have hgo : ∀ (J : Nat → Int32) (L2 : Int64), KX12 J M → FR I0 J → J 4 = I0 4 → J 5 = I0 5 → J 7 = I 7 → wq (fX12_steps_L103 N fu (upd J 7 (I 7 + 1)) L2 M) (SP I0 M) := by
        intro J L2 kJ fJ j4 j5 j7
        refine ih _ L2 (KX12.si7 kJ ⟨by omega, by omega⟩) (fJ.up (by omega)) j4 j5 ?_ ?_
        · show (I0 7).toInt < (I 7 + 1).toInt
          omega
        · show 600 - (I 7 + 1).toInt < _
          omega
      refine wq_le (fun hc2 => ?_) (fun hc2 => ?_)
      · refine wq_v (fun J e => ?_)
        subst e
        exact hgo I L k hf h4 h5 rfl
      · refine wq_b (tt_fX12_byteAt hN I L M (I 7) h7 k) (fun r14 h14 => ?_)
        refine wq_v (fun L2 eL => ?_)
        refine wq_v (fun J e => ?_)
        subst e
        exact hgo I L2 k hf h4 h5 rfl
theorem tt_st50 {N : Nat} (hN : 3000000000 ≤ N) (I0 I : Nat → Int32) (L : Int64) (M : Nat → Nat → Int32) (k : KX12 I M) (hf : FR I0 I) (h4 : I 4 = I0 4) (h5 : I 5 = I0 5) (hp : (I0 7).toInt ≤ (I 7).toInt) : wq (fX12_steps_J50 N I L M) (SP I0 M) := by
  unfold fX12_steps_J50
  refine wq_v (fun I3 e3 => ?_)
  refine wq_v (fun L4 e4 => ?_)
  refine wq_v (fun I5 e5 => ?_)
  have k5 : KX12 I5 M := by rw [e5, e3]; exact KX12.si11 (KX12.si9 k)
  have f5 : FR I0 I5 := by rw [e5, e3]; exact (hf.up (by omega)).up (by omega)
  have g4 : I5 4 = I0 4 := by rw [e5, e3]; exact h4
  have g5 : I5 5 = I0 5 := by rw [e5, e3]; exact h5
  have g7 : I5 7 = I 7 := by rw [e5, e3]; rfl
  rw [← g7] at hp
  clear e5 e3
  have h7 := k5.i7
  have h6 := k5.i6
  have l_0 := il_0
  have l_1 := il_1
  obtain ⟨r6, e6, -⟩ := tt_fX12_byteAt hN I5 L4 M (I5 7) h7 k5
  rw [e6, Option.bind_some]
  refine wq_lt (fun hc => ?_) (fun hc => ?_)
  · obtain ⟨r7, e7, -⟩ := tt_fX12_isLetter hN r6
    rw [e7, Option.bind_some]
    refine wq_eq (fun hc1 => ?_) (fun hc1 => ?_)
    · obtain ⟨r8, e8, -⟩ := tt_fX12_isDigit hN r6
      rw [e8, Option.bind_some]
      refine wq_eq (fun hc2 => ?_) (fun hc2 => ?_)
      · have ta := ia_add (I5 7) (1 : Int32) (by omega) (by omega)
        refine wq_v (fun I9 e9 => ?_)
        subst e9
        have k9 : KX12 (upd I5 7 (I5 7 + 1)) M := KX12.si7 k5 ⟨by omega, by omega⟩
        have hz : ∀ z : Int32, wq (fX12_steps_J276 N (upd I5 7 (I5 7 + 1)) L4 M z) (SP I0 M) := by
          intro z
          unfold fX12_steps_J276
          refine wq_v (fun J e => ?_)
          subst e
          refine tt_st279 N I0 _ L4 M (KX12.si8 k9) ((f5.up (by omega)).up (by omega)) g4 g5 ⟨?_, Or.inr ?_⟩
          · show _ ≤ (I5 7 + 1).toInt
            omega
          · show _ < (I5 7 + 1).toInt
            omega
        exact wq_i (fun _ => hz _) (fun _ => hz _)
      · have hq : wq (fX12_steps_L182 N N I5 L4 M) (SP I0 M) := by
          obtain ⟨n, rfl⟩ : ∃ n, N = n + 1 := ⟨N - 1, by omega⟩
          rw [fX12_steps_L182.eq_2, e6, Option.bind_some, e8, Option.bind_some]
          have ta := ia_add (I5 7) (1 : Int32) (by omega) (by omega)
          have hgo : ∀ (J : Nat → Int32) (L2 : Int64), KX12 J M → FR I0 J → J 4 = I0 4 → J 5 = I0 5 → J 7 = I5 7 → wq (fX12_steps_L182 (n + 1) n (upd J 7 (I5 7 + 1)) L2 M) (SP I0 M) := by
            intro J L2 kJ fJ j4 j5 j7
            refine tt_st182 hN I0 M n _ L2 (KX12.si7 kJ ⟨by omega, by omega⟩) (fJ.up (by omega)) j4 j5 ?_ ?_
            · show (I0 7).toInt < (I5 7 + 1).toInt
              omega
            · show 600 - (I5 7 + 1).toInt < _
              omega
          refine wq_eq (fun hx => absurd hx hc2) (fun _ => ?_)
          refine wq_le (fun hc2 => ?_) (fun hc2 => ?_)
          · refine wq_v (fun J e => ?_)
            subst e
            exact hgo I5 L4 k5 f5 g4 g5 rfl
          · rw [e6, Option.bind_some]
            refine wq_v (fun J e => ?_)
            refine wq_v (fun J2 e2 => ?_)
            have q7 : J 7 = I5 7 := by rw [e]; rfl
            rw [q7] at e2
            subst e2
            refine hgo J L4 ?_ ?_ ?_ ?_ q7
            · rw [e]; exact KX12.si11 k5
            · rw [e]; exact f5.up (by omega)
            · rw [e]; exact g4
            · rw [e]; exact g5
        exact hq
    · have hq : wq (fX12_steps_L103 N N I5 L4 M) (SP I0 M) := by
        obtain ⟨n, rfl⟩ : ∃ n, N = n + 1 := ⟨N - 1, by omega⟩
        rw [fX12_steps_L103.eq_2, e6, Option.bind_some, e7, Option.bind_some]
        have ta := ia_add (I5 7) (1 : Int32) (by omega) (by omega)
        have hgo : ∀ (J : Nat → Int32) (L2 : Int64), KX12 J M → FR I0 J → J 4 = I0 4 → J 5 = I0 5 → J 7 = I5 7 → wq (fX12_steps_L103 (n + 1) n (upd J 7 (I5 7 + 1)) L2 M) (SP I0 M) := by
          intro J L2 kJ fJ j4 j5 j7
          refine tt_st103 hN I0 M n _ L2 (KX12.si7 kJ ⟨by omega, by omega⟩) (fJ.up (by omega)) j4 j5 ?_ ?_
          · show (I0 7).toInt < (I5 7 + 1).toInt
            omega
          · show 600 - (I5 7 + 1).toInt < _
            omega
        refine wq_eq (fun hx => absurd hx hc1) (fun _ => ?_)
        refine wq_le (fun hc2 => ?_) (fun hc2 => ?_)
        · refine wq_v (fun J e => ?_)
          subst e
          exact hgo I5 L4 k5 f5 g4 g5 rfl
        · rw [e6, Option.bind_some]
          refine wq_v (fun L2 eL => ?_)
          refine wq_v (fun J e => ?_)
          subst e
          exact hgo I5 L2 k5 f5 g4 g5 rfl
      exact hq
  · refine wq_v (fun J e => ?_)
    subst e
    exact tt_st279 N I0 _ L4 M (KX12.si8 k5) (f5.up (by omega)) g4 g5 ⟨hp, Or.inl il_0⟩
theorem tt_st0 {N : Nat} (hN : 3000000000 ≤ N) (I0 : Nat → Int32) (M : Nat → Nat → Int32) : ∀ (fu : Nat) (I : Nat → Int32) (L : Int64), KX12 I M → FR I0 I → I 4 = I0 4 → I 5 = I0 5 → (I0 7).toInt ≤ (I 7).toInt → 600 - (I 7).toInt < (fu : Int) → wq (fX12_steps_L0 N fu I L M) (SP I0 M) := by
  intro fu
  induction fu with
  | zero => intro I L k hf h4 h5 hp hm; have := k.i7; exfalso; omega
  | succ fu ih =>
    intro I L k hf h4 h5 hp hm
    rw [fX12_steps_L0.eq_2]
    have h7 := k.i7
    have h6 := k.i6
    have l_0 := il_0
    have l_1 := il_1
    refine wq_le (fun hc => ?_) (fun hc => ?_)
    · exact tt_st50 hN I0 I L M k hf h4 h5 hp
    · have ta := ia_add (I 7) (1 : Int32) (by omega) (by omega)
      have hn : wq (fX12_steps_L0 N fu (upd I 7 (I 7 + 1)) L M) (SP I0 M) := by
        refine ih _ L (KX12.si7 k ⟨by omega, by omega⟩) (hf.up (by omega)) h4 h5 ?_ ?_
        · show _ ≤ (I 7 + 1).toInt
          omega
        · show 600 - (I 7 + 1).toInt < _
          omega
      refine wq_b (tt_fX12_byteAt hN I L M (I 7) h7 k) (fun r25 h25 => ?_)
      refine wq_i (fun _ => ?_) (fun _ => ?_)
      · exact wq_v (fun J e => by subst e; exact hn)
      · refine wq_b (tt_fX12_byteAt hN I L M (I 7) h7 k) (fun r27 h27 => ?_)
        refine wq_i (fun _ => ?_) (fun _ => ?_)
        · exact wq_v (fun J e => by subst e; exact hn)
        · exact tt_st50 hN I0 I L M k hf h4 h5 hp
theorem tt_steps {N : Nat} (hN : 3000000000 ≤ N) (I : Nat → Int32) (L : Int64) (M : Nat → Nat → Int32) (k : KX12 I M) : wq (fX12_steps N I L M) (SP I M) := by
  unfold fX12_steps
  have h7 := k.i7
  exact tt_st0 hN I M N I L k (FR.rf I) rfl rfl (by omega) (by omega)
theorem tt_fX12_steps {N : Nat} (hN : 3000000000 ≤ N) (I0 : Nat → Int32) (L0 : Int64) (M0 : Nat → Nat → Int32) (k_I0 : KX12 I0 M0) : wq (fX12_steps N I0 L0 M0) (fun r => KX12 r.1 r.2.2 ∧ True) := wq_w (tt_steps hN I0 L0 M0 k_I0) (fun r h => by rw [h.1]; exact ⟨h.2.2.2.2.1, trivial⟩)
set_option maxHeartbeats 4000000 in
theorem tt_fX12_spelled {N : Nat} (hN : 3000000000 ≤ N) (x0 : Int32) (x1 : Int32) (x2 : Int32) (x3 : Int32) (x4 : Int32) (x5 : Int32) (x6 : Int32)  : wq (fX12_spelled N x0 x1 x2 x3 x4 x5 x6) (fun r => True) := by
  unfold fX12_spelled
  refine wq_v (fun v6_q23775 h_v6_q23775 => ?_)
  have b_23776 := i32b x1
  have l_0 := il_0
  refine wq_eq (fun hc_23777 => ?_) (fun hc_23778 => ?_)
  · unfold fX12_spelled_J23
    have b_23779 := i32b x2
    refine wq_eq (fun hc_23780 => ?_) (fun hc_23781 => ?_)
    · unfold fX12_spelled_J39
      have b_23782 := i32b x3
      refine wq_eq (fun hc_23783 => ?_) (fun hc_23784 => ?_)
      · unfold fX12_spelled_J55
        have b_23785 := i32b x4
        refine wq_eq (fun hc_23786 => ?_) (fun hc_23787 => ?_)
        · unfold fX12_spelled_J73
          have b_23788 := i32b x5
          refine wq_eq (fun hc_23789 => ?_) (fun hc_23790 => ?_)
          · unfold fX12_spelled_J91
            have b_23791 := i32b x6
            refine wq_eq (fun hc_23792 => ?_) (fun hc_23793 => ?_)
            · exact wq_s trivial
            · refine wq_v (fun v1_q23794 h_v1_q23794 => ?_)
              exact wq_s trivial
          · refine wq_v (fun v2_q23795 h_v2_q23795 => ?_)
            unfold fX12_spelled_J91
            have b_23796 := i32b x6
            refine wq_eq (fun hc_23797 => ?_) (fun hc_23798 => ?_)
            · exact wq_s trivial
            · refine wq_v (fun v1_q23799 h_v1_q23799 => ?_)
              exact wq_s trivial
        · refine wq_v (fun v3_q23800 h_v3_q23800 => ?_)
          unfold fX12_spelled_J73
          have b_23801 := i32b x5
          refine wq_eq (fun hc_23802 => ?_) (fun hc_23803 => ?_)
          · unfold fX12_spelled_J91
            have b_23804 := i32b x6
            refine wq_eq (fun hc_23805 => ?_) (fun hc_23806 => ?_)
            · exact wq_s trivial
            · refine wq_v (fun v1_q23807 h_v1_q23807 => ?_)
              exact wq_s trivial
          · refine wq_v (fun v2_q23808 h_v2_q23808 => ?_)
            unfold fX12_spelled_J91
            have b_23809 := i32b x6
            refine wq_eq (fun hc_23810 => ?_) (fun hc_23811 => ?_)
            · exact wq_s trivial
            · refine wq_v (fun v1_q23812 h_v1_q23812 => ?_)
              exact wq_s trivial
      · refine wq_v (fun v4_q23813 h_v4_q23813 => ?_)
        unfold fX12_spelled_J55
        have b_23814 := i32b x4
        refine wq_eq (fun hc_23815 => ?_) (fun hc_23816 => ?_)
        · unfold fX12_spelled_J73
          have b_23817 := i32b x5
          refine wq_eq (fun hc_23818 => ?_) (fun hc_23819 => ?_)
          · unfold fX12_spelled_J91
            have b_23820 := i32b x6
            refine wq_eq (fun hc_23821 => ?_) (fun hc_23822 => ?_)
            · exact wq_s trivial
            · refine wq_v (fun v1_q23823 h_v1_q23823 => ?_)
              exact wq_s trivial
          · refine wq_v (fun v2_q23824 h_v2_q23824 => ?_)
            unfold fX12_spelled_J91
            have b_23825 := i32b x6
            refine wq_eq (fun hc_23826 => ?_) (fun hc_23827 => ?_)
            · exact wq_s trivial
            · refine wq_v (fun v1_q23828 h_v1_q23828 => ?_)
              exact wq_s trivial
        · refine wq_v (fun v3_q23829 h_v3_q23829 => ?_)
          unfold fX12_spelled_J73
          have b_23830 := i32b x5
          refine wq_eq (fun hc_23831 => ?_) (fun hc_23832 => ?_)
          · unfold fX12_spelled_J91
            have b_23833 := i32b x6
            refine wq_eq (fun hc_23834 => ?_) (fun hc_23835 => ?_)
            · exact wq_s trivial
            · refine wq_v (fun v1_q23836 h_v1_q23836 => ?_)
              exact wq_s trivial
          · refine wq_v (fun v2_q23837 h_v2_q23837 => ?_)
            unfold fX12_spelled_J91
            have b_23838 := i32b x6
            refine wq_eq (fun hc_23839 => ?_) (fun hc_23840 => ?_)
            · exact wq_s trivial
            · refine wq_v (fun v1_q23841 h_v1_q23841 => ?_)
              exact wq_s trivial
    · refine wq_v (fun v5_q23842 h_v5_q23842 => ?_)
      unfold fX12_spelled_J39
      have b_23843 := i32b x3
      refine wq_eq (fun hc_23844 => ?_) (fun hc_23845 => ?_)
      · unfold fX12_spelled_J55
        have b_23846 := i32b x4
        refine wq_eq (fun hc_23847 => ?_) (fun hc_23848 => ?_)
        · unfold fX12_spelled_J73
          have b_23849 := i32b x5
          refine wq_eq (fun hc_23850 => ?_) (fun hc_23851 => ?_)
          · unfold fX12_spelled_J91
            have b_23852 := i32b x6
            refine wq_eq (fun hc_23853 => ?_) (fun hc_23854 => ?_)
            · exact wq_s trivial
            · refine wq_v (fun v1_q23855 h_v1_q23855 => ?_)
              exact wq_s trivial
          · refine wq_v (fun v2_q23856 h_v2_q23856 => ?_)
            unfold fX12_spelled_J91
            have b_23857 := i32b x6
            refine wq_eq (fun hc_23858 => ?_) (fun hc_23859 => ?_)
            · exact wq_s trivial
            · refine wq_v (fun v1_q23860 h_v1_q23860 => ?_)
              exact wq_s trivial
        · refine wq_v (fun v3_q23861 h_v3_q23861 => ?_)
          unfold fX12_spelled_J73
          have b_23862 := i32b x5
          refine wq_eq (fun hc_23863 => ?_) (fun hc_23864 => ?_)
          · unfold fX12_spelled_J91
            have b_23865 := i32b x6
            refine wq_eq (fun hc_23866 => ?_) (fun hc_23867 => ?_)
            · exact wq_s trivial
            · refine wq_v (fun v1_q23868 h_v1_q23868 => ?_)
              exact wq_s trivial
          · refine wq_v (fun v2_q23869 h_v2_q23869 => ?_)
            unfold fX12_spelled_J91
            have b_23870 := i32b x6
            refine wq_eq (fun hc_23871 => ?_) (fun hc_23872 => ?_)
            · exact wq_s trivial
            · refine wq_v (fun v1_q23873 h_v1_q23873 => ?_)
              exact wq_s trivial
      · refine wq_v (fun v4_q23874 h_v4_q23874 => ?_)
        unfold fX12_spelled_J55
        have b_23875 := i32b x4
        refine wq_eq (fun hc_23876 => ?_) (fun hc_23877 => ?_)
        · unfold fX12_spelled_J73
          have b_23878 := i32b x5
          refine wq_eq (fun hc_23879 => ?_) (fun hc_23880 => ?_)
          · unfold fX12_spelled_J91
            have b_23881 := i32b x6
            refine wq_eq (fun hc_23882 => ?_) (fun hc_23883 => ?_)
            · exact wq_s trivial
            · refine wq_v (fun v1_q23884 h_v1_q23884 => ?_)
              exact wq_s trivial
          · refine wq_v (fun v2_q23885 h_v2_q23885 => ?_)
            unfold fX12_spelled_J91
            have b_23886 := i32b x6
            refine wq_eq (fun hc_23887 => ?_) (fun hc_23888 => ?_)
            · exact wq_s trivial
            · refine wq_v (fun v1_q23889 h_v1_q23889 => ?_)
              exact wq_s trivial
        · refine wq_v (fun v3_q23890 h_v3_q23890 => ?_)
          unfold fX12_spelled_J73
          have b_23891 := i32b x5
          refine wq_eq (fun hc_23892 => ?_) (fun hc_23893 => ?_)
          · unfold fX12_spelled_J91
            have b_23894 := i32b x6
            refine wq_eq (fun hc_23895 => ?_) (fun hc_23896 => ?_)
            · exact wq_s trivial
            · refine wq_v (fun v1_q23897 h_v1_q23897 => ?_)
              exact wq_s trivial
          · refine wq_v (fun v2_q23898 h_v2_q23898 => ?_)
            unfold fX12_spelled_J91
            have b_23899 := i32b x6
            refine wq_eq (fun hc_23900 => ?_) (fun hc_23901 => ?_)
            · exact wq_s trivial
            · refine wq_v (fun v1_q23902 h_v1_q23902 => ?_)
              exact wq_s trivial
  · refine wq_v (fun v7_q23903 h_v7_q23903 => ?_)
    unfold fX12_spelled_J23
    have b_23904 := i32b x2
    refine wq_eq (fun hc_23905 => ?_) (fun hc_23906 => ?_)
    · unfold fX12_spelled_J39
      have b_23907 := i32b x3
      refine wq_eq (fun hc_23908 => ?_) (fun hc_23909 => ?_)
      · unfold fX12_spelled_J55
        have b_23910 := i32b x4
        refine wq_eq (fun hc_23911 => ?_) (fun hc_23912 => ?_)
        · unfold fX12_spelled_J73
          have b_23913 := i32b x5
          refine wq_eq (fun hc_23914 => ?_) (fun hc_23915 => ?_)
          · unfold fX12_spelled_J91
            have b_23916 := i32b x6
            refine wq_eq (fun hc_23917 => ?_) (fun hc_23918 => ?_)
            · exact wq_s trivial
            · refine wq_v (fun v1_q23919 h_v1_q23919 => ?_)
              exact wq_s trivial
          · refine wq_v (fun v2_q23920 h_v2_q23920 => ?_)
            unfold fX12_spelled_J91
            have b_23921 := i32b x6
            refine wq_eq (fun hc_23922 => ?_) (fun hc_23923 => ?_)
            · exact wq_s trivial
            · refine wq_v (fun v1_q23924 h_v1_q23924 => ?_)
              exact wq_s trivial
        · refine wq_v (fun v3_q23925 h_v3_q23925 => ?_)
          unfold fX12_spelled_J73
          have b_23926 := i32b x5
          refine wq_eq (fun hc_23927 => ?_) (fun hc_23928 => ?_)
          · unfold fX12_spelled_J91
            have b_23929 := i32b x6
            refine wq_eq (fun hc_23930 => ?_) (fun hc_23931 => ?_)
            · exact wq_s trivial
            · refine wq_v (fun v1_q23932 h_v1_q23932 => ?_)
              exact wq_s trivial
          · refine wq_v (fun v2_q23933 h_v2_q23933 => ?_)
            unfold fX12_spelled_J91
            have b_23934 := i32b x6
            refine wq_eq (fun hc_23935 => ?_) (fun hc_23936 => ?_)
            · exact wq_s trivial
            · refine wq_v (fun v1_q23937 h_v1_q23937 => ?_)
              exact wq_s trivial
      · refine wq_v (fun v4_q23938 h_v4_q23938 => ?_)
        unfold fX12_spelled_J55
        have b_23939 := i32b x4
        refine wq_eq (fun hc_23940 => ?_) (fun hc_23941 => ?_)
        · unfold fX12_spelled_J73
          have b_23942 := i32b x5
          refine wq_eq (fun hc_23943 => ?_) (fun hc_23944 => ?_)
          · unfold fX12_spelled_J91
            have b_23945 := i32b x6
            refine wq_eq (fun hc_23946 => ?_) (fun hc_23947 => ?_)
            · exact wq_s trivial
            · refine wq_v (fun v1_q23948 h_v1_q23948 => ?_)
              exact wq_s trivial
          · refine wq_v (fun v2_q23949 h_v2_q23949 => ?_)
            unfold fX12_spelled_J91
            have b_23950 := i32b x6
            refine wq_eq (fun hc_23951 => ?_) (fun hc_23952 => ?_)
            · exact wq_s trivial
            · refine wq_v (fun v1_q23953 h_v1_q23953 => ?_)
              exact wq_s trivial
        · refine wq_v (fun v3_q23954 h_v3_q23954 => ?_)
          unfold fX12_spelled_J73
          have b_23955 := i32b x5
          refine wq_eq (fun hc_23956 => ?_) (fun hc_23957 => ?_)
          · unfold fX12_spelled_J91
            have b_23958 := i32b x6
            refine wq_eq (fun hc_23959 => ?_) (fun hc_23960 => ?_)
            · exact wq_s trivial
            · refine wq_v (fun v1_q23961 h_v1_q23961 => ?_)
              exact wq_s trivial
          · refine wq_v (fun v2_q23962 h_v2_q23962 => ?_)
            unfold fX12_spelled_J91
            have b_23963 := i32b x6
            refine wq_eq (fun hc_23964 => ?_) (fun hc_23965 => ?_)
            · exact wq_s trivial
            · refine wq_v (fun v1_q23966 h_v1_q23966 => ?_)
              exact wq_s trivial
    · refine wq_v (fun v5_q23967 h_v5_q23967 => ?_)
      unfold fX12_spelled_J39
      have b_23968 := i32b x3
      refine wq_eq (fun hc_23969 => ?_) (fun hc_23970 => ?_)
      · unfold fX12_spelled_J55
        have b_23971 := i32b x4
        refine wq_eq (fun hc_23972 => ?_) (fun hc_23973 => ?_)
        · unfold fX12_spelled_J73
          have b_23974 := i32b x5
          refine wq_eq (fun hc_23975 => ?_) (fun hc_23976 => ?_)
          · unfold fX12_spelled_J91
            have b_23977 := i32b x6
            refine wq_eq (fun hc_23978 => ?_) (fun hc_23979 => ?_)
            · exact wq_s trivial
            · refine wq_v (fun v1_q23980 h_v1_q23980 => ?_)
              exact wq_s trivial
          · refine wq_v (fun v2_q23981 h_v2_q23981 => ?_)
            unfold fX12_spelled_J91
            have b_23982 := i32b x6
            refine wq_eq (fun hc_23983 => ?_) (fun hc_23984 => ?_)
            · exact wq_s trivial
            · refine wq_v (fun v1_q23985 h_v1_q23985 => ?_)
              exact wq_s trivial
        · refine wq_v (fun v3_q23986 h_v3_q23986 => ?_)
          unfold fX12_spelled_J73
          have b_23987 := i32b x5
          refine wq_eq (fun hc_23988 => ?_) (fun hc_23989 => ?_)
          · unfold fX12_spelled_J91
            have b_23990 := i32b x6
            refine wq_eq (fun hc_23991 => ?_) (fun hc_23992 => ?_)
            · exact wq_s trivial
            · refine wq_v (fun v1_q23993 h_v1_q23993 => ?_)
              exact wq_s trivial
          · refine wq_v (fun v2_q23994 h_v2_q23994 => ?_)
            unfold fX12_spelled_J91
            have b_23995 := i32b x6
            refine wq_eq (fun hc_23996 => ?_) (fun hc_23997 => ?_)
            · exact wq_s trivial
            · refine wq_v (fun v1_q23998 h_v1_q23998 => ?_)
              exact wq_s trivial
      · refine wq_v (fun v4_q23999 h_v4_q23999 => ?_)
        unfold fX12_spelled_J55
        have b_24000 := i32b x4
        refine wq_eq (fun hc_24001 => ?_) (fun hc_24002 => ?_)
        · unfold fX12_spelled_J73
          have b_24003 := i32b x5
          refine wq_eq (fun hc_24004 => ?_) (fun hc_24005 => ?_)
          · unfold fX12_spelled_J91
            have b_24006 := i32b x6
            refine wq_eq (fun hc_24007 => ?_) (fun hc_24008 => ?_)
            · exact wq_s trivial
            · refine wq_v (fun v1_q24009 h_v1_q24009 => ?_)
              exact wq_s trivial
          · refine wq_v (fun v2_q24010 h_v2_q24010 => ?_)
            unfold fX12_spelled_J91
            have b_24011 := i32b x6
            refine wq_eq (fun hc_24012 => ?_) (fun hc_24013 => ?_)
            · exact wq_s trivial
            · refine wq_v (fun v1_q24014 h_v1_q24014 => ?_)
              exact wq_s trivial
        · refine wq_v (fun v3_q24015 h_v3_q24015 => ?_)
          unfold fX12_spelled_J73
          have b_24016 := i32b x5
          refine wq_eq (fun hc_24017 => ?_) (fun hc_24018 => ?_)
          · unfold fX12_spelled_J91
            have b_24019 := i32b x6
            refine wq_eq (fun hc_24020 => ?_) (fun hc_24021 => ?_)
            · exact wq_s trivial
            · refine wq_v (fun v1_q24022 h_v1_q24022 => ?_)
              exact wq_s trivial
          · refine wq_v (fun v2_q24023 h_v2_q24023 => ?_)
            unfold fX12_spelled_J91
            have b_24024 := i32b x6
            refine wq_eq (fun hc_24025 => ?_) (fun hc_24026 => ?_)
            · exact wq_s trivial
            · refine wq_v (fun v1_q24027 h_v1_q24027 => ?_)
              exact wq_s trivial
set_option maxHeartbeats 4000000 in
theorem tt_fX12_letters {N : Nat} (hN : 3000000000 ≤ N) (x0 : Int32)  : wq (fX12_letters N x0) (fun r => True) := by
  unfold fX12_letters
  have b_24308 := i32b x0
  have l_0 := il_0
  refine wq_eq (fun hc_24309 => ?_) (fun hc_24310 => ?_)
  · have l_115 := il_115
    have l_117 := il_117
    have l_110 := il_110
    refine wq_b (tt_fX12_spelled hN (115 : Int32) (117 : Int32) (110 : Int32) (0 : Int32) (0 : Int32) (0 : Int32) (0 : Int32)) (fun r1_q24311 h_r1_q24311 => ?_)
    obtain ⟨-⟩ := h_r1_q24311
    exact wq_s trivial
  · have l_1 := il_1
    refine wq_eq (fun hc_24312 => ?_) (fun hc_24313 => ?_)
    · have l_109 := il_109
      have l_111 := il_111
      have l_110 := il_110
      refine wq_b (tt_fX12_spelled hN (109 : Int32) (111 : Int32) (111 : Int32) (110 : Int32) (0 : Int32) (0 : Int32) (0 : Int32)) (fun r2_q24314 h_r2_q24314 => ?_)
      obtain ⟨-⟩ := h_r2_q24314
      exact wq_s trivial
    · have l_2 := il_2
      refine wq_eq (fun hc_24315 => ?_) (fun hc_24316 => ?_)
      · have l_109 := il_109
        have l_101 := il_101
        have l_114 := il_114
        have l_99 := il_99
        have l_117 := il_117
        have l_121 := il_121
        refine wq_b (tt_fX12_spelled hN (109 : Int32) (101 : Int32) (114 : Int32) (99 : Int32) (117 : Int32) (114 : Int32) (121 : Int32)) (fun r3_q24317 h_r3_q24317 => ?_)
        obtain ⟨-⟩ := h_r3_q24317
        exact wq_s trivial
      · have l_3 := il_3
        refine wq_eq (fun hc_24318 => ?_) (fun hc_24319 => ?_)
        · have l_118 := il_118
          have l_101 := il_101
          have l_110 := il_110
          have l_117 := il_117
          have l_115 := il_115
          refine wq_b (tt_fX12_spelled hN (118 : Int32) (101 : Int32) (110 : Int32) (117 : Int32) (115 : Int32) (0 : Int32) (0 : Int32)) (fun r4_q24320 h_r4_q24320 => ?_)
          obtain ⟨-⟩ := h_r4_q24320
          exact wq_s trivial
        · have l_4 := il_4
          refine wq_eq (fun hc_24321 => ?_) (fun hc_24322 => ?_)
          · have l_109 := il_109
            have l_97 := il_97
            have l_114 := il_114
            have l_115 := il_115
            refine wq_b (tt_fX12_spelled hN (109 : Int32) (97 : Int32) (114 : Int32) (115 : Int32) (0 : Int32) (0 : Int32) (0 : Int32)) (fun r5_q24323 h_r5_q24323 => ?_)
            obtain ⟨-⟩ := h_r5_q24323
            exact wq_s trivial
          · have l_5 := il_5
            refine wq_eq (fun hc_24324 => ?_) (fun hc_24325 => ?_)
            · have l_106 := il_106
              have l_117 := il_117
              have l_112 := il_112
              have l_105 := il_105
              have l_116 := il_116
              have l_101 := il_101
              have l_114 := il_114
              refine wq_b (tt_fX12_spelled hN (106 : Int32) (117 : Int32) (112 : Int32) (105 : Int32) (116 : Int32) (101 : Int32) (114 : Int32)) (fun r6_q24326 h_r6_q24326 => ?_)
              obtain ⟨-⟩ := h_r6_q24326
              exact wq_s trivial
            · have l_6 := il_6
              refine wq_eq (fun hc_24327 => ?_) (fun hc_24328 => ?_)
              · have l_115 := il_115
                have l_97 := il_97
                have l_116 := il_116
                have l_117 := il_117
                have l_114 := il_114
                have l_110 := il_110
                refine wq_b (tt_fX12_spelled hN (115 : Int32) (97 : Int32) (116 : Int32) (117 : Int32) (114 : Int32) (110 : Int32) (0 : Int32)) (fun r7_q24329 h_r7_q24329 => ?_)
                obtain ⟨-⟩ := h_r7_q24329
                exact wq_s trivial
              · have l_7 := il_7
                refine wq_eq (fun hc_24330 => ?_) (fun hc_24331 => ?_)
                · have l_114 := il_114
                  have l_105 := il_105
                  have l_115 := il_115
                  have l_101 := il_101
                  refine wq_b (tt_fX12_spelled hN (114 : Int32) (105 : Int32) (115 : Int32) (101 : Int32) (0 : Int32) (0 : Int32) (0 : Int32)) (fun r8_q24332 h_r8_q24332 => ?_)
                  obtain ⟨-⟩ := h_r8_q24332
                  exact wq_s trivial
                · have l_8 := il_8
                  refine wq_eq (fun hc_24333 => ?_) (fun hc_24334 => ?_)
                  · have l_108 := il_108
                    have l_111 := il_111
                    have l_116 := il_116
                    refine wq_b (tt_fX12_spelled hN (108 : Int32) (111 : Int32) (116 : Int32) (0 : Int32) (0 : Int32) (0 : Int32) (0 : Int32)) (fun r9b_q24335 h_r9b_q24335 => ?_)
                    obtain ⟨-⟩ := h_r9b_q24335
                    exact wq_s trivial
                  · have l_9 := il_9
                    refine wq_eq (fun hc_24336 => ?_) (fun hc_24337 => ?_)
                    · have l_104 := il_104
                      have l_111 := il_111
                      have l_117 := il_117
                      have l_115 := il_115
                      have l_101 := il_101
                      refine wq_b (tt_fX12_spelled hN (104 : Int32) (111 : Int32) (117 : Int32) (115 : Int32) (101 : Int32) (0 : Int32) (0 : Int32)) (fun r10_q24338 h_r10_q24338 => ?_)
                      obtain ⟨-⟩ := h_r10_q24338
                      exact wq_s trivial
                    · have l_10 := il_10
                      refine wq_eq (fun hc_24339 => ?_) (fun hc_24340 => ?_)
                      · have l_100 := il_100
                        have l_97 := il_97
                        have l_116 := il_116
                        have l_101 := il_101
                        refine wq_b (tt_fX12_spelled hN (100 : Int32) (97 : Int32) (116 : Int32) (101 : Int32) (0 : Int32) (0 : Int32) (0 : Int32)) (fun r11_q24341 h_r11_q24341 => ?_)
                        obtain ⟨-⟩ := h_r11_q24341
                        exact wq_s trivial
                      · have l_11 := il_11
                        refine wq_eq (fun hc_24342 => ?_) (fun hc_24343 => ?_)
                        · have l_115 := il_115
                          have l_101 := il_101
                          have l_116 := il_116
                          refine wq_b (tt_fX12_spelled hN (115 : Int32) (101 : Int32) (116 : Int32) (0 : Int32) (0 : Int32) (0 : Int32) (0 : Int32)) (fun r12_q24344 h_r12_q24344 => ?_)
                          obtain ⟨-⟩ := h_r12_q24344
                          exact wq_s trivial
                        · have l_12 := il_12
                          refine wq_eq (fun hc_24345 => ?_) (fun hc_24346 => ?_)
                          · have l_97 := il_97
                            have l_116 := il_116
                            refine wq_b (tt_fX12_spelled hN (97 : Int32) (116 : Int32) (0 : Int32) (0 : Int32) (0 : Int32) (0 : Int32) (0 : Int32)) (fun r13_q24347 h_r13_q24347 => ?_)
                            obtain ⟨-⟩ := h_r13_q24347
                            exact wq_s trivial
                          · have l_13 := il_13
                            refine wq_eq (fun hc_24348 => ?_) (fun hc_24349 => ?_)
                            · have l_103 := il_103
                              have l_111 := il_111
                              have l_101 := il_101
                              have l_115 := il_115
                              refine wq_b (tt_fX12_spelled hN (103 : Int32) (111 : Int32) (101 : Int32) (115 : Int32) (0 : Int32) (0 : Int32) (0 : Int32)) (fun r14_q24350 h_r14_q24350 => ?_)
                              obtain ⟨-⟩ := h_r14_q24350
                              exact wq_s trivial
                            · have l_14 := il_14
                              refine wq_eq (fun hc_24351 => ?_) (fun hc_24352 => ?_)
                              · have l_115 := il_115
                                have l_119 := il_119
                                have l_105 := il_105
                                have l_110 := il_110
                                have l_103 := il_103
                                refine wq_b (tt_fX12_spelled hN (115 : Int32) (119 : Int32) (105 : Int32) (110 : Int32) (103 : Int32) (0 : Int32) (0 : Int32)) (fun r15_q24353 h_r15_q24353 => ?_)
                                obtain ⟨-⟩ := h_r15_q24353
                                exact wq_s trivial
                              · have l_15 := il_15
                                refine wq_eq (fun hc_24354 => ?_) (fun hc_24355 => ?_)
                                · have l_105 := il_105
                                  have l_110 := il_110
                                  refine wq_b (tt_fX12_spelled hN (105 : Int32) (110 : Int32) (0 : Int32) (0 : Int32) (0 : Int32) (0 : Int32) (0 : Int32)) (fun r16_q24356 h_r16_q24356 => ?_)
                                  obtain ⟨-⟩ := h_r16_q24356
                                  exact wq_s trivial
                                · have l_16 := il_16
                                  refine wq_eq (fun hc_24357 => ?_) (fun hc_24358 => ?_)
                                  · have l_99 := il_99
                                    have l_108 := il_108
                                    have l_105 := il_105
                                    have l_109 := il_109
                                    have l_97 := il_97
                                    have l_116 := il_116
                                    have l_101 := il_101
                                    refine wq_b (tt_fX12_spelled hN (99 : Int32) (108 : Int32) (105 : Int32) (109 : Int32) (97 : Int32) (116 : Int32) (101 : Int32)) (fun r17_q24359 h_r17_q24359 => ?_)
                                    obtain ⟨-⟩ := h_r17_q24359
                                    exact wq_s trivial
                                  · have l_17 := il_17
                                    refine wq_eq (fun hc_24360 => ?_) (fun hc_24361 => ?_)
                                    · have l_104 := il_104
                                      have l_97 := il_97
                                      have l_110 := il_110
                                      have l_100 := il_100
                                      refine wq_b (tt_fX12_spelled hN (104 : Int32) (97 : Int32) (110 : Int32) (100 : Int32) (0 : Int32) (0 : Int32) (0 : Int32)) (fun r18_q24362 h_r18_q24362 => ?_)
                                      obtain ⟨-⟩ := h_r18_q24362
                                      exact wq_s trivial
                                    · have l_102 := il_102
                                      have l_111 := il_111
                                      have l_114 := il_114
                                      refine wq_b (tt_fX12_spelled hN (102 : Int32) (111 : Int32) (114 : Int32) (0 : Int32) (0 : Int32) (0 : Int32) (0 : Int32)) (fun r19_q24363 h_r19_q24363 => ?_)
                                      obtain ⟨-⟩ := h_r19_q24363
                                      exact wq_s trivial
set_option maxHeartbeats 4000000 in
theorem tt_fX12_knownWord_L21 {N : Nat} (hN : 3000000000 ≤ N) (I0 : Nat → Int32) (L0 : Int64) (M0 : Nat → Nat → Int32) (k_I0 : KX12 I0 M0)  : ∀ (fu : Nat) (y21_1 : Int32), (0 ≤ y21_1.toInt ∧ y21_1.toInt ≤ 19) → (19 - y21_1.toInt) < (fu : Int) → wq (fX12_knownWord_L21 N I0 L0 M0 fu y21_1) (fun r => (-1 ≤ r.toInt ∧ r.toInt ≤ 18) ∧ True) := by
  intro fu
  induction fu with
  | zero => intro y21_1 h_y21_1 hm; exfalso; omega
  | succ fu ih =>
    intro y21_1 h_y21_1 hm
    rw [fX12_knownWord_L21.eq_2]
    have l_19 := il_19
    refine wq_le (fun hc_24507 => ?_) (fun hc_24508 => ?_)
    · have l_m1 := il_m1
      exact wq_s ⟨(show -1 ≤ (-1 : Int32).toInt ∧ (-1 : Int32).toInt ≤ 18 from ⟨by omega, by omega⟩), trivial⟩
    · refine wq_b (tt_fX12_letters hN y21_1) (fun r1_q24509 h_r1_q24509 => ?_)
      obtain ⟨-⟩ := h_r1_q24509
      have l_0 := il_0
      refine wq_eq (fun hc_24510 => ?_) (fun hc_24511 => ?_)
      · exact wq_s ⟨(show -1 ≤ y21_1.toInt ∧ y21_1.toInt ≤ 18 from ⟨by omega, by omega⟩), trivial⟩
      · have l_1 := il_1
        have t_24513 := ia_add y21_1 (1 : Int32) (by omega) (by omega)
        refine wq_v (fun v2_q24512 h_v2_q24512 => ?_)
        have t_v2_q24512 := congrArg Int32.toInt h_v2_q24512
        exact ih v2_q24512 ⟨by omega, by omega⟩ (by omega)
set_option maxHeartbeats 4000000 in
theorem tt_fX12_knownWord {N : Nat} (hN : 3000000000 ≤ N) (I0 : Nat → Int32) (L0 : Int64) (M0 : Nat → Nat → Int32) (k_I0 : KX12 I0 M0) : wq (fX12_knownWord N I0 L0 M0) (fun r => (-1 ≤ r.toInt ∧ r.toInt ≤ 18) ∧ True) := by
  unfold fX12_knownWord
  have l_1 := il_1
  refine wq_eq (fun hc_24514 => ?_) (fun hc_24515 => ?_)
  · have l_7 := il_7
    refine wq_le (fun hc_24516 => ?_) (fun hc_24517 => ?_)
    · have l_0 := il_0
      exact tt_fX12_knownWord_L21 hN I0 L0 M0 k_I0 N (0 : Int32) ⟨by omega, by omega⟩ (by omega)
    · have l_m1 := il_m1
      exact wq_s ⟨(show -1 ≤ (-1 : Int32).toInt ∧ (-1 : Int32).toInt ≤ 18 from ⟨by omega, by omega⟩), trivial⟩
  · have l_m1 := il_m1
    exact wq_s ⟨(show -1 ≤ (-1 : Int32).toInt ∧ (-1 : Int32).toInt ≤ 18 from ⟨by omega, by omega⟩), trivial⟩
/-- a call that reads: rows stay, only the text's ints move, a fault stays -/
def NP (I : Nat → Int32) (M : Nat → Nat → Int32) (r : (Nat → Int32) × Int64 × (Nat → Nat → Int32)) : Prop := r.2.2 = M ∧ FR I r.1 ∧ KX12 r.1 M ∧ ((I 4).toInt = 0 ∨ (r.1 4).toInt ≠ 0) ∧ (I 7).toInt ≤ (r.1 7).toInt
theorem NP.of {I : Nat → Int32} {M : Nat → Nat → Int32} {r : (Nat → Int32) × Int64 × (Nat → Nat → Int32)} (h : SP I M r) : NP I M r := ⟨h.1, h.2.1, h.2.2.2.2.1, by rw [h.2.2.1]; omega, h.2.2.2.2.2.1⟩
theorem NP.tr {I : Nat → Int32} {M : Nat → Nat → Int32} {r q : (Nat → Int32) × Int64 × (Nat → Nat → Int32)} (h : NP I M r) (g : NP r.1 M q) : NP I M q := ⟨g.1, h.2.1.tr g.2.1, g.2.2.1, by have a := h.2.2.2.1; have b := g.2.2.2.1; omega, by have a := h.2.2.2.2; have b := g.2.2.2.2; omega⟩
theorem NP.rf {I : Nat → Int32} {L : Int64} {M : Nat → Nat → Int32} (k : KX12 I M) : NP I M (I, L, M) := ⟨rfl, FR.rf I, k, by show _ ∨ (I 4).toInt ≠ 0; omega, Int.le_refl _⟩
theorem tt_wrong (N : Nat) (I : Nat → Int32) (L : Int64) (M : Nat → Nat → Int32) (x : Int32) (hx : x.toInt ≠ 0) (k : KX12 I M) : wq (fX12_wrong N I L M x) (fun r => NP I M r ∧ (r.1 4).toInt ≠ 0) := by
  unfold fX12_wrong
  have l_0 := il_0
  refine wq_eq (fun hc => ?_) (fun hc => ?_)
  · refine wq_v (fun J e => ?_)
    refine wq_v (fun J2 e2 => ?_)
    subst e
    subst e2
    refine wq_s ⟨⟨rfl, ((FR.rf I).up (by omega)).up (by omega), KX12.si5 (KX12.si4 k), Or.inr hx, Int.le_refl _⟩, hx⟩
  · exact wq_s ⟨NP.rf k, by show (I 4).toInt ≠ 0; omega⟩
theorem tt_fX12_wrong {N : Nat} (hN : 3000000000 ≤ N) (I0 : Nat → Int32) (L0 : Int64) (M0 : Nat → Nat → Int32) (x1 : Int32) (k_I0 : KX12 I0 M0) : wq (fX12_wrong N I0 L0 M0 x1) (fun r => KX12 r.1 r.2.2 ∧ True) := by
  unfold fX12_wrong
  refine wq_i (fun _ => ?_) (fun _ => ?_)
  · refine wq_v (fun J e => ?_)
    refine wq_v (fun J2 e2 => ?_)
    subst e
    subst e2
    exact wq_s ⟨KX12.si5 (KX12.si4 k_I0), trivial⟩
  · exact wq_s ⟨k_I0, trivial⟩
set_option maxHeartbeats 4000000 in
theorem tt_fX12_isGood {N : Nat} (hN : 3000000000 ≤ N) (I0 : Nat → Int32) (L0 : Int64) (M0 : Nat → Nat → Int32) (k_I0 : KX12 I0 M0) : wq (fX12_isGood N I0 L0 M0) (fun r => (0 ≤ r.toInt ∧ r.toInt ≤ 1) ∧ True) := by
  unfold fX12_isGood
  have l_0 := il_0
  refine wq_eq (fun hc_24530 => ?_) (fun hc_24531 => ?_)
  · have l_1 := il_1
    exact wq_s ⟨(show 0 ≤ (1 : Int32).toInt ∧ (1 : Int32).toInt ≤ 1 from ⟨by omega, by omega⟩), trivial⟩
  · exact wq_s ⟨(show 0 ≤ (0 : Int32).toInt ∧ (0 : Int32).toInt ≤ 1 from ⟨by omega, by omega⟩), trivial⟩
theorem tt_good (N : Nat) (I : Nat → Int32) (L : Int64) (M : Nat → Nat → Int32) : wq (fX12_isGood N I L M) (fun r => (r.toInt = 0 ∧ (I 4).toInt ≠ 0) ∨ (r.toInt = 1 ∧ (I 4).toInt = 0)) := by
  unfold fX12_isGood
  have l_0 := il_0
  have l_1 := il_1
  refine wq_eq (fun hc => ?_) (fun hc => ?_)
  · exact wq_s (by omega)
  · exact wq_s (by omega)

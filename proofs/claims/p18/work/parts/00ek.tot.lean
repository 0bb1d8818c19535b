set_option maxHeartbeats 4000000 in
theorem tt_fX11_possible {N : Nat} (hN : 3000000000 ≤ N) (I0 : Nat → Int32) (M0 : Nat → Nat → Int32) (x1 : Int32) (x2 : Int32) (x3 : Int32) (k_I0 : KX11 I0 M0) : wq (fX11_possible N I0 M0 x1 x2 x3) (qS 1 (fun r => True)) := by
  unfold fX11_possible
  have b_25493 := i32b x1
  have b_25494 := i32b x2
  refine wq_xb (tt_fX11_numberOf hN x1 x2) (by decide) (fun r1_q25492 h_r1_q25492 => ?_)
  obtain ⟨h_r1_q25492_0, h_r1_q25492_1, -⟩ := h_r1_q25492
  have b_25495 := i32b x3
  have l_0 := il_0
  have l_1 := il_1
  refine wq_b (tt_fX11_within hN x3 (0 : Int32) (1 : Int32)) (fun r2_q25496 h_r2_q25496 => ?_)
  obtain ⟨h_r2_q25496_0, h_r2_q25496_1, -⟩ := h_r2_q25496
  refine wq_xb (tt_fX11_need hN r2_q25496) (by decide) (fun r3_q25497 h_r3_q25497 => ?_)
  obtain ⟨h_r3_q25497_0, -⟩ := h_r3_q25497
  refine wq_ok ?_
  have l_7 := il_7
  refine wq_b (tt_fX1_degreeOf hN (wb_sh I0 13) (wb_sh M0 13) r1_q25492 (7 : Int32) ⟨by omega, by omega⟩ ⟨by omega, by omega⟩ (KX11.s_X1_13_13 k_I0)) (fun r4_q25498 h_r4_q25498 => ?_)
  obtain ⟨h_r4_q25498_0, h_r4_q25498_1, -⟩ := h_r4_q25498
  have l_m1 := il_m1
  refine wq_eq (fun hc_25499 => ?_) (fun hc_25500 => ?_)
  · exact wq_s trivial
  · refine wq_eq (fun hc_25501 => ?_) (fun hc_25502 => ?_)
    · refine wq_b (tt_fX11_waysThatCanBe hN I0 M0 r1_q25492 ⟨by omega, by omega⟩ k_I0) (fun r7_q25503 h_r7_q25503 => ?_)
      obtain ⟨-⟩ := h_r7_q25503
      have b_25504 := i32b r7_q25503
      exact wq_s trivial
    · refine wq_b (tt_fX1_degreeOf hN (wb_sh I0 13) (wb_sh M0 13) r1_q25492 (0 : Int32) ⟨by omega, by omega⟩ ⟨by omega, by omega⟩ (KX11.s_X1_13_13 k_I0)) (fun r5_q25505 h_r5_q25505 => ?_)
      obtain ⟨h_r5_q25505_0, h_r5_q25505_1, -⟩ := h_r5_q25505
      refine wq_eq (fun hc_25506 => ?_) (fun hc_25507 => ?_)
      · exact wq_s trivial
      · refine wq_b (tt_fX11_climatesThatCanBe hN I0 M0 r1_q25492 ⟨by omega, by omega⟩ k_I0) (fun r6_q25508 h_r6_q25508 => ?_)
        obtain ⟨h_r6_q25508_0, -⟩ := h_r6_q25508
        exact wq_s trivial
set_option maxHeartbeats 4000000 in
theorem tt_fX11_slips {N : Nat} (hN : 3000000000 ≤ N) (I0 : Nat → Int32) (M0 : Nat → Nat → Int32) (x1 : Int32) (x2 : Int32) (k_I0 : KX11 I0 M0) : wq (fX11_slips N I0 M0 x1 x2) (qS 1 (fun r => True)) := by
  unfold fX11_slips
  have b_25611 := i32b x1
  have l_0 := il_0
  have l_29 := il_29
  refine wq_b (tt_fX11_within hN x1 (0 : Int32) (29 : Int32)) (fun r3_q25612 h_r3_q25612 => ?_)
  obtain ⟨h_r3_q25612_0, h_r3_q25612_1, -⟩ := h_r3_q25612
  refine wq_eq (fun hc_25613 => ?_) (fun hc_25614 => ?_)
  · unfold fX11_slips_J34
    unfold fX11_slips_J35
    exact wq_xb (tt_fX11_need0 N) (by decide) (fun _ h => absurd h id)
  · have b_25616 := i32b x2
    refine wq_b (tt_fX11_within hN x2 (0 : Int32) (29 : Int32)) (fun r4_q25617 h_r4_q25617 => ?_)
    obtain ⟨h_r4_q25617_0, h_r4_q25617_1, -⟩ := h_r4_q25617
    refine wq_eq (fun hc_25618 => ?_) (fun hc_25619 => ?_)
    · unfold fX11_slips_J34
      unfold fX11_slips_J35
      exact wq_xb (tt_fX11_need0 N) (by decide) (fun _ h => absurd h id)
    · have t_25621 := KX11.i42 k_I0
      refine wq_eq (fun hc_25622 => ?_) (fun hc_25623 => ?_)
      · unfold fX11_slips_J34
        unfold fX11_slips_J35
        exact wq_xb (tt_fX11_need0 N) (by decide) (fun _ h => absurd h id)
      · unfold fX11_slips_J35
        have l_1 := il_1
        refine wq_xb (tt_fX11_need hN (1 : Int32)) (by decide) (fun r1_q25625 h_r1_q25625 => ?_)
        obtain ⟨h_r1_q25625_0, -⟩ := h_r1_q25625
        refine wq_ok ?_
        refine wq_b (tt_fX10_howManySlips hN (wb_sh I0 41) (wb_sh M0 20) (wb_sh I0 10) (wb_sh M0 6) (wb_sh I0 13) (wb_sh M0 13) x1 x2 (KX11.s_X10_41_20 k_I0) (KX11.s_X1_13_13 k_I0)) (fun r2_q25626 h_r2_q25626 => ?_)
        obtain ⟨-⟩ := h_r2_q25626
        have b_25627 := i32b r2_q25626
        exact wq_s trivial
set_option maxHeartbeats 4000000 in
theorem tt_fX11_handed {N : Nat} (hN : 3000000000 ≤ N) (I0 : Nat → Int32) (M0 : Nat → Nat → Int32) (x1 : Int32) (x2 : Int32) (x3 : Int32) (k_I0 : KX11 I0 M0) : wq (fX11_handed N I0 M0 x1 x2 x3) (qS 1 (fun r => True)) := by
  unfold fX11_handed
  have b_25736 := i32b x1
  refine wq_b (tt_fX11_isBook hN x1) (fun r3_q25737 h_r3_q25737 => ?_)
  obtain ⟨h_r3_q25737_0, h_r3_q25737_1, -⟩ := h_r3_q25737
  have l_0 := il_0
  refine wq_eq (fun hc_25738 => ?_) (fun hc_25739 => ?_)
  · unfold fX11_handed_J25
    unfold fX11_handed_J26
    exact wq_xb (tt_fX11_need0 N) (by decide) (fun _ h => absurd h id)
  · have b_25741 := i32b x2
    refine wq_b (tt_fX11_isBook hN x2) (fun r4_q25742 h_r4_q25742 => ?_)
    obtain ⟨h_r4_q25742_0, h_r4_q25742_1, -⟩ := h_r4_q25742
    refine wq_eq (fun hc_25743 => ?_) (fun hc_25744 => ?_)
    · unfold fX11_handed_J25
      unfold fX11_handed_J26
      exact wq_xb (tt_fX11_need0 N) (by decide) (fun _ h => absurd h id)
    · have b_25746 := i32b x3
      refine wq_b (tt_fX11_isBook hN x3) (fun r5_q25747 h_r5_q25747 => ?_)
      obtain ⟨h_r5_q25747_0, h_r5_q25747_1, -⟩ := h_r5_q25747
      refine wq_eq (fun hc_25748 => ?_) (fun hc_25749 => ?_)
      · unfold fX11_handed_J25
        unfold fX11_handed_J26
        exact wq_xb (tt_fX11_need0 N) (by decide) (fun _ h => absurd h id)
      · unfold fX11_handed_J26
        have l_1 := il_1
        refine wq_xb (tt_fX11_need hN (1 : Int32)) (by decide) (fun r1_q25751 h_r1_q25751 => ?_)
        obtain ⟨h_r1_q25751_0, -⟩ := h_r1_q25751
        refine wq_ok ?_
        refine wq_b (tt_fX1_howManyHanded hN (wb_sh I0 13) (wb_sh M0 13) x1 x2 x3 ⟨by omega, by omega⟩ ⟨by omega, by omega⟩ ⟨by omega, by omega⟩ (KX11.s_X1_13_13 k_I0)) (fun r2_q25752 h_r2_q25752 => ?_)
        obtain ⟨-⟩ := h_r2_q25752
        have b_25753 := i32b r2_q25752
        exact wq_s trivial
set_option maxHeartbeats 4000000 in
theorem tt_fX11_leaf {N : Nat} (hN : 3000000000 ≤ N) (I0 : Nat → Int32) (M0 : Nat → Nat → Int32) (x1 : Int32) (x2 : Int32) (k_I0 : KX11 I0 M0) : wq (fX11_leaf N I0 M0 x1 x2) (qS 1 (fun r => (-1 ≤ r.1.toInt ∧ r.1.toInt ≤ 20) ∧ KX11 r.2.1 r.2.2 ∧ True)) := by
  unfold fX11_leaf
  have b_25838 := i32b x1
  refine wq_b (tt_fX11_isBook hN x1) (fun r5_q25839 h_r5_q25839 => ?_)
  obtain ⟨h_r5_q25839_0, h_r5_q25839_1, -⟩ := h_r5_q25839
  have l_0 := il_0
  refine wq_eq (fun hc_25840 => ?_) (fun hc_25841 => ?_)
  · unfold fX11_leaf_J21
    exact wq_xb (tt_fX11_need0 N) (by decide) (fun _ h => absurd h id)
  · have b_25843 := i32b x2
    have l_19 := il_19
    refine wq_b (tt_fX11_within hN x2 (0 : Int32) (19 : Int32)) (fun r6_q25844 h_r6_q25844 => ?_)
    obtain ⟨h_r6_q25844_0, h_r6_q25844_1, -⟩ := h_r6_q25844
    refine wq_eq (fun hc_25845 => ?_) (fun hc_25846 => ?_)
    · unfold fX11_leaf_J21
      exact wq_xb (tt_fX11_need0 N) (by decide) (fun _ h => absurd h id)
    · have l_1 := il_1
      refine wq_xb (tt_fX11_need hN (1 : Int32)) (by decide) (fun r7_q25848 h_r7_q25848 => ?_)
      obtain ⟨h_r7_q25848_0, -⟩ := h_r7_q25848
      refine wq_ok ?_
      refine wq_b (tt_fX6_addTo hN (wb_sh I0 43) (wb_sh M0 23) x1 x2 ⟨by omega, by omega⟩ (KX11.s_X6_43_23 k_I0)) (fun r8_q25849 h_r8_q25849 => ?_)
      obtain ⟨h_r8_q25849_0, h_r8_q25849_1, -⟩ := h_r8_q25849
      refine wq_v (fun I0_9_q25850 h_I0_9_q25850 => ?_)
      refine wq_v (fun M0_10_q25851 h_M0_10_q25851 => ?_)
      have k_M0_10_q25851 : KX11 I0_9_q25850 M0_10_q25851 := by rw [h_I0_9_q25850, h_M0_10_q25851]; exact (KX11.p_X6_43_23 k_I0 h_r8_q25849_1)
      exact wq_s ⟨(show -1 ≤ r8_q25849.1.toInt ∧ r8_q25849.1.toInt ≤ 20 from ⟨by omega, by omega⟩), k_M0_10_q25851, trivial⟩
set_option maxHeartbeats 4000000 in
theorem tt_fX11_order {N : Nat} (hN : 3000000000 ≤ N) (I0 : Nat → Int32) (M0 : Nat → Nat → Int32) (x1 : Int32) (x2 : Int32) (x3 : Int32) (k_I0 : KX11 I0 M0) : wq (fX11_order N I0 M0 x1 x2 x3) (qS 1 (fun r => KX11 r.2.1 r.2.2 ∧ True)) := by
  unfold fX11_order
  have b_26008 := i32b x1
  refine wq_b (tt_fX11_isBook hN x1) (fun r8_q26009 h_r8_q26009 => ?_)
  obtain ⟨h_r8_q26009_0, h_r8_q26009_1, -⟩ := h_r8_q26009
  have l_0 := il_0
  refine wq_eq (fun hc_26010 => ?_) (fun hc_26011 => ?_)
  · unfold fX11_order_J27
    unfold fX11_order_J28
    exact wq_xb (tt_fX11_need0 N) (by decide) (fun _ h => absurd h id)
  · have b_26013 := i32b x2
    refine wq_b (tt_fX11_isBook hN x2) (fun r9b_q26014 h_r9b_q26014 => ?_)
    obtain ⟨h_r9b_q26014_0, h_r9b_q26014_1, -⟩ := h_r9b_q26014
    refine wq_eq (fun hc_26015 => ?_) (fun hc_26016 => ?_)
    · unfold fX11_order_J27
      unfold fX11_order_J28
      exact wq_xb (tt_fX11_need0 N) (by decide) (fun _ h => absurd h id)
    · have b_26018 := i32b x3
      have l_1 := il_1
      refine wq_b (tt_fX11_within hN x3 (0 : Int32) (1 : Int32)) (fun r10_q26019 h_r10_q26019 => ?_)
      obtain ⟨h_r10_q26019_0, h_r10_q26019_1, -⟩ := h_r10_q26019
      refine wq_eq (fun hc_26020 => ?_) (fun hc_26021 => ?_)
      · unfold fX11_order_J27
        unfold fX11_order_J28
        exact wq_xb (tt_fX11_need0 N) (by decide) (fun _ h => absurd h id)
      · unfold fX11_order_J28
        refine wq_xb (tt_fX11_need hN (1 : Int32)) (by decide) (fun r1_q26023 h_r1_q26023 => ?_)
        obtain ⟨h_r1_q26023_0, -⟩ := h_r1_q26023
        refine wq_ok ?_
        refine wq_eq (fun hc_26024 => ?_) (fun hc_26025 => ?_)
        · refine wq_b (tt_fX6_howManyInOrder hN (wb_sh I0 43) (wb_sh M0 23) x1 x2 ⟨by omega, by omega⟩ ⟨by omega, by omega⟩ (KX11.s_X6_43_23 k_I0)) (fun r5_q26026 h_r5_q26026 => ?_)
          obtain ⟨h_r5_q26026_0, h_r5_q26026_1, -⟩ := h_r5_q26026
          refine wq_v (fun I0_6_q26027 h_I0_6_q26027 => ?_)
          refine wq_v (fun M0_7_q26028 h_M0_7_q26028 => ?_)
          have k_M0_7_q26028 : KX11 I0_6_q26027 M0_7_q26028 := by rw [h_I0_6_q26027, h_M0_7_q26028]; exact (KX11.p_X6_43_23 k_I0 h_r5_q26026_1)
          have b_26029 := i32b r5_q26026.1
          exact wq_s ⟨k_M0_7_q26028, trivial⟩
        · refine wq_b (tt_fX6_howManyTurned hN (wb_sh I0 43) (wb_sh M0 23) x1 x2 ⟨by omega, by omega⟩ ⟨by omega, by omega⟩ (KX11.s_X6_43_23 k_I0)) (fun r2_q26030 h_r2_q26030 => ?_)
          obtain ⟨h_r2_q26030_0, -⟩ := h_r2_q26030
          refine wq_v (fun I0_3_q26031 h_I0_3_q26031 => ?_)
          refine wq_v (fun M0_4_q26032 h_M0_4_q26032 => ?_)
          have k_M0_4_q26032 : KX11 I0_3_q26031 M0_4_q26032 := by rw [h_I0_3_q26031, h_M0_4_q26032]; exact (KX11.p_X6_43_23 k_I0 h_r2_q26030_0)
          have b_26033 := i32b r2_q26030.1
          exact wq_s ⟨k_M0_4_q26032, trivial⟩
set_option maxHeartbeats 4000000 in
theorem tt_fX11_isNumber {N : Nat} (hN : 3000000000 ≤ N) (x0 : Int32)  : wq (fX11_isNumber N x0) (fun r => (r.toInt = 0 ∨ (r.toInt = 1 ∧ 0 ≤ x0.toInt ∧ x0.toInt ≤ 119)) ∧ (0 ≤ r.toInt ∧ r.toInt ≤ 1) ∧ True) := by
  unfold fX11_isNumber
  have b_26046 := i32b x0
  have l_0 := il_0
  have l_119 := il_119
  refine wq_b (tt_fX11_within hN x0 (0 : Int32) (119 : Int32)) (fun r1_q26047 h_r1_q26047 => ?_)
  obtain ⟨h_r1_q26047_0, h_r1_q26047_1, -⟩ := h_r1_q26047
  refine wq_bz (by omega) ?_
  exact wq_s ⟨(show (r1_q26047.toInt = 0 ∨ (r1_q26047.toInt = 1 ∧ 0 ≤ x0.toInt ∧ x0.toInt ≤ 119)) from by omega), (show 0 ≤ r1_q26047.toInt ∧ r1_q26047.toInt ≤ 1 from ⟨by omega, by omega⟩), trivial⟩
set_option maxHeartbeats 4000000 in
theorem tt_fX11_same {N : Nat} (hN : 3000000000 ≤ N) (I0 : Nat → Int32) (M0 : Nat → Nat → Int32) (x1 : Int32) (x2 : Int32) (x3 : Int32) (k_I0 : KX11 I0 M0) : wq (fX11_same N I0 M0 x1 x2 x3) (qS 1 (fun r => (0 ≤ r.toInt ∧ r.toInt ≤ 1) ∧ True)) := by
  unfold fX11_same
  have b_26150 := i32b x1
  refine wq_b (tt_fX11_isNumber hN x1) (fun r3_q26151 h_r3_q26151 => ?_)
  obtain ⟨h_r3_q26151_0, h_r3_q26151_1, -⟩ := h_r3_q26151
  have l_0 := il_0
  refine wq_eq (fun hc_26152 => ?_) (fun hc_26153 => ?_)
  · unfold fX11_same_J28
    unfold fX11_same_J29
    exact wq_xb (tt_fX11_need0 N) (by decide) (fun _ h => absurd h id)
  · have b_26155 := i32b x2
    refine wq_b (tt_fX11_isNumber hN x2) (fun r4_q26156 h_r4_q26156 => ?_)
    obtain ⟨h_r4_q26156_0, h_r4_q26156_1, -⟩ := h_r4_q26156
    refine wq_eq (fun hc_26157 => ?_) (fun hc_26158 => ?_)
    · unfold fX11_same_J28
      unfold fX11_same_J29
      exact wq_xb (tt_fX11_need0 N) (by decide) (fun _ h => absurd h id)
    · have b_26160 := i32b x3
      have l_1 := il_1
      have l_7 := il_7
      refine wq_b (tt_fX11_within hN x3 (1 : Int32) (7 : Int32)) (fun r5_q26161 h_r5_q26161 => ?_)
      obtain ⟨h_r5_q26161_0, h_r5_q26161_1, -⟩ := h_r5_q26161
      refine wq_eq (fun hc_26162 => ?_) (fun hc_26163 => ?_)
      · unfold fX11_same_J28
        unfold fX11_same_J29
        exact wq_xb (tt_fX11_need0 N) (by decide) (fun _ h => absurd h id)
      · unfold fX11_same_J29
        refine wq_xb (tt_fX11_need hN (1 : Int32)) (by decide) (fun r1_q26165 h_r1_q26165 => ?_)
        obtain ⟨h_r1_q26165_0, -⟩ := h_r1_q26165
        refine wq_ok ?_
        refine wq_b (tt_fX0_areOne hN (wb_sh I0 10) (wb_sh M0 6) (wb_sh I0 13) (wb_sh M0 13) x1 x2 x3 ⟨by omega, by omega⟩ ⟨by omega, by omega⟩ (KX11.s_X1_13_13 k_I0)) (fun r2_q26166 h_r2_q26166 => ?_)
        obtain ⟨h_r2_q26166_0, -⟩ := h_r2_q26166
        refine wq_bz (by omega) ?_
        exact wq_s ⟨(show 0 ≤ r2_q26166.toInt ∧ r2_q26166.toInt ≤ 1 from ⟨by omega, by omega⟩), trivial⟩
set_option maxHeartbeats 4000000 in
theorem tt_fX11_births {N : Nat} (hN : 3000000000 ≤ N) (I0 : Nat → Int32) (M0 : Nat → Nat → Int32) (x1 : Int32) (x2 : Int32) (k_I0 : KX11 I0 M0) : wq (fX11_births N I0 M0 x1 x2) (qS 1 (fun r => KX11 r.2.1 r.2.2 ∧ True)) := by
  unfold fX11_births
  have b_26365 := i32b x1
  have l_m1 := il_m1
  refine wq_eq (fun hc_26366 => ?_) (fun hc_26367 => ?_)
  · unfold fX11_births_J12
    have b_26368 := i32b x2
    have l_1 := il_1
    have l_7 := il_7
    refine wq_b (tt_fX11_within hN x2 (1 : Int32) (7 : Int32)) (fun r7_q26369 h_r7_q26369 => ?_)
    obtain ⟨h_r7_q26369_0, h_r7_q26369_1, -⟩ := h_r7_q26369
    have l_0 := il_0
    refine wq_eq (fun hc_26370 => ?_) (fun hc_26371 => ?_)
    · unfold fX11_births_J26
      unfold fX11_births_J27
      exact wq_xb (tt_fX11_need0 N) (by decide) (fun _ h => absurd h id)
    · unfold fX11_births_J27
      refine wq_xb (tt_fX11_need hN (1 : Int32)) (by decide) (fun r1_q26373 h_r1_q26373 => ?_)
      obtain ⟨h_r1_q26373_0, -⟩ := h_r1_q26373
      refine wq_ok ?_
      refine wq_b (tt_fX0_partBy hN (wb_sh I0 43) (wb_sh M0 27) (wb_sh I0 10) (wb_sh M0 6) (wb_sh I0 13) (wb_sh M0 13) x2 (KX11.s_X1_13_13 k_I0)) (fun r2_q26374 h_r2_q26374 => ?_)
      obtain ⟨-⟩ := h_r2_q26374
      refine wq_v (fun I0_3_q26375 h_I0_3_q26375 => ?_)
      refine wq_v (fun M0_4_q26376 h_M0_4_q26376 => ?_)
      have k_M0_4_q26376 : KX11 I0_3_q26375 M0_4_q26376 := by rw [h_I0_3_q26375, h_M0_4_q26376]; exact (KX11.p_X0_43_27 k_I0)
      refine wq_eq (fun hc_26377 => ?_) (fun hc_26378 => ?_)
      · refine wq_b (tt_fX0_howManyParts hN (wb_sh I0_3_q26375 43) (wb_sh M0_4_q26376 27) (wb_sh I0_3_q26375 13) (wb_sh M0_4_q26376 13) (KX11.s_X1_13_13 k_M0_4_q26376)) (fun r6_q26379 h_r6_q26379 => ?_)
        obtain ⟨-⟩ := h_r6_q26379
        have b_26380 := i32b r6_q26379
        exact wq_s ⟨k_M0_4_q26376, trivial⟩
      · exfalso; omega
  · refine wq_b (tt_fX11_isNumber hN x1) (fun r8_q26381 h_r8_q26381 => ?_)
    obtain ⟨h_r8_q26381_0, h_r8_q26381_1, -⟩ := h_r8_q26381
    have l_0 := il_0
    refine wq_eq (fun hc_26382 => ?_) (fun hc_26383 => ?_)
    · unfold fX11_births_J26
      unfold fX11_births_J27
      exact wq_xb (tt_fX11_need0 N) (by decide) (fun _ h => absurd h id)
    · unfold fX11_births_J12
      have b_26385 := i32b x2
      have l_1 := il_1
      have l_7 := il_7
      refine wq_b (tt_fX11_within hN x2 (1 : Int32) (7 : Int32)) (fun r7_q26386 h_r7_q26386 => ?_)
      obtain ⟨h_r7_q26386_0, h_r7_q26386_1, -⟩ := h_r7_q26386
      refine wq_eq (fun hc_26387 => ?_) (fun hc_26388 => ?_)
      · unfold fX11_births_J26
        unfold fX11_births_J27
        exact wq_xb (tt_fX11_need0 N) (by decide) (fun _ h => absurd h id)
      · unfold fX11_births_J27
        refine wq_xb (tt_fX11_need hN (1 : Int32)) (by decide) (fun r1_q26390 h_r1_q26390 => ?_)
        obtain ⟨h_r1_q26390_0, -⟩ := h_r1_q26390
        refine wq_ok ?_
        refine wq_b (tt_fX0_partBy hN (wb_sh I0 43) (wb_sh M0 27) (wb_sh I0 10) (wb_sh M0 6) (wb_sh I0 13) (wb_sh M0 13) x2 (KX11.s_X1_13_13 k_I0)) (fun r2_q26391 h_r2_q26391 => ?_)
        obtain ⟨-⟩ := h_r2_q26391
        refine wq_v (fun I0_3_q26392 h_I0_3_q26392 => ?_)
        refine wq_v (fun M0_4_q26393 h_M0_4_q26393 => ?_)
        have k_M0_4_q26393 : KX11 I0_3_q26392 M0_4_q26393 := by rw [h_I0_3_q26392, h_M0_4_q26393]; exact (KX11.p_X0_43_27 k_I0)
        refine wq_eq (fun hc_26394 => ?_) (fun hc_26395 => ?_)
        · exfalso; omega
        · refine wq_b (tt_fX0_leastOf hN (wb_sh I0_3_q26392 43) (wb_sh M0_4_q26393 27) x1 ⟨by omega, by omega⟩) (fun r5_q26396 h_r5_q26396 => ?_)
          obtain ⟨-⟩ := h_r5_q26396
          have b_26397 := i32b r5_q26396
          exact wq_s ⟨k_M0_4_q26393, trivial⟩
set_option maxHeartbeats 4000000 in
theorem tt_fX11_tree {N : Nat} (hN : 3000000000 ≤ N) (I0 : Nat → Int32) (M0 : Nat → Nat → Int32) (k_I0 : KX11 I0 M0) : wq (fX11_tree N I0 M0) (fun r => KX11 r.2.1 r.2.2 ∧ True) := by
  unfold fX11_tree
  refine wq_b (tt_fX10_setBooks hN (wb_sh I0 41) (wb_sh M0 20) (wb_sh I0 13) (wb_sh M0 13) (KX11.s_X10_41_20 k_I0) (KX11.s_X1_13_13 k_I0)) (fun r1_q26470 h_r1_q26470 => ?_)
  obtain ⟨h_r1_q26470_0, h_r1_q26470_1, -⟩ := h_r1_q26470
  refine wq_v (fun I0_2_q26471 h_I0_2_q26471 => ?_)
  refine wq_v (fun M0_3_q26472 h_M0_3_q26472 => ?_)
  have k_M0_3_q26472 : KX11 I0_2_q26471 M0_3_q26472 := by rw [h_I0_2_q26471, h_M0_3_q26472]; exact (KX11.p_X10_41_20 k_I0 h_r1_q26470_1)
  have l_0 := il_0
  refine wq_eq (fun hc_26473 => ?_) (fun hc_26474 => ?_)
  · have l_m1 := il_m1
    exact wq_s ⟨k_M0_3_q26472, trivial⟩
  · refine wq_b (tt_fX10_setPrices hN (wb_sh I0_2_q26471 41) (wb_sh M0_3_q26472 20) (wb_sh I0_2_q26471 10) (wb_sh M0_3_q26472 6) (wb_sh I0_2_q26471 13) (wb_sh M0_3_q26472 13) (KX11.s_X10_41_20 k_M0_3_q26472) (KX11.s_X1_13_13 k_M0_3_q26472)) (fun r4_q26475 h_r4_q26475 => ?_)
    obtain ⟨h_r4_q26475_0, -⟩ := h_r4_q26475
    refine wq_v (fun I0_5_q26476 h_I0_5_q26476 => ?_)
    refine wq_v (fun M0_6_q26477 h_M0_6_q26477 => ?_)
    have k_M0_6_q26477 : KX11 I0_5_q26476 M0_6_q26477 := by rw [h_I0_5_q26476, h_M0_6_q26477]; exact (KX11.p_X10_41_20 k_M0_3_q26472 h_r4_q26475_0)
    refine wq_b (tt_fX10_grow hN (wb_sh I0_5_q26476 41) (wb_sh M0_6_q26477 20) (KX11.s_X10_41_20 k_M0_6_q26477)) (fun r7_q26478 h_r7_q26478 => ?_)
    obtain ⟨h_r7_q26478_0, -⟩ := h_r7_q26478
    refine wq_v (fun I0_8_q26479 h_I0_8_q26479 => ?_)
    refine wq_v (fun M0_9_q26480 h_M0_9_q26480 => ?_)
    have k_M0_9_q26480 : KX11 I0_8_q26479 M0_9_q26480 := by rw [h_I0_8_q26479, h_M0_9_q26480]; exact (KX11.p_X10_41_20 k_M0_6_q26477 h_r7_q26478_0)
    have b_26481 := i32b r7_q26478.1
    exact wq_s ⟨k_M0_9_q26480, trivial⟩
set_option maxHeartbeats 4000000 in
theorem tt_fX11_whence {N : Nat} (hN : 3000000000 ≤ N) (I0 : Nat → Int32) (M0 : Nat → Nat → Int32) (x1 : Int32) (k_I0 : KX11 I0 M0) : wq (fX11_whence N I0 M0 x1) (qS 1 (fun r => (-3 ≤ r.toInt ∧ r.toInt ≤ 5) ∧ True)) := by
  unfold fX11_whence
  have b_26572 := i32b x1
  refine wq_b (tt_fX11_isBook hN x1) (fun r1_q26573 h_r1_q26573 => ?_)
  obtain ⟨h_r1_q26573_0, h_r1_q26573_1, -⟩ := h_r1_q26573
  have l_0 := il_0
  refine wq_eq (fun hc_26574 => ?_) (fun hc_26575 => ?_)
  · exact wq_xb (tt_fX11_need0 N) (by decide) (fun _ h => absurd h id)
  · have t_26577 := KX11.i42 k_I0
    refine wq_eq (fun hc_26578 => ?_) (fun hc_26579 => ?_)
    · exact wq_xb (tt_fX11_need0 N) (by decide) (fun _ h => absurd h id)
    · refine wq_b (tt_fX10_holds hN (wb_sh I0 41) (wb_sh M0 20) x1 ⟨by omega, by omega⟩ (KX11.s_X10_41_20 k_I0)) (fun r6_q26581 h_r6_q26581 => ?_)
      obtain ⟨h_r6_q26581_0, -⟩ := h_r6_q26581
      refine wq_eq (fun hc_26582 => ?_) (fun hc_26583 => ?_)
      · exact wq_xb (tt_fX11_need0 N) (by decide) (fun _ h => absurd h id)
      · have l_1 := il_1
        refine wq_xb (tt_fX11_need hN (1 : Int32)) (by decide) (fun r9b_q26585 h_r9b_q26585 => ?_)
        obtain ⟨h_r9b_q26585_0, -⟩ := h_r9b_q26585
        refine wq_ok ?_
        refine wq_b (tt_fX10_parentOf hN (wb_sh I0 41) (wb_sh M0 20) x1 ⟨by omega, by omega⟩ (KX11.s_X10_41_20 k_I0)) (fun r10_q26586 h_r10_q26586 => ?_)
        obtain ⟨h_r10_q26586_0, -⟩ := h_r10_q26586
        exact wq_s ⟨(show -3 ≤ r10_q26586.toInt ∧ r10_q26586.toInt ≤ 5 from ⟨by omega, by omega⟩), trivial⟩
set_option maxHeartbeats 4000000 in
theorem tt_fX11_life {N : Nat} (hN : 3000000000 ≤ N) (I0 : Nat → Int32) (M0 : Nat → Nat → Int32) (x1 : Int32) (x2 : Int32) (x3 : Int32) (k_I0 : KX11 I0 M0) : wq (fX11_life N I0 M0 x1 x2 x3) (qS 1 (fun r => (0 ≤ r.1.toInt ∧ r.1.toInt ≤ 1) ∧ KX11 r.2.1 r.2.2 ∧ True)) := by
  unfold fX11_life
  have b_26671 := i32b x1
  have l_0 := il_0
  have l_19 := il_19
  refine wq_b (tt_fX11_within hN x1 (0 : Int32) (19 : Int32)) (fun r1_q26672 h_r1_q26672 => ?_)
  obtain ⟨h_r1_q26672_0, h_r1_q26672_1, -⟩ := h_r1_q26672
  refine wq_xb (tt_fX11_need hN r1_q26672) (by decide) (fun r2_q26673 h_r2_q26673 => ?_)
  obtain ⟨h_r2_q26673_0, -⟩ := h_r2_q26673
  refine wq_ok ?_
  have b_26674 := i32b x2
  have l_120 := il_120
  refine wq_b (tt_fX11_within hN x2 (0 : Int32) (120 : Int32)) (fun r3_q26675 h_r3_q26675 => ?_)
  obtain ⟨h_r3_q26675_0, h_r3_q26675_1, -⟩ := h_r3_q26675
  refine wq_eq (fun hc_26676 => ?_) (fun hc_26677 => ?_)
  · exact wq_s ⟨(show 0 ≤ (0 : Int32).toInt ∧ (0 : Int32).toInt ≤ 1 from ⟨by omega, by omega⟩), k_I0, trivial⟩
  · have b_26678 := i32b x3
    refine wq_b (tt_fX11_within hN x3 (0 : Int32) (120 : Int32)) (fun r4_q26679 h_r4_q26679 => ?_)
    obtain ⟨h_r4_q26679_0, h_r4_q26679_1, -⟩ := h_r4_q26679
    refine wq_eq (fun hc_26680 => ?_) (fun hc_26681 => ?_)
    · exact wq_s ⟨(show 0 ≤ (0 : Int32).toInt ∧ (0 : Int32).toInt ≤ 1 from ⟨by omega, by omega⟩), k_I0, trivial⟩
    · refine wq_b (tt_fX7_tellLife hN (wb_sh I0 43) (wb_sh M0 28) x1 x2 x3 ⟨by omega, by omega⟩ (KX11.s_X7_43_28 k_I0)) (fun r5_q26682 h_r5_q26682 => ?_)
      obtain ⟨h_r5_q26682_0, -⟩ := h_r5_q26682
      refine wq_v (fun I0_6_q26683 h_I0_6_q26683 => ?_)
      refine wq_v (fun M0_7_q26684 h_M0_7_q26684 => ?_)
      have k_M0_7_q26684 : KX11 I0_6_q26683 M0_7_q26684 := by rw [h_I0_6_q26683, h_M0_7_q26684]; exact (KX11.p_X7_43_28 k_I0 h_r5_q26682_0)
      have l_1 := il_1
      exact wq_s ⟨(show 0 ≤ (1 : Int32).toInt ∧ (1 : Int32).toInt ≤ 1 from ⟨by omega, by omega⟩), k_M0_7_q26684, trivial⟩
set_option maxHeartbeats 4000000 in
theorem tt_fX11_fate {N : Nat} (hN : 3000000000 ≤ N) (I0 : Nat → Int32) (M0 : Nat → Nat → Int32) (x1 : Int32) (x2 : Int32) (k_I0 : KX11 I0 M0) : wq (fX11_fate N I0 M0 x1 x2) (qS 1 (fun r => (0 ≤ r.1.toInt ∧ r.1.toInt ≤ 1) ∧ KX11 r.2.1 r.2.2 ∧ True)) := by
  unfold fX11_fate
  have b_26745 := i32b x1
  have l_0 := il_0
  have l_19 := il_19
  refine wq_b (tt_fX11_within hN x1 (0 : Int32) (19 : Int32)) (fun r1_q26746 h_r1_q26746 => ?_)
  obtain ⟨h_r1_q26746_0, h_r1_q26746_1, -⟩ := h_r1_q26746
  refine wq_xb (tt_fX11_need hN r1_q26746) (by decide) (fun r2_q26747 h_r2_q26747 => ?_)
  obtain ⟨h_r2_q26747_0, -⟩ := h_r2_q26747
  refine wq_ok ?_
  have b_26748 := i32b x2
  have l_1 := il_1
  have l_12 := il_12
  refine wq_b (tt_fX11_within hN x2 (1 : Int32) (12 : Int32)) (fun r3_q26749 h_r3_q26749 => ?_)
  obtain ⟨h_r3_q26749_0, h_r3_q26749_1, -⟩ := h_r3_q26749
  refine wq_eq (fun hc_26750 => ?_) (fun hc_26751 => ?_)
  · exact wq_s ⟨(show 0 ≤ (0 : Int32).toInt ∧ (0 : Int32).toInt ≤ 1 from ⟨by omega, by omega⟩), k_I0, trivial⟩
  · refine wq_b (tt_fX7_tellFate hN (wb_sh I0 43) (wb_sh M0 28) x1 x2 ⟨by omega, by omega⟩ (KX11.s_X7_43_28 k_I0)) (fun r4_q26752 h_r4_q26752 => ?_)
    obtain ⟨h_r4_q26752_0, -⟩ := h_r4_q26752
    refine wq_v (fun I0_5_q26753 h_I0_5_q26753 => ?_)
    refine wq_v (fun M0_6_q26754 h_M0_6_q26754 => ?_)
    have k_M0_6_q26754 : KX11 I0_5_q26753 M0_6_q26754 := by rw [h_I0_5_q26753, h_M0_6_q26754]; exact (KX11.p_X7_43_28 k_I0 h_r4_q26752_0)
    exact wq_s ⟨(show 0 ≤ (1 : Int32).toInt ∧ (1 : Int32).toInt ≤ 1 from ⟨by omega, by omega⟩), k_M0_6_q26754, trivial⟩
set_option maxHeartbeats 4000000 in
theorem tt_fX11_fates {N : Nat} (hN : 3000000000 ≤ N) (I0 : Nat → Int32) (M0 : Nat → Nat → Int32) (x1 : Int32) (k_I0 : KX11 I0 M0) : wq (fX11_fates N I0 M0 x1) (qS 1 (fun r => KX11 r.2.1 r.2.2 ∧ True)) := by
  unfold fX11_fates
  have b_26827 := i32b x1
  have l_0 := il_0
  have l_1 := il_1
  refine wq_b (tt_fX11_within hN x1 (0 : Int32) (1 : Int32)) (fun r1_q26828 h_r1_q26828 => ?_)
  obtain ⟨h_r1_q26828_0, h_r1_q26828_1, -⟩ := h_r1_q26828
  refine wq_xb (tt_fX11_need hN r1_q26828) (by decide) (fun r2_q26829 h_r2_q26829 => ?_)
  obtain ⟨h_r2_q26829_0, -⟩ := h_r2_q26829
  refine wq_ok ?_
  refine wq_eq (fun hc_26830 => ?_) (fun hc_26831 => ?_)
  · refine wq_b (tt_fX7_howManyToldByLot hN (wb_sh I0 43) (wb_sh M0 28) (wb_sh I0 13) (wb_sh M0 13) (KX11.s_X7_43_28 k_I0) (KX11.s_X1_13_13 k_I0)) (fun r6_q26832 h_r6_q26832 => ?_)
    obtain ⟨h_r6_q26832_0, h_r6_q26832_1, -⟩ := h_r6_q26832
    refine wq_v (fun I0_7_q26833 h_I0_7_q26833 => ?_)
    refine wq_v (fun M0_8_q26834 h_M0_8_q26834 => ?_)
    have k_M0_8_q26834 : KX11 I0_7_q26833 M0_8_q26834 := by rw [h_I0_7_q26833, h_M0_8_q26834]; exact (KX11.p_X7_43_28 k_I0 h_r6_q26832_1)
    exact wq_s ⟨k_M0_8_q26834, trivial⟩
  · refine wq_b (tt_fX7_chanceOfFates hN (wb_sh I0 43) (wb_sh M0 28) (wb_sh I0 13) (wb_sh M0 13) (KX11.s_X7_43_28 k_I0) (KX11.s_X1_13_13 k_I0)) (fun r3_q26835 h_r3_q26835 => ?_)
    obtain ⟨h_r3_q26835_0, -⟩ := h_r3_q26835
    refine wq_v (fun I0_4_q26836 h_I0_4_q26836 => ?_)
    refine wq_v (fun M0_5_q26837 h_M0_5_q26837 => ?_)
    have k_M0_5_q26837 : KX11 I0_4_q26836 M0_5_q26837 := by rw [h_I0_4_q26836, h_M0_5_q26837]; exact (KX11.p_X7_43_28 k_I0 h_r3_q26835_0)
    have b_26838 := i32b r3_q26835.1
    exact wq_s ⟨k_M0_5_q26837, trivial⟩
set_option maxHeartbeats 4000000 in
theorem tt_fX11_hits {N : Nat} (hN : 3000000000 ≤ N) (I0 : Nat → Int32) (M0 : Nat → Nat → Int32) (x1 : Int32) (x2 : Int32) (k_I0 : KX11 I0 M0) : wq (fX11_hits N I0 M0 x1 x2) (qS 1 (fun r => KX11 r.2.1 r.2.2 ∧ True)) := by
  unfold fX11_hits
  have b_26959 := i32b x1
  have l_0 := il_0
  have l_1 := il_1
  refine wq_b (tt_fX11_within hN x1 (0 : Int32) (1 : Int32)) (fun r8_q26960 h_r8_q26960 => ?_)
  obtain ⟨h_r8_q26960_0, h_r8_q26960_1, -⟩ := h_r8_q26960
  refine wq_eq (fun hc_26961 => ?_) (fun hc_26962 => ?_)
  · unfold fX11_hits_J23
    unfold fX11_hits_J24
    exact wq_xb (tt_fX11_need0 N) (by decide) (fun _ h => absurd h id)
  · have b_26964 := i32b x2
    have l_120 := il_120
    refine wq_b (tt_fX11_within hN x2 (0 : Int32) (120 : Int32)) (fun r9b_q26965 h_r9b_q26965 => ?_)
    obtain ⟨h_r9b_q26965_0, h_r9b_q26965_1, -⟩ := h_r9b_q26965
    refine wq_eq (fun hc_26966 => ?_) (fun hc_26967 => ?_)
    · unfold fX11_hits_J23
      unfold fX11_hits_J24
      exact wq_xb (tt_fX11_need0 N) (by decide) (fun _ h => absurd h id)
    · unfold fX11_hits_J24
      refine wq_xb (tt_fX11_need hN (1 : Int32)) (by decide) (fun r1_q26969 h_r1_q26969 => ?_)
      obtain ⟨h_r1_q26969_0, -⟩ := h_r1_q26969
      refine wq_ok ?_
      refine wq_eq (fun hc_26970 => ?_) (fun hc_26971 => ?_)
      · refine wq_b (tt_fX7_howManyHits hN (wb_sh I0 43) (wb_sh M0 28) x2 (KX11.s_X7_43_28 k_I0)) (fun r5_q26972 h_r5_q26972 => ?_)
        obtain ⟨h_r5_q26972_0, h_r5_q26972_1, -⟩ := h_r5_q26972
        refine wq_v (fun I0_6_q26973 h_I0_6_q26973 => ?_)
        refine wq_v (fun M0_7_q26974 h_M0_7_q26974 => ?_)
        have k_M0_7_q26974 : KX11 I0_6_q26973 M0_7_q26974 := by rw [h_I0_6_q26973, h_M0_7_q26974]; exact (KX11.p_X7_43_28 k_I0 h_r5_q26972_1)
        exact wq_s ⟨k_M0_7_q26974, trivial⟩
      · refine wq_b (tt_fX7_chanceOfLives hN (wb_sh I0 43) (wb_sh M0 28) x2 (KX11.s_X7_43_28 k_I0)) (fun r2_q26975 h_r2_q26975 => ?_)
        obtain ⟨h_r2_q26975_0, -⟩ := h_r2_q26975
        refine wq_v (fun I0_3_q26976 h_I0_3_q26976 => ?_)
        refine wq_v (fun M0_4_q26977 h_M0_4_q26977 => ?_)
        have k_M0_4_q26977 : KX11 I0_3_q26976 M0_4_q26977 := by rw [h_I0_3_q26976, h_M0_4_q26977]; exact (KX11.p_X7_43_28 k_I0 h_r2_q26975_0)
        have b_26978 := i32b r2_q26975.1
        exact wq_s ⟨k_M0_4_q26977, trivial⟩
set_option maxHeartbeats 4000000 in
theorem tt_fX12_right {N : Nat} (hN : 3000000000 ≤ N) (I0 : Nat → Int32) (L0 : Int64) (M0 : Nat → Nat → Int32) (x1 : Int32) (x2 : Int32) (h_x2 : 1 ≤ x2.toInt ∧ x2.toInt ≤ 2) (k_I0 : KX12 I0 M0) : wq (fX12_right N I0 L0 M0 x1 x2) (fun r => (r.1.toInt = 0 ∨ (r.1.toInt = 1 ∧ x1.toInt ≠ 0)) ∧ (r.2.1 1).toInt = (I0 1).toInt ∧ (0 ≤ r.1.toInt ∧ r.1.toInt ≤ 1) ∧ KX12 r.2.1 r.2.2.2 ∧ True) := by
  unfold fX12_right
  have l_0 := il_0
  refine wq_eq (fun hc_27099 => ?_) (fun hc_27100 => ?_)
  · have b_27101 := i32b x1
    refine wq_eq (fun hc_27102 => ?_) (fun hc_27103 => ?_)
    · refine wq_v (fun I0_1_q27104 h_I0_1_q27104 => ?_)
      have k_I0_1_q27104 : KX12 I0_1_q27104 M0 := by rw [h_I0_1_q27104]; exact KX12.si0 k_I0
      have tr_27105 : (I0_1_q27104 0).toInt = x2.toInt := by rw [h_I0_1_q27104]; rfl
      have tr_27106 : (I0_1_q27104 1).toInt = (I0 1).toInt := by rw [h_I0_1_q27104]; rfl
      have t_27107 : (I0_1_q27104 0).toInt = x2.toInt := by rw [h_I0_1_q27104]; rfl
      refine wq_eq (fun hc_27108 => ?_) (fun hc_27109 => ?_)
      · exfalso; omega
      · have t_27110 := KX12.i1 k_I0
        have t_27111 : (I0_1_q27104 1).toInt = (I0 1).toInt := by rw [h_I0_1_q27104]; rfl
        exact wq_s ⟨(show ((0 : Int32).toInt = 0 ∨ ((0 : Int32).toInt = 1 ∧ x1.toInt ≠ 0)) from by omega), (show (I0_1_q27104 1).toInt = (I0 1).toInt from by omega), (show 0 ≤ (0 : Int32).toInt ∧ (0 : Int32).toInt ≤ 1 from ⟨by omega, by omega⟩), k_I0_1_q27104, trivial⟩
    · refine wq_eq (fun hc_27112 => ?_) (fun hc_27113 => ?_)
      · have t_27114 := KX12.i1 k_I0
        have l_1 := il_1
        exact wq_s ⟨(show ((1 : Int32).toInt = 0 ∨ ((1 : Int32).toInt = 1 ∧ x1.toInt ≠ 0)) from by omega), (show (I0 1).toInt = (I0 1).toInt from by omega), (show 0 ≤ (1 : Int32).toInt ∧ (1 : Int32).toInt ≤ 1 from ⟨by omega, by omega⟩), k_I0, trivial⟩
      · exfalso; omega
  · refine wq_eq (fun hc_27115 => ?_) (fun hc_27116 => ?_)
    · have t_27117 := KX12.i1 k_I0
      have b_27118 := i32b x1
      have l_1 := il_1
      exact wq_s ⟨(show ((1 : Int32).toInt = 0 ∨ ((1 : Int32).toInt = 1 ∧ x1.toInt ≠ 0)) from by omega), (show (I0 1).toInt = (I0 1).toInt from by omega), (show 0 ≤ (1 : Int32).toInt ∧ (1 : Int32).toInt ≤ 1 from ⟨by omega, by omega⟩), k_I0, trivial⟩
    · have t_27119 := KX12.i1 k_I0
      have b_27120 := i32b x1
      exact wq_s ⟨(show ((0 : Int32).toInt = 0 ∨ ((0 : Int32).toInt = 1 ∧ x1.toInt ≠ 0)) from by omega), (show (I0 1).toInt = (I0 1).toInt from by omega), (show 0 ≤ (0 : Int32).toInt ∧ (0 : Int32).toInt ≤ 1 from ⟨by omega, by omega⟩), k_I0, trivial⟩
set_option maxHeartbeats 4000000 in
theorem tt_fX12_within {N : Nat} (hN : 3000000000 ≤ N) (x0 : Int32) (x1 : Int32) (x2 : Int32)  : wq (fX12_within N x0 x1 x2) (fun r => (r.toInt = 0 ∨ (r.toInt = 1 ∧ x1.toInt ≤ x0.toInt ∧ x0.toInt ≤ x2.toInt)) ∧ (0 ≤ r.toInt ∧ r.toInt ≤ 1) ∧ True) := by
  unfold fX12_within
  have b_27163 := i32b x0
  have b_27164 := i32b x1
  refine wq_lt (fun hc_27165 => ?_) (fun hc_27166 => ?_)
  · have b_27167 := i32b x2
    have l_0 := il_0
    exact wq_s ⟨(show ((0 : Int32).toInt = 0 ∨ ((0 : Int32).toInt = 1 ∧ x1.toInt ≤ x0.toInt ∧ x0.toInt ≤ x2.toInt)) from by omega), (show 0 ≤ (0 : Int32).toInt ∧ (0 : Int32).toInt ≤ 1 from ⟨by omega, by omega⟩), trivial⟩
  · have b_27168 := i32b x2
    refine wq_lt (fun hc_27169 => ?_) (fun hc_27170 => ?_)
    · have l_0 := il_0
      exact wq_s ⟨(show ((0 : Int32).toInt = 0 ∨ ((0 : Int32).toInt = 1 ∧ x1.toInt ≤ x0.toInt ∧ x0.toInt ≤ x2.toInt)) from by omega), (show 0 ≤ (0 : Int32).toInt ∧ (0 : Int32).toInt ≤ 1 from ⟨by omega, by omega⟩), trivial⟩
    · have l_1 := il_1
      exact wq_s ⟨(show ((1 : Int32).toInt = 0 ∨ ((1 : Int32).toInt = 1 ∧ x1.toInt ≤ x0.toInt ∧ x0.toInt ≤ x2.toInt)) from by omega), (show 0 ≤ (1 : Int32).toInt ∧ (1 : Int32).toInt ≤ 1 from ⟨by omega, by omega⟩), trivial⟩
theorem tt_lay1 (N fu : Nat) (x y : Int32) (I : Nat → Int32) (L : Int64) (M : Nat → Nat → Int32) (k : KX12 I M) (h : (I 3).toInt ≤ 599) (hy : ¬ y < 0) : ∃ (J : Nat → Int32) (M2 : Nat → Nat → Int32), fX12_lays_L3 N x (fu + 1) I L M y = fX12_lays_L3 N x fu J L M2 (y + (-8)) ∧ KX12 J M2 ∧ (J 3).toInt = (I 3).toInt + 1 := by
  have k3 := k.i3
  have l_1 := il_1
  have ta := ia_add (I 3) (1 : Int32) (by omega) (by omega)
  have hin : ¬ (I 3 < 0 ∨ 600 ≤ (I 3).toNatClampNeg) := by
    rw [nI_back (I 3) k3.1]
    exact wp_in (by omega) (by decide)
  refine ⟨upd I 3 (I 3 + 1), wb_um M 8 (I 3).toNatClampNeg ((x >>> (y &&& 31)) &&& (255 : Int32)), ?_, KX12.si3 (KX12.sm8 k) ⟨by omega, by omega⟩, ?_⟩
  · rw [fX12_lays_L3.eq_2, if_neg hy, if_neg hin, Option.bind_some, Option.bind_some, Option.bind_some]
  · show (I 3 + 1).toInt = _
    omega
theorem tt_fX12_lays {N : Nat} (hN : 3000000000 ≤ N) (I0 : Nat → Int32) (L0 : Int64) (M0 : Nat → Nat → Int32) (x1 : Int32) (k_I0 : KX12 I0 M0) (hr_1 : (I0 3).toInt ≤ 596) : wq (fX12_lays N I0 L0 M0 x1) (fun r => (r.1 3).toInt = (I0 3).toInt + 4 ∧ KX12 r.1 r.2.2 ∧ True) := by
  obtain ⟨n, rfl⟩ : ∃ n, N = n + 5 := ⟨N - 5, by omega⟩
  unfold fX12_lays
  obtain ⟨J1, M1, h1, k1, e1⟩ := tt_lay1 (n + 5) (n + 4) x1 24 I0 L0 M0 k_I0 (by omega) (by decide)
  obtain ⟨J2, M2, h2, k2, e2⟩ := tt_lay1 (n + 5) (n + 3) x1 (24 + -8) J1 L0 M1 k1 (by omega) (by decide)
  obtain ⟨J3, M3, h3, k3, e3⟩ := tt_lay1 (n + 5) (n + 2) x1 (24 + -8 + -8) J2 L0 M2 k2 (by omega) (by decide)
  obtain ⟨J4, M4, h4, k4, e4⟩ := tt_lay1 (n + 5) (n + 1) x1 (24 + -8 + -8 + -8) J3 L0 M3 k3 (by omega) (by decide)
  refine ⟨(J4, L0, M4), h1.trans (h2.trans (h3.trans (h4.trans ?_))), ?_, k4, trivial⟩
  · rw [fX12_lays_L3.eq_2, if_pos (by decide)]
  · show (J4 3).toInt = (I0 3).toInt + 4
    omega
set_option maxHeartbeats 4000000 in
theorem tt_fX12_feed {N : Nat} (hN : 3000000000 ≤ N) (I0 : Nat → Int32) (L0 : Int64) (M0 : Nat → Nat → Int32) (x1 : Int32) (x2 : Int32) (x3 : Int32) (x4 : Int32) (x5 : Int32) (k_I0 : KX12 I0 M0) : wq (fX12_feed N I0 L0 M0 x1 x2 x3 x4 x5) (fun r => (-1 ≤ r.1.toInt ∧ r.1.toInt ≤ 600) ∧ KX12 r.2.1 r.2.2.2 ∧ True) := by
  unfold fX12_feed
  refine wq_v (fun I0_1_q27297 h_I0_1_q27297 => ?_)
  have k_I0_1_q27297 : KX12 I0_1_q27297 M0 := by rw [h_I0_1_q27297]; exact KX12.si0 k_I0
  have t_27298 := KX12.i3 k_I0
  have t_27299 : (I0_1_q27297 3).toInt = (I0 3).toInt := by rw [h_I0_1_q27297]; rfl
  have l_20 := il_20
  have t_27300 := ia_add (I0_1_q27297 3) (20 : Int32) (by omega) (by omega)
  have l_600 := il_600
  refine wq_le (fun hc_27301 => ?_) (fun hc_27302 => ?_)
  · have b_27303 := i32b x1
    refine wq_b (tt_fX12_lays hN I0_1_q27297 L0 M0 x1 k_I0_1_q27297 (by omega)) (fun r2_q27304 h_r2_q27304 => ?_)
    obtain ⟨h_r2_q27304_0, h_r2_q27304_1, -⟩ := h_r2_q27304
    have t_27305 := KX12.i3 h_r2_q27304_1
    have b_27306 := i32b x2
    refine wq_b (tt_fX12_lays hN r2_q27304.1 r2_q27304.2.1 r2_q27304.2.2 x2 h_r2_q27304_1 (by omega)) (fun r3_q27307 h_r3_q27307 => ?_)
    obtain ⟨h_r3_q27307_0, h_r3_q27307_1, -⟩ := h_r3_q27307
    have t_27308 := KX12.i3 h_r3_q27307_1
    have b_27309 := i32b x3
    refine wq_b (tt_fX12_lays hN r3_q27307.1 r3_q27307.2.1 r3_q27307.2.2 x3 h_r3_q27307_1 (by omega)) (fun r4_q27310 h_r4_q27310 => ?_)
    obtain ⟨h_r4_q27310_0, h_r4_q27310_1, -⟩ := h_r4_q27310
    have t_27311 := KX12.i3 h_r4_q27310_1
    have b_27312 := i32b x4
    refine wq_b (tt_fX12_lays hN r4_q27310.1 r4_q27310.2.1 r4_q27310.2.2 x4 h_r4_q27310_1 (by omega)) (fun r5_q27313 h_r5_q27313 => ?_)
    obtain ⟨h_r5_q27313_0, h_r5_q27313_1, -⟩ := h_r5_q27313
    have t_27314 := KX12.i3 h_r5_q27313_1
    have b_27315 := i32b x5
    refine wq_b (tt_fX12_lays hN r5_q27313.1 r5_q27313.2.1 r5_q27313.2.2 x5 h_r5_q27313_1 (by omega)) (fun r6_q27316 h_r6_q27316 => ?_)
    obtain ⟨h_r6_q27316_0, h_r6_q27316_1, -⟩ := h_r6_q27316
    have t_27317 := KX12.i3 h_r6_q27316_1
    exact wq_s ⟨(show -1 ≤ (r6_q27316.1 3).toInt ∧ (r6_q27316.1 3).toInt ≤ 600 from ⟨by omega, by omega⟩), h_r6_q27316_1, trivial⟩
  · have l_m1 := il_m1
    exact wq_s ⟨(show -1 ≤ (-1 : Int32).toInt ∧ (-1 : Int32).toInt ≤ 600 from ⟨by omega, by omega⟩), k_I0_1_q27297, trivial⟩
set_option maxHeartbeats 4000000 in
theorem tt_fX12_byteAt {N : Nat} (hN : 3000000000 ≤ N) (I0 : Nat → Int32) (L0 : Int64) (M0 : Nat → Nat → Int32) (x1 : Int32) (h_x1 : 0 ≤ x1.toInt ∧ x1.toInt ≤ 600) (k_I0 : KX12 I0 M0) : wq (fX12_byteAt N I0 L0 M0 x1) (fun r => (r.toInt = 0 ∨ x1.toInt < (I0 6).toInt) ∧ True) := by
  unfold fX12_byteAt
  have t_27336 := KX12.i6 k_I0
  refine wq_le (fun hc_27337 => ?_) (fun hc_27338 => ?_)
  · have l_0 := il_0
    exact wq_s ⟨(show ((0 : Int32).toInt = 0 ∨ x1.toInt < (I0 6).toInt) from by omega), trivial⟩
  · refine wq_in (n := 600) ⟨by omega, by omega⟩ ?_
    exact wq_s ⟨(show ((M0 8 x1.toNatClampNeg).toInt = 0 ∨ x1.toInt < (I0 6).toInt) from by omega), trivial⟩
set_option maxHeartbeats 4000000 in
theorem tt_fX12_isLetter {N : Nat} (hN : 3000000000 ≤ N) (x0 : Int32)  : wq (fX12_isLetter N x0) (fun r => (r.toInt = 0 ∨ (r.toInt = 1 ∧ 97 ≤ x0.toInt)) ∧ (0 ≤ r.toInt ∧ r.toInt ≤ 1) ∧ True) := by
  unfold fX12_isLetter
  have b_27369 := i32b x0
  have l_97 := il_97
  refine wq_lt (fun hc_27370 => ?_) (fun hc_27371 => ?_)
  · have l_0 := il_0
    exact wq_s ⟨(show ((0 : Int32).toInt = 0 ∨ ((0 : Int32).toInt = 1 ∧ 97 ≤ x0.toInt)) from by omega), (show 0 ≤ (0 : Int32).toInt ∧ (0 : Int32).toInt ≤ 1 from ⟨by omega, by omega⟩), trivial⟩
  · have l_122 := il_122
    refine wq_lt (fun hc_27372 => ?_) (fun hc_27373 => ?_)
    · have l_0 := il_0
      exact wq_s ⟨(show ((0 : Int32).toInt = 0 ∨ ((0 : Int32).toInt = 1 ∧ 97 ≤ x0.toInt)) from by omega), (show 0 ≤ (0 : Int32).toInt ∧ (0 : Int32).toInt ≤ 1 from ⟨by omega, by omega⟩), trivial⟩
    · have l_1 := il_1
      exact wq_s ⟨(show ((1 : Int32).toInt = 0 ∨ ((1 : Int32).toInt = 1 ∧ 97 ≤ x0.toInt)) from by omega), (show 0 ≤ (1 : Int32).toInt ∧ (1 : Int32).toInt ≤ 1 from ⟨by omega, by omega⟩), trivial⟩
set_option maxHeartbeats 4000000 in
theorem tt_fX12_isDigit {N : Nat} (hN : 3000000000 ≤ N) (x0 : Int32)  : wq (fX12_isDigit N x0) (fun r => (r.toInt = 0 ∨ (r.toInt = 1 ∧ 48 ≤ x0.toInt)) ∧ (0 ≤ r.toInt ∧ r.toInt ≤ 1) ∧ True) := by
  unfold fX12_isDigit
  have b_27404 := i32b x0
  have l_48 := il_48
  refine wq_lt (fun hc_27405 => ?_) (fun hc_27406 => ?_)
  · have l_0 := il_0
    exact wq_s ⟨(show ((0 : Int32).toInt = 0 ∨ ((0 : Int32).toInt = 1 ∧ 48 ≤ x0.toInt)) from by omega), (show 0 ≤ (0 : Int32).toInt ∧ (0 : Int32).toInt ≤ 1 from ⟨by omega, by omega⟩), trivial⟩
  · have l_57 := il_57
    refine wq_lt (fun hc_27407 => ?_) (fun hc_27408 => ?_)
    · have l_0 := il_0
      exact wq_s ⟨(show ((0 : Int32).toInt = 0 ∨ ((0 : Int32).toInt = 1 ∧ 48 ≤ x0.toInt)) from by omega), (show 0 ≤ (0 : Int32).toInt ∧ (0 : Int32).toInt ≤ 1 from ⟨by omega, by omega⟩), trivial⟩
    · have l_1 := il_1
      exact wq_s ⟨(show ((1 : Int32).toInt = 0 ∨ ((1 : Int32).toInt = 1 ∧ 48 ≤ x0.toInt)) from by omega), (show 0 ≤ (1 : Int32).toInt ∧ (1 : Int32).toInt ≤ 1 from ⟨by omega, by omega⟩), trivial⟩
theorem FR.rf (I : Nat → Int32) : FR I I := fun _ _ _ _ _ _ _ _ => rfl
theorem FR.tr {I J K : Nat → Int32} (h : FR I J) (g : FR J K) : FR I K := fun k a b c d e f m => (g k a b c d e f m).trans (h k a b c d e f m)
theorem FR.up {I J : Nat → Int32} (h : FR I J) {j : Nat} {v : Int32} (hj : j = 4 ∨ j = 5 ∨ j = 7 ∨ j = 8 ∨ j = 9 ∨ j = 10 ∨ j = 11) : FR I (upd J j v) := by
  intro k a b c d e f m
  unfold upd
  rw [if_neg (by omega)]
  exact h k a b c d e f m
/-- what a step does: rows stay, of the ints only those of the text move, no fault; the end, or a byte on -/
def SP (I : Nat → Int32) (M : Nat → Nat → Int32) (r : (Nat → Int32) × Int64 × (Nat → Nat → Int32)) : Prop := r.2.2 = M ∧ FR I r.1 ∧ r.1 4 = I 4 ∧ r.1 5 = I 5 ∧ KX12 r.1 M ∧ (I 7).toInt ≤ (r.1 7).toInt ∧ ((r.1 8).toInt = 0 ∨ (I 7).toInt < (r.1 7).toInt)
theorem tt_st279 (N : Nat) (I0 I : Nat → Int32) (L : Int64) (M : Nat → Nat → Int32) (k : KX12 I M) (hf : FR I0 I) (h4 : I 4 = I0 4) (h5 : I 5 = I0 5) (hp : (I0 7).toInt ≤ (I 7).toInt ∧ ((I 8).toInt = 0 ∨ (I0 7).toInt < (I 7).toInt)) : wq (fX12_steps_J279 N I L M) (SP I0 M) := by
  unfold fX12_steps_J279
  refine wq_v (fun J e => ?_)
  rw [e]
  exact wq_s ⟨rfl, hf.up (by omega), h4, h5, KX12.si10 k, hp.1, hp.2⟩

set_option maxHeartbeats 4000000 in
theorem tt_fX11_order {N : Nat} (hN : 3000000000 ≤ N) (I0 : Nat → Int32) (M0 : Nat → Nat → Int32) (x1 : Int32) (x2 : Int32) (x3 : Int32) (k_I0 : KX11 I0 M0) : wq (fX11_order N I0 M0 x1 x2 x3) (qS 1 (fun r => KX11 r.2.1 r.2.2 ∧ True)) := by
  unfold fX11_order
  have b_21166 := i32b x1
  refine wq_b (tt_fX11_isBook hN x1) (fun r8_q21167 h_r8_q21167 => ?_)
  obtain ⟨h_r8_q21167_0, h_r8_q21167_1, -⟩ := h_r8_q21167
  have l_0 := il_0
  refine wq_eq (fun hc_21168 => ?_) (fun hc_21169 => ?_)
  · unfold fX11_order_J27
    unfold fX11_order_J28
    exact wq_xb (tt_fX11_need0 N) (by decide) (fun _ h => absurd h id)
  · have b_21171 := i32b x2
    refine wq_b (tt_fX11_isBook hN x2) (fun r9b_q21172 h_r9b_q21172 => ?_)
    obtain ⟨h_r9b_q21172_0, h_r9b_q21172_1, -⟩ := h_r9b_q21172
    refine wq_eq (fun hc_21173 => ?_) (fun hc_21174 => ?_)
    · unfold fX11_order_J27
      unfold fX11_order_J28
      exact wq_xb (tt_fX11_need0 N) (by decide) (fun _ h => absurd h id)
    · have b_21176 := i32b x3
      have l_1 := il_1
      refine wq_b (tt_fX11_within hN x3 (0 : Int32) (1 : Int32)) (fun r10_q21177 h_r10_q21177 => ?_)
      obtain ⟨h_r10_q21177_0, h_r10_q21177_1, -⟩ := h_r10_q21177
      refine wq_eq (fun hc_21178 => ?_) (fun hc_21179 => ?_)
      · unfold fX11_order_J27
        unfold fX11_order_J28
        exact wq_xb (tt_fX11_need0 N) (by decide) (fun _ h => absurd h id)
      · unfold fX11_order_J28
        refine wq_xb (tt_fX11_need hN (1 : Int32)) (by decide) (fun r1_q21181 h_r1_q21181 => ?_)
        obtain ⟨h_r1_q21181_0, -⟩ := h_r1_q21181
        refine wq_ok ?_
        refine wq_eq (fun hc_21182 => ?_) (fun hc_21183 => ?_)
        · refine wq_b (tt_fX6_howManyInOrder hN (wb_sh I0 43) (wb_sh M0 23) x1 x2 ⟨by omega, by omega⟩ ⟨by omega, by omega⟩ (KX11.s_X6_43_23 k_I0)) (fun r5_q21184 h_r5_q21184 => ?_)
          obtain ⟨h_r5_q21184_0, h_r5_q21184_1, -⟩ := h_r5_q21184
          refine wq_v (fun I0_6_q21185 h_I0_6_q21185 => ?_)
          refine wq_v (fun M0_7_q21186 h_M0_7_q21186 => ?_)
          have k_M0_7_q21186 : KX11 I0_6_q21185 M0_7_q21186 := by rw [h_I0_6_q21185, h_M0_7_q21186]; exact KX11.p_X6_43_23 k_I0 h_r5_q21184_1
          have b_21187 := i32b r5_q21184.1
          exact wq_s ⟨k_M0_7_q21186, trivial⟩
        · refine wq_b (tt_fX6_howManyTurned hN (wb_sh I0 43) (wb_sh M0 23) x1 x2 ⟨by omega, by omega⟩ ⟨by omega, by omega⟩ (KX11.s_X6_43_23 k_I0)) (fun r2_q21188 h_r2_q21188 => ?_)
          obtain ⟨h_r2_q21188_0, -⟩ := h_r2_q21188
          refine wq_v (fun I0_3_q21189 h_I0_3_q21189 => ?_)
          refine wq_v (fun M0_4_q21190 h_M0_4_q21190 => ?_)
          have k_M0_4_q21190 : KX11 I0_3_q21189 M0_4_q21190 := by rw [h_I0_3_q21189, h_M0_4_q21190]; exact KX11.p_X6_43_23 k_I0 h_r2_q21188_0
          have b_21191 := i32b r2_q21188.1
          exact wq_s ⟨k_M0_4_q21190, trivial⟩
set_option maxHeartbeats 4000000 in
theorem tt_fX11_isNumber {N : Nat} (hN : 3000000000 ≤ N) (x0 : Int32)  : wq (fX11_isNumber N x0) (fun r => (r.toInt = 0 ∨ (r.toInt = 1 ∧ 0 ≤ x0.toInt ∧ x0.toInt ≤ 119)) ∧ (0 ≤ r.toInt ∧ r.toInt ≤ 1) ∧ True) := by
  unfold fX11_isNumber
  have b_21204 := i32b x0
  have l_0 := il_0
  have l_119 := il_119
  refine wq_b (tt_fX11_within hN x0 (0 : Int32) (119 : Int32)) (fun r1_q21205 h_r1_q21205 => ?_)
  obtain ⟨h_r1_q21205_0, h_r1_q21205_1, -⟩ := h_r1_q21205
  refine wq_bz (by omega) ?_
  exact wq_s ⟨(show (r1_q21205.toInt = 0 ∨ (r1_q21205.toInt = 1 ∧ 0 ≤ x0.toInt ∧ x0.toInt ≤ 119)) from by omega), (show 0 ≤ r1_q21205.toInt ∧ r1_q21205.toInt ≤ 1 from ⟨by omega, by omega⟩), trivial⟩
set_option maxHeartbeats 4000000 in
theorem tt_fX11_same {N : Nat} (hN : 3000000000 ≤ N) (I0 : Nat → Int32) (M0 : Nat → Nat → Int32) (x1 : Int32) (x2 : Int32) (x3 : Int32) (k_I0 : KX11 I0 M0) : wq (fX11_same N I0 M0 x1 x2 x3) (qS 1 (fun r => (0 ≤ r.toInt ∧ r.toInt ≤ 1) ∧ True)) := by
  unfold fX11_same
  have b_21308 := i32b x1
  refine wq_b (tt_fX11_isNumber hN x1) (fun r3_q21309 h_r3_q21309 => ?_)
  obtain ⟨h_r3_q21309_0, h_r3_q21309_1, -⟩ := h_r3_q21309
  have l_0 := il_0
  refine wq_eq (fun hc_21310 => ?_) (fun hc_21311 => ?_)
  · unfold fX11_same_J28
    unfold fX11_same_J29
    exact wq_xb (tt_fX11_need0 N) (by decide) (fun _ h => absurd h id)
  · have b_21313 := i32b x2
    refine wq_b (tt_fX11_isNumber hN x2) (fun r4_q21314 h_r4_q21314 => ?_)
    obtain ⟨h_r4_q21314_0, h_r4_q21314_1, -⟩ := h_r4_q21314
    refine wq_eq (fun hc_21315 => ?_) (fun hc_21316 => ?_)
    · unfold fX11_same_J28
      unfold fX11_same_J29
      exact wq_xb (tt_fX11_need0 N) (by decide) (fun _ h => absurd h id)
    · have b_21318 := i32b x3
      have l_1 := il_1
      have l_7 := il_7
      refine wq_b (tt_fX11_within hN x3 (1 : Int32) (7 : Int32)) (fun r5_q21319 h_r5_q21319 => ?_)
      obtain ⟨h_r5_q21319_0, h_r5_q21319_1, -⟩ := h_r5_q21319
      refine wq_eq (fun hc_21320 => ?_) (fun hc_21321 => ?_)
      · unfold fX11_same_J28
        unfold fX11_same_J29
        exact wq_xb (tt_fX11_need0 N) (by decide) (fun _ h => absurd h id)
      · unfold fX11_same_J29
        refine wq_xb (tt_fX11_need hN (1 : Int32)) (by decide) (fun r1_q21323 h_r1_q21323 => ?_)
        obtain ⟨h_r1_q21323_0, -⟩ := h_r1_q21323
        refine wq_ok ?_
        refine wq_b (tt_fX0_areOne hN (wb_sh I0 10) (wb_sh M0 6) (wb_sh I0 13) (wb_sh M0 13) x1 x2 x3 ⟨by omega, by omega⟩ ⟨by omega, by omega⟩ (KX11.s_X1_13_13 k_I0)) (fun r2_q21324 h_r2_q21324 => ?_)
        obtain ⟨h_r2_q21324_0, -⟩ := h_r2_q21324
        refine wq_bz (by omega) ?_
        exact wq_s ⟨(show 0 ≤ r2_q21324.toInt ∧ r2_q21324.toInt ≤ 1 from ⟨by omega, by omega⟩), trivial⟩
set_option maxHeartbeats 4000000 in
theorem tt_fX11_births {N : Nat} (hN : 3000000000 ≤ N) (I0 : Nat → Int32) (M0 : Nat → Nat → Int32) (x1 : Int32) (x2 : Int32) (k_I0 : KX11 I0 M0) : wq (fX11_births N I0 M0 x1 x2) (qS 1 (fun r => KX11 r.2.1 r.2.2 ∧ True)) := by
  unfold fX11_births
  have b_21523 := i32b x1
  have l_m1 := il_m1
  refine wq_eq (fun hc_21524 => ?_) (fun hc_21525 => ?_)
  · unfold fX11_births_J12
    have b_21526 := i32b x2
    have l_1 := il_1
    have l_7 := il_7
    refine wq_b (tt_fX11_within hN x2 (1 : Int32) (7 : Int32)) (fun r7_q21527 h_r7_q21527 => ?_)
    obtain ⟨h_r7_q21527_0, h_r7_q21527_1, -⟩ := h_r7_q21527
    have l_0 := il_0
    refine wq_eq (fun hc_21528 => ?_) (fun hc_21529 => ?_)
    · unfold fX11_births_J26
      unfold fX11_births_J27
      exact wq_xb (tt_fX11_need0 N) (by decide) (fun _ h => absurd h id)
    · unfold fX11_births_J27
      refine wq_xb (tt_fX11_need hN (1 : Int32)) (by decide) (fun r1_q21531 h_r1_q21531 => ?_)
      obtain ⟨h_r1_q21531_0, -⟩ := h_r1_q21531
      refine wq_ok ?_
      refine wq_b (tt_fX0_partBy hN (wb_sh I0 43) (wb_sh M0 27) (wb_sh I0 10) (wb_sh M0 6) (wb_sh I0 13) (wb_sh M0 13) x2 (KX11.s_X1_13_13 k_I0)) (fun r2_q21532 h_r2_q21532 => ?_)
      obtain ⟨-⟩ := h_r2_q21532
      refine wq_v (fun I0_3_q21533 h_I0_3_q21533 => ?_)
      refine wq_v (fun M0_4_q21534 h_M0_4_q21534 => ?_)
      have k_M0_4_q21534 : KX11 I0_3_q21533 M0_4_q21534 := by rw [h_I0_3_q21533, h_M0_4_q21534]; exact KX11.p_X0_43_27 k_I0
      refine wq_eq (fun hc_21535 => ?_) (fun hc_21536 => ?_)
      · refine wq_b (tt_fX0_howManyParts hN (wb_sh I0_3_q21533 43) (wb_sh M0_4_q21534 27) (wb_sh I0_3_q21533 13) (wb_sh M0_4_q21534 13) (KX11.s_X1_13_13 k_M0_4_q21534)) (fun r6_q21537 h_r6_q21537 => ?_)
        obtain ⟨-⟩ := h_r6_q21537
        have b_21538 := i32b r6_q21537
        exact wq_s ⟨k_M0_4_q21534, trivial⟩
      · exfalso; omega
  · refine wq_b (tt_fX11_isNumber hN x1) (fun r8_q21539 h_r8_q21539 => ?_)
    obtain ⟨h_r8_q21539_0, h_r8_q21539_1, -⟩ := h_r8_q21539
    have l_0 := il_0
    refine wq_eq (fun hc_21540 => ?_) (fun hc_21541 => ?_)
    · unfold fX11_births_J26
      unfold fX11_births_J27
      exact wq_xb (tt_fX11_need0 N) (by decide) (fun _ h => absurd h id)
    · unfold fX11_births_J12
      have b_21543 := i32b x2
      have l_1 := il_1
      have l_7 := il_7
      refine wq_b (tt_fX11_within hN x2 (1 : Int32) (7 : Int32)) (fun r7_q21544 h_r7_q21544 => ?_)
      obtain ⟨h_r7_q21544_0, h_r7_q21544_1, -⟩ := h_r7_q21544
      refine wq_eq (fun hc_21545 => ?_) (fun hc_21546 => ?_)
      · unfold fX11_births_J26
        unfold fX11_births_J27
        exact wq_xb (tt_fX11_need0 N) (by decide) (fun _ h => absurd h id)
      · unfold fX11_births_J27
        refine wq_xb (tt_fX11_need hN (1 : Int32)) (by decide) (fun r1_q21548 h_r1_q21548 => ?_)
        obtain ⟨h_r1_q21548_0, -⟩ := h_r1_q21548
        refine wq_ok ?_
        refine wq_b (tt_fX0_partBy hN (wb_sh I0 43) (wb_sh M0 27) (wb_sh I0 10) (wb_sh M0 6) (wb_sh I0 13) (wb_sh M0 13) x2 (KX11.s_X1_13_13 k_I0)) (fun r2_q21549 h_r2_q21549 => ?_)
        obtain ⟨-⟩ := h_r2_q21549
        refine wq_v (fun I0_3_q21550 h_I0_3_q21550 => ?_)
        refine wq_v (fun M0_4_q21551 h_M0_4_q21551 => ?_)
        have k_M0_4_q21551 : KX11 I0_3_q21550 M0_4_q21551 := by rw [h_I0_3_q21550, h_M0_4_q21551]; exact KX11.p_X0_43_27 k_I0
        refine wq_eq (fun hc_21552 => ?_) (fun hc_21553 => ?_)
        · exfalso; omega
        · refine wq_b (tt_fX0_leastOf hN (wb_sh I0_3_q21550 43) (wb_sh M0_4_q21551 27) x1 ⟨by omega, by omega⟩) (fun r5_q21554 h_r5_q21554 => ?_)
          obtain ⟨-⟩ := h_r5_q21554
          have b_21555 := i32b r5_q21554
          exact wq_s ⟨k_M0_4_q21551, trivial⟩
set_option maxHeartbeats 4000000 in
theorem tt_fX11_tree {N : Nat} (hN : 3000000000 ≤ N) (I0 : Nat → Int32) (M0 : Nat → Nat → Int32) (k_I0 : KX11 I0 M0) : wq (fX11_tree N I0 M0) (fun r => KX11 r.2.1 r.2.2 ∧ True) := by sorry
set_option maxHeartbeats 4000000 in
theorem tt_fX11_whence {N : Nat} (hN : 3000000000 ≤ N) (I0 : Nat → Int32) (M0 : Nat → Nat → Int32) (x1 : Int32) (k_I0 : KX11 I0 M0) : wq (fX11_whence N I0 M0 x1) (qS 1 (fun r => (-2 ≤ r.toInt ∧ r.toInt ≤ 5) ∧ True)) := by
  unfold fX11_whence
  have b_21646 := i32b x1
  refine wq_b (tt_fX11_isBook hN x1) (fun r1_q21647 h_r1_q21647 => ?_)
  obtain ⟨h_r1_q21647_0, h_r1_q21647_1, -⟩ := h_r1_q21647
  have l_0 := il_0
  refine wq_eq (fun hc_21648 => ?_) (fun hc_21649 => ?_)
  · exact wq_xb (tt_fX11_need0 N) (by decide) (fun _ h => absurd h id)
  · have t_21651 := KX11.i42 k_I0
    refine wq_eq (fun hc_21652 => ?_) (fun hc_21653 => ?_)
    · exact wq_xb (tt_fX11_need0 N) (by decide) (fun _ h => absurd h id)
    · refine wq_b (tt_fX10_holds hN (wb_sh I0 41) (wb_sh M0 20) x1 ⟨by omega, by omega⟩ (KX11.s_X10_41_20 k_I0)) (fun r6_q21655 h_r6_q21655 => ?_)
      obtain ⟨h_r6_q21655_0, -⟩ := h_r6_q21655
      refine wq_eq (fun hc_21656 => ?_) (fun hc_21657 => ?_)
      · exact wq_xb (tt_fX11_need0 N) (by decide) (fun _ h => absurd h id)
      · have l_1 := il_1
        refine wq_xb (tt_fX11_need hN (1 : Int32)) (by decide) (fun r9b_q21659 h_r9b_q21659 => ?_)
        obtain ⟨h_r9b_q21659_0, -⟩ := h_r9b_q21659
        refine wq_ok ?_
        refine wq_b (tt_fX10_parentOf hN (wb_sh I0 41) (wb_sh M0 20) x1 ⟨by omega, by omega⟩ (KX11.s_X10_41_20 k_I0)) (fun r10_q21660 h_r10_q21660 => ?_)
        obtain ⟨h_r10_q21660_0, -⟩ := h_r10_q21660
        exact wq_s ⟨(show -2 ≤ r10_q21660.toInt ∧ r10_q21660.toInt ≤ 5 from ⟨by omega, by omega⟩), trivial⟩
set_option maxHeartbeats 4000000 in
theorem tt_fX11_life {N : Nat} (hN : 3000000000 ≤ N) (I0 : Nat → Int32) (M0 : Nat → Nat → Int32) (x1 : Int32) (x2 : Int32) (x3 : Int32) (k_I0 : KX11 I0 M0) : wq (fX11_life N I0 M0 x1 x2 x3) (qS 1 (fun r => (0 ≤ r.1.toInt ∧ r.1.toInt ≤ 1) ∧ KX11 r.2.1 r.2.2 ∧ True)) := by
  unfold fX11_life
  have b_21745 := i32b x1
  have l_0 := il_0
  have l_19 := il_19
  refine wq_b (tt_fX11_within hN x1 (0 : Int32) (19 : Int32)) (fun r1_q21746 h_r1_q21746 => ?_)
  obtain ⟨h_r1_q21746_0, h_r1_q21746_1, -⟩ := h_r1_q21746
  refine wq_xb (tt_fX11_need hN r1_q21746) (by decide) (fun r2_q21747 h_r2_q21747 => ?_)
  obtain ⟨h_r2_q21747_0, -⟩ := h_r2_q21747
  refine wq_ok ?_
  have b_21748 := i32b x2
  have l_120 := il_120
  refine wq_b (tt_fX11_within hN x2 (0 : Int32) (120 : Int32)) (fun r3_q21749 h_r3_q21749 => ?_)
  obtain ⟨h_r3_q21749_0, h_r3_q21749_1, -⟩ := h_r3_q21749
  refine wq_eq (fun hc_21750 => ?_) (fun hc_21751 => ?_)
  · exact wq_s ⟨(show 0 ≤ (0 : Int32).toInt ∧ (0 : Int32).toInt ≤ 1 from ⟨by omega, by omega⟩), k_I0, trivial⟩
  · have b_21752 := i32b x3
    refine wq_b (tt_fX11_within hN x3 (0 : Int32) (120 : Int32)) (fun r4_q21753 h_r4_q21753 => ?_)
    obtain ⟨h_r4_q21753_0, h_r4_q21753_1, -⟩ := h_r4_q21753
    refine wq_eq (fun hc_21754 => ?_) (fun hc_21755 => ?_)
    · exact wq_s ⟨(show 0 ≤ (0 : Int32).toInt ∧ (0 : Int32).toInt ≤ 1 from ⟨by omega, by omega⟩), k_I0, trivial⟩
    · refine wq_b (tt_fX7_tellLife hN (wb_sh I0 43) (wb_sh M0 28) x1 x2 x3 ⟨by omega, by omega⟩ (KX11.s_X7_43_28 k_I0)) (fun r5_q21756 h_r5_q21756 => ?_)
      obtain ⟨h_r5_q21756_0, -⟩ := h_r5_q21756
      refine wq_v (fun I0_6_q21757 h_I0_6_q21757 => ?_)
      refine wq_v (fun M0_7_q21758 h_M0_7_q21758 => ?_)
      have k_M0_7_q21758 : KX11 I0_6_q21757 M0_7_q21758 := by rw [h_I0_6_q21757, h_M0_7_q21758]; exact KX11.p_X7_43_28 k_I0 h_r5_q21756_0
      have l_1 := il_1
      exact wq_s ⟨(show 0 ≤ (1 : Int32).toInt ∧ (1 : Int32).toInt ≤ 1 from ⟨by omega, by omega⟩), k_M0_7_q21758, trivial⟩
set_option maxHeartbeats 4000000 in
theorem tt_fX11_fate {N : Nat} (hN : 3000000000 ≤ N) (I0 : Nat → Int32) (M0 : Nat → Nat → Int32) (x1 : Int32) (x2 : Int32) (k_I0 : KX11 I0 M0) : wq (fX11_fate N I0 M0 x1 x2) (qS 1 (fun r => (0 ≤ r.1.toInt ∧ r.1.toInt ≤ 1) ∧ KX11 r.2.1 r.2.2 ∧ True)) := by
  unfold fX11_fate
  have b_21819 := i32b x1
  have l_0 := il_0
  have l_19 := il_19
  refine wq_b (tt_fX11_within hN x1 (0 : Int32) (19 : Int32)) (fun r1_q21820 h_r1_q21820 => ?_)
  obtain ⟨h_r1_q21820_0, h_r1_q21820_1, -⟩ := h_r1_q21820
  refine wq_xb (tt_fX11_need hN r1_q21820) (by decide) (fun r2_q21821 h_r2_q21821 => ?_)
  obtain ⟨h_r2_q21821_0, -⟩ := h_r2_q21821
  refine wq_ok ?_
  have b_21822 := i32b x2
  have l_1 := il_1
  have l_12 := il_12
  refine wq_b (tt_fX11_within hN x2 (1 : Int32) (12 : Int32)) (fun r3_q21823 h_r3_q21823 => ?_)
  obtain ⟨h_r3_q21823_0, h_r3_q21823_1, -⟩ := h_r3_q21823
  refine wq_eq (fun hc_21824 => ?_) (fun hc_21825 => ?_)
  · exact wq_s ⟨(show 0 ≤ (0 : Int32).toInt ∧ (0 : Int32).toInt ≤ 1 from ⟨by omega, by omega⟩), k_I0, trivial⟩
  · refine wq_b (tt_fX7_tellFate hN (wb_sh I0 43) (wb_sh M0 28) x1 x2 ⟨by omega, by omega⟩ (KX11.s_X7_43_28 k_I0)) (fun r4_q21826 h_r4_q21826 => ?_)
    obtain ⟨h_r4_q21826_0, -⟩ := h_r4_q21826
    refine wq_v (fun I0_5_q21827 h_I0_5_q21827 => ?_)
    refine wq_v (fun M0_6_q21828 h_M0_6_q21828 => ?_)
    have k_M0_6_q21828 : KX11 I0_5_q21827 M0_6_q21828 := by rw [h_I0_5_q21827, h_M0_6_q21828]; exact KX11.p_X7_43_28 k_I0 h_r4_q21826_0
    exact wq_s ⟨(show 0 ≤ (1 : Int32).toInt ∧ (1 : Int32).toInt ≤ 1 from ⟨by omega, by omega⟩), k_M0_6_q21828, trivial⟩
set_option maxHeartbeats 4000000 in
theorem tt_fX11_fates {N : Nat} (hN : 3000000000 ≤ N) (I0 : Nat → Int32) (M0 : Nat → Nat → Int32) (x1 : Int32) (k_I0 : KX11 I0 M0) : wq (fX11_fates N I0 M0 x1) (qS 1 (fun r => KX11 r.2.1 r.2.2 ∧ True)) := by
  unfold fX11_fates
  have b_21901 := i32b x1
  have l_0 := il_0
  have l_1 := il_1
  refine wq_b (tt_fX11_within hN x1 (0 : Int32) (1 : Int32)) (fun r1_q21902 h_r1_q21902 => ?_)
  obtain ⟨h_r1_q21902_0, h_r1_q21902_1, -⟩ := h_r1_q21902
  refine wq_xb (tt_fX11_need hN r1_q21902) (by decide) (fun r2_q21903 h_r2_q21903 => ?_)
  obtain ⟨h_r2_q21903_0, -⟩ := h_r2_q21903
  refine wq_ok ?_
  refine wq_eq (fun hc_21904 => ?_) (fun hc_21905 => ?_)
  · refine wq_b (tt_fX7_howManyToldByLot hN (wb_sh I0 43) (wb_sh M0 28) (wb_sh I0 13) (wb_sh M0 13) (KX11.s_X7_43_28 k_I0) (KX11.s_X1_13_13 k_I0)) (fun r6_q21906 h_r6_q21906 => ?_)
    obtain ⟨h_r6_q21906_0, h_r6_q21906_1, -⟩ := h_r6_q21906
    refine wq_v (fun I0_7_q21907 h_I0_7_q21907 => ?_)
    refine wq_v (fun M0_8_q21908 h_M0_8_q21908 => ?_)
    have k_M0_8_q21908 : KX11 I0_7_q21907 M0_8_q21908 := by rw [h_I0_7_q21907, h_M0_8_q21908]; exact KX11.p_X7_43_28 k_I0 h_r6_q21906_1
    exact wq_s ⟨k_M0_8_q21908, trivial⟩
  · refine wq_b (tt_fX7_chanceOfFates hN (wb_sh I0 43) (wb_sh M0 28) (wb_sh I0 13) (wb_sh M0 13) (KX11.s_X7_43_28 k_I0) (KX11.s_X1_13_13 k_I0)) (fun r3_q21909 h_r3_q21909 => ?_)
    obtain ⟨h_r3_q21909_0, -⟩ := h_r3_q21909
    refine wq_v (fun I0_4_q21910 h_I0_4_q21910 => ?_)
    refine wq_v (fun M0_5_q21911 h_M0_5_q21911 => ?_)
    have k_M0_5_q21911 : KX11 I0_4_q21910 M0_5_q21911 := by rw [h_I0_4_q21910, h_M0_5_q21911]; exact KX11.p_X7_43_28 k_I0 h_r3_q21909_0
    have b_21912 := i32b r3_q21909.1
    exact wq_s ⟨k_M0_5_q21911, trivial⟩
set_option maxHeartbeats 4000000 in
theorem tt_fX11_hits {N : Nat} (hN : 3000000000 ≤ N) (I0 : Nat → Int32) (M0 : Nat → Nat → Int32) (x1 : Int32) (x2 : Int32) (k_I0 : KX11 I0 M0) : wq (fX11_hits N I0 M0 x1 x2) (qS 1 (fun r => KX11 r.2.1 r.2.2 ∧ True)) := by
  unfold fX11_hits
  have b_22033 := i32b x1
  have l_0 := il_0
  have l_1 := il_1
  refine wq_b (tt_fX11_within hN x1 (0 : Int32) (1 : Int32)) (fun r8_q22034 h_r8_q22034 => ?_)
  obtain ⟨h_r8_q22034_0, h_r8_q22034_1, -⟩ := h_r8_q22034
  refine wq_eq (fun hc_22035 => ?_) (fun hc_22036 => ?_)
  · unfold fX11_hits_J23
    unfold fX11_hits_J24
    exact wq_xb (tt_fX11_need0 N) (by decide) (fun _ h => absurd h id)
  · have b_22038 := i32b x2
    have l_120 := il_120
    refine wq_b (tt_fX11_within hN x2 (0 : Int32) (120 : Int32)) (fun r9b_q22039 h_r9b_q22039 => ?_)
    obtain ⟨h_r9b_q22039_0, h_r9b_q22039_1, -⟩ := h_r9b_q22039
    refine wq_eq (fun hc_22040 => ?_) (fun hc_22041 => ?_)
    · unfold fX11_hits_J23
      unfold fX11_hits_J24
      exact wq_xb (tt_fX11_need0 N) (by decide) (fun _ h => absurd h id)
    · unfold fX11_hits_J24
      refine wq_xb (tt_fX11_need hN (1 : Int32)) (by decide) (fun r1_q22043 h_r1_q22043 => ?_)
      obtain ⟨h_r1_q22043_0, -⟩ := h_r1_q22043
      refine wq_ok ?_
      refine wq_eq (fun hc_22044 => ?_) (fun hc_22045 => ?_)
      · refine wq_b (tt_fX7_howManyHits hN (wb_sh I0 43) (wb_sh M0 28) x2 (KX11.s_X7_43_28 k_I0)) (fun r5_q22046 h_r5_q22046 => ?_)
        obtain ⟨h_r5_q22046_0, h_r5_q22046_1, -⟩ := h_r5_q22046
        refine wq_v (fun I0_6_q22047 h_I0_6_q22047 => ?_)
        refine wq_v (fun M0_7_q22048 h_M0_7_q22048 => ?_)
        have k_M0_7_q22048 : KX11 I0_6_q22047 M0_7_q22048 := by rw [h_I0_6_q22047, h_M0_7_q22048]; exact KX11.p_X7_43_28 k_I0 h_r5_q22046_1
        exact wq_s ⟨k_M0_7_q22048, trivial⟩
      · refine wq_b (tt_fX7_chanceOfLives hN (wb_sh I0 43) (wb_sh M0 28) x2 (KX11.s_X7_43_28 k_I0)) (fun r2_q22049 h_r2_q22049 => ?_)
        obtain ⟨h_r2_q22049_0, -⟩ := h_r2_q22049
        refine wq_v (fun I0_3_q22050 h_I0_3_q22050 => ?_)
        refine wq_v (fun M0_4_q22051 h_M0_4_q22051 => ?_)
        have k_M0_4_q22051 : KX11 I0_3_q22050 M0_4_q22051 := by rw [h_I0_3_q22050, h_M0_4_q22051]; exact KX11.p_X7_43_28 k_I0 h_r2_q22049_0
        have b_22052 := i32b r2_q22049.1
        exact wq_s ⟨k_M0_4_q22051, trivial⟩
set_option maxHeartbeats 4000000 in
theorem tt_fX12_thrown {N : Nat} (hN : 3000000000 ≤ N) (I0 : Nat → Int32) (L0 : Int64) (M0 : Nat → Nat → Int32) (k_I0 : KX12 I0 M0) : wq (fX12_thrown N I0 L0 M0) (fun r => True) := by
  unfold fX12_thrown
  exact wq_s trivial
set_option maxHeartbeats 4000000 in
theorem tt_fX12_right {N : Nat} (hN : 3000000000 ≤ N) (I0 : Nat → Int32) (L0 : Int64) (M0 : Nat → Nat → Int32) (x1 : Int32) (x2 : Int32) (h_x2 : 1 ≤ x2.toInt ∧ x2.toInt ≤ 2) (k_I0 : KX12 I0 M0) : wq (fX12_right N I0 L0 M0 x1 x2) (fun r => (r.1.toInt = 0 ∨ (r.1.toInt = 1 ∧ x1.toInt ≠ 0)) ∧ (r.2.1 1).toInt = (I0 1).toInt ∧ (0 ≤ r.1.toInt ∧ r.1.toInt ≤ 1) ∧ KX12 r.2.1 r.2.2.2 ∧ True) := by
  unfold fX12_right
  have l_0 := il_0
  refine wq_eq (fun hc_22173 => ?_) (fun hc_22174 => ?_)
  · have b_22175 := i32b x1
    refine wq_eq (fun hc_22176 => ?_) (fun hc_22177 => ?_)
    · refine wq_v (fun I0_1_q22178 h_I0_1_q22178 => ?_)
      have k_I0_1_q22178 : KX12 I0_1_q22178 M0 := by rw [h_I0_1_q22178]; exact KX12.si0 k_I0
      have tr_22179 : (I0_1_q22178 0).toInt = x2.toInt := by rw [h_I0_1_q22178]; rfl
      have tr_22180 : (I0_1_q22178 1).toInt = (I0 1).toInt := by rw [h_I0_1_q22178]; rfl
      have t_22181 : (I0_1_q22178 0).toInt = x2.toInt := by rw [h_I0_1_q22178]; rfl
      refine wq_eq (fun hc_22182 => ?_) (fun hc_22183 => ?_)
      · exfalso; omega
      · have t_22184 := KX12.i1 k_I0
        have t_22185 : (I0_1_q22178 1).toInt = (I0 1).toInt := by rw [h_I0_1_q22178]; rfl
        exact wq_s ⟨(show ((0 : Int32).toInt = 0 ∨ ((0 : Int32).toInt = 1 ∧ x1.toInt ≠ 0)) from by omega), (show (I0_1_q22178 1).toInt = (I0 1).toInt from by omega), (show 0 ≤ (0 : Int32).toInt ∧ (0 : Int32).toInt ≤ 1 from ⟨by omega, by omega⟩), k_I0_1_q22178, trivial⟩
    · refine wq_eq (fun hc_22186 => ?_) (fun hc_22187 => ?_)
      · have t_22188 := KX12.i1 k_I0
        have l_1 := il_1
        exact wq_s ⟨(show ((1 : Int32).toInt = 0 ∨ ((1 : Int32).toInt = 1 ∧ x1.toInt ≠ 0)) from by omega), (show (I0 1).toInt = (I0 1).toInt from by omega), (show 0 ≤ (1 : Int32).toInt ∧ (1 : Int32).toInt ≤ 1 from ⟨by omega, by omega⟩), k_I0, trivial⟩
      · exfalso; omega
  · refine wq_eq (fun hc_22189 => ?_) (fun hc_22190 => ?_)
    · have t_22191 := KX12.i1 k_I0
      have b_22192 := i32b x1
      have l_1 := il_1
      exact wq_s ⟨(show ((1 : Int32).toInt = 0 ∨ ((1 : Int32).toInt = 1 ∧ x1.toInt ≠ 0)) from by omega), (show (I0 1).toInt = (I0 1).toInt from by omega), (show 0 ≤ (1 : Int32).toInt ∧ (1 : Int32).toInt ≤ 1 from ⟨by omega, by omega⟩), k_I0, trivial⟩
    · have t_22193 := KX12.i1 k_I0
      have b_22194 := i32b x1
      exact wq_s ⟨(show ((0 : Int32).toInt = 0 ∨ ((0 : Int32).toInt = 1 ∧ x1.toInt ≠ 0)) from by omega), (show (I0 1).toInt = (I0 1).toInt from by omega), (show 0 ≤ (0 : Int32).toInt ∧ (0 : Int32).toInt ≤ 1 from ⟨by omega, by omega⟩), k_I0, trivial⟩
set_option maxHeartbeats 4000000 in
theorem tt_fX12_within {N : Nat} (hN : 3000000000 ≤ N) (x0 : Int32) (x1 : Int32) (x2 : Int32)  : wq (fX12_within N x0 x1 x2) (fun r => (r.toInt = 0 ∨ (r.toInt = 1 ∧ x1.toInt ≤ x0.toInt ∧ x0.toInt ≤ x2.toInt)) ∧ (0 ≤ r.toInt ∧ r.toInt ≤ 1) ∧ True) := by
  unfold fX12_within
  have b_22237 := i32b x0
  have b_22238 := i32b x1
  refine wq_lt (fun hc_22239 => ?_) (fun hc_22240 => ?_)
  · have b_22241 := i32b x2
    have l_0 := il_0
    exact wq_s ⟨(show ((0 : Int32).toInt = 0 ∨ ((0 : Int32).toInt = 1 ∧ x1.toInt ≤ x0.toInt ∧ x0.toInt ≤ x2.toInt)) from by omega), (show 0 ≤ (0 : Int32).toInt ∧ (0 : Int32).toInt ≤ 1 from ⟨by omega, by omega⟩), trivial⟩
  · have b_22242 := i32b x2
    refine wq_lt (fun hc_22243 => ?_) (fun hc_22244 => ?_)
    · have l_0 := il_0
      exact wq_s ⟨(show ((0 : Int32).toInt = 0 ∨ ((0 : Int32).toInt = 1 ∧ x1.toInt ≤ x0.toInt ∧ x0.toInt ≤ x2.toInt)) from by omega), (show 0 ≤ (0 : Int32).toInt ∧ (0 : Int32).toInt ≤ 1 from ⟨by omega, by omega⟩), trivial⟩
    · have l_1 := il_1
      exact wq_s ⟨(show ((1 : Int32).toInt = 0 ∨ ((1 : Int32).toInt = 1 ∧ x1.toInt ≤ x0.toInt ∧ x0.toInt ≤ x2.toInt)) from by omega), (show 0 ≤ (1 : Int32).toInt ∧ (1 : Int32).toInt ≤ 1 from ⟨by omega, by omega⟩), trivial⟩
theorem tt_lay1 (N fu : Nat) (x y : Int32) (I : Nat → Int32) (L : Int64) (M : Nat → Nat → Int32) (k : KX12 I M) (h : (I 3).toInt ≤ 599) (hy : ¬ y < 0) : ∃ (J : Nat → Int32) (M2 : Nat → Nat → Int32), fX12_lays_L3 N x (fu + 1) I L M y = fX12_lays_L3 N x fu J L M2 (y + (-8)) ∧ KX12 J M2 ∧ (J 3).toInt = (I 3).toInt + 1 := by
  have k3 := k.i3
  have l_1 := il_1
  have ta := ia_add (I 3) (1 : Int32) (by omega) (by omega)
  have hin : ¬ (I 3 < 0 ∨ 600 ≤ (I 3).toNatClampNeg) := by
    rw [nI_back (I 3) k3.1]
    exact wp_in (by omega) (by decide)
  refine ⟨upd I 3 (I 3 + 1), wb_um M 8 (I 3).toNatClampNeg ((x >>> (y &&& 31)) &&& (255 : Int32)), ?_, KX12.si3 (KX12.sm8 k) ⟨by omega, by omega⟩, ?_⟩
  · rw [fX12_lays_L3.eq_2, if_neg hy, if_neg hin, Option.bind_some, Option.bind_some, Option.bind_some]
  · show (I 3 + 1).toInt = _
    omega
theorem tt_fX12_lays {N : Nat} (hN : 3000000000 ≤ N) (I0 : Nat → Int32) (L0 : Int64) (M0 : Nat → Nat → Int32) (x1 : Int32) (k_I0 : KX12 I0 M0) (hr_1 : (I0 3).toInt ≤ 596) : wq (fX12_lays N I0 L0 M0 x1) (fun r => (r.1 3).toInt = (I0 3).toInt + 4 ∧ KX12 r.1 r.2.2 ∧ True) := by
  obtain ⟨n, rfl⟩ : ∃ n, N = n + 5 := ⟨N - 5, by omega⟩
  unfold fX12_lays
  obtain ⟨J1, M1, h1, k1, e1⟩ := tt_lay1 (n + 5) (n + 4) x1 24 I0 L0 M0 k_I0 (by omega) (by decide)
  obtain ⟨J2, M2, h2, k2, e2⟩ := tt_lay1 (n + 5) (n + 3) x1 (24 + -8) J1 L0 M1 k1 (by omega) (by decide)
  obtain ⟨J3, M3, h3, k3, e3⟩ := tt_lay1 (n + 5) (n + 2) x1 (24 + -8 + -8) J2 L0 M2 k2 (by omega) (by decide)
  obtain ⟨J4, M4, h4, k4, e4⟩ := tt_lay1 (n + 5) (n + 1) x1 (24 + -8 + -8 + -8) J3 L0 M3 k3 (by omega) (by decide)
  refine ⟨(J4, L0, M4), h1.trans (h2.trans (h3.trans (h4.trans ?_))), ?_, k4, trivial⟩
  · rw [fX12_lays_L3.eq_2, if_pos (by decide)]
  · show (J4 3).toInt = (I0 3).toInt + 4
    omega
set_option maxHeartbeats 4000000 in
theorem tt_fX12_feed {N : Nat} (hN : 3000000000 ≤ N) (I0 : Nat → Int32) (L0 : Int64) (M0 : Nat → Nat → Int32) (x1 : Int32) (x2 : Int32) (x3 : Int32) (x4 : Int32) (x5 : Int32) (k_I0 : KX12 I0 M0) : wq (fX12_feed N I0 L0 M0 x1 x2 x3 x4 x5) (fun r => (-1 ≤ r.1.toInt ∧ r.1.toInt ≤ 600) ∧ KX12 r.2.1 r.2.2.2 ∧ True) := by
  unfold fX12_feed
  refine wq_v (fun I0_1_q22371 h_I0_1_q22371 => ?_)
  have k_I0_1_q22371 : KX12 I0_1_q22371 M0 := by rw [h_I0_1_q22371]; exact KX12.si0 k_I0
  have t_22372 := KX12.i3 k_I0
  have t_22373 : (I0_1_q22371 3).toInt = (I0 3).toInt := by rw [h_I0_1_q22371]; rfl
  have l_20 := il_20
  have t_22374 := ia_add (I0_1_q22371 3) (20 : Int32) (by omega) (by omega)
  have l_600 := il_600
  refine wq_le (fun hc_22375 => ?_) (fun hc_22376 => ?_)
  · have b_22377 := i32b x1
    refine wq_b (tt_fX12_lays hN I0_1_q22371 L0 M0 x1 k_I0_1_q22371 (by omega)) (fun r2_q22378 h_r2_q22378 => ?_)
    obtain ⟨h_r2_q22378_0, h_r2_q22378_1, -⟩ := h_r2_q22378
    have t_22379 := KX12.i3 h_r2_q22378_1
    have b_22380 := i32b x2
    refine wq_b (tt_fX12_lays hN r2_q22378.1 r2_q22378.2.1 r2_q22378.2.2 x2 h_r2_q22378_1 (by omega)) (fun r3_q22381 h_r3_q22381 => ?_)
    obtain ⟨h_r3_q22381_0, h_r3_q22381_1, -⟩ := h_r3_q22381
    have t_22382 := KX12.i3 h_r3_q22381_1
    have b_22383 := i32b x3
    refine wq_b (tt_fX12_lays hN r3_q22381.1 r3_q22381.2.1 r3_q22381.2.2 x3 h_r3_q22381_1 (by omega)) (fun r4_q22384 h_r4_q22384 => ?_)
    obtain ⟨h_r4_q22384_0, h_r4_q22384_1, -⟩ := h_r4_q22384
    have t_22385 := KX12.i3 h_r4_q22384_1
    have b_22386 := i32b x4
    refine wq_b (tt_fX12_lays hN r4_q22384.1 r4_q22384.2.1 r4_q22384.2.2 x4 h_r4_q22384_1 (by omega)) (fun r5_q22387 h_r5_q22387 => ?_)
    obtain ⟨h_r5_q22387_0, h_r5_q22387_1, -⟩ := h_r5_q22387
    have t_22388 := KX12.i3 h_r5_q22387_1
    have b_22389 := i32b x5
    refine wq_b (tt_fX12_lays hN r5_q22387.1 r5_q22387.2.1 r5_q22387.2.2 x5 h_r5_q22387_1 (by omega)) (fun r6_q22390 h_r6_q22390 => ?_)
    obtain ⟨h_r6_q22390_0, h_r6_q22390_1, -⟩ := h_r6_q22390
    have t_22391 := KX12.i3 h_r6_q22390_1
    exact wq_s ⟨(show -1 ≤ (r6_q22390.1 3).toInt ∧ (r6_q22390.1 3).toInt ≤ 600 from ⟨by omega, by omega⟩), h_r6_q22390_1, trivial⟩
  · have l_m1 := il_m1
    exact wq_s ⟨(show -1 ≤ (-1 : Int32).toInt ∧ (-1 : Int32).toInt ≤ 600 from ⟨by omega, by omega⟩), k_I0_1_q22371, trivial⟩
set_option maxHeartbeats 4000000 in
theorem tt_fX12_byteAt {N : Nat} (hN : 3000000000 ≤ N) (I0 : Nat → Int32) (L0 : Int64) (M0 : Nat → Nat → Int32) (x1 : Int32) (h_x1 : 0 ≤ x1.toInt ∧ x1.toInt ≤ 600) (k_I0 : KX12 I0 M0) : wq (fX12_byteAt N I0 L0 M0 x1) (fun r => (r.toInt = 0 ∨ x1.toInt < (I0 6).toInt) ∧ True) := by
  unfold fX12_byteAt
  have t_22410 := KX12.i6 k_I0
  refine wq_le (fun hc_22411 => ?_) (fun hc_22412 => ?_)
  · have l_0 := il_0
    exact wq_s ⟨(show ((0 : Int32).toInt = 0 ∨ x1.toInt < (I0 6).toInt) from by omega), trivial⟩
  · refine wq_in (n := 600) ⟨by omega, by omega⟩ ?_
    exact wq_s ⟨(show ((M0 8 x1.toNatClampNeg).toInt = 0 ∨ x1.toInt < (I0 6).toInt) from by omega), trivial⟩
set_option maxHeartbeats 4000000 in
theorem tt_fX12_isLetter {N : Nat} (hN : 3000000000 ≤ N) (x0 : Int32)  : wq (fX12_isLetter N x0) (fun r => (r.toInt = 0 ∨ (r.toInt = 1 ∧ 97 ≤ x0.toInt)) ∧ (0 ≤ r.toInt ∧ r.toInt ≤ 1) ∧ True) := by
  unfold fX12_isLetter
  have b_22443 := i32b x0
  have l_97 := il_97
  refine wq_lt (fun hc_22444 => ?_) (fun hc_22445 => ?_)
  · have l_0 := il_0
    exact wq_s ⟨(show ((0 : Int32).toInt = 0 ∨ ((0 : Int32).toInt = 1 ∧ 97 ≤ x0.toInt)) from by omega), (show 0 ≤ (0 : Int32).toInt ∧ (0 : Int32).toInt ≤ 1 from ⟨by omega, by omega⟩), trivial⟩
  · have l_122 := il_122
    refine wq_lt (fun hc_22446 => ?_) (fun hc_22447 => ?_)
    · have l_0 := il_0
      exact wq_s ⟨(show ((0 : Int32).toInt = 0 ∨ ((0 : Int32).toInt = 1 ∧ 97 ≤ x0.toInt)) from by omega), (show 0 ≤ (0 : Int32).toInt ∧ (0 : Int32).toInt ≤ 1 from ⟨by omega, by omega⟩), trivial⟩
    · have l_1 := il_1
      exact wq_s ⟨(show ((1 : Int32).toInt = 0 ∨ ((1 : Int32).toInt = 1 ∧ 97 ≤ x0.toInt)) from by omega), (show 0 ≤ (1 : Int32).toInt ∧ (1 : Int32).toInt ≤ 1 from ⟨by omega, by omega⟩), trivial⟩
set_option maxHeartbeats 4000000 in
theorem tt_fX12_isDigit {N : Nat} (hN : 3000000000 ≤ N) (x0 : Int32)  : wq (fX12_isDigit N x0) (fun r => (r.toInt = 0 ∨ (r.toInt = 1 ∧ 48 ≤ x0.toInt)) ∧ (0 ≤ r.toInt ∧ r.toInt ≤ 1) ∧ True) := by
  unfold fX12_isDigit
  have b_22478 := i32b x0
  have l_48 := il_48
  refine wq_lt (fun hc_22479 => ?_) (fun hc_22480 => ?_)
  · have l_0 := il_0
    exact wq_s ⟨(show ((0 : Int32).toInt = 0 ∨ ((0 : Int32).toInt = 1 ∧ 48 ≤ x0.toInt)) from by omega), (show 0 ≤ (0 : Int32).toInt ∧ (0 : Int32).toInt ≤ 1 from ⟨by omega, by omega⟩), trivial⟩
  · have l_57 := il_57
    refine wq_lt (fun hc_22481 => ?_) (fun hc_22482 => ?_)
    · have l_0 := il_0
      exact wq_s ⟨(show ((0 : Int32).toInt = 0 ∨ ((0 : Int32).toInt = 1 ∧ 48 ≤ x0.toInt)) from by omega), (show 0 ≤ (0 : Int32).toInt ∧ (0 : Int32).toInt ≤ 1 from ⟨by omega, by omega⟩), trivial⟩
    · have l_1 := il_1
      exact wq_s ⟨(show ((1 : Int32).toInt = 0 ∨ ((1 : Int32).toInt = 1 ∧ 48 ≤ x0.toInt)) from by omega), (show 0 ≤ (1 : Int32).toInt ∧ (1 : Int32).toInt ≤ 1 from ⟨by omega, by omega⟩), trivial⟩
theorem FR.rf (I : Nat → Int32) : FR I I := fun _ _ _ _ _ _ _ _ => rfl
theorem FR.tr {I J K : Nat → Int32} (h : FR I J) (g : FR J K) : FR I K := fun k a b c d e f m => (g k a b c d e f m).trans (h k a b c d e f m)
theorem FR.up {I J : Nat → Int32} (h : FR I J) {j : Nat} {v : Int32} (hj : j = 4 ∨ j = 5 ∨ j = 7 ∨ j = 8 ∨ j = 9 ∨ j = 10 ∨ j = 11) : FR I (upd J j v) := by
  intro k a b c d e f m
  unfold upd
  rw [if_neg (by omega)]
  exact h k a b c d e f m
/-- what a step does: rows stay, of the ints only those of the text move, no fault; the end, or a byte on -/
def SP (I : Nat → Int32) (M : Nat → Nat → Int32) (r : (Nat → Int32) × Int64 × (Nat → Nat → Int32)) : Prop := r.2.2 = M ∧ FR I r.1 ∧ r.1 4 = I 4 ∧ r.1 5 = I 5 ∧ KX12 r.1 M ∧ (I 7).toInt ≤ (r.1 7).toInt ∧ ((r.1 8).toInt = 0 ∨ (I 7).toInt < (r.1 7).toInt)
theorem tt_st279 (N : Nat) (I0 I : Nat → Int32) (L : Int64) (M : Nat → Nat → Int32) (k : KX12 I M) (hf : FR I0 I) (h4 : I 4 = I0 4) (h5 : I 5 = I0 5) (hp : (I0 7).toInt ≤ (I 7).toInt ∧ ((I 8).toInt = 0 ∨ (I0 7).toInt < (I 7).toInt)) : wq (fX12_steps_J279 N I L M) (SP I0 M) := by
  unfold fX12_steps_J279
  refine wq_v (fun J e => ?_)
  rw [e]
  exact wq_s ⟨rfl, hf.up (by omega), h4, h5, KX12.si10 k, hp.1, hp.2⟩
theorem tt_st182 {N : Nat} (hN : 3000000000 ≤ N) (I0 : Nat → Int32) (M : Nat → Nat → Int32) : ∀ (fu : Nat) (I : Nat → Int32) (L : Int64), KX12 I M → FR I0 I → I 4 = I0 4 → I 5 = I0 5 → (I0 7).toInt < (I 7).toInt → 600 - (I 7).toInt < (fu : Int) → wq (fX12_steps_L182 N fu I L M) (SP I0 M) := by
  intro fu
  induction fu with
  | zero => intro I L k hf h4 h5 hp hm; have := k.i7; exfalso; omega
  | succ fu ih =>
    intro I L k hf h4 h5 hp hm
    rw [fX12_steps_L182.eq_2]
    have h7 := k.i7
    have h6 := k.i6
    have l_0 := il_0
    have l_1 := il_1
    refine wq_b (tt_fX12_byteAt hN I L M (I 7) h7 k) (fun r10 h10 => ?_)
    obtain ⟨h10, -⟩ := h10
    refine wq_b (tt_fX12_isDigit hN r10) (fun r11 h11 => ?_)
    obtain ⟨h11, -, -⟩ := h11
    refine wq_eq (fun hc => ?_) (fun hc => ?_)
    · refine wq_v (fun J e => ?_)
      subst e
      exact tt_st279 N I0 _ L M (KX12.si8 k) (hf.up (by omega)) h4 h5 ⟨by show _ ≤ (I 7).toInt; omega, Or.inr hp⟩
    · have ta := ia_add (I 7) (1 : Int32) (by omega) (by omega)
      have hgo : ∀ (J : Nat → Int32) (L2 : Int64), KX12 J M → FR I0 J → J 4 = I0 4 → J 5 = I0 5 → J 7 = I 7 → wq (fX12_steps_L182 N fu (upd J 7 (I 7 + 1)) L2 M) (SP I0 M) := by
        intro J L2 kJ fJ j4 j5 j7
        refine ih _ L2 (KX12.si7 kJ ⟨by omega, by omega⟩) (fJ.up (by omega)) j4 j5 ?_ ?_
        · show (I0 7).toInt < (I 7 + 1).toInt
          omega
        · show 600 - (I 7 + 1).toInt < _
          omega
      refine wq_le (fun hc2 => ?_) (fun hc2 => ?_)
      · refine wq_v (fun J e => ?_)
        subst e
        exact hgo I L k hf h4 h5 rfl
      · refine wq_b (tt_fX12_byteAt hN I L M (I 7) h7 k) (fun r14 h14 => ?_)
        refine wq_v (fun J e => ?_)
        refine wq_v (fun J2 e2 => ?_)
        have q7 : J 7 = I 7 := by rw [e]; rfl
        rw [q7] at e2
        subst e2
        refine hgo J L ?_ ?_ ?_ ?_ q7
        · rw [e]; exact KX12.si11 k
        · rw [e]; exact hf.up (by omega)
        · rw [e]; exact h4
        · rw [e]; exact h5
theorem tt_st103 {N : Nat} (hN : 3000000000 ≤ N) (I0 : Nat → Int32) (M : Nat → Nat → Int32) : ∀ (fu : Nat) (I : Nat → Int32) (L : Int64), KX12 I M → FR I0 I → I 4 = I0 4 → I 5 = I0 5 → (I0 7).toInt < (I 7).toInt → 600 - (I 7).toInt < (fu : Int) → wq (fX12_steps_L103 N fu I L M) (SP I0 M) := by
  intro fu
  induction fu with
  | zero => intro I L k hf h4 h5 hp hm; have := k.i7; exfalso; omega
  | succ fu ih =>
    intro I L k hf h4 h5 hp hm
    rw [fX12_steps_L103.eq_2]
    have h7 := k.i7
    have h6 := k.i6
    have l_0 := il_0
    have l_1 := il_1
    refine wq_b (tt_fX12_byteAt hN I L M (I 7) h7 k) (fun r10 h10 => ?_)
    obtain ⟨h10, -⟩ := h10
    refine wq_b (tt_fX12_isLetter hN r10) (fun r11 h11 => ?_)
    obtain ⟨h11, -, -⟩ := h11
    refine wq_eq (fun hc => ?_) (fun hc => ?_)
    · refine wq_v (fun J e => ?_)
      subst e
      exact tt_st279 N I0 _ L M (KX12.si8 k) (hf.up (by omega)) h4 h5 ⟨by show _ ≤ (I 7).toInt; omega, Or.inr hp⟩
    · have ta := ia_add (I 7) (1 : Int32) (by omega) (by omega)
      have hgo : ∀ (J : Nat → Int32) (L2 : Int64), KX12 J M → FR I0 J → J 4 = I0 4 → J 5 = I0 5 → J 7 = I 7 → wq (fX12_steps_L103 N fu (upd J 7 (I 7 + 1)) L2 M) (SP I0 M) := by
        intro J L2 kJ fJ j4 j5 j7
        refine ih _ L2 (KX12.si7 kJ ⟨by omega, by omega⟩) (fJ.up (by omega)) j4 j5 ?_ ?_
        · show (I0 7).toInt < (I 7 + 1).toInt
          omega
        · show 600 - (I 7 + 1).toInt < _
          omega
      refine wq_le (fun hc2 => ?_) (fun hc2 => ?_)
      · refine wq_v (fun J e => ?_)
        subst e
        exact hgo I L k hf h4 h5 rfl
      · refine wq_b (tt_fX12_byteAt hN I L M (I 7) h7 k) (fun r14 h14 => ?_)
        refine wq_v (fun L2 eL => ?_)
        refine wq_v (fun J e => ?_)
        subst e
        exact hgo I L2 k hf h4 h5 rfl
theorem tt_st50 {N : Nat} (hN : 3000000000 ≤ N) (I0 I : Nat → Int32) (L : Int64) (M : Nat → Nat → Int32) (k : KX12 I M) (hf : FR I0 I) (h4 : I 4 = I0 4) (h5 : I 5 = I0 5) (hp : (I0 7).toInt ≤ (I 7).toInt) : wq (fX12_steps_J50 N I L M) (SP I0 M) := by
  unfold fX12_steps_J50
  refine wq_v (fun I3 e3 => ?_)
  refine wq_v (fun L4 e4 => ?_)
  refine wq_v (fun I5 e5 => ?_)
  have k5 : KX12 I5 M := by rw [e5, e3]; exact KX12.si11 (KX12.si9 k)
  have f5 : FR I0 I5 := by rw [e5, e3]; exact (hf.up (by omega)).up (by omega)
  have g4 : I5 4 = I0 4 := by rw [e5, e3]; exact h4
  have g5 : I5 5 = I0 5 := by rw [e5, e3]; exact h5
  have g7 : I5 7 = I 7 := by rw [e5, e3]; rfl
  rw [← g7] at hp
  clear e5 e3
  have h7 := k5.i7
  have h6 := k5.i6
  have l_0 := il_0
  have l_1 := il_1
  obtain ⟨r6, e6, -⟩ := tt_fX12_byteAt hN I5 L4 M (I5 7) h7 k5
  rw [e6, Option.bind_some]
  refine wq_lt (fun hc => ?_) (fun hc => ?_)
  · obtain ⟨r7, e7, -⟩ := tt_fX12_isLetter hN r6
    rw [e7, Option.bind_some]
    refine wq_eq (fun hc1 => ?_) (fun hc1 => ?_)
    · obtain ⟨r8, e8, -⟩ := tt_fX12_isDigit hN r6
      rw [e8, Option.bind_some]
      refine wq_eq (fun hc2 => ?_) (fun hc2 => ?_)
      · have ta := ia_add (I5 7) (1 : Int32) (by omega) (by omega)
        refine wq_v (fun I9 e9 => ?_)
        subst e9
        have k9 : KX12 (upd I5 7 (I5 7 + 1)) M := KX12.si7 k5 ⟨by omega, by omega⟩
        have hz : ∀ z : Int32, wq (fX12_steps_J276 N (upd I5 7 (I5 7 + 1)) L4 M z) (SP I0 M) := by
          intro z
          unfold fX12_steps_J276
          refine wq_v (fun J e => ?_)
          subst e
          refine tt_st279 N I0 _ L4 M (KX12.si8 k9) ((f5.up (by omega)).up (by omega)) g4 g5 ⟨?_, Or.inr ?_⟩
          · show _ ≤ (I5 7 + 1).toInt
            omega
          · show _ < (I5 7 + 1).toInt
            omega
        exact wq_i (fun _ => hz _) (fun _ => hz _)
      · have hq : wq (fX12_steps_L182 N N I5 L4 M) (SP I0 M) := by
          obtain ⟨n, rfl⟩ : ∃ n, N = n + 1 := ⟨N - 1, by omega⟩
          rw [fX12_steps_L182.eq_2, e6, Option.bind_some, e8, Option.bind_some]
          have ta := ia_add (I5 7) (1 : Int32) (by omega) (by omega)
          have hgo : ∀ (J : Nat → Int32) (L2 : Int64), KX12 J M → FR I0 J → J 4 = I0 4 → J 5 = I0 5 → J 7 = I5 7 → wq (fX12_steps_L182 (n + 1) n (upd J 7 (I5 7 + 1)) L2 M) (SP I0 M) := by
            intro J L2 kJ fJ j4 j5 j7
            refine tt_st182 hN I0 M n _ L2 (KX12.si7 kJ ⟨by omega, by omega⟩) (fJ.up (by omega)) j4 j5 ?_ ?_
            · show (I0 7).toInt < (I5 7 + 1).toInt
              omega
            · show 600 - (I5 7 + 1).toInt < _
              omega
          refine wq_eq (fun hx => absurd hx hc2) (fun _ => ?_)
          refine wq_le (fun hc2 => ?_) (fun hc2 => ?_)
          · refine wq_v (fun J e => ?_)
            subst e
            exact hgo I5 L4 k5 f5 g4 g5 rfl
          · rw [Option.bind_some]
            refine wq_v (fun J e => ?_)
            refine wq_v (fun J2 e2 => ?_)
            have q7 : J 7 = I5 7 := by rw [e]; rfl
            rw [q7] at e2
            subst e2
            refine hgo J L4 ?_ ?_ ?_ ?_ q7
            · rw [e]; exact KX12.si11 k5
            · rw [e]; exact f5.up (by omega)
            · rw [e]; exact g4
            · rw [e]; exact g5
        exact hq
    · have hq : wq (fX12_steps_L103 N N I5 L4 M) (SP I0 M) := by
        obtain ⟨n, rfl⟩ : ∃ n, N = n + 1 := ⟨N - 1, by omega⟩
        rw [fX12_steps_L103.eq_2, e6, Option.bind_some, e7, Option.bind_some]
        have ta := ia_add (I5 7) (1 : Int32) (by omega) (by omega)
        have hgo : ∀ (J : Nat → Int32) (L2 : Int64), KX12 J M → FR I0 J → J 4 = I0 4 → J 5 = I0 5 → J 7 = I5 7 → wq (fX12_steps_L103 (n + 1) n (upd J 7 (I5 7 + 1)) L2 M) (SP I0 M) := by
          intro J L2 kJ fJ j4 j5 j7
          refine tt_st103 hN I0 M n _ L2 (KX12.si7 kJ ⟨by omega, by omega⟩) (fJ.up (by omega)) j4 j5 ?_ ?_
          · show (I0 7).toInt < (I5 7 + 1).toInt
            omega
          · show 600 - (I5 7 + 1).toInt < _
            omega
        refine wq_eq (fun hx => absurd hx hc1) (fun _ => ?_)
        refine wq_le (fun hc2 => ?_) (fun hc2 => ?_)
        · refine wq_v (fun J e => ?_)
          subst e
          exact hgo I5 L4 k5 f5 g4 g5 rfl
        · rw [Option.bind_some]
          refine wq_v (fun L2 eL => ?_)
          refine wq_v (fun J e => ?_)
          subst e
          exact hgo I5 L2 k5 f5 g4 g5 rfl
      exact hq
  · refine wq_v (fun J e => ?_)
    subst e
    exact tt_st279 N I0 _ L4 M (KX12.si8 k5) (f5.up (by omega)) g4 g5 ⟨hp, Or.inl il_0⟩
theorem tt_st0 {N : Nat} (hN : 3000000000 ≤ N) (I0 : Nat → Int32) (M : Nat → Nat → Int32) : ∀ (fu : Nat) (I : Nat → Int32) (L : Int64), KX12 I M → FR I0 I → I 4 = I0 4 → I 5 = I0 5 → (I0 7).toInt ≤ (I 7).toInt → 600 - (I 7).toInt < (fu : Int) → wq (fX12_steps_L0 N fu I L M) (SP I0 M) := by
  intro fu
  induction fu with
  | zero => intro I L k hf h4 h5 hp hm; have := k.i7; exfalso; omega
  | succ fu ih =>
    intro I L k hf h4 h5 hp hm
    rw [fX12_steps_L0.eq_2]
    have h7 := k.i7
    have h6 := k.i6
    have l_0 := il_0
    have l_1 := il_1
    refine wq_le (fun hc => ?_) (fun hc => ?_)
    · exact tt_st50 hN I0 I L M k hf h4 h5 hp
    · have ta := ia_add (I 7) (1 : Int32) (by omega) (by omega)
      have hn : wq (fX12_steps_L0 N fu (upd I 7 (I 7 + 1)) L M) (SP I0 M) := by
        refine ih _ L (KX12.si7 k ⟨by omega, by omega⟩) (hf.up (by omega)) h4 h5 ?_ ?_
        · show _ ≤ (I 7 + 1).toInt
          omega
        · show 600 - (I 7 + 1).toInt < _
          omega
      refine wq_b (tt_fX12_byteAt hN I L M (I 7) h7 k) (fun r25 h25 => ?_)
      refine wq_i (fun _ => ?_) (fun _ => ?_)
      · exact wq_v (fun J e => by subst e; exact hn)
      · refine wq_b (tt_fX12_byteAt hN I L M (I 7) h7 k) (fun r27 h27 => ?_)
        refine wq_i (fun _ => ?_) (fun _ => ?_)
        · exact wq_v (fun J e => by subst e; exact hn)
        · exact tt_st50 hN I0 I L M k hf h4 h5 hp
theorem tt_steps {N : Nat} (hN : 3000000000 ≤ N) (I : Nat → Int32) (L : Int64) (M : Nat → Nat → Int32) (k : KX12 I M) : wq (fX12_steps N I L M) (SP I M) := by
  unfold fX12_steps
  have h7 := k.i7
  exact tt_st0 hN I M N I L k (FR.rf I) rfl rfl (by omega) (by omega)
theorem tt_fX12_steps {N : Nat} (hN : 3000000000 ≤ N) (I0 : Nat → Int32) (L0 : Int64) (M0 : Nat → Nat → Int32) (k_I0 : KX12 I0 M0) : wq (fX12_steps N I0 L0 M0) (fun r => KX12 r.1 r.2.2 ∧ True) := wq_w (tt_steps hN I0 L0 M0 k_I0) (fun r h => by rw [h.1]; exact ⟨h.2.2.2.2.1, trivial⟩)
set_option maxHeartbeats 4000000 in
theorem tt_fX12_spelled {N : Nat} (hN : 3000000000 ≤ N) (x0 : Int32) (x1 : Int32) (x2 : Int32) (x3 : Int32) (x4 : Int32) (x5 : Int32) (x6 : Int32)  : wq (fX12_spelled N x0 x1 x2 x3 x4 x5 x6) (fun r => True) := by
  unfold fX12_spelled
  refine wq_v (fun v6_q23748 h_v6_q23748 => ?_)
  have b_23749 := i32b x1
  have l_0 := il_0
  refine wq_eq (fun hc_23750 => ?_) (fun hc_23751 => ?_)
  · unfold fX12_spelled_J23
    have b_23752 := i32b x2
    refine wq_eq (fun hc_23753 => ?_) (fun hc_23754 => ?_)
    · unfold fX12_spelled_J39
      have b_23755 := i32b x3
      refine wq_eq (fun hc_23756 => ?_) (fun hc_23757 => ?_)
      · unfold fX12_spelled_J55
        have b_23758 := i32b x4
        refine wq_eq (fun hc_23759 => ?_) (fun hc_23760 => ?_)
        · unfold fX12_spelled_J73
          have b_23761 := i32b x5
          refine wq_eq (fun hc_23762 => ?_) (fun hc_23763 => ?_)
          · unfold fX12_spelled_J91
            have b_23764 := i32b x6
            refine wq_eq (fun hc_23765 => ?_) (fun hc_23766 => ?_)
            · exact wq_s trivial
            · refine wq_v (fun v1_q23767 h_v1_q23767 => ?_)
              exact wq_s trivial
          · refine wq_v (fun v2_q23768 h_v2_q23768 => ?_)
            unfold fX12_spelled_J91
            have b_23769 := i32b x6
            refine wq_eq (fun hc_23770 => ?_) (fun hc_23771 => ?_)
            · exact wq_s trivial
            · refine wq_v (fun v1_q23772 h_v1_q23772 => ?_)
              exact wq_s trivial
        · refine wq_v (fun v3_q23773 h_v3_q23773 => ?_)
          unfold fX12_spelled_J73
          have b_23774 := i32b x5
          refine wq_eq (fun hc_23775 => ?_) (fun hc_23776 => ?_)
          · unfold fX12_spelled_J91
            have b_23777 := i32b x6
            refine wq_eq (fun hc_23778 => ?_) (fun hc_23779 => ?_)
            · exact wq_s trivial
            · refine wq_v (fun v1_q23780 h_v1_q23780 => ?_)
              exact wq_s trivial
          · refine wq_v (fun v2_q23781 h_v2_q23781 => ?_)
            unfold fX12_spelled_J91
            have b_23782 := i32b x6
            refine wq_eq (fun hc_23783 => ?_) (fun hc_23784 => ?_)
            · exact wq_s trivial
            · refine wq_v (fun v1_q23785 h_v1_q23785 => ?_)
              exact wq_s trivial
      · refine wq_v (fun v4_q23786 h_v4_q23786 => ?_)
        unfold fX12_spelled_J55
        have b_23787 := i32b x4
        refine wq_eq (fun hc_23788 => ?_) (fun hc_23789 => ?_)
        · unfold fX12_spelled_J73
          have b_23790 := i32b x5
          refine wq_eq (fun hc_23791 => ?_) (fun hc_23792 => ?_)
          · unfold fX12_spelled_J91
            have b_23793 := i32b x6
            refine wq_eq (fun hc_23794 => ?_) (fun hc_23795 => ?_)
            · exact wq_s trivial
            · refine wq_v (fun v1_q23796 h_v1_q23796 => ?_)
              exact wq_s trivial
          · refine wq_v (fun v2_q23797 h_v2_q23797 => ?_)
            unfold fX12_spelled_J91
            have b_23798 := i32b x6
            refine wq_eq (fun hc_23799 => ?_) (fun hc_23800 => ?_)
            · exact wq_s trivial
            · refine wq_v (fun v1_q23801 h_v1_q23801 => ?_)
              exact wq_s trivial
        · refine wq_v (fun v3_q23802 h_v3_q23802 => ?_)
          unfold fX12_spelled_J73
          have b_23803 := i32b x5
          refine wq_eq (fun hc_23804 => ?_) (fun hc_23805 => ?_)
          · unfold fX12_spelled_J91
            have b_23806 := i32b x6
            refine wq_eq (fun hc_23807 => ?_) (fun hc_23808 => ?_)
            · exact wq_s trivial
            · refine wq_v (fun v1_q23809 h_v1_q23809 => ?_)
              exact wq_s trivial
          · refine wq_v (fun v2_q23810 h_v2_q23810 => ?_)
            unfold fX12_spelled_J91
            have b_23811 := i32b x6
            refine wq_eq (fun hc_23812 => ?_) (fun hc_23813 => ?_)
            · exact wq_s trivial
            · refine wq_v (fun v1_q23814 h_v1_q23814 => ?_)
              exact wq_s trivial
    · refine wq_v (fun v5_q23815 h_v5_q23815 => ?_)
      unfold fX12_spelled_J39
      have b_23816 := i32b x3
      refine wq_eq (fun hc_23817 => ?_) (fun hc_23818 => ?_)
      · unfold fX12_spelled_J55
        have b_23819 := i32b x4
        refine wq_eq (fun hc_23820 => ?_) (fun hc_23821 => ?_)
        · unfold fX12_spelled_J73
          have b_23822 := i32b x5
          refine wq_eq (fun hc_23823 => ?_) (fun hc_23824 => ?_)
          · unfold fX12_spelled_J91
            have b_23825 := i32b x6
            refine wq_eq (fun hc_23826 => ?_) (fun hc_23827 => ?_)
            · exact wq_s trivial
            · refine wq_v (fun v1_q23828 h_v1_q23828 => ?_)
              exact wq_s trivial
          · refine wq_v (fun v2_q23829 h_v2_q23829 => ?_)
            unfold fX12_spelled_J91
            have b_23830 := i32b x6
            refine wq_eq (fun hc_23831 => ?_) (fun hc_23832 => ?_)
            · exact wq_s trivial
            · refine wq_v (fun v1_q23833 h_v1_q23833 => ?_)
              exact wq_s trivial
        · refine wq_v (fun v3_q23834 h_v3_q23834 => ?_)
          unfold fX12_spelled_J73
          have b_23835 := i32b x5
          refine wq_eq (fun hc_23836 => ?_) (fun hc_23837 => ?_)
          · unfold fX12_spelled_J91
            have b_23838 := i32b x6
            refine wq_eq (fun hc_23839 => ?_) (fun hc_23840 => ?_)
            · exact wq_s trivial
            · refine wq_v (fun v1_q23841 h_v1_q23841 => ?_)
              exact wq_s trivial
          · refine wq_v (fun v2_q23842 h_v2_q23842 => ?_)
            unfold fX12_spelled_J91
            have b_23843 := i32b x6
            refine wq_eq (fun hc_23844 => ?_) (fun hc_23845 => ?_)
            · exact wq_s trivial
            · refine wq_v (fun v1_q23846 h_v1_q23846 => ?_)
              exact wq_s trivial
      · refine wq_v (fun v4_q23847 h_v4_q23847 => ?_)
        unfold fX12_spelled_J55
        have b_23848 := i32b x4
        refine wq_eq (fun hc_23849 => ?_) (fun hc_23850 => ?_)
        · unfold fX12_spelled_J73
          have b_23851 := i32b x5
          refine wq_eq (fun hc_23852 => ?_) (fun hc_23853 => ?_)
          · unfold fX12_spelled_J91
            have b_23854 := i32b x6
            refine wq_eq (fun hc_23855 => ?_) (fun hc_23856 => ?_)
            · exact wq_s trivial
            · refine wq_v (fun v1_q23857 h_v1_q23857 => ?_)
              exact wq_s trivial
          · refine wq_v (fun v2_q23858 h_v2_q23858 => ?_)
            unfold fX12_spelled_J91
            have b_23859 := i32b x6
            refine wq_eq (fun hc_23860 => ?_) (fun hc_23861 => ?_)
            · exact wq_s trivial
            · refine wq_v (fun v1_q23862 h_v1_q23862 => ?_)
              exact wq_s trivial
        · refine wq_v (fun v3_q23863 h_v3_q23863 => ?_)
          unfold fX12_spelled_J73
          have b_23864 := i32b x5
          refine wq_eq (fun hc_23865 => ?_) (fun hc_23866 => ?_)
          · unfold fX12_spelled_J91
            have b_23867 := i32b x6
            refine wq_eq (fun hc_23868 => ?_) (fun hc_23869 => ?_)
            · exact wq_s trivial
            · refine wq_v (fun v1_q23870 h_v1_q23870 => ?_)
              exact wq_s trivial
          · refine wq_v (fun v2_q23871 h_v2_q23871 => ?_)
            unfold fX12_spelled_J91
            have b_23872 := i32b x6
            refine wq_eq (fun hc_23873 => ?_) (fun hc_23874 => ?_)
            · exact wq_s trivial
            · refine wq_v (fun v1_q23875 h_v1_q23875 => ?_)
              exact wq_s trivial
  · refine wq_v (fun v7_q23876 h_v7_q23876 => ?_)
    unfold fX12_spelled_J23
    have b_23877 := i32b x2
    refine wq_eq (fun hc_23878 => ?_) (fun hc_23879 => ?_)
    · unfold fX12_spelled_J39
      have b_23880 := i32b x3
      refine wq_eq (fun hc_23881 => ?_) (fun hc_23882 => ?_)
      · unfold fX12_spelled_J55
        have b_23883 := i32b x4
        refine wq_eq (fun hc_23884 => ?_) (fun hc_23885 => ?_)
        · unfold fX12_spelled_J73
          have b_23886 := i32b x5
          refine wq_eq (fun hc_23887 => ?_) (fun hc_23888 => ?_)
          · unfold fX12_spelled_J91
            have b_23889 := i32b x6
            refine wq_eq (fun hc_23890 => ?_) (fun hc_23891 => ?_)
            · exact wq_s trivial
            · refine wq_v (fun v1_q23892 h_v1_q23892 => ?_)
              exact wq_s trivial
          · refine wq_v (fun v2_q23893 h_v2_q23893 => ?_)
            unfold fX12_spelled_J91
            have b_23894 := i32b x6
            refine wq_eq (fun hc_23895 => ?_) (fun hc_23896 => ?_)
            · exact wq_s trivial
            · refine wq_v (fun v1_q23897 h_v1_q23897 => ?_)
              exact wq_s trivial
        · refine wq_v (fun v3_q23898 h_v3_q23898 => ?_)
          unfold fX12_spelled_J73
          have b_23899 := i32b x5
          refine wq_eq (fun hc_23900 => ?_) (fun hc_23901 => ?_)
          · unfold fX12_spelled_J91
            have b_23902 := i32b x6
            refine wq_eq (fun hc_23903 => ?_) (fun hc_23904 => ?_)
            · exact wq_s trivial
            · refine wq_v (fun v1_q23905 h_v1_q23905 => ?_)
              exact wq_s trivial
          · refine wq_v (fun v2_q23906 h_v2_q23906 => ?_)
            unfold fX12_spelled_J91
            have b_23907 := i32b x6
            refine wq_eq (fun hc_23908 => ?_) (fun hc_23909 => ?_)
            · exact wq_s trivial
            · refine wq_v (fun v1_q23910 h_v1_q23910 => ?_)
              exact wq_s trivial
      · refine wq_v (fun v4_q23911 h_v4_q23911 => ?_)
        unfold fX12_spelled_J55
        have b_23912 := i32b x4
        refine wq_eq (fun hc_23913 => ?_) (fun hc_23914 => ?_)
        · unfold fX12_spelled_J73
          have b_23915 := i32b x5
          refine wq_eq (fun hc_23916 => ?_) (fun hc_23917 => ?_)
          · unfold fX12_spelled_J91
            have b_23918 := i32b x6
            refine wq_eq (fun hc_23919 => ?_) (fun hc_23920 => ?_)
            · exact wq_s trivial
            · refine wq_v (fun v1_q23921 h_v1_q23921 => ?_)
              exact wq_s trivial
          · refine wq_v (fun v2_q23922 h_v2_q23922 => ?_)
            unfold fX12_spelled_J91
            have b_23923 := i32b x6
            refine wq_eq (fun hc_23924 => ?_) (fun hc_23925 => ?_)
            · exact wq_s trivial
            · refine wq_v (fun v1_q23926 h_v1_q23926 => ?_)
              exact wq_s trivial
        · refine wq_v (fun v3_q23927 h_v3_q23927 => ?_)
          unfold fX12_spelled_J73
          have b_23928 := i32b x5
          refine wq_eq (fun hc_23929 => ?_) (fun hc_23930 => ?_)
          · unfold fX12_spelled_J91
            have b_23931 := i32b x6
            refine wq_eq (fun hc_23932 => ?_) (fun hc_23933 => ?_)
            · exact wq_s trivial
            · refine wq_v (fun v1_q23934 h_v1_q23934 => ?_)
              exact wq_s trivial
          · refine wq_v (fun v2_q23935 h_v2_q23935 => ?_)
            unfold fX12_spelled_J91
            have b_23936 := i32b x6
            refine wq_eq (fun hc_23937 => ?_) (fun hc_23938 => ?_)
            · exact wq_s trivial
            · refine wq_v (fun v1_q23939 h_v1_q23939 => ?_)
              exact wq_s trivial
    · refine wq_v (fun v5_q23940 h_v5_q23940 => ?_)
      unfold fX12_spelled_J39
      have b_23941 := i32b x3
      refine wq_eq (fun hc_23942 => ?_) (fun hc_23943 => ?_)
      · unfold fX12_spelled_J55
        have b_23944 := i32b x4
        refine wq_eq (fun hc_23945 => ?_) (fun hc_23946 => ?_)
        · unfold fX12_spelled_J73
          have b_23947 := i32b x5
          refine wq_eq (fun hc_23948 => ?_) (fun hc_23949 => ?_)
          · unfold fX12_spelled_J91
            have b_23950 := i32b x6
            refine wq_eq (fun hc_23951 => ?_) (fun hc_23952 => ?_)
            · exact wq_s trivial
            · refine wq_v (fun v1_q23953 h_v1_q23953 => ?_)
              exact wq_s trivial
          · refine wq_v (fun v2_q23954 h_v2_q23954 => ?_)
            unfold fX12_spelled_J91
            have b_23955 := i32b x6
            refine wq_eq (fun hc_23956 => ?_) (fun hc_23957 => ?_)
            · exact wq_s trivial
            · refine wq_v (fun v1_q23958 h_v1_q23958 => ?_)
              exact wq_s trivial
        · refine wq_v (fun v3_q23959 h_v3_q23959 => ?_)
          unfold fX12_spelled_J73
          have b_23960 := i32b x5
          refine wq_eq (fun hc_23961 => ?_) (fun hc_23962 => ?_)
          · unfold fX12_spelled_J91
            have b_23963 := i32b x6
            refine wq_eq (fun hc_23964 => ?_) (fun hc_23965 => ?_)
            · exact wq_s trivial
            · refine wq_v (fun v1_q23966 h_v1_q23966 => ?_)
              exact wq_s trivial
          · refine wq_v (fun v2_q23967 h_v2_q23967 => ?_)
            unfold fX12_spelled_J91
            have b_23968 := i32b x6
            refine wq_eq (fun hc_23969 => ?_) (fun hc_23970 => ?_)
            · exact wq_s trivial
            · refine wq_v (fun v1_q23971 h_v1_q23971 => ?_)
              exact wq_s trivial
      · refine wq_v (fun v4_q23972 h_v4_q23972 => ?_)
        unfold fX12_spelled_J55
        have b_23973 := i32b x4
        refine wq_eq (fun hc_23974 => ?_) (fun hc_23975 => ?_)
        · unfold fX12_spelled_J73
          have b_23976 := i32b x5
          refine wq_eq (fun hc_23977 => ?_) (fun hc_23978 => ?_)
          · unfold fX12_spelled_J91
            have b_23979 := i32b x6
            refine wq_eq (fun hc_23980 => ?_) (fun hc_23981 => ?_)
            · exact wq_s trivial
            · refine wq_v (fun v1_q23982 h_v1_q23982 => ?_)
              exact wq_s trivial
          · refine wq_v (fun v2_q23983 h_v2_q23983 => ?_)
            unfold fX12_spelled_J91
            have b_23984 := i32b x6
            refine wq_eq (fun hc_23985 => ?_) (fun hc_23986 => ?_)
            · exact wq_s trivial
            · refine wq_v (fun v1_q23987 h_v1_q23987 => ?_)
              exact wq_s trivial
        · refine wq_v (fun v3_q23988 h_v3_q23988 => ?_)
          unfold fX12_spelled_J73
          have b_23989 := i32b x5
          refine wq_eq (fun hc_23990 => ?_) (fun hc_23991 => ?_)
          · unfold fX12_spelled_J91
            have b_23992 := i32b x6
            refine wq_eq (fun hc_23993 => ?_) (fun hc_23994 => ?_)
            · exact wq_s trivial
            · refine wq_v (fun v1_q23995 h_v1_q23995 => ?_)
              exact wq_s trivial
          · refine wq_v (fun v2_q23996 h_v2_q23996 => ?_)
            unfold fX12_spelled_J91
            have b_23997 := i32b x6
            refine wq_eq (fun hc_23998 => ?_) (fun hc_23999 => ?_)
            · exact wq_s trivial
            · refine wq_v (fun v1_q24000 h_v1_q24000 => ?_)
              exact wq_s trivial
set_option maxHeartbeats 4000000 in
theorem tt_fX12_letters {N : Nat} (hN : 3000000000 ≤ N) (x0 : Int32)  : wq (fX12_letters N x0) (fun r => True) := by
  unfold fX12_letters
  have b_24281 := i32b x0
  have l_0 := il_0
  refine wq_eq (fun hc_24282 => ?_) (fun hc_24283 => ?_)
  · have l_115 := il_115
    have l_117 := il_117
    have l_110 := il_110
    refine wq_b (tt_fX12_spelled hN (115 : Int32) (117 : Int32) (110 : Int32) (0 : Int32) (0 : Int32) (0 : Int32) (0 : Int32)) (fun r1_q24284 h_r1_q24284 => ?_)
    obtain ⟨-⟩ := h_r1_q24284
    exact wq_s trivial
  · have l_1 := il_1
    refine wq_eq (fun hc_24285 => ?_) (fun hc_24286 => ?_)
    · have l_109 := il_109
      have l_111 := il_111
      have l_110 := il_110
      refine wq_b (tt_fX12_spelled hN (109 : Int32) (111 : Int32) (111 : Int32) (110 : Int32) (0 : Int32) (0 : Int32) (0 : Int32)) (fun r2_q24287 h_r2_q24287 => ?_)
      obtain ⟨-⟩ := h_r2_q24287
      exact wq_s trivial
    · have l_2 := il_2
      refine wq_eq (fun hc_24288 => ?_) (fun hc_24289 => ?_)
      · have l_109 := il_109
        have l_101 := il_101
        have l_114 := il_114
        have l_99 := il_99
        have l_117 := il_117
        have l_121 := il_121
        refine wq_b (tt_fX12_spelled hN (109 : Int32) (101 : Int32) (114 : Int32) (99 : Int32) (117 : Int32) (114 : Int32) (121 : Int32)) (fun r3_q24290 h_r3_q24290 => ?_)
        obtain ⟨-⟩ := h_r3_q24290
        exact wq_s trivial
      · have l_3 := il_3
        refine wq_eq (fun hc_24291 => ?_) (fun hc_24292 => ?_)
        · have l_118 := il_118
          have l_101 := il_101
          have l_110 := il_110
          have l_117 := il_117
          have l_115 := il_115
          refine wq_b (tt_fX12_spelled hN (118 : Int32) (101 : Int32) (110 : Int32) (117 : Int32) (115 : Int32) (0 : Int32) (0 : Int32)) (fun r4_q24293 h_r4_q24293 => ?_)
          obtain ⟨-⟩ := h_r4_q24293
          exact wq_s trivial
        · have l_4 := il_4
          refine wq_eq (fun hc_24294 => ?_) (fun hc_24295 => ?_)
          · have l_109 := il_109
            have l_97 := il_97
            have l_114 := il_114
            have l_115 := il_115
            refine wq_b (tt_fX12_spelled hN (109 : Int32) (97 : Int32) (114 : Int32) (115 : Int32) (0 : Int32) (0 : Int32) (0 : Int32)) (fun r5_q24296 h_r5_q24296 => ?_)
            obtain ⟨-⟩ := h_r5_q24296
            exact wq_s trivial
          · have l_5 := il_5
            refine wq_eq (fun hc_24297 => ?_) (fun hc_24298 => ?_)
            · have l_106 := il_106
              have l_117 := il_117
              have l_112 := il_112
              have l_105 := il_105
              have l_116 := il_116
              have l_101 := il_101
              have l_114 := il_114
              refine wq_b (tt_fX12_spelled hN (106 : Int32) (117 : Int32) (112 : Int32) (105 : Int32) (116 : Int32) (101 : Int32) (114 : Int32)) (fun r6_q24299 h_r6_q24299 => ?_)
              obtain ⟨-⟩ := h_r6_q24299
              exact wq_s trivial
            · have l_6 := il_6
              refine wq_eq (fun hc_24300 => ?_) (fun hc_24301 => ?_)
              · have l_115 := il_115
                have l_97 := il_97
                have l_116 := il_116
                have l_117 := il_117
                have l_114 := il_114
                have l_110 := il_110
                refine wq_b (tt_fX12_spelled hN (115 : Int32) (97 : Int32) (116 : Int32) (117 : Int32) (114 : Int32) (110 : Int32) (0 : Int32)) (fun r7_q24302 h_r7_q24302 => ?_)
                obtain ⟨-⟩ := h_r7_q24302
                exact wq_s trivial
              · have l_7 := il_7
                refine wq_eq (fun hc_24303 => ?_) (fun hc_24304 => ?_)
                · have l_114 := il_114
                  have l_105 := il_105
                  have l_115 := il_115
                  have l_101 := il_101
                  refine wq_b (tt_fX12_spelled hN (114 : Int32) (105 : Int32) (115 : Int32) (101 : Int32) (0 : Int32) (0 : Int32) (0 : Int32)) (fun r8_q24305 h_r8_q24305 => ?_)
                  obtain ⟨-⟩ := h_r8_q24305
                  exact wq_s trivial
                · have l_8 := il_8
                  refine wq_eq (fun hc_24306 => ?_) (fun hc_24307 => ?_)
                  · have l_108 := il_108
                    have l_111 := il_111
                    have l_116 := il_116
                    refine wq_b (tt_fX12_spelled hN (108 : Int32) (111 : Int32) (116 : Int32) (0 : Int32) (0 : Int32) (0 : Int32) (0 : Int32)) (fun r9b_q24308 h_r9b_q24308 => ?_)
                    obtain ⟨-⟩ := h_r9b_q24308
                    exact wq_s trivial
                  · have l_9 := il_9
                    refine wq_eq (fun hc_24309 => ?_) (fun hc_24310 => ?_)
                    · have l_104 := il_104
                      have l_111 := il_111
                      have l_117 := il_117
                      have l_115 := il_115
                      have l_101 := il_101
                      refine wq_b (tt_fX12_spelled hN (104 : Int32) (111 : Int32) (117 : Int32) (115 : Int32) (101 : Int32) (0 : Int32) (0 : Int32)) (fun r10_q24311 h_r10_q24311 => ?_)
                      obtain ⟨-⟩ := h_r10_q24311
                      exact wq_s trivial
                    · have l_10 := il_10
                      refine wq_eq (fun hc_24312 => ?_) (fun hc_24313 => ?_)
                      · have l_100 := il_100
                        have l_97 := il_97
                        have l_116 := il_116
                        have l_101 := il_101
                        refine wq_b (tt_fX12_spelled hN (100 : Int32) (97 : Int32) (116 : Int32) (101 : Int32) (0 : Int32) (0 : Int32) (0 : Int32)) (fun r11_q24314 h_r11_q24314 => ?_)
                        obtain ⟨-⟩ := h_r11_q24314
                        exact wq_s trivial
                      · have l_11 := il_11
                        refine wq_eq (fun hc_24315 => ?_) (fun hc_24316 => ?_)
                        · have l_115 := il_115
                          have l_101 := il_101
                          have l_116 := il_116
                          refine wq_b (tt_fX12_spelled hN (115 : Int32) (101 : Int32) (116 : Int32) (0 : Int32) (0 : Int32) (0 : Int32) (0 : Int32)) (fun r12_q24317 h_r12_q24317 => ?_)
                          obtain ⟨-⟩ := h_r12_q24317
                          exact wq_s trivial
                        · have l_12 := il_12
                          refine wq_eq (fun hc_24318 => ?_) (fun hc_24319 => ?_)
                          · have l_97 := il_97
                            have l_116 := il_116
                            refine wq_b (tt_fX12_spelled hN (97 : Int32) (116 : Int32) (0 : Int32) (0 : Int32) (0 : Int32) (0 : Int32) (0 : Int32)) (fun r13_q24320 h_r13_q24320 => ?_)
                            obtain ⟨-⟩ := h_r13_q24320
                            exact wq_s trivial
                          · have l_13 := il_13
                            refine wq_eq (fun hc_24321 => ?_) (fun hc_24322 => ?_)
                            · have l_103 := il_103
                              have l_111 := il_111
                              have l_101 := il_101
                              have l_115 := il_115
                              refine wq_b (tt_fX12_spelled hN (103 : Int32) (111 : Int32) (101 : Int32) (115 : Int32) (0 : Int32) (0 : Int32) (0 : Int32)) (fun r14_q24323 h_r14_q24323 => ?_)
                              obtain ⟨-⟩ := h_r14_q24323
                              exact wq_s trivial
                            · have l_14 := il_14
                              refine wq_eq (fun hc_24324 => ?_) (fun hc_24325 => ?_)
                              · have l_115 := il_115
                                have l_119 := il_119
                                have l_105 := il_105
                                have l_110 := il_110
                                have l_103 := il_103
                                refine wq_b (tt_fX12_spelled hN (115 : Int32) (119 : Int32) (105 : Int32) (110 : Int32) (103 : Int32) (0 : Int32) (0 : Int32)) (fun r15_q24326 h_r15_q24326 => ?_)
                                obtain ⟨-⟩ := h_r15_q24326
                                exact wq_s trivial
                              · have l_15 := il_15
                                refine wq_eq (fun hc_24327 => ?_) (fun hc_24328 => ?_)
                                · have l_105 := il_105
                                  have l_110 := il_110
                                  refine wq_b (tt_fX12_spelled hN (105 : Int32) (110 : Int32) (0 : Int32) (0 : Int32) (0 : Int32) (0 : Int32) (0 : Int32)) (fun r16_q24329 h_r16_q24329 => ?_)
                                  obtain ⟨-⟩ := h_r16_q24329
                                  exact wq_s trivial
                                · have l_16 := il_16
                                  refine wq_eq (fun hc_24330 => ?_) (fun hc_24331 => ?_)
                                  · have l_99 := il_99
                                    have l_108 := il_108
                                    have l_105 := il_105
                                    have l_109 := il_109
                                    have l_97 := il_97
                                    have l_116 := il_116
                                    have l_101 := il_101
                                    refine wq_b (tt_fX12_spelled hN (99 : Int32) (108 : Int32) (105 : Int32) (109 : Int32) (97 : Int32) (116 : Int32) (101 : Int32)) (fun r17_q24332 h_r17_q24332 => ?_)
                                    obtain ⟨-⟩ := h_r17_q24332
                                    exact wq_s trivial
                                  · have l_17 := il_17
                                    refine wq_eq (fun hc_24333 => ?_) (fun hc_24334 => ?_)
                                    · have l_104 := il_104
                                      have l_97 := il_97
                                      have l_110 := il_110
                                      have l_100 := il_100
                                      refine wq_b (tt_fX12_spelled hN (104 : Int32) (97 : Int32) (110 : Int32) (100 : Int32) (0 : Int32) (0 : Int32) (0 : Int32)) (fun r18_q24335 h_r18_q24335 => ?_)
                                      obtain ⟨-⟩ := h_r18_q24335
                                      exact wq_s trivial
                                    · have l_102 := il_102
                                      have l_111 := il_111
                                      have l_114 := il_114
                                      refine wq_b (tt_fX12_spelled hN (102 : Int32) (111 : Int32) (114 : Int32) (0 : Int32) (0 : Int32) (0 : Int32) (0 : Int32)) (fun r19_q24336 h_r19_q24336 => ?_)
                                      obtain ⟨-⟩ := h_r19_q24336
                                      exact wq_s trivial
set_option maxHeartbeats 4000000 in
theorem tt_fX12_knownWord_L21 {N : Nat} (hN : 3000000000 ≤ N) (I0 : Nat → Int32) (L0 : Int64) (M0 : Nat → Nat → Int32) (k_I0 : KX12 I0 M0)  : ∀ (fu : Nat) (y21_1 : Int32), (0 ≤ y21_1.toInt ∧ y21_1.toInt ≤ 19) → (19 - y21_1.toInt) < (fu : Int) → wq (fX12_knownWord_L21 N I0 L0 M0 fu y21_1) (fun r => (-1 ≤ r.toInt ∧ r.toInt ≤ 18) ∧ True) := by
  intro fu
  induction fu with
  | zero => intro y21_1 h_y21_1 hm; exfalso; omega
  | succ fu ih =>
    intro y21_1 h_y21_1 hm
    rw [fX12_knownWord_L21.eq_2]
    have l_19 := il_19
    refine wq_le (fun hc_24480 => ?_) (fun hc_24481 => ?_)
    · have l_m1 := il_m1
      exact wq_s ⟨(show -1 ≤ (-1 : Int32).toInt ∧ (-1 : Int32).toInt ≤ 18 from ⟨by omega, by omega⟩), trivial⟩
    · refine wq_b (tt_fX12_letters hN y21_1) (fun r1_q24482 h_r1_q24482 => ?_)
      obtain ⟨-⟩ := h_r1_q24482
      have l_0 := il_0
      refine wq_eq (fun hc_24483 => ?_) (fun hc_24484 => ?_)
      · exact wq_s ⟨(show -1 ≤ y21_1.toInt ∧ y21_1.toInt ≤ 18 from ⟨by omega, by omega⟩), trivial⟩
      · have l_1 := il_1
        have t_24486 := ia_add y21_1 (1 : Int32) (by omega) (by omega)
        refine wq_v (fun v2_q24485 h_v2_q24485 => ?_)
        have t_v2_q24485 := congrArg Int32.toInt h_v2_q24485
        exact ih v2_q24485 ⟨by omega, by omega⟩ (by omega)
set_option maxHeartbeats 4000000 in
theorem tt_fX12_knownWord {N : Nat} (hN : 3000000000 ≤ N) (I0 : Nat → Int32) (L0 : Int64) (M0 : Nat → Nat → Int32) (k_I0 : KX12 I0 M0) : wq (fX12_knownWord N I0 L0 M0) (fun r => (-1 ≤ r.toInt ∧ r.toInt ≤ 18) ∧ True) := by
  unfold fX12_knownWord
  have l_1 := il_1
  refine wq_eq (fun hc_24487 => ?_) (fun hc_24488 => ?_)
  · have l_7 := il_7
    refine wq_le (fun hc_24489 => ?_) (fun hc_24490 => ?_)
    · have l_0 := il_0
      exact tt_fX12_knownWord_L21 hN I0 L0 M0 k_I0 N (0 : Int32) ⟨by omega, by omega⟩ (by omega)
    · have l_m1 := il_m1
      exact wq_s ⟨(show -1 ≤ (-1 : Int32).toInt ∧ (-1 : Int32).toInt ≤ 18 from ⟨by omega, by omega⟩), trivial⟩
  · have l_m1 := il_m1
    exact wq_s ⟨(show -1 ≤ (-1 : Int32).toInt ∧ (-1 : Int32).toInt ≤ 18 from ⟨by omega, by omega⟩), trivial⟩
/-- a call that reads: rows stay, only the text's ints move, a fault stays -/
def NP (I : Nat → Int32) (M : Nat → Nat → Int32) (r : (Nat → Int32) × Int64 × (Nat → Nat → Int32)) : Prop := r.2.2 = M ∧ FR I r.1 ∧ KX12 r.1 M ∧ ((I 4).toInt = 0 ∨ (r.1 4).toInt ≠ 0) ∧ (I 7).toInt ≤ (r.1 7).toInt
theorem NP.of {I : Nat → Int32} {M : Nat → Nat → Int32} {r : (Nat → Int32) × Int64 × (Nat → Nat → Int32)} (h : SP I M r) : NP I M r := ⟨h.1, h.2.1, h.2.2.2.2.1, by rw [h.2.2.1]; omega, h.2.2.2.2.2.1⟩
theorem NP.tr {I : Nat → Int32} {M : Nat → Nat → Int32} {r q : (Nat → Int32) × Int64 × (Nat → Nat → Int32)} (h : NP I M r) (g : NP r.1 M q) : NP I M q := ⟨g.1, h.2.1.tr g.2.1, g.2.2.1, by have a := h.2.2.2.1; have b := g.2.2.2.1; omega, by have a := h.2.2.2.2; have b := g.2.2.2.2; omega⟩
theorem NP.rf {I : Nat → Int32} {L : Int64} {M : Nat → Nat → Int32} (k : KX12 I M) : NP I M (I, L, M) := ⟨rfl, FR.rf I, k, by show _ ∨ (I 4).toInt ≠ 0; omega, Int.le_refl _⟩

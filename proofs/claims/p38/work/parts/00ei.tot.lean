set_option maxHeartbeats 4000000 in
theorem tt_fX11_order {N : Nat} (hN : 3000000000 ≤ N) (I0 : Nat → Int32) (M0 : Nat → Nat → Int32) (x1 : Int32) (x2 : Int32) (x3 : Int32) (k_I0 : KX11 I0 M0) : wq (fX11_order N I0 M0 x1 x2 x3) (qS 1 (fun r => KX11 r.2.1 r.2.2 ∧ True)) := by
  unfold fX11_order
  have b_21166 := i32b x1
  refine wq_b (tt_fX11_isBook hN x1) (fun r8_q21167 h_r8_q21167 => ?_)
  obtain ⟨h_r8_q21167_0, h_r8_q21167_1, -⟩ := h_r8_q21167
  have l_0 := il_0
  refine wq_eq (fun hc_21168 => ?_) (fun hc_21169 => ?_)
  · unfold fX11_order_J27
    unfold fX11_order_J28
    exact wq_xb (tt_fX11_need0 N) (by decide) (fun _ h => absurd h id)
  · have b_21171 := i32b x2
    refine wq_b (tt_fX11_isBook hN x2) (fun r9b_q21172 h_r9b_q21172 => ?_)
    obtain ⟨h_r9b_q21172_0, h_r9b_q21172_1, -⟩ := h_r9b_q21172
    refine wq_eq (fun hc_21173 => ?_) (fun hc_21174 => ?_)
    · unfold fX11_order_J27
      unfold fX11_order_J28
      exact wq_xb (tt_fX11_need0 N) (by decide) (fun _ h => absurd h id)
    · have b_21176 := i32b x3
      have l_1 := il_1
      refine wq_b (tt_fX11_within hN x3 (0 : Int32) (1 : Int32)) (fun r10_q21177 h_r10_q21177 => ?_)
      obtain ⟨h_r10_q21177_0, h_r10_q21177_1, -⟩ := h_r10_q21177
      refine wq_eq (fun hc_21178 => ?_) (fun hc_21179 => ?_)
      · unfold fX11_order_J27
        unfold fX11_order_J28
        exact wq_xb (tt_fX11_need0 N) (by decide) (fun _ h => absurd h id)
      · unfold fX11_order_J28
        refine wq_xb (tt_fX11_need hN (1 : Int32)) (by decide) (fun r1_q21181 h_r1_q21181 => ?_)
        obtain ⟨h_r1_q21181_0, -⟩ := h_r1_q21181
        refine wq_ok ?_
        refine wq_eq (fun hc_21182 => ?_) (fun hc_21183 => ?_)
        · refine wq_b (tt_fX6_howManyInOrder hN (wb_sh I0 43) (wb_sh M0 23) x1 x2 ⟨by omega, by omega⟩ ⟨by omega, by omega⟩ (KX11.s_X6_43_23 k_I0)) (fun r5_q21184 h_r5_q21184 => ?_)
          obtain ⟨h_r5_q21184_0, h_r5_q21184_1, -⟩ := h_r5_q21184
          refine wq_v (fun I0_6_q21185 h_I0_6_q21185 => ?_)
          refine wq_v (fun M0_7_q21186 h_M0_7_q21186 => ?_)
          have k_M0_7_q21186 : KX11 I0_6_q21185 M0_7_q21186 := by rw [h_I0_6_q21185, h_M0_7_q21186]; exact KX11.p_X6_43_23 k_I0 h_r5_q21184_1
          have b_21187 := i32b r5_q21184.1
          exact wq_s ⟨k_M0_7_q21186, trivial⟩
        · refine wq_b (tt_fX6_howManyTurned hN (wb_sh I0 43) (wb_sh M0 23) x1 x2 ⟨by omega, by omega⟩ ⟨by omega, by omega⟩ (KX11.s_X6_43_23 k_I0)) (fun r2_q21188 h_r2_q21188 => ?_)
          obtain ⟨h_r2_q21188_0, -⟩ := h_r2_q21188
          refine wq_v (fun I0_3_q21189 h_I0_3_q21189 => ?_)
          refine wq_v (fun M0_4_q21190 h_M0_4_q21190 => ?_)
          have k_M0_4_q21190 : KX11 I0_3_q21189 M0_4_q21190 := by rw [h_I0_3_q21189, h_M0_4_q21190]; exact KX11.p_X6_43_23 k_I0 h_r2_q21188_0
          have b_21191 := i32b r2_q21188.1
          exact wq_s ⟨k_M0_4_q21190, trivial⟩
set_option maxHeartbeats 4000000 in
theorem tt_fX11_isNumber {N : Nat} (hN : 3000000000 ≤ N) (x0 : Int32)  : wq (fX11_isNumber N x0) (fun r => (r.toInt = 0 ∨ (r.toInt = 1 ∧ 0 ≤ x0.toInt ∧ x0.toInt ≤ 119)) ∧ (0 ≤ r.toInt ∧ r.toInt ≤ 1) ∧ True) := by
  unfold fX11_isNumber
  have b_21204 := i32b x0
  have l_0 := il_0
  have l_119 := il_119
  refine wq_b (tt_fX11_within hN x0 (0 : Int32) (119 : Int32)) (fun r1_q21205 h_r1_q21205 => ?_)
  obtain ⟨h_r1_q21205_0, h_r1_q21205_1, -⟩ := h_r1_q21205
  refine wq_bz (by omega) ?_
  exact wq_s ⟨(show (r1_q21205.toInt = 0 ∨ (r1_q21205.toInt = 1 ∧ 0 ≤ x0.toInt ∧ x0.toInt ≤ 119)) from by omega), (show 0 ≤ r1_q21205.toInt ∧ r1_q21205.toInt ≤ 1 from ⟨by omega, by omega⟩), trivial⟩
set_option maxHeartbeats 4000000 in
theorem tt_fX11_same {N : Nat} (hN : 3000000000 ≤ N) (I0 : Nat → Int32) (M0 : Nat → Nat → Int32) (x1 : Int32) (x2 : Int32) (x3 : Int32) (k_I0 : KX11 I0 M0) : wq (fX11_same N I0 M0 x1 x2 x3) (qS 1 (fun r => (0 ≤ r.toInt ∧ r.toInt ≤ 1) ∧ True)) := by
  unfold fX11_same
  have b_21308 := i32b x1
  refine wq_b (tt_fX11_isNumber hN x1) (fun r3_q21309 h_r3_q21309 => ?_)
  obtain ⟨h_r3_q21309_0, h_r3_q21309_1, -⟩ := h_r3_q21309
  have l_0 := il_0
  refine wq_eq (fun hc_21310 => ?_) (fun hc_21311 => ?_)
  · unfold fX11_same_J28
    unfold fX11_same_J29
    exact wq_xb (tt_fX11_need0 N) (by decide) (fun _ h => absurd h id)
  · have b_21313 := i32b x2
    refine wq_b (tt_fX11_isNumber hN x2) (fun r4_q21314 h_r4_q21314 => ?_)
    obtain ⟨h_r4_q21314_0, h_r4_q21314_1, -⟩ := h_r4_q21314
    refine wq_eq (fun hc_21315 => ?_) (fun hc_21316 => ?_)
    · unfold fX11_same_J28
      unfold fX11_same_J29
      exact wq_xb (tt_fX11_need0 N) (by decide) (fun _ h => absurd h id)
    · have b_21318 := i32b x3
      have l_1 := il_1
      have l_7 := il_7
      refine wq_b (tt_fX11_within hN x3 (1 : Int32) (7 : Int32)) (fun r5_q21319 h_r5_q21319 => ?_)
      obtain ⟨h_r5_q21319_0, h_r5_q21319_1, -⟩ := h_r5_q21319
      refine wq_eq (fun hc_21320 => ?_) (fun hc_21321 => ?_)
      · unfold fX11_same_J28
        unfold fX11_same_J29
        exact wq_xb (tt_fX11_need0 N) (by decide) (fun _ h => absurd h id)
      · unfold fX11_same_J29
        refine wq_xb (tt_fX11_need hN (1 : Int32)) (by decide) (fun r1_q21323 h_r1_q21323 => ?_)
        obtain ⟨h_r1_q21323_0, -⟩ := h_r1_q21323
        refine wq_ok ?_
        refine wq_b (tt_fX0_areOne hN (wb_sh I0 10) (wb_sh M0 6) (wb_sh I0 13) (wb_sh M0 13) x1 x2 x3 ⟨by omega, by omega⟩ ⟨by omega, by omega⟩ (KX11.s_X1_13_13 k_I0)) (fun r2_q21324 h_r2_q21324 => ?_)
        obtain ⟨h_r2_q21324_0, -⟩ := h_r2_q21324
        refine wq_bz (by omega) ?_
        exact wq_s ⟨(show 0 ≤ r2_q21324.toInt ∧ r2_q21324.toInt ≤ 1 from ⟨by omega, by omega⟩), trivial⟩
set_option maxHeartbeats 4000000 in
theorem tt_fX11_births {N : Nat} (hN : 3000000000 ≤ N) (I0 : Nat → Int32) (M0 : Nat → Nat → Int32) (x1 : Int32) (x2 : Int32) (k_I0 : KX11 I0 M0) : wq (fX11_births N I0 M0 x1 x2) (qS 1 (fun r => KX11 r.2.1 r.2.2 ∧ True)) := by
  unfold fX11_births
  have b_21523 := i32b x1
  have l_m1 := il_m1
  refine wq_eq (fun hc_21524 => ?_) (fun hc_21525 => ?_)
  · unfold fX11_births_J12
    have b_21526 := i32b x2
    have l_1 := il_1
    have l_7 := il_7
    refine wq_b (tt_fX11_within hN x2 (1 : Int32) (7 : Int32)) (fun r7_q21527 h_r7_q21527 => ?_)
    obtain ⟨h_r7_q21527_0, h_r7_q21527_1, -⟩ := h_r7_q21527
    have l_0 := il_0
    refine wq_eq (fun hc_21528 => ?_) (fun hc_21529 => ?_)
    · unfold fX11_births_J26
      unfold fX11_births_J27
      exact wq_xb (tt_fX11_need0 N) (by decide) (fun _ h => absurd h id)
    · unfold fX11_births_J27
      refine wq_xb (tt_fX11_need hN (1 : Int32)) (by decide) (fun r1_q21531 h_r1_q21531 => ?_)
      obtain ⟨h_r1_q21531_0, -⟩ := h_r1_q21531
      refine wq_ok ?_
      refine wq_b (tt_fX0_partBy hN (wb_sh I0 43) (wb_sh M0 27) (wb_sh I0 10) (wb_sh M0 6) (wb_sh I0 13) (wb_sh M0 13) x2 (KX11.s_X1_13_13 k_I0)) (fun r2_q21532 h_r2_q21532 => ?_)
      obtain ⟨-⟩ := h_r2_q21532
      refine wq_v (fun I0_3_q21533 h_I0_3_q21533 => ?_)
      refine wq_v (fun M0_4_q21534 h_M0_4_q21534 => ?_)
      have k_M0_4_q21534 : KX11 I0_3_q21533 M0_4_q21534 := by rw [h_I0_3_q21533, h_M0_4_q21534]; exact KX11.p_X0_43_27 k_I0
      refine wq_eq (fun hc_21535 => ?_) (fun hc_21536 => ?_)
      · refine wq_b (tt_fX0_howManyParts hN (wb_sh I0_3_q21533 43) (wb_sh M0_4_q21534 27) (wb_sh I0_3_q21533 13) (wb_sh M0_4_q21534 13) (KX11.s_X1_13_13 k_M0_4_q21534)) (fun r6_q21537 h_r6_q21537 => ?_)
        obtain ⟨-⟩ := h_r6_q21537
        have b_21538 := i32b r6_q21537
        exact wq_s ⟨k_M0_4_q21534, trivial⟩
      · exfalso; omega
  · refine wq_b (tt_fX11_isNumber hN x1) (fun r8_q21539 h_r8_q21539 => ?_)
    obtain ⟨h_r8_q21539_0, h_r8_q21539_1, -⟩ := h_r8_q21539
    have l_0 := il_0
    refine wq_eq (fun hc_21540 => ?_) (fun hc_21541 => ?_)
    · unfold fX11_births_J26
      unfold fX11_births_J27
      exact wq_xb (tt_fX11_need0 N) (by decide) (fun _ h => absurd h id)
    · unfold fX11_births_J12
      have b_21543 := i32b x2
      have l_1 := il_1
      have l_7 := il_7
      refine wq_b (tt_fX11_within hN x2 (1 : Int32) (7 : Int32)) (fun r7_q21544 h_r7_q21544 => ?_)
      obtain ⟨h_r7_q21544_0, h_r7_q21544_1, -⟩ := h_r7_q21544
      refine wq_eq (fun hc_21545 => ?_) (fun hc_21546 => ?_)
      · unfold fX11_births_J26
        unfold fX11_births_J27
        exact wq_xb (tt_fX11_need0 N) (by decide) (fun _ h => absurd h id)
      · unfold fX11_births_J27
        refine wq_xb (tt_fX11_need hN (1 : Int32)) (by decide) (fun r1_q21548 h_r1_q21548 => ?_)
        obtain ⟨h_r1_q21548_0, -⟩ := h_r1_q21548
        refine wq_ok ?_
        refine wq_b (tt_fX0_partBy hN (wb_sh I0 43) (wb_sh M0 27) (wb_sh I0 10) (wb_sh M0 6) (wb_sh I0 13) (wb_sh M0 13) x2 (KX11.s_X1_13_13 k_I0)) (fun r2_q21549 h_r2_q21549 => ?_)
        obtain ⟨-⟩ := h_r2_q21549
        refine wq_v (fun I0_3_q21550 h_I0_3_q21550 => ?_)
        refine wq_v (fun M0_4_q21551 h_M0_4_q21551 => ?_)
        have k_M0_4_q21551 : KX11 I0_3_q21550 M0_4_q21551 := by rw [h_I0_3_q21550, h_M0_4_q21551]; exact KX11.p_X0_43_27 k_I0
        refine wq_eq (fun hc_21552 => ?_) (fun hc_21553 => ?_)
        · exfalso; omega
        · refine wq_b (tt_fX0_leastOf hN (wb_sh I0_3_q21550 43) (wb_sh M0_4_q21551 27) x1 ⟨by omega, by omega⟩) (fun r5_q21554 h_r5_q21554 => ?_)
          obtain ⟨-⟩ := h_r5_q21554
          have b_21555 := i32b r5_q21554
          exact wq_s ⟨k_M0_4_q21551, trivial⟩
set_option maxHeartbeats 4000000 in
theorem tt_fX11_tree {N : Nat} (hN : 3000000000 ≤ N) (I0 : Nat → Int32) (M0 : Nat → Nat → Int32) (k_I0 : KX11 I0 M0) : wq (fX11_tree N I0 M0) (fun r => KX11 r.2.1 r.2.2 ∧ True) := by sorry
set_option maxHeartbeats 4000000 in
theorem tt_fX11_whence {N : Nat} (hN : 3000000000 ≤ N) (I0 : Nat → Int32) (M0 : Nat → Nat → Int32) (x1 : Int32) (k_I0 : KX11 I0 M0) : wq (fX11_whence N I0 M0 x1) (qS 1 (fun r => (-2 ≤ r.toInt ∧ r.toInt ≤ 5) ∧ True)) := by
  unfold fX11_whence
  have b_21646 := i32b x1
  refine wq_b (tt_fX11_isBook hN x1) (fun r1_q21647 h_r1_q21647 => ?_)
  obtain ⟨h_r1_q21647_0, h_r1_q21647_1, -⟩ := h_r1_q21647
  have l_0 := il_0
  refine wq_eq (fun hc_21648 => ?_) (fun hc_21649 => ?_)
  · exact wq_xb (tt_fX11_need0 N) (by decide) (fun _ h => absurd h id)
  · have t_21651 := KX11.i42 k_I0
    refine wq_eq (fun hc_21652 => ?_) (fun hc_21653 => ?_)
    · exact wq_xb (tt_fX11_need0 N) (by decide) (fun _ h => absurd h id)
    · refine wq_b (tt_fX10_holds hN (wb_sh I0 41) (wb_sh M0 20) x1 ⟨by omega, by omega⟩ (KX11.s_X10_41_20 k_I0)) (fun r6_q21655 h_r6_q21655 => ?_)
      obtain ⟨h_r6_q21655_0, -⟩ := h_r6_q21655
      refine wq_eq (fun hc_21656 => ?_) (fun hc_21657 => ?_)
      · exact wq_xb (tt_fX11_need0 N) (by decide) (fun _ h => absurd h id)
      · have l_1 := il_1
        refine wq_xb (tt_fX11_need hN (1 : Int32)) (by decide) (fun r9b_q21659 h_r9b_q21659 => ?_)
        obtain ⟨h_r9b_q21659_0, -⟩ := h_r9b_q21659
        refine wq_ok ?_
        refine wq_b (tt_fX10_parentOf hN (wb_sh I0 41) (wb_sh M0 20) x1 ⟨by omega, by omega⟩ (KX11.s_X10_41_20 k_I0)) (fun r10_q21660 h_r10_q21660 => ?_)
        obtain ⟨h_r10_q21660_0, -⟩ := h_r10_q21660
        exact wq_s ⟨(show -2 ≤ r10_q21660.toInt ∧ r10_q21660.toInt ≤ 5 from ⟨by omega, by omega⟩), trivial⟩
set_option maxHeartbeats 4000000 in
theorem tt_fX11_life {N : Nat} (hN : 3000000000 ≤ N) (I0 : Nat → Int32) (M0 : Nat → Nat → Int32) (x1 : Int32) (x2 : Int32) (x3 : Int32) (k_I0 : KX11 I0 M0) : wq (fX11_life N I0 M0 x1 x2 x3) (qS 1 (fun r => (0 ≤ r.1.toInt ∧ r.1.toInt ≤ 1) ∧ KX11 r.2.1 r.2.2 ∧ True)) := by
  unfold fX11_life
  have b_21745 := i32b x1
  have l_0 := il_0
  have l_19 := il_19
  refine wq_b (tt_fX11_within hN x1 (0 : Int32) (19 : Int32)) (fun r1_q21746 h_r1_q21746 => ?_)
  obtain ⟨h_r1_q21746_0, h_r1_q21746_1, -⟩ := h_r1_q21746
  refine wq_xb (tt_fX11_need hN r1_q21746) (by decide) (fun r2_q21747 h_r2_q21747 => ?_)
  obtain ⟨h_r2_q21747_0, -⟩ := h_r2_q21747
  refine wq_ok ?_
  have b_21748 := i32b x2
  have l_120 := il_120
  refine wq_b (tt_fX11_within hN x2 (0 : Int32) (120 : Int32)) (fun r3_q21749 h_r3_q21749 => ?_)
  obtain ⟨h_r3_q21749_0, h_r3_q21749_1, -⟩ := h_r3_q21749
  refine wq_eq (fun hc_21750 => ?_) (fun hc_21751 => ?_)
  · exact wq_s ⟨(show 0 ≤ (0 : Int32).toInt ∧ (0 : Int32).toInt ≤ 1 from ⟨by omega, by omega⟩), k_I0, trivial⟩
  · have b_21752 := i32b x3
    refine wq_b (tt_fX11_within hN x3 (0 : Int32) (120 : Int32)) (fun r4_q21753 h_r4_q21753 => ?_)
    obtain ⟨h_r4_q21753_0, h_r4_q21753_1, -⟩ := h_r4_q21753
    refine wq_eq (fun hc_21754 => ?_) (fun hc_21755 => ?_)
    · exact wq_s ⟨(show 0 ≤ (0 : Int32).toInt ∧ (0 : Int32).toInt ≤ 1 from ⟨by omega, by omega⟩), k_I0, trivial⟩
    · refine wq_b (tt_fX7_tellLife hN (wb_sh I0 43) (wb_sh M0 28) x1 x2 x3 ⟨by omega, by omega⟩ (KX11.s_X7_43_28 k_I0)) (fun r5_q21756 h_r5_q21756 => ?_)
      obtain ⟨h_r5_q21756_0, -⟩ := h_r5_q21756
      refine wq_v (fun I0_6_q21757 h_I0_6_q21757 => ?_)
      refine wq_v (fun M0_7_q21758 h_M0_7_q21758 => ?_)
      have k_M0_7_q21758 : KX11 I0_6_q21757 M0_7_q21758 := by rw [h_I0_6_q21757, h_M0_7_q21758]; exact KX11.p_X7_43_28 k_I0 h_r5_q21756_0
      have l_1 := il_1
      exact wq_s ⟨(show 0 ≤ (1 : Int32).toInt ∧ (1 : Int32).toInt ≤ 1 from ⟨by omega, by omega⟩), k_M0_7_q21758, trivial⟩
set_option maxHeartbeats 4000000 in
theorem tt_fX11_fate {N : Nat} (hN : 3000000000 ≤ N) (I0 : Nat → Int32) (M0 : Nat → Nat → Int32) (x1 : Int32) (x2 : Int32) (k_I0 : KX11 I0 M0) : wq (fX11_fate N I0 M0 x1 x2) (qS 1 (fun r => (0 ≤ r.1.toInt ∧ r.1.toInt ≤ 1) ∧ KX11 r.2.1 r.2.2 ∧ True)) := by
  unfold fX11_fate
  have b_21819 := i32b x1
  have l_0 := il_0
  have l_19 := il_19
  refine wq_b (tt_fX11_within hN x1 (0 : Int32) (19 : Int32)) (fun r1_q21820 h_r1_q21820 => ?_)
  obtain ⟨h_r1_q21820_0, h_r1_q21820_1, -⟩ := h_r1_q21820
  refine wq_xb (tt_fX11_need hN r1_q21820) (by decide) (fun r2_q21821 h_r2_q21821 => ?_)
  obtain ⟨h_r2_q21821_0, -⟩ := h_r2_q21821
  refine wq_ok ?_
  have b_21822 := i32b x2
  have l_1 := il_1
  have l_12 := il_12
  refine wq_b (tt_fX11_within hN x2 (1 : Int32) (12 : Int32)) (fun r3_q21823 h_r3_q21823 => ?_)
  obtain ⟨h_r3_q21823_0, h_r3_q21823_1, -⟩ := h_r3_q21823
  refine wq_eq (fun hc_21824 => ?_) (fun hc_21825 => ?_)
  · exact wq_s ⟨(show 0 ≤ (0 : Int32).toInt ∧ (0 : Int32).toInt ≤ 1 from ⟨by omega, by omega⟩), k_I0, trivial⟩
  · refine wq_b (tt_fX7_tellFate hN (wb_sh I0 43) (wb_sh M0 28) x1 x2 ⟨by omega, by omega⟩ (KX11.s_X7_43_28 k_I0)) (fun r4_q21826 h_r4_q21826 => ?_)
    obtain ⟨h_r4_q21826_0, -⟩ := h_r4_q21826
    refine wq_v (fun I0_5_q21827 h_I0_5_q21827 => ?_)
    refine wq_v (fun M0_6_q21828 h_M0_6_q21828 => ?_)
    have k_M0_6_q21828 : KX11 I0_5_q21827 M0_6_q21828 := by rw [h_I0_5_q21827, h_M0_6_q21828]; exact KX11.p_X7_43_28 k_I0 h_r4_q21826_0
    exact wq_s ⟨(show 0 ≤ (1 : Int32).toInt ∧ (1 : Int32).toInt ≤ 1 from ⟨by omega, by omega⟩), k_M0_6_q21828, trivial⟩
set_option maxHeartbeats 4000000 in
theorem tt_fX11_fates {N : Nat} (hN : 3000000000 ≤ N) (I0 : Nat → Int32) (M0 : Nat → Nat → Int32) (x1 : Int32) (k_I0 : KX11 I0 M0) : wq (fX11_fates N I0 M0 x1) (qS 1 (fun r => KX11 r.2.1 r.2.2 ∧ True)) := by
  unfold fX11_fates
  have b_21901 := i32b x1
  have l_0 := il_0
  have l_1 := il_1
  refine wq_b (tt_fX11_within hN x1 (0 : Int32) (1 : Int32)) (fun r1_q21902 h_r1_q21902 => ?_)
  obtain ⟨h_r1_q21902_0, h_r1_q21902_1, -⟩ := h_r1_q21902
  refine wq_xb (tt_fX11_need hN r1_q21902) (by decide) (fun r2_q21903 h_r2_q21903 => ?_)
  obtain ⟨h_r2_q21903_0, -⟩ := h_r2_q21903
  refine wq_ok ?_
  refine wq_eq (fun hc_21904 => ?_) (fun hc_21905 => ?_)
  · refine wq_b (tt_fX7_howManyToldByLot hN (wb_sh I0 43) (wb_sh M0 28) (wb_sh I0 13) (wb_sh M0 13) (KX11.s_X7_43_28 k_I0) (KX11.s_X1_13_13 k_I0)) (fun r6_q21906 h_r6_q21906 => ?_)
    obtain ⟨h_r6_q21906_0, h_r6_q21906_1, -⟩ := h_r6_q21906
    refine wq_v (fun I0_7_q21907 h_I0_7_q21907 => ?_)
    refine wq_v (fun M0_8_q21908 h_M0_8_q21908 => ?_)
    have k_M0_8_q21908 : KX11 I0_7_q21907 M0_8_q21908 := by rw [h_I0_7_q21907, h_M0_8_q21908]; exact KX11.p_X7_43_28 k_I0 h_r6_q21906_1
    exact wq_s ⟨k_M0_8_q21908, trivial⟩
  · refine wq_b (tt_fX7_chanceOfFates hN (wb_sh I0 43) (wb_sh M0 28) (wb_sh I0 13) (wb_sh M0 13) (KX11.s_X7_43_28 k_I0) (KX11.s_X1_13_13 k_I0)) (fun r3_q21909 h_r3_q21909 => ?_)
    obtain ⟨h_r3_q21909_0, -⟩ := h_r3_q21909
    refine wq_v (fun I0_4_q21910 h_I0_4_q21910 => ?_)
    refine wq_v (fun M0_5_q21911 h_M0_5_q21911 => ?_)
    have k_M0_5_q21911 : KX11 I0_4_q21910 M0_5_q21911 := by rw [h_I0_4_q21910, h_M0_5_q21911]; exact KX11.p_X7_43_28 k_I0 h_r3_q21909_0
    have b_21912 := i32b r3_q21909.1
    exact wq_s ⟨k_M0_5_q21911, trivial⟩
set_option maxHeartbeats 4000000 in
theorem tt_fX11_hits {N : Nat} (hN : 3000000000 ≤ N) (I0 : Nat → Int32) (M0 : Nat → Nat → Int32) (x1 : Int32) (x2 : Int32) (k_I0 : KX11 I0 M0) : wq (fX11_hits N I0 M0 x1 x2) (qS 1 (fun r => KX11 r.2.1 r.2.2 ∧ True)) := by
  unfold fX11_hits
  have b_22033 := i32b x1
  have l_0 := il_0
  have l_1 := il_1
  refine wq_b (tt_fX11_within hN x1 (0 : Int32) (1 : Int32)) (fun r8_q22034 h_r8_q22034 => ?_)
  obtain ⟨h_r8_q22034_0, h_r8_q22034_1, -⟩ := h_r8_q22034
  refine wq_eq (fun hc_22035 => ?_) (fun hc_22036 => ?_)
  · unfold fX11_hits_J23
    unfold fX11_hits_J24
    exact wq_xb (tt_fX11_need0 N) (by decide) (fun _ h => absurd h id)
  · have b_22038 := i32b x2
    have l_120 := il_120
    refine wq_b (tt_fX11_within hN x2 (0 : Int32) (120 : Int32)) (fun r9b_q22039 h_r9b_q22039 => ?_)
    obtain ⟨h_r9b_q22039_0, h_r9b_q22039_1, -⟩ := h_r9b_q22039
    refine wq_eq (fun hc_22040 => ?_) (fun hc_22041 => ?_)
    · unfold fX11_hits_J23
      unfold fX11_hits_J24
      exact wq_xb (tt_fX11_need0 N) (by decide) (fun _ h => absurd h id)
    · unfold fX11_hits_J24
      refine wq_xb (tt_fX11_need hN (1 : Int32)) (by decide) (fun r1_q22043 h_r1_q22043 => ?_)
      obtain ⟨h_r1_q22043_0, -⟩ := h_r1_q22043
      refine wq_ok ?_
      refine wq_eq (fun hc_22044 => ?_) (fun hc_22045 => ?_)
      · refine wq_b (tt_fX7_howManyHits hN (wb_sh I0 43) (wb_sh M0 28) x2 (KX11.s_X7_43_28 k_I0)) (fun r5_q22046 h_r5_q22046 => ?_)
        obtain ⟨h_r5_q22046_0, h_r5_q22046_1, -⟩ := h_r5_q22046
        refine wq_v (fun I0_6_q22047 h_I0_6_q22047 => ?_)
        refine wq_v (fun M0_7_q22048 h_M0_7_q22048 => ?_)
        have k_M0_7_q22048 : KX11 I0_6_q22047 M0_7_q22048 := by rw [h_I0_6_q22047, h_M0_7_q22048]; exact KX11.p_X7_43_28 k_I0 h_r5_q22046_1
        exact wq_s ⟨k_M0_7_q22048, trivial⟩
      · refine wq_b (tt_fX7_chanceOfLives hN (wb_sh I0 43) (wb_sh M0 28) x2 (KX11.s_X7_43_28 k_I0)) (fun r2_q22049 h_r2_q22049 => ?_)
        obtain ⟨h_r2_q22049_0, -⟩ := h_r2_q22049
        refine wq_v (fun I0_3_q22050 h_I0_3_q22050 => ?_)
        refine wq_v (fun M0_4_q22051 h_M0_4_q22051 => ?_)
        have k_M0_4_q22051 : KX11 I0_3_q22050 M0_4_q22051 := by rw [h_I0_3_q22050, h_M0_4_q22051]; exact KX11.p_X7_43_28 k_I0 h_r2_q22049_0
        have b_22052 := i32b r2_q22049.1
        exact wq_s ⟨k_M0_4_q22051, trivial⟩
set_option maxHeartbeats 4000000 in
theorem tt_fX12_thrown {N : Nat} (hN : 3000000000 ≤ N) (I0 : Nat → Int32) (L0 : Int64) (M0 : Nat → Nat → Int32) (k_I0 : KX12 I0 M0) : wq (fX12_thrown N I0 L0 M0) (fun r => True) := by
  unfold fX12_thrown
  exact wq_s trivial
set_option maxHeartbeats 4000000 in
theorem tt_fX12_right {N : Nat} (hN : 3000000000 ≤ N) (I0 : Nat → Int32) (L0 : Int64) (M0 : Nat → Nat → Int32) (x1 : Int32) (x2 : Int32) (h_x2 : 1 ≤ x2.toInt ∧ x2.toInt ≤ 2) (k_I0 : KX12 I0 M0) : wq (fX12_right N I0 L0 M0 x1 x2) (fun r => (r.1.toInt = 0 ∨ (r.1.toInt = 1 ∧ x1.toInt ≠ 0)) ∧ (r.2.1 1).toInt = (I0 1).toInt ∧ (0 ≤ r.1.toInt ∧ r.1.toInt ≤ 1) ∧ KX12 r.2.1 r.2.2.2 ∧ True) := by
  unfold fX12_right
  have l_0 := il_0
  refine wq_eq (fun hc_22173 => ?_) (fun hc_22174 => ?_)
  · have b_22175 := i32b x1
    refine wq_eq (fun hc_22176 => ?_) (fun hc_22177 => ?_)
    · refine wq_v (fun I0_1_q22178 h_I0_1_q22178 => ?_)
      have k_I0_1_q22178 : KX12 I0_1_q22178 M0 := by rw [h_I0_1_q22178]; exact KX12.si0 k_I0
      have tr_22179 : (I0_1_q22178 0).toInt = x2.toInt := by rw [h_I0_1_q22178]; rfl
      have tr_22180 : (I0_1_q22178 1).toInt = (I0 1).toInt := by rw [h_I0_1_q22178]; rfl
      have t_22181 : (I0_1_q22178 0).toInt = x2.toInt := by rw [h_I0_1_q22178]; rfl
      refine wq_eq (fun hc_22182 => ?_) (fun hc_22183 => ?_)
      · exfalso; omega
      · have t_22184 := KX12.i1 k_I0
        have t_22185 : (I0_1_q22178 1).toInt = (I0 1).toInt := by rw [h_I0_1_q22178]; rfl
        exact wq_s ⟨(show ((0 : Int32).toInt = 0 ∨ ((0 : Int32).toInt = 1 ∧ x1.toInt ≠ 0)) from by omega), (show (I0_1_q22178 1).toInt = (I0 1).toInt from by omega), (show 0 ≤ (0 : Int32).toInt ∧ (0 : Int32).toInt ≤ 1 from ⟨by omega, by omega⟩), k_I0_1_q22178, trivial⟩
    · refine wq_eq (fun hc_22186 => ?_) (fun hc_22187 => ?_)
      · have t_22188 := KX12.i1 k_I0
        have l_1 := il_1
        exact wq_s ⟨(show ((1 : Int32).toInt = 0 ∨ ((1 : Int32).toInt = 1 ∧ x1.toInt ≠ 0)) from by omega), (show (I0 1).toInt = (I0 1).toInt from by omega), (show 0 ≤ (1 : Int32).toInt ∧ (1 : Int32).toInt ≤ 1 from ⟨by omega, by omega⟩), k_I0, trivial⟩
      · exfalso; omega
  · refine wq_eq (fun hc_22189 => ?_) (fun hc_22190 => ?_)
    · have t_22191 := KX12.i1 k_I0
      have b_22192 := i32b x1
      have l_1 := il_1
      exact wq_s ⟨(show ((1 : Int32).toInt = 0 ∨ ((1 : Int32).toInt = 1 ∧ x1.toInt ≠ 0)) from by omega), (show (I0 1).toInt = (I0 1).toInt from by omega), (show 0 ≤ (1 : Int32).toInt ∧ (1 : Int32).toInt ≤ 1 from ⟨by omega, by omega⟩), k_I0, trivial⟩
    · have t_22193 := KX12.i1 k_I0
      have b_22194 := i32b x1
      exact wq_s ⟨(show ((0 : Int32).toInt = 0 ∨ ((0 : Int32).toInt = 1 ∧ x1.toInt ≠ 0)) from by omega), (show (I0 1).toInt = (I0 1).toInt from by omega), (show 0 ≤ (0 : Int32).toInt ∧ (0 : Int32).toInt ≤ 1 from ⟨by omega, by omega⟩), k_I0, trivial⟩
set_option maxHeartbeats 4000000 in
theorem tt_fX12_within {N : Nat} (hN : 3000000000 ≤ N) (x0 : Int32) (x1 : Int32) (x2 : Int32)  : wq (fX12_within N x0 x1 x2) (fun r => (r.toInt = 0 ∨ (r.toInt = 1 ∧ x1.toInt ≤ x0.toInt ∧ x0.toInt ≤ x2.toInt)) ∧ (0 ≤ r.toInt ∧ r.toInt ≤ 1) ∧ True) := by
  unfold fX12_within
  have b_22237 := i32b x0
  have b_22238 := i32b x1
  refine wq_lt (fun hc_22239 => ?_) (fun hc_22240 => ?_)
  · have b_22241 := i32b x2
    have l_0 := il_0
    exact wq_s ⟨(show ((0 : Int32).toInt = 0 ∨ ((0 : Int32).toInt = 1 ∧ x1.toInt ≤ x0.toInt ∧ x0.toInt ≤ x2.toInt)) from by omega), (show 0 ≤ (0 : Int32).toInt ∧ (0 : Int32).toInt ≤ 1 from ⟨by omega, by omega⟩), trivial⟩
  · have b_22242 := i32b x2
    refine wq_lt (fun hc_22243 => ?_) (fun hc_22244 => ?_)
    · have l_0 := il_0
      exact wq_s ⟨(show ((0 : Int32).toInt = 0 ∨ ((0 : Int32).toInt = 1 ∧ x1.toInt ≤ x0.toInt ∧ x0.toInt ≤ x2.toInt)) from by omega), (show 0 ≤ (0 : Int32).toInt ∧ (0 : Int32).toInt ≤ 1 from ⟨by omega, by omega⟩), trivial⟩
    · have l_1 := il_1
      exact wq_s ⟨(show ((1 : Int32).toInt = 0 ∨ ((1 : Int32).toInt = 1 ∧ x1.toInt ≤ x0.toInt ∧ x0.toInt ≤ x2.toInt)) from by omega), (show 0 ≤ (1 : Int32).toInt ∧ (1 : Int32).toInt ≤ 1 from ⟨by omega, by omega⟩), trivial⟩
theorem tt_lay1 (N fu : Nat) (x y : Int32) (I : Nat → Int32) (L : Int64) (M : Nat → Nat → Int32) (k : KX12 I M) (h : (I 3).toInt ≤ 599) (hy : ¬ y < 0) : ∃ (J : Nat → Int32) (M2 : Nat → Nat → Int32), fX12_lays_L3 N x (fu + 1) I L M y = fX12_lays_L3 N x fu J L M2 (y + (-8)) ∧ KX12 J M2 ∧ (J 3).toInt = (I 3).toInt + 1 := by
  have k3 := k.i3
  have l_1 := il_1
  have ta := ia_add (I 3) (1 : Int32) (by omega) (by omega)
  have hin : ¬ (I 3 < 0 ∨ 600 ≤ (I 3).toNatClampNeg) := by
    rw [nI_back (I 3) k3.1]
    exact wp_in (by omega) (by decide)
  refine ⟨upd I 3 (I 3 + 1), wb_um M 8 (I 3).toNatClampNeg ((x >>> (y &&& 31)) &&& (255 : Int32)), ?_, KX12.si3 (KX12.sm8 k) ⟨by omega, by omega⟩, ?_⟩
  · rw [fX12_lays_L3.eq_2, if_neg hy, if_neg hin, Option.bind_some, Option.bind_some, Option.bind_some]
  · show (I 3 + 1).toInt = _
    omega
theorem tt_fX12_lays {N : Nat} (hN : 3000000000 ≤ N) (I0 : Nat → Int32) (L0 : Int64) (M0 : Nat → Nat → Int32) (x1 : Int32) (k_I0 : KX12 I0 M0) (hr_1 : (I0 3).toInt ≤ 596) : wq (fX12_lays N I0 L0 M0 x1) (fun r => (r.1 3).toInt = (I0 3).toInt + 4 ∧ KX12 r.1 r.2.2 ∧ True) := by
  obtain ⟨n, rfl⟩ : ∃ n, N = n + 5 := ⟨N - 5, by omega⟩
  unfold fX12_lays
  obtain ⟨J1, M1, h1, k1, e1⟩ := tt_lay1 (n + 5) (n + 4) x1 24 I0 L0 M0 k_I0 (by omega) (by decide)
  obtain ⟨J2, M2, h2, k2, e2⟩ := tt_lay1 (n + 5) (n + 3) x1 (24 + -8) J1 L0 M1 k1 (by omega) (by decide)
  obtain ⟨J3, M3, h3, k3, e3⟩ := tt_lay1 (n + 5) (n + 2) x1 (24 + -8 + -8) J2 L0 M2 k2 (by omega) (by decide)
  obtain ⟨J4, M4, h4, k4, e4⟩ := tt_lay1 (n + 5) (n + 1) x1 (24 + -8 + -8 + -8) J3 L0 M3 k3 (by omega) (by decide)
  refine ⟨(J4, L0, M4), h1.trans (h2.trans (h3.trans (h4.trans ?_))), ?_, k4, trivial⟩
  · rw [fX12_lays_L3.eq_2, if_pos (by decide)]
  · show (J4 3).toInt = (I0 3).toInt + 4
    omega
set_option maxHeartbeats 4000000 in
theorem tt_fX12_feed {N : Nat} (hN : 3000000000 ≤ N) (I0 : Nat → Int32) (L0 : Int64) (M0 : Nat → Nat → Int32) (x1 : Int32) (x2 : Int32) (x3 : Int32) (x4 : Int32) (x5 : Int32) (k_I0 : KX12 I0 M0) : wq (fX12_feed N I0 L0 M0 x1 x2 x3 x4 x5) (fun r => (-1 ≤ r.1.toInt ∧ r.1.toInt ≤ 600) ∧ KX12 r.2.1 r.2.2.2 ∧ True) := by
  unfold fX12_feed
  refine wq_v (fun I0_1_q22371 h_I0_1_q22371 => ?_)
  have k_I0_1_q22371 : KX12 I0_1_q22371 M0 := by rw [h_I0_1_q22371]; exact KX12.si0 k_I0
  have t_22372 := KX12.i3 k_I0
  have t_22373 : (I0_1_q22371 3).toInt = (I0 3).toInt := by rw [h_I0_1_q22371]; rfl
  have l_20 := il_20
  have t_22374 := ia_add (I0_1_q22371 3) (20 : Int32) (by omega) (by omega)
  have l_600 := il_600
  refine wq_le (fun hc_22375 => ?_) (fun hc_22376 => ?_)
  · have b_22377 := i32b x1
    refine wq_b (tt_fX12_lays hN I0_1_q22371 L0 M0 x1 k_I0_1_q22371 (by omega)) (fun r2_q22378 h_r2_q22378 => ?_)
    obtain ⟨h_r2_q22378_0, h_r2_q22378_1, -⟩ := h_r2_q22378
    have t_22379 := KX12.i3 h_r2_q22378_1
    have b_22380 := i32b x2
    refine wq_b (tt_fX12_lays hN r2_q22378.1 r2_q22378.2.1 r2_q22378.2.2 x2 h_r2_q22378_1 (by omega)) (fun r3_q22381 h_r3_q22381 => ?_)
    obtain ⟨h_r3_q22381_0, h_r3_q22381_1, -⟩ := h_r3_q22381
    have t_22382 := KX12.i3 h_r3_q22381_1
    have b_22383 := i32b x3
    refine wq_b (tt_fX12_lays hN r3_q22381.1 r3_q22381.2.1 r3_q22381.2.2 x3 h_r3_q22381_1 (by omega)) (fun r4_q22384 h_r4_q22384 => ?_)
    obtain ⟨h_r4_q22384_0, h_r4_q22384_1, -⟩ := h_r4_q22384
    have t_22385 := KX12.i3 h_r4_q22384_1
    have b_22386 := i32b x4
    refine wq_b (tt_fX12_lays hN r4_q22384.1 r4_q22384.2.1 r4_q22384.2.2 x4 h_r4_q22384_1 (by omega)) (fun r5_q22387 h_r5_q22387 => ?_)
    obtain ⟨h_r5_q22387_0, h_r5_q22387_1, -⟩ := h_r5_q22387
    have t_22388 := KX12.i3 h_r5_q22387_1
    have b_22389 := i32b x5
    refine wq_b (tt_fX12_lays hN r5_q22387.1 r5_q22387.2.1 r5_q22387.2.2 x5 h_r5_q22387_1 (by omega)) (fun r6_q22390 h_r6_q22390 => ?_)
    obtain ⟨h_r6_q22390_0, h_r6_q22390_1, -⟩ := h_r6_q22390
    have t_22391 := KX12.i3 h_r6_q22390_1
    exact wq_s ⟨(show -1 ≤ (r6_q22390.1 3).toInt ∧ (r6_q22390.1 3).toInt ≤ 600 from ⟨by omega, by omega⟩), h_r6_q22390_1, trivial⟩
  · have l_m1 := il_m1
    exact wq_s ⟨(show -1 ≤ (-1 : Int32).toInt ∧ (-1 : Int32).toInt ≤ 600 from ⟨by omega, by omega⟩), k_I0_1_q22371, trivial⟩
set_option maxHeartbeats 4000000 in
theorem tt_fX12_byteAt {N : Nat} (hN : 3000000000 ≤ N) (I0 : Nat → Int32) (L0 : Int64) (M0 : Nat → Nat → Int32) (x1 : Int32) (h_x1 : 0 ≤ x1.toInt ∧ x1.toInt ≤ 600) (k_I0 : KX12 I0 M0) : wq (fX12_byteAt N I0 L0 M0 x1) (fun r => (r.toInt = 0 ∨ x1.toInt < (I0 6).toInt) ∧ True) := by
  unfold fX12_byteAt
  have t_22410 := KX12.i6 k_I0
  refine wq_le (fun hc_22411 => ?_) (fun hc_22412 => ?_)
  · have l_0 := il_0
    exact wq_s ⟨(show ((0 : Int32).toInt = 0 ∨ x1.toInt < (I0 6).toInt) from by omega), trivial⟩
  · refine wq_in (n := 600) ⟨by omega, by omega⟩ ?_
    exact wq_s ⟨(show ((M0 8 x1.toNatClampNeg).toInt = 0 ∨ x1.toInt < (I0 6).toInt) from by omega), trivial⟩
set_option maxHeartbeats 4000000 in
theorem tt_fX12_isLetter {N : Nat} (hN : 3000000000 ≤ N) (x0 : Int32)  : wq (fX12_isLetter N x0) (fun r => (r.toInt = 0 ∨ (r.toInt = 1 ∧ 97 ≤ x0.toInt)) ∧ (0 ≤ r.toInt ∧ r.toInt ≤ 1) ∧ True) := by
  unfold fX12_isLetter
  have b_22443 := i32b x0
  have l_97 := il_97
  refine wq_lt (fun hc_22444 => ?_) (fun hc_22445 => ?_)
  · have l_0 := il_0
    exact wq_s ⟨(show ((0 : Int32).toInt = 0 ∨ ((0 : Int32).toInt = 1 ∧ 97 ≤ x0.toInt)) from by omega), (show 0 ≤ (0 : Int32).toInt ∧ (0 : Int32).toInt ≤ 1 from ⟨by omega, by omega⟩), trivial⟩
  · have l_122 := il_122
    refine wq_lt (fun hc_22446 => ?_) (fun hc_22447 => ?_)
    · have l_0 := il_0
      exact wq_s ⟨(show ((0 : Int32).toInt = 0 ∨ ((0 : Int32).toInt = 1 ∧ 97 ≤ x0.toInt)) from by omega), (show 0 ≤ (0 : Int32).toInt ∧ (0 : Int32).toInt ≤ 1 from ⟨by omega, by omega⟩), trivial⟩
    · have l_1 := il_1
      exact wq_s ⟨(show ((1 : Int32).toInt = 0 ∨ ((1 : Int32).toInt = 1 ∧ 97 ≤ x0.toInt)) from by omega), (show 0 ≤ (1 : Int32).toInt ∧ (1 : Int32).toInt ≤ 1 from ⟨by omega, by omega⟩), trivial⟩
set_option maxHeartbeats 4000000 in
theorem tt_fX12_isDigit {N : Nat} (hN : 3000000000 ≤ N) (x0 : Int32)  : wq (fX12_isDigit N x0) (fun r => (r.toInt = 0 ∨ (r.toInt = 1 ∧ 48 ≤ x0.toInt)) ∧ (0 ≤ r.toInt ∧ r.toInt ≤ 1) ∧ True) := by
  unfold fX12_isDigit
  have b_22478 := i32b x0
  have l_48 := il_48
  refine wq_lt (fun hc_22479 => ?_) (fun hc_22480 => ?_)
  · have l_0 := il_0
    exact wq_s ⟨(show ((0 : Int32).toInt = 0 ∨ ((0 : Int32).toInt = 1 ∧ 48 ≤ x0.toInt)) from by omega), (show 0 ≤ (0 : Int32).toInt ∧ (0 : Int32).toInt ≤ 1 from ⟨by omega, by omega⟩), trivial⟩
  · have l_57 := il_57
    refine wq_lt (fun hc_22481 => ?_) (fun hc_22482 => ?_)
    · have l_0 := il_0
      exact wq_s ⟨(show ((0 : Int32).toInt = 0 ∨ ((0 : Int32).toInt = 1 ∧ 48 ≤ x0.toInt)) from by omega), (show 0 ≤ (0 : Int32).toInt ∧ (0 : Int32).toInt ≤ 1 from ⟨by omega, by omega⟩), trivial⟩
    · have l_1 := il_1
      exact wq_s ⟨(show ((1 : Int32).toInt = 0 ∨ ((1 : Int32).toInt = 1 ∧ 48 ≤ x0.toInt)) from by omega), (show 0 ≤ (1 : Int32).toInt ∧ (1 : Int32).toInt ≤ 1 from ⟨by omega, by omega⟩), trivial⟩
theorem FR.rf (I : Nat → Int32) : FR I I := fun _ _ _ _ _ _ _ _ => rfl
theorem FR.tr {I J K : Nat → Int32} (h : FR I J) (g : FR J K) : FR I K := fun k a b c d e f m => (g k a b c d e f m).trans (h k a b c d e f m)
theorem FR.up {I J : Nat → Int32} (h : FR I J) {j : Nat} {v : Int32} (hj : j = 4 ∨ j = 5 ∨ j = 7 ∨ j = 8 ∨ j = 9 ∨ j = 10 ∨ j = 11) : FR I (upd J j v) := by
  intro k a b c d e f m
  unfold upd
  rw [if_neg (by omega)]
  exact h k a b c d e f m
/-- what a step does: rows stay, of the ints only those of the text move, no fault; the end, or a byte on -/
def SP (I : Nat → Int32) (M : Nat → Nat → Int32) (r : (Nat → Int32) × Int64 × (Nat → Nat → Int32)) : Prop := r.2.2 = M ∧ FR I r.1 ∧ r.1 4 = I 4 ∧ r.1 5 = I 5 ∧ KX12 r.1 M ∧ (I 7).toInt ≤ (r.1 7).toInt ∧ ((r.1 8).toInt = 0 ∨ (I 7).toInt < (r.1 7).toInt)
theorem tt_st279 (N : Nat) (I0 I : Nat → Int32) (L : Int64) (M : Nat → Nat → Int32) (k : KX12 I M) (hf : FR I0 I) (h4 : I 4 = I0 4) (h5 : I 5 = I0 5) (hp : (I0 7).toInt ≤ (I 7).toInt ∧ ((I 8).toInt = 0 ∨ (I0 7).toInt < (I 7).toInt)) : wq (fX12_steps_J279 N I L M) (SP I0 M) := by
  unfold fX12_steps_J279
  refine wq_v (fun J e => ?_)
  rw [e]
  exact wq_s ⟨rfl, hf.up (by omega), h4, h5, KX12.si10 k, hp.1, hp.2⟩
theorem tt_st182 {N : Nat} (hN : 3000000000 ≤ N) (I0 : Nat → Int32) (M : Nat → Nat → Int32) : ∀ (fu : Nat) (I : Nat → Int32) (L : Int64), KX12 I M → FR I0 I → I 4 = I0 4 → I 5 = I0 5 → (I0 7).toInt < (I 7).toInt → 600 - (I 7).toInt < (fu : Int) → wq (fX12_steps_L182 N fu I L M) (SP I0 M) := by
  intro fu
  induction fu with
  | zero => intro I L k hf h4 h5 hp hm; have := k.i7; exfalso; omega
  | succ fu ih =>
    intro I L k hf h4 h5 hp hm
    rw [fX12_steps_L182.eq_2]
    have h7 := k.i7
    have h6 := k.i6
    have l_0 := il_0
    have l_1 := il_1
    refine wq_b (tt_fX12_byteAt hN I L M (I 7) h7 k) (fun r10 h10 => ?_)
    obtain ⟨h10, -⟩ := h10
    refine wq_b (tt_fX12_isDigit hN r10) (fun r11 h11 => ?_)
    obtain ⟨h11, -, -⟩ := h11
    refine wq_eq (fun hc => ?_) (fun hc => ?_)
    · refine wq_v (fun J e => ?_)
      subst e
      exact tt_st279 N I0 _ L M (KX12.si8 k) (hf.up (by omega)) h4 h5 ⟨by show _ ≤ (I 7).toInt; omega, Or.inr hp⟩
    · have ta := ia_add (I 7) (1 : Int32) (by omega) (by omega)
      have hgo : ∀ (J : Nat → Int32) (L2 : Int64), KX12 J M → FR I0 J → J 4 = I0 4 → J 5 = I0 5 → J 7 = I 7 → wq (fX12_steps_L182 N fu (upd J 7 (I 7 + 1)) L2 M) (SP I0 M) := by
        intro J L2 kJ fJ j4 j5 j7
        refine ih _ L2 (KX12.si7 kJ ⟨by omega, by omega⟩) (fJ.up (by omega)) j4 j5 ?_ ?_
        · show (I0 7).toInt < (I 7 + 1).toInt
          omega
        · show 600 - (I 7 + 1).toInt < _
          omega
      refine wq_le (fun hc2 => ?_) (fun hc2 => ?_)
      · refine wq_v (fun J e => ?_)
        subst e
        exact hgo I L k hf h4 h5 rfl
      · refine wq_b (tt_fX12_byteAt hN I L M (I 7) h7 k) (fun r14 h14 => ?_)
        refine wq_v (fun J e => ?_)
        refine wq_v (fun J2 e2 => ?_)
        have q7 : J 7 = I 7 := by rw [e]; rfl
        rw [q7] at e2
        subst e2
        refine hgo J L ?_ ?_ ?_ ?_ q7
        · rw [e]; exact KX12.si11 k
        · rw [e]; exact hf.up (by omega)
        · rw [e]; exact h4
        · rw [e]; exact h5
theorem tt_st103 {N : Nat} (hN : 3000000000 ≤ N) (I0 : Nat → Int32) (M : Nat → Nat → Int32) : ∀ (fu : Nat) (I : Nat → Int32) (L : Int64), KX12 I M → FR I0 I → I 4 = I0 4 → I 5 = I0 5 → (I0 7).toInt < (I 7).toInt → 600 - (I 7).toInt < (fu : Int) → wq (fX12_steps_L103 N fu I L M) (SP I0 M) := by
  intro fu
  induction fu with
  | zero => intro I L k hf h4 h5 hp hm; have := k.i7; exfalso; omega
  | succ fu ih =>
    intro I L k hf h4 h5 hp hm
    rw [fX12_steps_L103.eq_2]
    have h7 := k.i7
    have h6 := k.i6
    have l_0 := il_0
    have l_1 := il_1
    refine wq_b (tt_fX12_byteAt hN I L M (I 7) h7 k) (fun r10 h10 => ?_)
    obtain ⟨h10, -⟩ := h10
    refine wq_b (tt_fX12_isLetter hN r10) (fun r11 h11 => ?_)
    obtain ⟨h11, -, -⟩ := h11
    refine wq_eq (fun hc => ?_) (fun hc => ?_)
    · refine wq_v (fun J e => ?_)
      subst e
      exact tt_st279 N I0 _ L M (KX12.si8 k) (hf.up (by omega)) h4 h5 ⟨by show _ ≤ (I 7).toInt; omega, Or.inr hp⟩
    · have ta := ia_add (I 7) (1 : Int32) (by omega) (by omega)
      have hgo : ∀ (J : Nat → Int32) (L2 : Int64), KX12 J M → FR I0 J → J 4 = I0 4 → J 5 = I0 5 → J 7 = I 7 → wq (fX12_steps_L103 N fu (upd J 7 (I 7 + 1)) L2 M) (SP I0 M) := by
        intro J L2 kJ fJ j4 j5 j7
        refine ih _ L2 (KX12.si7 kJ ⟨by omega, by omega⟩) (fJ.up (by omega)) j4 j5 ?_ ?_
        · show (I0 7).toInt < (I 7 + 1).toInt
          omega
        · show 600 - (I 7 + 1).toInt < _
          omega
      refine wq_le (fun hc2 => ?_) (fun hc2 => ?_)
      · refine wq_v (fun J e => ?_)
        subst e
        exact hgo I L k hf h4 h5 rfl
      · refine wq_b (tt_fX12_byteAt hN I L M (I 7) h7 k) (fun r14 h14 => ?_)
        refine wq_v (fun L2 eL => ?_)
        refine wq_v (fun J e => ?_)
        subst e
        exact hgo I L2 k hf h4 h5 rfl

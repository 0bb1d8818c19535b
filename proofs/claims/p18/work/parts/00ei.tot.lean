theorem tt_fX11_need {N : Nat} (hN : 3000000000 ≤ N) (x0 : Int32)  : wq (fX11_need N x0) (qS 1 (fun r => x0.toInt ≠ 0 ∧ True)) := by
  unfold fX11_need
  have l_0 := il_0
  refine wq_eq (fun hc => ?_) (fun hc => ?_)
  · exact wq_s (show qE 1 1 from by unfold qE; omega)
  · exact wq_ok (wq_s ⟨by omega, trivial⟩)
set_option maxHeartbeats 4000000 in
theorem tt_fX11_isBook {N : Nat} (hN : 3000000000 ≤ N) (x0 : Int32)  : wq (fX11_isBook N x0) (fun r => (r.toInt = 0 ∨ (r.toInt = 1 ∧ 0 ≤ x0.toInt ∧ x0.toInt ≤ 5)) ∧ (0 ≤ r.toInt ∧ r.toInt ≤ 1) ∧ True) := by
  unfold fX11_isBook
  have b_19862 := i32b x0
  have l_0 := il_0
  have l_5 := il_5
  refine wq_b (tt_fX11_within hN x0 (0 : Int32) (5 : Int32)) (fun r1_q19863 h_r1_q19863 => ?_)
  obtain ⟨h_r1_q19863_0, h_r1_q19863_1, -⟩ := h_r1_q19863
  refine wq_bz (by omega) ?_
  exact wq_s ⟨(show (r1_q19863.toInt = 0 ∨ (r1_q19863.toInt = 1 ∧ 0 ≤ x0.toInt ∧ x0.toInt ≤ 5)) from by omega), (show 0 ≤ r1_q19863.toInt ∧ r1_q19863.toInt ≤ 1 from ⟨by omega, by omega⟩), trivial⟩
set_option maxHeartbeats 4000000 in
theorem tt_fX11_numberOf {N : Nat} (hN : 3000000000 ≤ N) (x0 : Int32) (x1 : Int32)  : wq (fX11_numberOf N x0 x1) (qS 1 (fun r => (r.toInt = 20 * x0.toInt + x1.toInt ∧ 0 ≤ x0.toInt ∧ x0.toInt ≤ 5 ∧ 0 ≤ x1.toInt ∧ x1.toInt ≤ 19) ∧ (0 ≤ r.toInt ∧ r.toInt ≤ 119) ∧ True)) := by
  unfold fX11_numberOf
  have b_19942 := i32b x0
  refine wq_b (tt_fX11_isBook hN x0) (fun r2_q19943 h_r2_q19943 => ?_)
  obtain ⟨h_r2_q19943_0, h_r2_q19943_1, -⟩ := h_r2_q19943
  have l_0 := il_0
  refine wq_eq (fun hc_19944 => ?_) (fun hc_19945 => ?_)
  · unfold fX11_numberOf_J21
    exact wq_xb (tt_fX11_need0 N) (by decide) (fun _ h => absurd h id)
  · have b_19947 := i32b x1
    have l_19 := il_19
    refine wq_b (tt_fX11_within hN x1 (0 : Int32) (19 : Int32)) (fun r3_q19948 h_r3_q19948 => ?_)
    obtain ⟨h_r3_q19948_0, h_r3_q19948_1, -⟩ := h_r3_q19948
    refine wq_eq (fun hc_19949 => ?_) (fun hc_19950 => ?_)
    · unfold fX11_numberOf_J21
      exact wq_xb (tt_fX11_need0 N) (by decide) (fun _ h => absurd h id)
    · have l_1 := il_1
      refine wq_xb (tt_fX11_need hN (1 : Int32)) (by decide) (fun r4_q19952 h_r4_q19952 => ?_)
      obtain ⟨h_r4_q19952_0, -⟩ := h_r4_q19952
      refine wq_ok ?_
      have l_20 := il_20
      have t_19953 := ia_mul (20 : Int32) (20) il_20 x0 (by omega) (by omega)
      have t_19954 := ia_add ((20 : Int32) * x0) x1 (by omega) (by omega)
      exact wq_s ⟨(show ((((20 : Int32) * x0) + x1).toInt = 20 * x0.toInt + x1.toInt ∧ 0 ≤ x0.toInt ∧ x0.toInt ≤ 5 ∧ 0 ≤ x1.toInt ∧ x1.toInt ≤ 19) from by omega), (show 0 ≤ (((20 : Int32) * x0) + x1).toInt ∧ (((20 : Int32) * x0) + x1).toInt ≤ 119 from ⟨by omega, by omega⟩), trivial⟩
set_option maxHeartbeats 4000000 in
theorem tt_fX11_wheel {N : Nat} (hN : 3000000000 ≤ N) (I0 : Nat → Int32) (M0 : Nat → Nat → Int32) (x1 : Int32) (x2 : Int32) (x3 : Int32) (k_I0 : KX11 I0 M0) : wq (fX11_wheel N I0 M0 x1 x2 x3) (qS 3 (fun r => KX11 r.2.1 r.2.2 ∧ True)) := by
  unfold fX11_wheel
  have b_20064 := i32b x1
  have b_20065 := i32b x2
  refine wq_xb (tt_fX11_numberOf hN x1 x2) (by decide) (fun r1_q20063 h_r1_q20063 => ?_)
  obtain ⟨h_r1_q20063_0, h_r1_q20063_1, -⟩ := h_r1_q20063
  have b_20066 := i32b x3
  have l_0 := il_0
  have t_20067 := KX11.i0 k_I0
  refine wq_b (tt_fX11_within hN x3 (0 : Int32) (I0 0)) (fun r2_q20068 h_r2_q20068 => ?_)
  obtain ⟨h_r2_q20068_0, h_r2_q20068_1, -⟩ := h_r2_q20068
  refine wq_xb (tt_fX11_allow hN r2_q20068) (by decide) (fun r3_q20069 h_r3_q20069 => ?_)
  obtain ⟨h_r3_q20069_0, -⟩ := h_r3_q20069
  refine wq_ok ?_
  refine wq_b (tt_fX9_begin hN I0 M0 x3 ⟨by omega, by omega⟩ (KX11.s_X9_0_0 k_I0)) (fun r4_q20070 h_r4_q20070 => ?_)
  obtain ⟨h_r4_q20070_0, -⟩ := h_r4_q20070
  refine wq_v (fun I0_5_q20071 h_I0_5_q20071 => ?_)
  refine wq_v (fun M0_6_q20072 h_M0_6_q20072 => ?_)
  have k_M0_6_q20072 : KX11 I0_5_q20071 M0_6_q20072 := by rw [h_I0_5_q20071, h_M0_6_q20072]; exact (KX11.p_X9_0_0 k_I0 h_r4_q20070_0)
  refine wq_b (tt_fX1_readEntries hN (wb_sh I0_5_q20071 13) (wb_sh M0_6_q20072 13) I0_5_q20071 M0_6_q20072 (KX11.s_X1_13_13 k_M0_6_q20072) (KX11.s_X9_0_0 k_M0_6_q20072)) (fun r7_q20073 h_r7_q20073 => ?_)
  obtain ⟨h_r7_q20073_0, h_r7_q20073_1, h_r7_q20073_2, -⟩ := h_r7_q20073
  refine wq_v (fun I0_8_q20074 h_I0_8_q20074 => ?_)
  refine wq_v (fun M0_9_q20075 h_M0_9_q20075 => ?_)
  have k_M0_9_q20075 : KX11 I0_8_q20074 M0_9_q20075 := by rw [h_I0_8_q20074, h_M0_9_q20075]; exact (KX11.p_X9_0_0 (KX11.p_X1_13_13 k_M0_6_q20072 h_r7_q20073_1) h_r7_q20073_2)
  refine wq_eq (fun hc_20076 => ?_) (fun hc_20077 => ?_)
  · exact wq_s ⟨k_M0_9_q20075, trivial⟩
  · refine wq_b (tt_fX1_keepDraft hN (wb_sh I0_8_q20074 13) (wb_sh M0_9_q20075 13) r1_q20063 ⟨by omega, by omega⟩ (KX11.s_X1_13_13 k_M0_9_q20075)) (fun r10_q20078 h_r10_q20078 => ?_)
    obtain ⟨h_r10_q20078_0, -⟩ := h_r10_q20078
    refine wq_v (fun I0_11_q20079 h_I0_11_q20079 => ?_)
    refine wq_v (fun M0_12_q20080 h_M0_12_q20080 => ?_)
    have k_M0_12_q20080 : KX11 I0_11_q20079 M0_12_q20080 := by rw [h_I0_11_q20079, h_M0_12_q20080]; exact (KX11.p_X1_13_13 k_M0_9_q20075 h_r10_q20078_0)
    exact wq_s ⟨k_M0_12_q20080, trivial⟩
set_option maxHeartbeats 4000000 in
theorem tt_fX11_fault {N : Nat} (hN : 3000000000 ≤ N) (I0 : Nat → Int32) (M0 : Nat → Nat → Int32) (k_I0 : KX11 I0 M0) : wq (fX11_fault N I0 M0) (fun r => True) := by
  unfold fX11_fault
  exact wq_s trivial
set_option maxHeartbeats 4000000 in
theorem tt_fX11_count {N : Nat} (hN : 3000000000 ≤ N) (I0 : Nat → Int32) (M0 : Nat → Nat → Int32) (x1 : Int32) (k_I0 : KX11 I0 M0) : wq (fX11_count N I0 M0 x1) (qS 1 (fun r => KX11 r.2.1 r.2.2 ∧ True)) := by
  unfold fX11_count
  have b_20219 := i32b x1
  have l_0 := il_0
  refine wq_eq (fun hc_20220 => ?_) (fun hc_20221 => ?_)
  · refine wq_ok ?_
    have t_20222 := KX11.i9 k_I0
    exact wq_s ⟨k_I0, trivial⟩
  · have l_1 := il_1
    refine wq_eq (fun hc_20223 => ?_) (fun hc_20224 => ?_)
    · refine wq_ok ?_
      exact wq_s ⟨k_I0, trivial⟩
    · have l_2 := il_2
      refine wq_eq (fun hc_20225 => ?_) (fun hc_20226 => ?_)
      · refine wq_ok ?_
        refine wq_b (tt_fX1_howManyTell hN (wb_sh I0 13) (wb_sh M0 13) (KX11.s_X1_13_13 k_I0)) (fun r1_q20227 h_r1_q20227 => ?_)
        obtain ⟨-⟩ := h_r1_q20227
        have b_20228 := i32b r1_q20227
        exact wq_s ⟨k_I0, trivial⟩
      · have l_3 := il_3
        refine wq_eq (fun hc_20229 => ?_) (fun hc_20230 => ?_)
        · refine wq_ok ?_
          refine wq_b (tt_fX7_howManyLives hN (wb_sh I0 43) (wb_sh M0 28) (KX11.s_X7_43_28 k_I0)) (fun r2_q20231 h_r2_q20231 => ?_)
          obtain ⟨h_r2_q20231_0, h_r2_q20231_1, -⟩ := h_r2_q20231
          refine wq_v (fun I0_3_q20232 h_I0_3_q20232 => ?_)
          refine wq_v (fun M0_4_q20233 h_M0_4_q20233 => ?_)
          have k_M0_4_q20233 : KX11 I0_3_q20232 M0_4_q20233 := by rw [h_I0_3_q20232, h_M0_4_q20233]; exact (KX11.p_X7_43_28 k_I0 h_r2_q20231_1)
          exact wq_s ⟨k_M0_4_q20233, trivial⟩
        · have l_4 := il_4
          refine wq_eq (fun hc_20234 => ?_) (fun hc_20235 => ?_)
          · refine wq_ok ?_
            have t_20236 := KX11.i0 k_I0
            exact wq_s ⟨k_I0, trivial⟩
          · have l_5 := il_5
            refine wq_eq (fun hc_20237 => ?_) (fun hc_20238 => ?_)
            · refine wq_ok ?_
              refine wq_b (tt_fX7_howManyFates hN (wb_sh I0 43) (wb_sh M0 28) (KX11.s_X7_43_28 k_I0)) (fun r5_q20239 h_r5_q20239 => ?_)
              obtain ⟨h_r5_q20239_0, h_r5_q20239_1, -⟩ := h_r5_q20239
              refine wq_v (fun I0_6_q20240 h_I0_6_q20240 => ?_)
              refine wq_v (fun M0_7_q20241 h_M0_7_q20241 => ?_)
              have k_M0_7_q20241 : KX11 I0_6_q20240 M0_7_q20241 := by rw [h_I0_6_q20240, h_M0_7_q20241]; exact (KX11.p_X7_43_28 k_I0 h_r5_q20239_1)
              exact wq_s ⟨k_M0_7_q20241, trivial⟩
            · exact wq_s (show qE 1 1 from by unfold qE; omega)
set_option maxHeartbeats 4000000 in
theorem tt_fX11_isDay {N : Nat} (hN : 3000000000 ≤ N) (x0 : Int32)  : wq (fX11_isDay N x0) (fun r => (r.toInt = 0 ∨ (r.toInt = 1 ∧ 0 ≤ x0.toInt ∧ x0.toInt ≤ 1000000)) ∧ (0 ≤ r.toInt ∧ r.toInt ≤ 1) ∧ True) := by
  unfold fX11_isDay
  have b_20254 := i32b x0
  have l_0 := il_0
  have l_1000000 := il_1000000
  refine wq_b (tt_fX11_within hN x0 (0 : Int32) (1000000 : Int32)) (fun r1_q20255 h_r1_q20255 => ?_)
  obtain ⟨h_r1_q20255_0, h_r1_q20255_1, -⟩ := h_r1_q20255
  refine wq_bz (by omega) ?_
  exact wq_s ⟨(show (r1_q20255.toInt = 0 ∨ (r1_q20255.toInt = 1 ∧ 0 ≤ x0.toInt ∧ x0.toInt ≤ 1000000)) from by omega), (show 0 ≤ r1_q20255.toInt ∧ r1_q20255.toInt ≤ 1 from ⟨by omega, by omega⟩), trivial⟩
set_option maxHeartbeats 4000000 in
theorem tt_fX11_place {N : Nat} (hN : 3000000000 ≤ N) (I0 : Nat → Int32) (M0 : Nat → Nat → Int32) (x1 : Int32) (x2 : Int32) (x3 : Int32) (k_I0 : KX11 I0 M0) : wq (fX11_place N I0 M0 x1 x2 x3) (qS 1 (fun r => True)) := by
  unfold fX11_place
  have b_20364 := i32b x1
  have l_0 := il_0
  have l_3 := il_3
  refine wq_b (tt_fX11_within hN x1 (0 : Int32) (3 : Int32)) (fun r3_q20365 h_r3_q20365 => ?_)
  obtain ⟨h_r3_q20365_0, h_r3_q20365_1, -⟩ := h_r3_q20365
  refine wq_eq (fun hc_20366 => ?_) (fun hc_20367 => ?_)
  · unfold fX11_place_J30
    unfold fX11_place_J31
    exact wq_xb (tt_fX11_need0 N) (by decide) (fun _ h => absurd h id)
  · have b_20369 := i32b x2
    have l_6 := il_6
    refine wq_b (tt_fX11_within hN x2 (0 : Int32) (6 : Int32)) (fun r4_q20370 h_r4_q20370 => ?_)
    obtain ⟨h_r4_q20370_0, h_r4_q20370_1, -⟩ := h_r4_q20370
    refine wq_eq (fun hc_20371 => ?_) (fun hc_20372 => ?_)
    · unfold fX11_place_J30
      unfold fX11_place_J31
      exact wq_xb (tt_fX11_need0 N) (by decide) (fun _ h => absurd h id)
    · have b_20374 := i32b x3
      refine wq_b (tt_fX11_isDay hN x3) (fun r5_q20375 h_r5_q20375 => ?_)
      obtain ⟨h_r5_q20375_0, h_r5_q20375_1, -⟩ := h_r5_q20375
      refine wq_eq (fun hc_20376 => ?_) (fun hc_20377 => ?_)
      · unfold fX11_place_J30
        unfold fX11_place_J31
        exact wq_xb (tt_fX11_need0 N) (by decide) (fun _ h => absurd h id)
      · unfold fX11_place_J31
        have l_1 := il_1
        refine wq_xb (tt_fX11_need hN (1 : Int32)) (by decide) (fun r1_q20379 h_r1_q20379 => ?_)
        obtain ⟨h_r1_q20379_0, -⟩ := h_r1_q20379
        refine wq_ok ?_
        refine wq_b (tt_fX5_placeOn hN (wb_sh I0 9) (wb_sh M0 1) x1 x2 x3 ⟨by omega, by omega⟩ ⟨by omega, by omega⟩ (KX11.s_X5_9_1 k_I0)) (fun r2_q20380 h_r2_q20380 => ?_)
        obtain ⟨-⟩ := h_r2_q20380
        have b_20381 := i32b r2_q20380
        exact wq_s trivial
set_option maxHeartbeats 4000000 in
theorem tt_fX11_entry {N : Nat} (hN : 3000000000 ≤ N) (I0 : Nat → Int32) (M0 : Nat → Nat → Int32) (x1 : Int32) (x2 : Int32) (x3 : Int32) (k_I0 : KX11 I0 M0) : wq (fX11_entry N I0 M0 x1 x2 x3) (qS 1 (fun r => (-1 ≤ r.toInt ∧ r.toInt ≤ 389) ∧ True)) := by
  unfold fX11_entry
  have b_20425 := i32b x1
  have b_20426 := i32b x2
  refine wq_xb (tt_fX11_numberOf hN x1 x2) (by decide) (fun r1_q20424 h_r1_q20424 => ?_)
  obtain ⟨h_r1_q20424_0, h_r1_q20424_1, -⟩ := h_r1_q20424
  have b_20427 := i32b x3
  have l_0 := il_0
  have l_21 := il_21
  refine wq_b (tt_fX11_within hN x3 (0 : Int32) (21 : Int32)) (fun r2_q20428 h_r2_q20428 => ?_)
  obtain ⟨h_r2_q20428_0, h_r2_q20428_1, -⟩ := h_r2_q20428
  refine wq_xb (tt_fX11_need hN r2_q20428) (by decide) (fun r3_q20429 h_r3_q20429 => ?_)
  obtain ⟨h_r3_q20429_0, -⟩ := h_r3_q20429
  refine wq_ok ?_
  refine wq_b (tt_fX1_degreeOf hN (wb_sh I0 13) (wb_sh M0 13) r1_q20424 x3 ⟨by omega, by omega⟩ ⟨by omega, by omega⟩ (KX11.s_X1_13_13 k_I0)) (fun r4_q20430 h_r4_q20430 => ?_)
  obtain ⟨h_r4_q20430_0, h_r4_q20430_1, -⟩ := h_r4_q20430
  exact wq_s ⟨(show -1 ≤ r4_q20430.toInt ∧ r4_q20430.toInt ≤ 389 from ⟨by omega, by omega⟩), trivial⟩
set_option maxHeartbeats 4000000 in
theorem tt_fX11_cost {N : Nat} (hN : 3000000000 ≤ N) (I0 : Nat → Int32) (M0 : Nat → Nat → Int32) (x1 : Int32) (x2 : Int32) (x3 : Int32) (x4 : Int32) (k_I0 : KX11 I0 M0) : wq (fX11_cost N I0 M0 x1 x2 x3 x4) (qS 1 (fun r => True)) := by
  unfold fX11_cost
  have b_20528 := i32b x1
  have b_20529 := i32b x2
  refine wq_xb (tt_fX11_numberOf hN x1 x2) (by decide) (fun r3_q20527 h_r3_q20527 => ?_)
  obtain ⟨h_r3_q20527_0, h_r3_q20527_1, -⟩ := h_r3_q20527
  have b_20530 := i32b x3
  have l_0 := il_0
  have l_3 := il_3
  refine wq_b (tt_fX11_within hN x3 (0 : Int32) (3 : Int32)) (fun r4_q20531 h_r4_q20531 => ?_)
  obtain ⟨h_r4_q20531_0, h_r4_q20531_1, -⟩ := h_r4_q20531
  refine wq_eq (fun hc_20532 => ?_) (fun hc_20533 => ?_)
  · unfold fX11_cost_J28
    unfold fX11_cost_J29
    exact wq_xb (tt_fX11_need0 N) (by decide) (fun _ h => absurd h id)
  · have b_20535 := i32b x4
    refine wq_b (tt_fX11_isDay hN x4) (fun r5_q20536 h_r5_q20536 => ?_)
    obtain ⟨h_r5_q20536_0, h_r5_q20536_1, -⟩ := h_r5_q20536
    refine wq_eq (fun hc_20537 => ?_) (fun hc_20538 => ?_)
    · unfold fX11_cost_J28
      unfold fX11_cost_J29
      exact wq_xb (tt_fX11_need0 N) (by decide) (fun _ h => absurd h id)
    · unfold fX11_cost_J29
      have l_1 := il_1
      refine wq_xb (tt_fX11_need hN (1 : Int32)) (by decide) (fun r1_q20540 h_r1_q20540 => ?_)
      obtain ⟨h_r1_q20540_0, -⟩ := h_r1_q20540
      refine wq_ok ?_
      have l_1000 := il_1000
      refine wq_b (tt_fX3_costOn hN (wb_sh I0 9) (wb_sh M0 1) (wb_sh I0 13) (wb_sh M0 13) r3_q20527 x3 x4 (1000 : Int32) ⟨by omega, by omega⟩ ⟨by omega, by omega⟩ ⟨by omega, by omega⟩ (KX11.s_X5_9_1 k_I0) (KX11.s_X1_13_13 k_I0)) (fun r2_q20541 h_r2_q20541 => ?_)
      obtain ⟨-⟩ := h_r2_q20541
      have b_20542 := i32b r2_q20541
      exact wq_s trivial
set_option maxHeartbeats 4000000 in
theorem tt_fX11_isSpan {N : Nat} (hN : 3000000000 ≤ N) (x0 : Int32) (x1 : Int32) (h_x0 : 0 ≤ x0.toInt ∧ x0.toInt ≤ 1000000) : wq (fX11_isSpan N x0 x1) (fun r => (r.toInt = 0 ∨ (r.toInt = 1 ∧ 0 ≤ x1.toInt ∧ x1.toInt ≤ 50000 ∧ x1.toInt + x0.toInt ≤ 1000000)) ∧ (0 ≤ r.toInt ∧ r.toInt ≤ 1) ∧ True) := by
  unfold fX11_isSpan
  have b_20585 := i32b x1
  have l_0 := il_0
  have l_50000 := il_50000
  refine wq_b (tt_fX11_within hN x1 (0 : Int32) (50000 : Int32)) (fun r1_q20586 h_r1_q20586 => ?_)
  obtain ⟨h_r1_q20586_0, h_r1_q20586_1, -⟩ := h_r1_q20586
  refine wq_eq (fun hc_20587 => ?_) (fun hc_20588 => ?_)
  · exact wq_s ⟨(show ((0 : Int32).toInt = 0 ∨ ((0 : Int32).toInt = 1 ∧ 0 ≤ x1.toInt ∧ x1.toInt ≤ 50000 ∧ x1.toInt + x0.toInt ≤ 1000000)) from by omega), (show 0 ≤ (0 : Int32).toInt ∧ (0 : Int32).toInt ≤ 1 from ⟨by omega, by omega⟩), trivial⟩
  · have l_1000000 := il_1000000
    have t_20589 := ia_sub (1000000 : Int32) x0 (by omega) (by omega)
    refine wq_lt (fun hc_20590 => ?_) (fun hc_20591 => ?_)
    · exact wq_s ⟨(show ((0 : Int32).toInt = 0 ∨ ((0 : Int32).toInt = 1 ∧ 0 ≤ x1.toInt ∧ x1.toInt ≤ 50000 ∧ x1.toInt + x0.toInt ≤ 1000000)) from by omega), (show 0 ≤ (0 : Int32).toInt ∧ (0 : Int32).toInt ≤ 1 from ⟨by omega, by omega⟩), trivial⟩
    · have l_1 := il_1
      exact wq_s ⟨(show ((1 : Int32).toInt = 0 ∨ ((1 : Int32).toInt = 1 ∧ 0 ≤ x1.toInt ∧ x1.toInt ≤ 50000 ∧ x1.toInt + x0.toInt ≤ 1000000)) from by omega), (show 0 ≤ (1 : Int32).toInt ∧ (1 : Int32).toInt ≤ 1 from ⟨by omega, by omega⟩), trivial⟩
set_option maxHeartbeats 4000000 in
theorem tt_fX11_best {N : Nat} (hN : 3000000000 ≤ N) (I0 : Nat → Int32) (M0 : Nat → Nat → Int32) (x1 : Int32) (x2 : Int32) (x3 : Int32) (x4 : Int32) (x5 : Int32) (k_I0 : KX11 I0 M0) : wq (fX11_best N I0 M0 x1 x2 x3 x4 x5) (qS 3 (fun r => KX11 r.2.1 r.2.2 ∧ True)) := by
  unfold fX11_best
  have b_20737 := i32b x1
  have b_20738 := i32b x2
  refine wq_xb (tt_fX11_numberOf hN x1 x2) (by decide) (fun r10_q20736 h_r10_q20736 => ?_)
  obtain ⟨h_r10_q20736_0, h_r10_q20736_1, -⟩ := h_r10_q20736
  have b_20739 := i32b x3
  have l_0 := il_0
  have l_3 := il_3
  refine wq_b (tt_fX11_within hN x3 (0 : Int32) (3 : Int32)) (fun r11_q20740 h_r11_q20740 => ?_)
  obtain ⟨h_r11_q20740_0, h_r11_q20740_1, -⟩ := h_r11_q20740
  refine wq_eq (fun hc_20741 => ?_) (fun hc_20742 => ?_)
  · unfold fX11_best_J28
    unfold fX11_best_J29
    exact wq_xb (tt_fX11_need0 N) (by decide) (fun _ h => absurd h id)
  · have b_20744 := i32b x4
    refine wq_b (tt_fX11_isDay hN x4) (fun r12_q20745 h_r12_q20745 => ?_)
    obtain ⟨h_r12_q20745_0, h_r12_q20745_1, -⟩ := h_r12_q20745
    refine wq_eq (fun hc_20746 => ?_) (fun hc_20747 => ?_)
    · unfold fX11_best_J28
      unfold fX11_best_J29
      exact wq_xb (tt_fX11_need0 N) (by decide) (fun _ h => absurd h id)
    · unfold fX11_best_J29
      have l_1 := il_1
      refine wq_xb (tt_fX11_need hN (1 : Int32)) (by decide) (fun r1_q20749 h_r1_q20749 => ?_)
      obtain ⟨h_r1_q20749_0, -⟩ := h_r1_q20749
      have b_20750 := i32b x5
      refine wq_b (tt_fX11_isSpan hN x4 x5 ⟨by omega, by omega⟩) (fun r2_q20751 h_r2_q20751 => ?_)
      obtain ⟨h_r2_q20751_0, h_r2_q20751_1, -⟩ := h_r2_q20751
      refine wq_xb (tt_fX11_allow hN r2_q20751) (by decide) (fun r3_q20752 h_r3_q20752 => ?_)
      obtain ⟨h_r3_q20752_0, -⟩ := h_r3_q20752
      refine wq_ok ?_
      refine wq_b (tt_fX8_begin hN (wb_sh I0 13) (wb_sh M0 16) r10_q20736 x3 x4 ⟨by omega, by omega⟩ ⟨by omega, by omega⟩ ⟨by omega, by omega⟩ (KX11.s_X8_13_16 k_I0)) (fun r4_q20753 h_r4_q20753 => ?_)
      obtain ⟨h_r4_q20753_0, -⟩ := h_r4_q20753
      refine wq_v (fun I0_5_q20754 h_I0_5_q20754 => ?_)
      refine wq_v (fun M0_6_q20755 h_M0_6_q20755 => ?_)
      have k_M0_6_q20755 : KX11 I0_5_q20754 M0_6_q20755 := by rw [h_I0_5_q20754, h_M0_6_q20755]; exact (KX11.p_X8_13_16 k_I0 h_r4_q20753_0)
      have t_20756 := ia_add x5 (1 : Int32) (by omega) (by omega)
      refine wq_b (tt_fX8_goOn hN (wb_sh I0_5_q20754 13) (wb_sh M0_6_q20755 16) (wb_sh I0_5_q20754 9) (wb_sh M0_6_q20755 1) (wb_sh I0_5_q20754 13) (wb_sh M0_6_q20755 13) (x5 + (1 : Int32)) (KX11.s_X8_13_16 k_M0_6_q20755) (KX11.s_X5_9_1 k_M0_6_q20755) (KX11.s_X1_13_13 k_M0_6_q20755)) (fun r7_q20757 h_r7_q20757 => ?_)
      obtain ⟨h_r7_q20757_0, -⟩ := h_r7_q20757
      refine wq_v (fun I0_8_q20758 h_I0_8_q20758 => ?_)
      refine wq_v (fun M0_9_q20759 h_M0_9_q20759 => ?_)
      have k_M0_9_q20759 : KX11 I0_8_q20758 M0_9_q20759 := by rw [h_I0_8_q20758, h_M0_9_q20759]; exact (KX11.p_X8_13_16 k_M0_6_q20755 h_r7_q20757_0)
      exact wq_s ⟨k_M0_9_q20759, trivial⟩
set_option maxHeartbeats 4000000 in
theorem tt_fX11_day {N : Nat} (hN : 3000000000 ≤ N) (I0 : Nat → Int32) (M0 : Nat → Nat → Int32) (x1 : Int32) (k_I0 : KX11 I0 M0) : wq (fX11_day N I0 M0 x1) (qS 1 (fun r => True)) := by
  unfold fX11_day
  have t_20833 := KX11.i13 k_I0
  refine wq_xb (tt_fX11_need hN (I0 13)) (by decide) (fun r1_q20832 h_r1_q20832 => ?_)
  obtain ⟨h_r1_q20832_0, -⟩ := h_r1_q20832
  have b_20834 := i32b x1
  have l_m1 := il_m1
  refine wq_eq (fun hc_20835 => ?_) (fun hc_20836 => ?_)
  · refine wq_ok ?_
    have t_20837 := KX11.i18 k_I0
    exact wq_s trivial
  · refine wq_b (tt_fX8_howManyKept hN (wb_sh I0 13) (wb_sh M0 16) (KX11.s_X8_13_16 k_I0)) (fun r2_q20838 h_r2_q20838 => ?_)
    obtain ⟨h_r2_q20838_0, -⟩ := h_r2_q20838
    have l_0 := il_0
    have l_1 := il_1
    have t_20839 := ia_sub r2_q20838 (1 : Int32) (by omega) (by omega)
    refine wq_b (tt_fX11_within hN x1 (0 : Int32) (r2_q20838 - (1 : Int32))) (fun r3_q20840 h_r3_q20840 => ?_)
    obtain ⟨h_r3_q20840_0, h_r3_q20840_1, -⟩ := h_r3_q20840
    refine wq_xb (tt_fX11_need hN r3_q20840) (by decide) (fun r4_q20841 h_r4_q20841 => ?_)
    obtain ⟨h_r4_q20841_0, -⟩ := h_r4_q20841
    refine wq_ok ?_
    refine wq_b (tt_fX8_keptDay hN (wb_sh I0 13) (wb_sh M0 16) x1 (KX11.s_X8_13_16 k_I0)) (fun r5_q20842 h_r5_q20842 => ?_)
    obtain ⟨-⟩ := h_r5_q20842
    have b_20843 := i32b r5_q20842
    exact wq_s trivial
set_option maxHeartbeats 4000000 in
theorem tt_fX11_whose_L55 {N : Nat} (hN : 3000000000 ≤ N) (x1 : Int32) (x2 : Int32) (x3 : Int32) (x4 : Int32) (x5 : Int32) (y29_6 : Int32) (h_x1 : 0 ≤ x1.toInt ∧ x1.toInt ≤ 5) (h_x2 : 0 ≤ x2.toInt ∧ x2.toInt ≤ 19) (h_x3 : 0 ≤ x3.toInt ∧ x3.toInt ≤ 1000000) (h_x4 : 0 ≤ x4.toInt ∧ x4.toInt ≤ 50000) (h_x5 : 0 ≤ x5.toInt ∧ x5.toInt ≤ 2) (h_y29_6 : 0 ≤ y29_6.toInt ∧ y29_6.toInt ≤ 119)  : ∀ (fu : Nat) (I0_l55 : (Nat → Int32)) (M0_l55 : (Nat → Nat → Int32)) (y55_7 : Int32) (y55_8 : Int32) (y55_9 : Int32) (y55_10 : Int32), (-2147483648 ≤ y55_7.toInt ∧ y55_7.toInt ≤ 1000) → (0 ≤ y55_8.toInt ∧ y55_8.toInt ≤ 3) → (0 ≤ y55_10.toInt ∧ y55_10.toInt ≤ 4) → (KX11 I0_l55 M0_l55) → (4 - y55_10.toInt) < (fu : Int) → wq (fX11_whose_L55 N x1 x2 x3 x4 x5 y29_6 fu I0_l55 M0_l55 y55_7 y55_8 y55_9 y55_10) (fun r => KX11 r.2.1 r.2.2 ∧ True) := by
  intro fu
  induction fu with
  | zero => intro I0_l55 M0_l55 y55_7 y55_8 y55_9 y55_10 h_y55_7 h_y55_8 h_y55_10 k_I0_l55 hm; exfalso; omega
  | succ fu ih =>
    intro I0_l55 M0_l55 y55_7 y55_8 y55_9 y55_10 h_y55_7 h_y55_8 h_y55_10 k_I0_l55 hm
    rw [fX11_whose_L55.eq_2]
    have l_4 := il_4
    refine wq_le (fun hc_21985 => ?_) (fun hc_21986 => ?_)
    · have l_0 := il_0
      refine wq_eq (fun hc_21987 => ?_) (fun hc_21988 => ?_)
      · exact wq_s ⟨k_I0_l55, trivial⟩
      · have l_1 := il_1
        refine wq_eq (fun hc_21989 => ?_) (fun hc_21990 => ?_)
        · have b_21991 := i32b y55_7
          exact wq_s ⟨k_I0_l55, trivial⟩
        · have b_21992 := i32b y55_9
          exact wq_s ⟨k_I0_l55, trivial⟩
    · refine wq_b (tt_fX8_begin hN (wb_sh I0_l55 20) (wb_sh M0_l55 17) y29_6 y55_10 x3 ⟨by omega, by omega⟩ ⟨by omega, by omega⟩ ⟨by omega, by omega⟩ (KX11.s_X8_20_17 k_I0_l55)) (fun r7_q21993 h_r7_q21993 => ?_)
      obtain ⟨h_r7_q21993_0, -⟩ := h_r7_q21993
      refine wq_v (fun I0_8_q21994 h_I0_8_q21994 => ?_)
      refine wq_v (fun M0_9_q21995 h_M0_9_q21995 => ?_)
      have k_M0_9_q21995 : KX11 I0_8_q21994 M0_9_q21995 := by rw [h_I0_8_q21994, h_M0_9_q21995]; exact (KX11.p_X8_20_17 k_I0_l55 h_r7_q21993_0)
      have l_1 := il_1
      have t_21996 := ia_add x4 (1 : Int32) (by omega) (by omega)
      refine wq_b (tt_fX8_goOn hN (wb_sh I0_8_q21994 20) (wb_sh M0_9_q21995 17) (wb_sh I0_8_q21994 9) (wb_sh M0_9_q21995 1) (wb_sh I0_8_q21994 13) (wb_sh M0_9_q21995 13) (x4 + (1 : Int32)) (KX11.s_X8_20_17 k_M0_9_q21995) (KX11.s_X5_9_1 k_M0_9_q21995) (KX11.s_X1_13_13 k_M0_9_q21995)) (fun r10_q21997 h_r10_q21997 => ?_)
      obtain ⟨h_r10_q21997_0, -⟩ := h_r10_q21997
      refine wq_v (fun I0_11_q21998 h_I0_11_q21998 => ?_)
      refine wq_v (fun M0_12_q21999 h_M0_12_q21999 => ?_)
      have k_M0_12_q21999 : KX11 I0_11_q21998 M0_12_q21999 := by rw [h_I0_11_q21998, h_M0_12_q21999]; exact (KX11.p_X8_20_17 k_M0_9_q21995 h_r10_q21997_0)
      have b_22000 := i32b y55_7
      refine wq_le (fun hc_22001 => ?_) (fun hc_22002 => ?_)
      · unfold fX11_whose_J121
        refine wq_eq (fun hc_22003 => ?_) (fun hc_22004 => ?_)
        · have b_22006 := i32b y55_9
          refine wq_v (fun v5_q22005 h_v5_q22005 => ?_)
          have t_v5_q22005 := congrArg Int32.toInt h_v5_q22005
          have t_22008 := ia_add y55_10 (1 : Int32) (by omega) (by omega)
          refine wq_v (fun v6_q22007 h_v6_q22007 => ?_)
          have t_v6_q22007 := congrArg Int32.toInt h_v6_q22007
          have b_22009 := i32b v5_q22005
          exact ih I0_11_q21998 M0_12_q21999 y55_7 y55_8 v5_q22005 v6_q22007 ⟨by omega, by omega⟩ ⟨by omega, by omega⟩ ⟨by omega, by omega⟩ k_M0_12_q21999 (by omega)
        · have t_22011 := ia_add y55_10 (1 : Int32) (by omega) (by omega)
          refine wq_v (fun v4_q22010 h_v4_q22010 => ?_)
          have t_v4_q22010 := congrArg Int32.toInt h_v4_q22010
          have b_22012 := i32b y55_9
          exact ih I0_11_q21998 M0_12_q21999 y55_7 y55_8 y55_9 v4_q22010 ⟨by omega, by omega⟩ ⟨by omega, by omega⟩ ⟨by omega, by omega⟩ k_M0_12_q21999 (by omega)
      · refine wq_v (fun v13_q22013 h_v13_q22013 => ?_)
        have t_v13_q22013 := congrArg Int32.toInt h_v13_q22013
        unfold fX11_whose_J121
        have b_22014 := i32b v13_q22013
        refine wq_eq (fun hc_22015 => ?_) (fun hc_22016 => ?_)
        · have l_0 := il_0
          have t_22018 := ia_add (0 : Int32) (1 : Int32) (by omega) (by omega)
          refine wq_v (fun v5_q22017 h_v5_q22017 => ?_)
          have t_v5_q22017 := congrArg Int32.toInt h_v5_q22017
          have t_22020 := ia_add y55_10 (1 : Int32) (by omega) (by omega)
          refine wq_v (fun v6_q22019 h_v6_q22019 => ?_)
          have t_v6_q22019 := congrArg Int32.toInt h_v6_q22019
          exact ih I0_11_q21998 M0_12_q21999 v13_q22013 y55_10 v5_q22017 v6_q22019 ⟨by omega, by omega⟩ ⟨by omega, by omega⟩ ⟨by omega, by omega⟩ k_M0_12_q21999 (by omega)
        · have t_22022 := ia_add y55_10 (1 : Int32) (by omega) (by omega)
          refine wq_v (fun v4_q22021 h_v4_q22021 => ?_)
          have t_v4_q22021 := congrArg Int32.toInt h_v4_q22021
          have l_0 := il_0
          exact ih I0_11_q21998 M0_12_q21999 v13_q22013 y55_10 (0 : Int32) v4_q22021 ⟨by omega, by omega⟩ ⟨by omega, by omega⟩ ⟨by omega, by omega⟩ k_M0_12_q21999 (by omega)
set_option maxHeartbeats 4000000 in
theorem tt_fX11_whose {N : Nat} (hN : 3000000000 ≤ N) (I0 : Nat → Int32) (M0 : Nat → Nat → Int32) (x1 : Int32) (x2 : Int32) (x3 : Int32) (x4 : Int32) (x5 : Int32) (k_I0 : KX11 I0 M0) : wq (fX11_whose N I0 M0 x1 x2 x3 x4 x5) (qS 3 (fun r => KX11 r.2.1 r.2.2 ∧ True)) := by
  unfold fX11_whose
  have b_22024 := i32b x1
  have b_22025 := i32b x2
  refine wq_xb (tt_fX11_numberOf hN x1 x2) (by decide) (fun r14_q22023 h_r14_q22023 => ?_)
  obtain ⟨h_r14_q22023_0, h_r14_q22023_1, -⟩ := h_r14_q22023
  have b_22026 := i32b x3
  refine wq_b (tt_fX11_isDay hN x3) (fun r15_q22027 h_r15_q22027 => ?_)
  obtain ⟨h_r15_q22027_0, h_r15_q22027_1, -⟩ := h_r15_q22027
  have l_0 := il_0
  refine wq_eq (fun hc_22028 => ?_) (fun hc_22029 => ?_)
  · unfold fX11_whose_J28
    unfold fX11_whose_J29
    exact wq_xb (tt_fX11_need0 N) (by decide) (fun _ h => absurd h id)
  · have b_22031 := i32b x5
    have l_2 := il_2
    refine wq_b (tt_fX11_within hN x5 (0 : Int32) (2 : Int32)) (fun r16_q22032 h_r16_q22032 => ?_)
    obtain ⟨h_r16_q22032_0, h_r16_q22032_1, -⟩ := h_r16_q22032
    refine wq_eq (fun hc_22033 => ?_) (fun hc_22034 => ?_)
    · unfold fX11_whose_J28
      unfold fX11_whose_J29
      exact wq_xb (tt_fX11_need0 N) (by decide) (fun _ h => absurd h id)
    · unfold fX11_whose_J29
      have l_1 := il_1
      refine wq_xb (tt_fX11_need hN (1 : Int32)) (by decide) (fun r1_q22036 h_r1_q22036 => ?_)
      obtain ⟨h_r1_q22036_0, -⟩ := h_r1_q22036
      have b_22037 := i32b x4
      refine wq_b (tt_fX11_isSpan hN x3 x4 ⟨by omega, by omega⟩) (fun r2_q22038 h_r2_q22038 => ?_)
      obtain ⟨h_r2_q22038_0, h_r2_q22038_1, -⟩ := h_r2_q22038
      refine wq_xb (tt_fX11_allow hN r2_q22038) (by decide) (fun r3_q22039 h_r3_q22039 => ?_)
      obtain ⟨h_r3_q22039_0, -⟩ := h_r3_q22039
      refine wq_ok ?_
      have l_1000 := il_1000
      exact tt_fX11_whose_L55 hN x1 x2 x3 x4 x5 r14_q22023 ⟨by omega, by omega⟩ ⟨by omega, by omega⟩ ⟨by omega, by omega⟩ ⟨by omega, by omega⟩ ⟨by omega, by omega⟩ ⟨by omega, by omega⟩ N I0 M0 (1000 : Int32) (0 : Int32) (0 : Int32) (0 : Int32) ⟨by omega, by omega⟩ ⟨by omega, by omega⟩ ⟨by omega, by omega⟩ k_I0 (by omega)
set_option maxHeartbeats 4000000 in
theorem tt_fX11_mixed_L29 {N : Nat} (hN : 3000000000 ≤ N) (I0 : Nat → Int32) (M0 : Nat → Nat → Int32) (x1 : Int32) (x2 : Int32) (x3 : Int32) (x4 : Int32) (r1 : Int32) (h_x1 : 0 ≤ x1.toInt ∧ x1.toInt ≤ 5) (h_x2 : 0 ≤ x2.toInt ∧ x2.toInt ≤ 19) (h_x3 : 0 ≤ x3.toInt ∧ x3.toInt ≤ 1000000) (h_x4 : 0 ≤ x4.toInt ∧ x4.toInt ≤ 50000) (h_r1 : 0 ≤ r1.toInt ∧ r1.toInt ≤ 119) (k_I0 : KX11 I0 M0)  : ∀ (fu : Nat) (y29_6 : Int32) (y29_7 : Int32), (0 ≤ y29_7.toInt ∧ y29_7.toInt ≤ 50001) → (50001 - y29_7.toInt) < (fu : Int) → wq (fX11_mixed_L29 N I0 M0 x1 x2 x3 x4 r1 fu y29_6 y29_7) (fun r => True) := by
  intro fu
  induction fu with
  | zero => intro y29_6 y29_7 h_y29_7 hm; exfalso; omega
  | succ fu ih =>
    intro y29_6 y29_7 h_y29_7 hm
    rw [fX11_mixed_L29.eq_2]
    refine wq_lt (fun hc_22502 => ?_) (fun hc_22503 => ?_)
    · have b_22504 := i32b y29_6
      exact wq_s trivial
    · have t_22505 := ia_add x3 y29_7 (by omega) (by omega)
      refine wq_b (tt_fX3_isMixed hN (wb_sh I0 9) (wb_sh M0 1) (wb_sh I0 13) (wb_sh M0 13) r1 (x3 + y29_7) ⟨by omega, by omega⟩ (KX11.s_X5_9_1 k_I0) (KX11.s_X1_13_13 k_I0)) (fun r6_q22506 h_r6_q22506 => ?_)
      obtain ⟨h_r6_q22506_0, -⟩ := h_r6_q22506
      have l_0 := il_0
      refine wq_eq (fun hc_22507 => ?_) (fun hc_22508 => ?_)
      · have l_1 := il_1
        have t_22510 := ia_add y29_7 (1 : Int32) (by omega) (by omega)
        refine wq_v (fun v7_q22509 h_v7_q22509 => ?_)
        have t_v7_q22509 := congrArg Int32.toInt h_v7_q22509
        have b_22511 := i32b y29_6
        exact ih y29_6 v7_q22509 ⟨by omega, by omega⟩ (by omega)
      · have b_22513 := i32b y29_6
        have l_1 := il_1
        refine wq_v (fun v8_q22512 h_v8_q22512 => ?_)
        have t_v8_q22512 := congrArg Int32.toInt h_v8_q22512
        have t_22515 := ia_add y29_7 (1 : Int32) (by omega) (by omega)
        refine wq_v (fun v9_q22514 h_v9_q22514 => ?_)
        have t_v9_q22514 := congrArg Int32.toInt h_v9_q22514
        have b_22516 := i32b v8_q22512
        exact ih v8_q22512 v9_q22514 ⟨by omega, by omega⟩ (by omega)
set_option maxHeartbeats 4000000 in
theorem tt_fX11_mixed {N : Nat} (hN : 3000000000 ≤ N) (I0 : Nat → Int32) (M0 : Nat → Nat → Int32) (x1 : Int32) (x2 : Int32) (x3 : Int32) (x4 : Int32) (k_I0 : KX11 I0 M0) : wq (fX11_mixed N I0 M0 x1 x2 x3 x4) (qS 3 (fun r => True)) := by
  unfold fX11_mixed
  have b_22518 := i32b x1
  have b_22519 := i32b x2
  refine wq_xb (tt_fX11_numberOf hN x1 x2) (by decide) (fun r1_q22517 h_r1_q22517 => ?_)
  obtain ⟨h_r1_q22517_0, h_r1_q22517_1, -⟩ := h_r1_q22517
  have b_22520 := i32b x3
  refine wq_b (tt_fX11_isDay hN x3) (fun r2_q22521 h_r2_q22521 => ?_)
  obtain ⟨h_r2_q22521_0, h_r2_q22521_1, -⟩ := h_r2_q22521
  refine wq_xb (tt_fX11_need hN r2_q22521) (by decide) (fun r3_q22522 h_r3_q22522 => ?_)
  obtain ⟨h_r3_q22522_0, -⟩ := h_r3_q22522
  have b_22523 := i32b x4
  refine wq_b (tt_fX11_isSpan hN x3 x4 ⟨by omega, by omega⟩) (fun r4_q22524 h_r4_q22524 => ?_)
  obtain ⟨h_r4_q22524_0, h_r4_q22524_1, -⟩ := h_r4_q22524
  refine wq_xb (tt_fX11_allow hN r4_q22524) (by decide) (fun r5_q22525 h_r5_q22525 => ?_)
  obtain ⟨h_r5_q22525_0, -⟩ := h_r5_q22525
  refine wq_ok ?_
  have l_0 := il_0
  exact tt_fX11_mixed_L29 hN I0 M0 x1 x2 x3 x4 r1_q22517 ⟨by omega, by omega⟩ ⟨by omega, by omega⟩ ⟨by omega, by omega⟩ ⟨by omega, by omega⟩ ⟨by omega, by omega⟩ k_I0 N (0 : Int32) (0 : Int32) ⟨by omega, by omega⟩ (by omega)
set_option maxHeartbeats 4000000 in
theorem tt_fX11_isClimate {N : Nat} (hN : 3000000000 ≤ N) (I0 : Nat → Int32) (M0 : Nat → Nat → Int32) (x1 : Int32) (k_I0 : KX11 I0 M0) : wq (fX11_isClimate N I0 M0 x1) (fun r => (r.toInt = 0 ∨ (r.toInt = 1 ∧ 0 ≤ x1.toInt ∧ x1.toInt ≤ 6 ∧ x1.toInt < (I0 9).toInt)) ∧ (0 ≤ r.toInt ∧ r.toInt ≤ 1) ∧ True) := by
  unfold fX11_isClimate
  have b_22550 := i32b x1
  have l_0 := il_0
  have t_22551 := KX11.i9 k_I0
  have l_1 := il_1
  have t_22552 := ia_sub (I0 9) (1 : Int32) (by omega) (by omega)
  refine wq_b (tt_fX11_within hN x1 (0 : Int32) ((I0 9) - (1 : Int32))) (fun r1_q22553 h_r1_q22553 => ?_)
  obtain ⟨h_r1_q22553_0, h_r1_q22553_1, -⟩ := h_r1_q22553
  refine wq_bz (by omega) ?_
  exact wq_s ⟨(show (r1_q22553.toInt = 0 ∨ (r1_q22553.toInt = 1 ∧ 0 ≤ x1.toInt ∧ x1.toInt ≤ 6 ∧ x1.toInt < (I0 9).toInt)) from by omega), (show 0 ≤ r1_q22553.toInt ∧ r1_q22553.toInt ≤ 1 from ⟨by omega, by omega⟩), trivial⟩
set_option maxHeartbeats 4000000 in
theorem tt_fX11_climb {N : Nat} (hN : 3000000000 ≤ N) (I0 : Nat → Int32) (M0 : Nat → Nat → Int32) (x1 : Int32) (x2 : Int32) (k_I0 : KX11 I0 M0) : wq (fX11_climb N I0 M0 x1 x2) (qS 1 (fun r => True)) := by
  unfold fX11_climb
  have b_22638 := i32b x1
  refine wq_b (tt_fX11_isClimate hN I0 M0 x1 k_I0) (fun r3_q22639 h_r3_q22639 => ?_)
  obtain ⟨h_r3_q22639_0, h_r3_q22639_1, -⟩ := h_r3_q22639
  have t_22640 := KX11.i9 k_I0
  have l_0 := il_0
  refine wq_eq (fun hc_22641 => ?_) (fun hc_22642 => ?_)
  · unfold fX11_climb_J23
    unfold fX11_climb_J24
    exact wq_xb (tt_fX11_need0 N) (by decide) (fun _ h => absurd h id)
  · have b_22644 := i32b x2
    have l_21599 := il_21599
    refine wq_b (tt_fX11_within hN x2 (0 : Int32) (21599 : Int32)) (fun r4_q22645 h_r4_q22645 => ?_)
    obtain ⟨h_r4_q22645_0, h_r4_q22645_1, -⟩ := h_r4_q22645
    refine wq_eq (fun hc_22646 => ?_) (fun hc_22647 => ?_)
    · unfold fX11_climb_J23
      unfold fX11_climb_J24
      exact wq_xb (tt_fX11_need0 N) (by decide) (fun _ h => absurd h id)
    · unfold fX11_climb_J24
      have l_1 := il_1
      refine wq_xb (tt_fX11_need hN (1 : Int32)) (by decide) (fun r1_q22649 h_r1_q22649 => ?_)
      obtain ⟨h_r1_q22649_0, -⟩ := h_r1_q22649
      refine wq_ok ?_
      refine wq_b (tt_fX2_climbOf hN (wb_sh I0 9) (wb_sh M0 5) x1 x2 ⟨by omega, by omega⟩ ⟨by omega, by omega⟩ (KX11.s_X2_9_5 k_I0)) (fun r2_q22650 h_r2_q22650 => ?_)
      obtain ⟨-⟩ := h_r2_q22650
      have b_22651 := i32b r2_q22650
      exact wq_s trivial
set_option maxHeartbeats 4000000 in
theorem tt_fX11_rise {N : Nat} (hN : 3000000000 ≤ N) (I0 : Nat → Int32) (M0 : Nat → Nat → Int32) (x1 : Int32) (x2 : Int32) (x3 : Int32) (k_I0 : KX11 I0 M0) : wq (fX11_rise N I0 M0 x1 x2 x3) (qS 1 (fun r => True)) := by
  unfold fX11_rise
  have b_22766 := i32b x1
  refine wq_b (tt_fX11_isClimate hN I0 M0 x1 k_I0) (fun r3_q22767 h_r3_q22767 => ?_)
  obtain ⟨h_r3_q22767_0, h_r3_q22767_1, -⟩ := h_r3_q22767
  have t_22768 := KX11.i9 k_I0
  have l_0 := il_0
  refine wq_eq (fun hc_22769 => ?_) (fun hc_22770 => ?_)
  · unfold fX11_rise_J34
    unfold fX11_rise_J35
    exact wq_xb (tt_fX11_need0 N) (by decide) (fun _ h => absurd h id)
  · have b_22772 := i32b x2
    have l_21599 := il_21599
    refine wq_b (tt_fX11_within hN x2 (0 : Int32) (21599 : Int32)) (fun r4_q22773 h_r4_q22773 => ?_)
    obtain ⟨h_r4_q22773_0, h_r4_q22773_1, -⟩ := h_r4_q22773
    refine wq_eq (fun hc_22774 => ?_) (fun hc_22775 => ?_)
    · unfold fX11_rise_J34
      unfold fX11_rise_J35
      exact wq_xb (tt_fX11_need0 N) (by decide) (fun _ h => absurd h id)
    · have b_22777 := i32b x3
      have l_359 := il_359
      refine wq_b (tt_fX11_within hN x3 (0 : Int32) (359 : Int32)) (fun r5_q22778 h_r5_q22778 => ?_)
      obtain ⟨h_r5_q22778_0, h_r5_q22778_1, -⟩ := h_r5_q22778
      refine wq_eq (fun hc_22779 => ?_) (fun hc_22780 => ?_)
      · unfold fX11_rise_J34
        unfold fX11_rise_J35
        exact wq_xb (tt_fX11_need0 N) (by decide) (fun _ h => absurd h id)
      · unfold fX11_rise_J35
        have l_1 := il_1
        refine wq_xb (tt_fX11_need hN (1 : Int32)) (by decide) (fun r1_q22782 h_r1_q22782 => ?_)
        obtain ⟨h_r1_q22782_0, -⟩ := h_r1_q22782
        refine wq_ok ?_
        refine wq_b (tt_fX2_risingAt hN (wb_sh I0 9) (wb_sh M0 5) x1 x2 x3 ⟨by omega, by omega⟩ ⟨by omega, by omega⟩ ⟨by omega, by omega⟩ (KX11.s_X2_9_5 k_I0)) (fun r2_q22783 h_r2_q22783 => ?_)
        obtain ⟨-⟩ := h_r2_q22783
        have b_22784 := i32b r2_q22783
        exact wq_s trivial
set_option maxHeartbeats 4000000 in
theorem tt_fX11_middle {N : Nat} (hN : 3000000000 ≤ N) (I0 : Nat → Int32) (M0 : Nat → Nat → Int32) (x1 : Int32) (x2 : Int32) (k_I0 : KX11 I0 M0) : wq (fX11_middle N I0 M0 x1 x2) (qS 1 (fun r => True)) := by
  unfold fX11_middle
  have b_22869 := i32b x1
  refine wq_b (tt_fX11_isClimate hN I0 M0 x1 k_I0) (fun r3_q22870 h_r3_q22870 => ?_)
  obtain ⟨h_r3_q22870_0, h_r3_q22870_1, -⟩ := h_r3_q22870
  have t_22871 := KX11.i9 k_I0
  have l_0 := il_0
  refine wq_eq (fun hc_22872 => ?_) (fun hc_22873 => ?_)
  · unfold fX11_middle_J23
    unfold fX11_middle_J24
    exact wq_xb (tt_fX11_need0 N) (by decide) (fun _ h => absurd h id)
  · have b_22875 := i32b x2
    have l_21599 := il_21599
    refine wq_b (tt_fX11_within hN x2 (0 : Int32) (21599 : Int32)) (fun r4_q22876 h_r4_q22876 => ?_)
    obtain ⟨h_r4_q22876_0, h_r4_q22876_1, -⟩ := h_r4_q22876
    refine wq_eq (fun hc_22877 => ?_) (fun hc_22878 => ?_)
    · unfold fX11_middle_J23
      unfold fX11_middle_J24
      exact wq_xb (tt_fX11_need0 N) (by decide) (fun _ h => absurd h id)
    · unfold fX11_middle_J24
      have l_1 := il_1
      refine wq_xb (tt_fX11_need hN (1 : Int32)) (by decide) (fun r1_q22880 h_r1_q22880 => ?_)
      obtain ⟨h_r1_q22880_0, -⟩ := h_r1_q22880
      refine wq_ok ?_
      refine wq_b (tt_fX2_middleOf hN (wb_sh I0 9) (wb_sh M0 5) x1 x2 ⟨by omega, by omega⟩ ⟨by omega, by omega⟩ (KX11.s_X2_9_5 k_I0)) (fun r2_q22881 h_r2_q22881 => ?_)
      obtain ⟨-⟩ := h_r2_q22881
      have b_22882 := i32b r2_q22881
      exact wq_s trivial

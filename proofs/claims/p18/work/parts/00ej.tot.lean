set_option maxHeartbeats 4000000 in
theorem tt_fX11_hour {N : Nat} (hN : 3000000000 ≤ N) (I0 : Nat → Int32) (M0 : Nat → Nat → Int32) (x1 : Int32) (x2 : Int32) (x3 : Int32) (k_I0 : KX11 I0 M0) : wq (fX11_hour N I0 M0 x1 x2 x3) (qS 1 (fun r => True)) := by
  unfold fX11_hour
  have b_23142 := i32b x1
  have b_23143 := i32b x2
  refine wq_xb (tt_fX11_numberOf hN x1 x2) (by decide) (fun r5_q23141 h_r5_q23141 => ?_)
  obtain ⟨h_r5_q23141_0, h_r5_q23141_1, -⟩ := h_r5_q23141
  have l_0 := il_0
  refine wq_b (tt_fX1_degreeOf hN (wb_sh I0 13) (wb_sh M0 13) r5_q23141 (0 : Int32) ⟨by omega, by omega⟩ ⟨by omega, by omega⟩ (KX11.s_X1_13_13 k_I0)) (fun r6_q23144 h_r6_q23144 => ?_)
  obtain ⟨h_r6_q23144_0, h_r6_q23144_1, -⟩ := h_r6_q23144
  have l_7 := il_7
  refine wq_b (tt_fX1_degreeOf hN (wb_sh I0 13) (wb_sh M0 13) r5_q23141 (7 : Int32) ⟨by omega, by omega⟩ ⟨by omega, by omega⟩ (KX11.s_X1_13_13 k_I0)) (fun r7_q23145 h_r7_q23145 => ?_)
  obtain ⟨h_r7_q23145_0, h_r7_q23145_1, -⟩ := h_r7_q23145
  have l_m1 := il_m1
  refine wq_eq (fun hc_23146 => ?_) (fun hc_23147 => ?_)
  · unfold fX11_hour_J48
    unfold fX11_hour_J49
    have b_23148 := i32b x3
    refine wq_eq (fun hc_23149 => ?_) (fun hc_23150 => ?_)
    · refine wq_ok ?_
      refine wq_eq (fun hc_23151 => ?_) (fun hc_23152 => ?_)
      · exact wq_s trivial
      · exfalso; omega
    · refine wq_eq (fun hc_23153 => ?_) (fun hc_23154 => ?_)
      · unfold fX11_hour_J104
        refine wq_eq (fun hc_23155 => ?_) (fun hc_23156 => ?_)
        · exact wq_xb (tt_fX11_need0 N) (by decide) (fun _ h => absurd h id)
        · exfalso; omega
      · exfalso; omega
  · refine wq_eq (fun hc_23158 => ?_) (fun hc_23159 => ?_)
    · unfold fX11_hour_J48
      unfold fX11_hour_J49
      have b_23160 := i32b x3
      refine wq_eq (fun hc_23161 => ?_) (fun hc_23162 => ?_)
      · refine wq_ok ?_
        refine wq_eq (fun hc_23163 => ?_) (fun hc_23164 => ?_)
        · exact wq_s trivial
        · exfalso; omega
      · refine wq_eq (fun hc_23165 => ?_) (fun hc_23166 => ?_)
        · unfold fX11_hour_J104
          refine wq_eq (fun hc_23167 => ?_) (fun hc_23168 => ?_)
          · exact wq_xb (tt_fX11_need0 N) (by decide) (fun _ h => absurd h id)
          · exfalso; omega
        · exfalso; omega
    · unfold fX11_hour_J49
      have b_23170 := i32b x3
      refine wq_eq (fun hc_23171 => ?_) (fun hc_23172 => ?_)
      · refine wq_ok ?_
        have l_1 := il_1
        refine wq_eq (fun hc_23173 => ?_) (fun hc_23174 => ?_)
        · exfalso; omega
        · refine wq_b (tt_fX2_howManyHours hN (wb_sh I0 9) (wb_sh M0 5) r6_q23144 r7_q23145 ⟨by omega, by omega⟩ (KX11.s_X2_9_5 k_I0)) (fun r4_q23175 h_r4_q23175 => ?_)
          obtain ⟨-⟩ := h_r4_q23175
          have b_23176 := i32b r4_q23175
          exact wq_s trivial
      · have l_1 := il_1
        refine wq_eq (fun hc_23177 => ?_) (fun hc_23178 => ?_)
        · exfalso; omega
        · refine wq_b (tt_fX2_nthHour hN (wb_sh I0 9) (wb_sh M0 5) r6_q23144 r7_q23145 x3 ⟨by omega, by omega⟩ (KX11.s_X2_9_5 k_I0)) (fun r3_q23179 h_r3_q23179 => ?_)
          obtain ⟨h_r3_q23179_0, -⟩ := h_r3_q23179
          unfold fX11_hour_J104
          refine wq_eq (fun hc_23180 => ?_) (fun hc_23181 => ?_)
          · exact wq_xb (tt_fX11_need0 N) (by decide) (fun _ h => absurd h id)
          · refine wq_xb (tt_fX11_need hN (1 : Int32)) (by decide) (fun r2_q23183 h_r2_q23183 => ?_)
            obtain ⟨h_r2_q23183_0, -⟩ := h_r2_q23183
            refine wq_ok ?_
            exact wq_s trivial
set_option maxHeartbeats 4000000 in
theorem tt_fX11_isWay {N : Nat} (hN : 3000000000 ≤ N) (I0 : Nat → Int32) (M0 : Nat → Nat → Int32) (x1 : Int32) (x2 : Int32) (k_I0 : KX11 I0 M0) : wq (fX11_isWay N I0 M0 x1 x2) (fun r => (r.toInt = 0 ∨ (r.toInt = 1 ∧ ((0 ≤ x1.toInt ∧ x1.toInt ≤ 1) ∨ (x1.toInt = 2 ∧ 0 ≤ x2.toInt ∧ x2.toInt ≤ 6 ∧ x2.toInt < (I0 9).toInt)))) ∧ (0 ≤ r.toInt ∧ r.toInt ≤ 1) ∧ True) := by
  unfold fX11_isWay
  have b_23262 := i32b x1
  have l_0 := il_0
  have l_1 := il_1
  refine wq_b (tt_fX11_within hN x1 (0 : Int32) (1 : Int32)) (fun r1_q23263 h_r1_q23263 => ?_)
  obtain ⟨h_r1_q23263_0, h_r1_q23263_1, -⟩ := h_r1_q23263
  refine wq_eq (fun hc_23264 => ?_) (fun hc_23265 => ?_)
  · have l_2 := il_2
    refine wq_eq (fun hc_23266 => ?_) (fun hc_23267 => ?_)
    · have b_23268 := i32b x2
      refine wq_b (tt_fX11_isClimate hN I0 M0 x2 k_I0) (fun r2_q23269 h_r2_q23269 => ?_)
      obtain ⟨h_r2_q23269_0, h_r2_q23269_1, -⟩ := h_r2_q23269
      have t_23270 := KX11.i9 k_I0
      refine wq_eq (fun hc_23271 => ?_) (fun hc_23272 => ?_)
      · exact wq_s ⟨(show ((0 : Int32).toInt = 0 ∨ ((0 : Int32).toInt = 1 ∧ ((0 ≤ x1.toInt ∧ x1.toInt ≤ 1) ∨ (x1.toInt = 2 ∧ 0 ≤ x2.toInt ∧ x2.toInt ≤ 6 ∧ x2.toInt < (I0 9).toInt)))) from by omega), (show 0 ≤ (0 : Int32).toInt ∧ (0 : Int32).toInt ≤ 1 from ⟨by omega, by omega⟩), trivial⟩
      · exact wq_s ⟨(show ((1 : Int32).toInt = 0 ∨ ((1 : Int32).toInt = 1 ∧ ((0 ≤ x1.toInt ∧ x1.toInt ≤ 1) ∨ (x1.toInt = 2 ∧ 0 ≤ x2.toInt ∧ x2.toInt ≤ 6 ∧ x2.toInt < (I0 9).toInt)))) from by omega), (show 0 ≤ (1 : Int32).toInt ∧ (1 : Int32).toInt ≤ 1 from ⟨by omega, by omega⟩), trivial⟩
    · have t_23273 := KX11.i9 k_I0
      have b_23274 := i32b x2
      exact wq_s ⟨(show ((0 : Int32).toInt = 0 ∨ ((0 : Int32).toInt = 1 ∧ ((0 ≤ x1.toInt ∧ x1.toInt ≤ 1) ∨ (x1.toInt = 2 ∧ 0 ≤ x2.toInt ∧ x2.toInt ≤ 6 ∧ x2.toInt < (I0 9).toInt)))) from by omega), (show 0 ≤ (0 : Int32).toInt ∧ (0 : Int32).toInt ≤ 1 from ⟨by omega, by omega⟩), trivial⟩
  · have t_23275 := KX11.i9 k_I0
    have b_23276 := i32b x2
    exact wq_s ⟨(show ((1 : Int32).toInt = 0 ∨ ((1 : Int32).toInt = 1 ∧ ((0 ≤ x1.toInt ∧ x1.toInt ≤ 1) ∨ (x1.toInt = 2 ∧ 0 ≤ x2.toInt ∧ x2.toInt ≤ 6 ∧ x2.toInt < (I0 9).toInt)))) from by omega), (show 0 ≤ (1 : Int32).toInt ∧ (1 : Int32).toInt ≤ 1 from ⟨by omega, by omega⟩), trivial⟩
set_option maxHeartbeats 4000000 in
theorem tt_fX11_houseOf {N : Nat} (hN : 3000000000 ≤ N) (I0 : Nat → Int32) (M0 : Nat → Nat → Int32) (x1 : Int32) (x2 : Int32) (x3 : Int32) (x4 : Int32) (k_I0 : KX11 I0 M0) : wq (fX11_houseOf N I0 M0 x1 x2 x3 x4) (qS 1 (fun r => True)) := by
  unfold fX11_houseOf
  have b_23397 := i32b x1
  have l_0 := il_0
  have l_359 := il_359
  refine wq_b (tt_fX11_within hN x1 (0 : Int32) (359 : Int32)) (fun r3_q23398 h_r3_q23398 => ?_)
  obtain ⟨h_r3_q23398_0, h_r3_q23398_1, -⟩ := h_r3_q23398
  refine wq_eq (fun hc_23399 => ?_) (fun hc_23400 => ?_)
  · unfold fX11_houseOf_J35
    unfold fX11_houseOf_J36
    exact wq_xb (tt_fX11_need0 N) (by decide) (fun _ h => absurd h id)
  · have b_23402 := i32b x2
    have b_23403 := i32b x3
    refine wq_b (tt_fX11_isWay hN I0 M0 x2 x3 k_I0) (fun r4_q23404 h_r4_q23404 => ?_)
    obtain ⟨h_r4_q23404_0, h_r4_q23404_1, -⟩ := h_r4_q23404
    have t_23405 := KX11.i9 k_I0
    refine wq_eq (fun hc_23406 => ?_) (fun hc_23407 => ?_)
    · unfold fX11_houseOf_J35
      unfold fX11_houseOf_J36
      exact wq_xb (tt_fX11_need0 N) (by decide) (fun _ h => absurd h id)
    · have b_23409 := i32b x4
      have l_1 := il_1
      have l_12 := il_12
      refine wq_b (tt_fX11_within hN x4 (1 : Int32) (12 : Int32)) (fun r5_q23410 h_r5_q23410 => ?_)
      obtain ⟨h_r5_q23410_0, h_r5_q23410_1, -⟩ := h_r5_q23410
      refine wq_eq (fun hc_23411 => ?_) (fun hc_23412 => ?_)
      · unfold fX11_houseOf_J35
        unfold fX11_houseOf_J36
        exact wq_xb (tt_fX11_need0 N) (by decide) (fun _ h => absurd h id)
      · unfold fX11_houseOf_J36
        refine wq_xb (tt_fX11_need hN (1 : Int32)) (by decide) (fun r1_q23414 h_r1_q23414 => ?_)
        obtain ⟨h_r1_q23414_0, -⟩ := h_r1_q23414
        refine wq_ok ?_
        refine wq_b (tt_fX2_houseDegree hN (wb_sh I0 9) (wb_sh M0 5) x1 x2 x3 x4 ⟨by omega, by omega⟩ ⟨by omega, by omega⟩ (KX11.s_X2_9_5 k_I0) (by omega)) (fun r2_q23415 h_r2_q23415 => ?_)
        obtain ⟨-⟩ := h_r2_q23415
        have b_23416 := i32b r2_q23415
        exact wq_s trivial
set_option maxHeartbeats 4000000 in
theorem tt_fX11_agree {N : Nat} (hN : 3000000000 ≤ N) (I0 : Nat → Int32) (M0 : Nat → Nat → Int32) (x1 : Int32) (x2 : Int32) (x3 : Int32) (x4 : Int32) (k_I0 : KX11 I0 M0) : wq (fX11_agree N I0 M0 x1 x2 x3 x4) (qS 1 (fun r => True)) := by
  unfold fX11_agree
  have b_23508 := i32b x1
  have b_23509 := i32b x2
  refine wq_xb (tt_fX11_numberOf hN x1 x2) (by decide) (fun r1_q23507 h_r1_q23507 => ?_)
  obtain ⟨h_r1_q23507_0, h_r1_q23507_1, -⟩ := h_r1_q23507
  have b_23510 := i32b x3
  have b_23511 := i32b x4
  refine wq_b (tt_fX11_isWay hN I0 M0 x3 x4 k_I0) (fun r2_q23512 h_r2_q23512 => ?_)
  obtain ⟨h_r2_q23512_0, h_r2_q23512_1, -⟩ := h_r2_q23512
  have t_23513 := KX11.i9 k_I0
  refine wq_xb (tt_fX11_need hN r2_q23512) (by decide) (fun r3_q23514 h_r3_q23514 => ?_)
  obtain ⟨h_r3_q23514_0, -⟩ := h_r3_q23514
  refine wq_ok ?_
  have l_7 := il_7
  refine wq_b (tt_fX1_degreeOf hN (wb_sh I0 13) (wb_sh M0 13) r1_q23507 (7 : Int32) ⟨by omega, by omega⟩ ⟨by omega, by omega⟩ (KX11.s_X1_13_13 k_I0)) (fun r4_q23515 h_r4_q23515 => ?_)
  obtain ⟨h_r4_q23515_0, h_r4_q23515_1, -⟩ := h_r4_q23515
  have l_m1 := il_m1
  refine wq_eq (fun hc_23516 => ?_) (fun hc_23517 => ?_)
  · exact wq_s trivial
  · refine wq_b (tt_fX1_howManyHouses hN (wb_sh I0 13) (wb_sh M0 13) r1_q23507 ⟨by omega, by omega⟩ (KX11.s_X1_13_13 k_I0)) (fun r5_q23518 h_r5_q23518 => ?_)
    obtain ⟨-⟩ := h_r5_q23518
    refine wq_b (tt_fX1_howManyDiffer hN (wb_sh I0 13) (wb_sh M0 13) (wb_sh I0 9) (wb_sh M0 5) r1_q23507 x3 x4 ⟨by omega, by omega⟩ (KX11.s_X1_13_13 k_I0) (KX11.s_X2_9_5 k_I0) (by omega)) (fun r6_q23519 h_r6_q23519 => ?_)
    obtain ⟨-⟩ := h_r6_q23519
    have b_23520 := i32b r5_q23518
    have b_23521 := i32b r6_q23519
    exact wq_s trivial
set_option maxHeartbeats 4000000 in
theorem tt_fX11_lot {N : Nat} (hN : 3000000000 ≤ N) (I0 : Nat → Int32) (M0 : Nat → Nat → Int32) (x1 : Int32) (x2 : Int32) (x3 : Int32) (k_I0 : KX11 I0 M0) : wq (fX11_lot N I0 M0 x1 x2 x3) (qS 1 (fun r => True)) := by
  unfold fX11_lot
  have b_23625 := i32b x1
  have b_23626 := i32b x2
  refine wq_xb (tt_fX11_numberOf hN x1 x2) (by decide) (fun r1_q23624 h_r1_q23624 => ?_)
  obtain ⟨h_r1_q23624_0, h_r1_q23624_1, -⟩ := h_r1_q23624
  have b_23627 := i32b x3
  have l_0 := il_0
  have l_1 := il_1
  refine wq_b (tt_fX11_within hN x3 (0 : Int32) (1 : Int32)) (fun r2_q23628 h_r2_q23628 => ?_)
  obtain ⟨h_r2_q23628_0, h_r2_q23628_1, -⟩ := h_r2_q23628
  refine wq_xb (tt_fX11_need hN r2_q23628) (by decide) (fun r3_q23629 h_r3_q23629 => ?_)
  obtain ⟨h_r3_q23629_0, -⟩ := h_r3_q23629
  refine wq_ok ?_
  refine wq_b (tt_fX1_lotOf hN (wb_sh I0 13) (wb_sh M0 13) r1_q23624 ⟨by omega, by omega⟩ (KX11.s_X1_13_13 k_I0)) (fun r4_q23630 h_r4_q23630 => ?_)
  obtain ⟨-⟩ := h_r4_q23630
  refine wq_eq (fun hc_23631 => ?_) (fun hc_23632 => ?_)
  · have b_23633 := i32b r4_q23630
    exact wq_s trivial
  · have b_23634 := i32b r4_q23630
    have l_m1 := il_m1
    refine wq_eq (fun hc_23635 => ?_) (fun hc_23636 => ?_)
    · exact wq_s trivial
    · have l_8 := il_8
      refine wq_b (tt_fX1_degreeOf hN (wb_sh I0 13) (wb_sh M0 13) r1_q23624 (8 : Int32) ⟨by omega, by omega⟩ ⟨by omega, by omega⟩ (KX11.s_X1_13_13 k_I0)) (fun r5_q23637 h_r5_q23637 => ?_)
      obtain ⟨h_r5_q23637_0, h_r5_q23637_1, -⟩ := h_r5_q23637
      refine wq_eq (fun hc_23638 => ?_) (fun hc_23639 => ?_)
      · exact wq_s trivial
      · refine wq_b (tt_fX4_costBeside hN (wb_sh I0 10) (wb_sh M0 6) r5_q23637 r4_q23630 ⟨by omega, by omega⟩) (fun r6_q23640 h_r6_q23640 => ?_)
        obtain ⟨h_r6_q23640_0, -⟩ := h_r6_q23640
        exact wq_s trivial
set_option maxHeartbeats 4000000 in
theorem tt_fX11_price {N : Nat} (hN : 3000000000 ≤ N) (I0 : Nat → Int32) (M0 : Nat → Nat → Int32) (x1 : Int32) (x2 : Int32) (k_I0 : KX11 I0 M0) : wq (fX11_price N I0 M0 x1 x2) (qS 1 (fun r => True)) := by
  unfold fX11_price
  have b_23719 := i32b x1
  refine wq_b (tt_fX11_isBook hN x1) (fun r3_q23720 h_r3_q23720 => ?_)
  obtain ⟨h_r3_q23720_0, h_r3_q23720_1, -⟩ := h_r3_q23720
  have l_0 := il_0
  refine wq_eq (fun hc_23721 => ?_) (fun hc_23722 => ?_)
  · unfold fX11_price_J18
    unfold fX11_price_J19
    exact wq_xb (tt_fX11_need0 N) (by decide) (fun _ h => absurd h id)
  · have b_23724 := i32b x2
    refine wq_b (tt_fX11_isBook hN x2) (fun r4_q23725 h_r4_q23725 => ?_)
    obtain ⟨h_r4_q23725_0, h_r4_q23725_1, -⟩ := h_r4_q23725
    refine wq_eq (fun hc_23726 => ?_) (fun hc_23727 => ?_)
    · unfold fX11_price_J18
      unfold fX11_price_J19
      exact wq_xb (tt_fX11_need0 N) (by decide) (fun _ h => absurd h id)
    · unfold fX11_price_J19
      have l_1 := il_1
      refine wq_xb (tt_fX11_need hN (1 : Int32)) (by decide) (fun r1_q23729 h_r1_q23729 => ?_)
      obtain ⟨h_r1_q23729_0, -⟩ := h_r1_q23729
      refine wq_ok ?_
      refine wq_b (tt_fX10_priceOf hN (wb_sh I0 10) (wb_sh M0 6) (wb_sh I0 13) (wb_sh M0 13) x1 x2 ⟨by omega, by omega⟩ ⟨by omega, by omega⟩ (KX11.s_X1_13_13 k_I0)) (fun r2_q23730 h_r2_q23730 => ?_)
      obtain ⟨-⟩ := h_r2_q23730
      have b_23731 := i32b r2_q23730
      exact wq_s trivial
set_option maxHeartbeats 4000000 in
theorem tt_fX11_seek {N : Nat} (hN : 3000000000 ≤ N) (I0 : Nat → Int32) (M0 : Nat → Nat → Int32) (x1 : Int32) (x2 : Int32) (x3 : Int32) (x4 : Int32) (k_I0 : KX11 I0 M0) : wq (fX11_seek N I0 M0 x1 x2 x3 x4) (qS 1 (fun r => KX11 r.1 r.2 ∧ True)) := by
  unfold fX11_seek
  have b_23818 := i32b x1
  have b_23819 := i32b x2
  refine wq_xb (tt_fX11_numberOf hN x1 x2) (by decide) (fun r5_q23817 h_r5_q23817 => ?_)
  obtain ⟨h_r5_q23817_0, h_r5_q23817_1, -⟩ := h_r5_q23817
  have b_23820 := i32b x3
  have l_0 := il_0
  have l_3 := il_3
  refine wq_b (tt_fX11_within hN x3 (0 : Int32) (3 : Int32)) (fun r6_q23821 h_r6_q23821 => ?_)
  obtain ⟨h_r6_q23821_0, h_r6_q23821_1, -⟩ := h_r6_q23821
  refine wq_eq (fun hc_23822 => ?_) (fun hc_23823 => ?_)
  · unfold fX11_seek_J28
    unfold fX11_seek_J29
    exact wq_xb (tt_fX11_need0 N) (by decide) (fun _ h => absurd h id)
  · have b_23825 := i32b x4
    refine wq_b (tt_fX11_isDay hN x4) (fun r7_q23826 h_r7_q23826 => ?_)
    obtain ⟨h_r7_q23826_0, h_r7_q23826_1, -⟩ := h_r7_q23826
    refine wq_eq (fun hc_23827 => ?_) (fun hc_23828 => ?_)
    · unfold fX11_seek_J28
      unfold fX11_seek_J29
      exact wq_xb (tt_fX11_need0 N) (by decide) (fun _ h => absurd h id)
    · unfold fX11_seek_J29
      have l_1 := il_1
      refine wq_xb (tt_fX11_need hN (1 : Int32)) (by decide) (fun r1_q23830 h_r1_q23830 => ?_)
      obtain ⟨h_r1_q23830_0, -⟩ := h_r1_q23830
      refine wq_ok ?_
      refine wq_b (tt_fX8_begin hN (wb_sh I0 27) (wb_sh M0 18) r5_q23817 x3 x4 ⟨by omega, by omega⟩ ⟨by omega, by omega⟩ ⟨by omega, by omega⟩ (KX11.s_X8_27_18 k_I0)) (fun r2_q23831 h_r2_q23831 => ?_)
      obtain ⟨h_r2_q23831_0, -⟩ := h_r2_q23831
      refine wq_v (fun I0_3_q23832 h_I0_3_q23832 => ?_)
      refine wq_v (fun M0_4_q23833 h_M0_4_q23833 => ?_)
      have k_M0_4_q23833 : KX11 I0_3_q23832 M0_4_q23833 := by rw [h_I0_3_q23832, h_M0_4_q23833]; exact (KX11.p_X8_27_18 k_I0 h_r2_q23831_0)
      exact wq_s ⟨k_M0_4_q23833, trivial⟩
set_option maxHeartbeats 4000000 in
theorem tt_fX11_on {N : Nat} (hN : 3000000000 ≤ N) (I0 : Nat → Int32) (M0 : Nat → Nat → Int32) (x1 : Int32) (k_I0 : KX11 I0 M0) : wq (fX11_on N I0 M0 x1) (qS 3 (fun r => KX11 r.2.1 r.2.2 ∧ True)) := by
  unfold fX11_on
  have t_23889 := KX11.i27 k_I0
  refine wq_xb (tt_fX11_need hN (I0 27)) (by decide) (fun r1_q23888 h_r1_q23888 => ?_)
  obtain ⟨h_r1_q23888_0, -⟩ := h_r1_q23888
  have b_23890 := i32b x1
  have l_0 := il_0
  have l_50000 := il_50000
  refine wq_b (tt_fX11_within hN x1 (0 : Int32) (50000 : Int32)) (fun r2_q23891 h_r2_q23891 => ?_)
  obtain ⟨h_r2_q23891_0, h_r2_q23891_1, -⟩ := h_r2_q23891
  refine wq_xb (tt_fX11_allow hN r2_q23891) (by decide) (fun r3_q23892 h_r3_q23892 => ?_)
  obtain ⟨h_r3_q23892_0, -⟩ := h_r3_q23892
  refine wq_ok ?_
  refine wq_b (tt_fX8_goOn hN (wb_sh I0 27) (wb_sh M0 18) (wb_sh I0 9) (wb_sh M0 1) (wb_sh I0 13) (wb_sh M0 13) x1 (KX11.s_X8_27_18 k_I0) (KX11.s_X5_9_1 k_I0) (KX11.s_X1_13_13 k_I0)) (fun r4_q23893 h_r4_q23893 => ?_)
  obtain ⟨h_r4_q23893_0, -⟩ := h_r4_q23893
  refine wq_v (fun I0_5_q23894 h_I0_5_q23894 => ?_)
  refine wq_v (fun M0_6_q23895 h_M0_6_q23895 => ?_)
  have k_M0_6_q23895 : KX11 I0_5_q23894 M0_6_q23895 := by rw [h_I0_5_q23894, h_M0_6_q23895]; exact (KX11.p_X8_27_18 k_I0 h_r4_q23893_0)
  have b_23896 := i32b r4_q23893.1
  exact wq_s ⟨k_M0_6_q23895, trivial⟩
set_option maxHeartbeats 4000000 in
theorem tt_fX11_held {N : Nat} (hN : 3000000000 ≤ N) (I0 : Nat → Int32) (M0 : Nat → Nat → Int32) (x1 : Int32) (k_I0 : KX11 I0 M0) : wq (fX11_held N I0 M0 x1) (qS 1 (fun r => True)) := by
  unfold fX11_held
  have t_24167 := KX11.i27 k_I0
  have l_0 := il_0
  refine wq_eq (fun hc_24168 => ?_) (fun hc_24169 => ?_)
  · unfold fX11_held_J23
    unfold fX11_held_J24
    exact wq_xb (tt_fX11_need0 N) (by decide) (fun _ h => absurd h id)
  · have b_24171 := i32b x1
    have l_4 := il_4
    refine wq_b (tt_fX11_within hN x1 (0 : Int32) (4 : Int32)) (fun r3_q24172 h_r3_q24172 => ?_)
    obtain ⟨h_r3_q24172_0, h_r3_q24172_1, -⟩ := h_r3_q24172
    refine wq_eq (fun hc_24173 => ?_) (fun hc_24174 => ?_)
    · unfold fX11_held_J23
      unfold fX11_held_J24
      exact wq_xb (tt_fX11_need0 N) (by decide) (fun _ h => absurd h id)
    · unfold fX11_held_J24
      have l_1 := il_1
      refine wq_xb (tt_fX11_need hN (1 : Int32)) (by decide) (fun r2_q24176 h_r2_q24176 => ?_)
      obtain ⟨h_r2_q24176_0, -⟩ := h_r2_q24176
      refine wq_ok ?_
      have t_24177 := KX11.i32 k_I0
      refine wq_eq (fun hc_24178 => ?_) (fun hc_24179 => ?_)
      · unfold fX11_held_J42
        refine wq_eq (fun hc_24180 => ?_) (fun hc_24181 => ?_)
        · have t_24182 := KX11.i30 k_I0
          exact wq_s trivial
        · refine wq_eq (fun hc_24183 => ?_) (fun hc_24184 => ?_)
          · refine wq_eq (fun hc_24185 => ?_) (fun hc_24186 => ?_)
            · exfalso; omega
            · have l_m1 := il_m1
              exact wq_s trivial
          · have l_2 := il_2
            refine wq_eq (fun hc_24187 => ?_) (fun hc_24188 => ?_)
            · exact wq_s trivial
            · have l_3 := il_3
              refine wq_eq (fun hc_24189 => ?_) (fun hc_24190 => ?_)
              · refine wq_eq (fun hc_24191 => ?_) (fun hc_24192 => ?_)
                · exfalso; omega
                · have l_m1 := il_m1
                  exact wq_s trivial
              · refine wq_eq (fun hc_24193 => ?_) (fun hc_24194 => ?_)
                · exfalso; omega
                · have l_m1 := il_m1
                  exact wq_s trivial
      · unfold fX11_held_J42
        refine wq_eq (fun hc_24195 => ?_) (fun hc_24196 => ?_)
        · have t_24197 := KX11.i30 k_I0
          exact wq_s trivial
        · refine wq_eq (fun hc_24198 => ?_) (fun hc_24199 => ?_)
          · refine wq_eq (fun hc_24200 => ?_) (fun hc_24201 => ?_)
            · exact wq_s trivial
            · exfalso; omega
          · have l_2 := il_2
            refine wq_eq (fun hc_24202 => ?_) (fun hc_24203 => ?_)
            · exact wq_s trivial
            · have l_3 := il_3
              refine wq_eq (fun hc_24204 => ?_) (fun hc_24205 => ?_)
              · refine wq_eq (fun hc_24206 => ?_) (fun hc_24207 => ?_)
                · refine wq_b (tt_fX8_keptDay hN (wb_sh I0 27) (wb_sh M0 18) (0 : Int32) (KX11.s_X8_27_18 k_I0)) (fun r1_q24208 h_r1_q24208 => ?_)
                  obtain ⟨-⟩ := h_r1_q24208
                  have b_24209 := i32b r1_q24208
                  exact wq_s trivial
                · exfalso; omega
              · refine wq_eq (fun hc_24210 => ?_) (fun hc_24211 => ?_)
                · exact wq_s trivial
                · exfalso; omega
set_option maxHeartbeats 4000000 in
theorem tt_fX11_image {N : Nat} (hN : 3000000000 ≤ N) (I0 : Nat → Int32) (M0 : Nat → Nat → Int32) (k_I0 : KX11 I0 M0) : wq (fX11_image N I0 M0) (fun r => (0 ≤ r.1.toInt ∧ r.1.toInt ≤ 1) ∧ KX11 r.2.1 r.2.2 ∧ True) := by
  unfold fX11_image
  have t_24248 := KX11.i27 k_I0
  have l_0 := il_0
  refine wq_eq (fun hc_24249 => ?_) (fun hc_24250 => ?_)
  · exact wq_s ⟨(show 0 ≤ (0 : Int32).toInt ∧ (0 : Int32).toInt ≤ 1 from ⟨by omega, by omega⟩), k_I0, trivial⟩
  · refine wq_b (tt_fX8_copyFrom hN (wb_sh I0 34) (wb_sh M0 19) (wb_sh I0 27) (wb_sh M0 18) (KX11.s_X8_34_19 k_I0) (KX11.s_X8_27_18 k_I0)) (fun r1_q24251 h_r1_q24251 => ?_)
    obtain ⟨h_r1_q24251_0, -⟩ := h_r1_q24251
    refine wq_v (fun I0_2_q24252 h_I0_2_q24252 => ?_)
    refine wq_v (fun M0_3_q24253 h_M0_3_q24253 => ?_)
    have k_M0_3_q24253 : KX11 I0_2_q24252 M0_3_q24253 := by rw [h_I0_2_q24252, h_M0_3_q24253]; exact (KX11.p_X8_34_19 k_I0 h_r1_q24251_0)
    have l_1 := il_1
    exact wq_s ⟨(show 0 ≤ (1 : Int32).toInt ∧ (1 : Int32).toInt ≤ 1 from ⟨by omega, by omega⟩), k_M0_3_q24253, trivial⟩
set_option maxHeartbeats 4000000 in
theorem tt_fX11_restore {N : Nat} (hN : 3000000000 ≤ N) (I0 : Nat → Int32) (M0 : Nat → Nat → Int32) (k_I0 : KX11 I0 M0) : wq (fX11_restore N I0 M0) (fun r => (0 ≤ r.1.toInt ∧ r.1.toInt ≤ 1) ∧ KX11 r.2.1 r.2.2 ∧ True) := by
  unfold fX11_restore
  have t_24290 := KX11.i34 k_I0
  have l_0 := il_0
  refine wq_eq (fun hc_24291 => ?_) (fun hc_24292 => ?_)
  · exact wq_s ⟨(show 0 ≤ (0 : Int32).toInt ∧ (0 : Int32).toInt ≤ 1 from ⟨by omega, by omega⟩), k_I0, trivial⟩
  · refine wq_b (tt_fX8_copyFrom hN (wb_sh I0 27) (wb_sh M0 18) (wb_sh I0 34) (wb_sh M0 19) (KX11.s_X8_27_18 k_I0) (KX11.s_X8_34_19 k_I0)) (fun r1_q24293 h_r1_q24293 => ?_)
    obtain ⟨h_r1_q24293_0, -⟩ := h_r1_q24293
    refine wq_v (fun I0_2_q24294 h_I0_2_q24294 => ?_)
    refine wq_v (fun M0_3_q24295 h_M0_3_q24295 => ?_)
    have k_M0_3_q24295 : KX11 I0_2_q24294 M0_3_q24295 := by rw [h_I0_2_q24294, h_M0_3_q24295]; exact (KX11.p_X8_27_18 k_I0 h_r1_q24293_0)
    have l_1 := il_1
    exact wq_s ⟨(show 0 ≤ (1 : Int32).toInt ∧ (1 : Int32).toInt ≤ 1 from ⟨by omega, by omega⟩), k_M0_3_q24295, trivial⟩
set_option maxHeartbeats 4000000 in
theorem tt_fX11_misread {N : Nat} (hN : 3000000000 ≤ N) (I0 : Nat → Int32) (M0 : Nat → Nat → Int32) (x1 : Int32) (x2 : Int32) (x3 : Int32) (x4 : Int32) (x5 : Int32) (k_I0 : KX11 I0 M0) : wq (fX11_misread N I0 M0 x1 x2 x3 x4 x5) (qS 1 (fun r => (-1 ≤ r.toInt ∧ r.toInt ≤ 9) ∧ True)) := by
  unfold fX11_misread
  have b_24441 := i32b x1
  have b_24442 := i32b x2
  refine wq_xb (tt_fX11_numberOf hN x1 x2) (by decide) (fun r5_q24440 h_r5_q24440 => ?_)
  obtain ⟨h_r5_q24440_0, h_r5_q24440_1, -⟩ := h_r5_q24440
  have b_24443 := i32b x3
  have l_0 := il_0
  have l_3 := il_3
  refine wq_b (tt_fX11_within hN x3 (0 : Int32) (3 : Int32)) (fun r6_q24444 h_r6_q24444 => ?_)
  obtain ⟨h_r6_q24444_0, h_r6_q24444_1, -⟩ := h_r6_q24444
  refine wq_eq (fun hc_24445 => ?_) (fun hc_24446 => ?_)
  · unfold fX11_misread_J39
    unfold fX11_misread_J40
    exact wq_xb (tt_fX11_need0 N) (by decide) (fun _ h => absurd h id)
  · have b_24448 := i32b x4
    refine wq_b (tt_fX11_isDay hN x4) (fun r7_q24449 h_r7_q24449 => ?_)
    obtain ⟨h_r7_q24449_0, h_r7_q24449_1, -⟩ := h_r7_q24449
    refine wq_eq (fun hc_24450 => ?_) (fun hc_24451 => ?_)
    · unfold fX11_misread_J39
      unfold fX11_misread_J40
      exact wq_xb (tt_fX11_need0 N) (by decide) (fun _ h => absurd h id)
    · have b_24453 := i32b x5
      have l_6 := il_6
      refine wq_b (tt_fX11_within hN x5 (0 : Int32) (6 : Int32)) (fun r8_q24454 h_r8_q24454 => ?_)
      obtain ⟨h_r8_q24454_0, h_r8_q24454_1, -⟩ := h_r8_q24454
      refine wq_eq (fun hc_24455 => ?_) (fun hc_24456 => ?_)
      · unfold fX11_misread_J39
        unfold fX11_misread_J40
        exact wq_xb (tt_fX11_need0 N) (by decide) (fun _ h => absurd h id)
      · unfold fX11_misread_J40
        have l_1 := il_1
        refine wq_xb (tt_fX11_need hN (1 : Int32)) (by decide) (fun r1_q24458 h_r1_q24458 => ?_)
        obtain ⟨h_r1_q24458_0, -⟩ := h_r1_q24458
        refine wq_ok ?_
        refine wq_b (tt_fX1_degreeOf hN (wb_sh I0 13) (wb_sh M0 13) r5_q24440 x5 ⟨by omega, by omega⟩ ⟨by omega, by omega⟩ (KX11.s_X1_13_13 k_I0)) (fun r2_q24459 h_r2_q24459 => ?_)
        obtain ⟨h_r2_q24459_0, h_r2_q24459_1, -⟩ := h_r2_q24459
        have l_m1 := il_m1
        refine wq_eq (fun hc_24460 => ?_) (fun hc_24461 => ?_)
        · exact wq_s ⟨(show -1 ≤ (-1 : Int32).toInt ∧ (-1 : Int32).toInt ≤ 9 from ⟨by omega, by omega⟩), trivial⟩
        · refine wq_b (tt_fX5_degreeOn hN (wb_sh I0 9) (wb_sh M0 1) x3 x5 x4 ⟨by omega, by omega⟩ ⟨by omega, by omega⟩ (KX11.s_X5_9_1 k_I0)) (fun r3_q24462 h_r3_q24462 => ?_)
          obtain ⟨h_r3_q24462_0, -⟩ := h_r3_q24462
          refine wq_b (tt_fX4_misreading hN (wb_sh I0 10) (wb_sh M0 6) r2_q24459 r3_q24462 ⟨by omega, by omega⟩) (fun r4_q24463 h_r4_q24463 => ?_)
          obtain ⟨h_r4_q24463_0, -⟩ := h_r4_q24463
          exact wq_s ⟨(show -1 ≤ r4_q24463.toInt ∧ r4_q24463.toInt ≤ 9 from ⟨by omega, by omega⟩), trivial⟩
set_option maxHeartbeats 4000000 in
theorem tt_fX11_errors {N : Nat} (hN : 3000000000 ≤ N) (I0 : Nat → Int32) (M0 : Nat → Nat → Int32) (x1 : Int32) (x2 : Int32) (x3 : Int32) (x4 : Int32) (k_I0 : KX11 I0 M0) : wq (fX11_errors N I0 M0 x1 x2 x3 x4) (qS 1 (fun r => KX11 r.2.1 r.2.2 ∧ True)) := by
  unfold fX11_errors
  have b_24693 := i32b x1
  have b_24694 := i32b x2
  refine wq_xb (tt_fX11_numberOf hN x1 x2) (by decide) (fun r11_q24692 h_r11_q24692 => ?_)
  obtain ⟨h_r11_q24692_0, h_r11_q24692_1, -⟩ := h_r11_q24692
  have b_24695 := i32b x3
  refine wq_b (tt_fX11_isDay hN x3) (fun r12_q24696 h_r12_q24696 => ?_)
  obtain ⟨h_r12_q24696_0, h_r12_q24696_1, -⟩ := h_r12_q24696
  have l_0 := il_0
  refine wq_eq (fun hc_24697 => ?_) (fun hc_24698 => ?_)
  · unfold fX11_errors_J29
    unfold fX11_errors_J30
    exact wq_xb (tt_fX11_need0 N) (by decide) (fun _ h => absurd h id)
  · have b_24700 := i32b x4
    have l_10 := il_10
    refine wq_b (tt_fX11_within hN x4 (0 : Int32) (10 : Int32)) (fun r13_q24701 h_r13_q24701 => ?_)
    obtain ⟨h_r13_q24701_0, h_r13_q24701_1, -⟩ := h_r13_q24701
    refine wq_eq (fun hc_24702 => ?_) (fun hc_24703 => ?_)
    · unfold fX11_errors_J29
      unfold fX11_errors_J30
      exact wq_xb (tt_fX11_need0 N) (by decide) (fun _ h => absurd h id)
    · unfold fX11_errors_J30
      have l_1 := il_1
      refine wq_xb (tt_fX11_need hN (1 : Int32)) (by decide) (fun r1_q24705 h_r1_q24705 => ?_)
      obtain ⟨h_r1_q24705_0, -⟩ := h_r1_q24705
      refine wq_ok ?_
      refine wq_b (tt_fX3_setSharers hN (wb_sh I0 13) (wb_sh M0 15) (wb_sh I0 9) (wb_sh M0 1) (wb_sh I0 13) (wb_sh M0 13) r11_q24692 x3 ⟨by omega, by omega⟩ (KX11.s_X5_9_1 k_I0) (KX11.s_X1_13_13 k_I0)) (fun r2_q24706 h_r2_q24706 => ?_)
      obtain ⟨-⟩ := h_r2_q24706
      refine wq_v (fun I0_3_q24707 h_I0_3_q24707 => ?_)
      refine wq_v (fun M0_4_q24708 h_M0_4_q24708 => ?_)
      have k_M0_4_q24708 : KX11 I0_3_q24707 M0_4_q24708 := by rw [h_I0_3_q24707, h_M0_4_q24708]; exact (KX11.p_X3_13_15 k_I0)
      refine wq_eq (fun hc_24709 => ?_) (fun hc_24710 => ?_)
      · refine wq_b (tt_fX3_howManyErrors hN (wb_sh I0_3_q24707 13) (wb_sh M0_4_q24708 15)) (fun r10_q24711 h_r10_q24711 => ?_)
        obtain ⟨-⟩ := h_r10_q24711
        have b_24712 := i32b r10_q24711
        exact wq_s ⟨k_M0_4_q24708, trivial⟩
      · refine wq_eq (fun hc_24713 => ?_) (fun hc_24714 => ?_)
        · refine wq_b (tt_fX3_setFollowed hN (wb_sh I0_3_q24707 13) (wb_sh M0_4_q24708 15)) (fun r9b_q24715 h_r9b_q24715 => ?_)
          obtain ⟨h_r9b_q24715_0, -⟩ := h_r9b_q24715
          exact wq_s ⟨k_M0_4_q24708, trivial⟩
        · have l_2 := il_2
          have t_24717 := ia_sub x4 (2 : Int32) (by omega) (by omega)
          have l_3 := il_3
          have t_24718 := ia_rem (x4 - (2 : Int32)) (3 : Int32) 3 il_3 (by decide) (by omega)
          have t_24719 := ia_add ((x4 - (2 : Int32)) - (((x4 - (2 : Int32)) / (3 : Int32)) * (3 : Int32))) (1 : Int32) (by omega) (by omega)
          refine wq_v (fun v5_q24716 h_v5_q24716 => ?_)
          have t_v5_q24716 := congrArg Int32.toInt h_v5_q24716
          have l_5 := il_5
          refine wq_le (fun hc_24720 => ?_) (fun hc_24721 => ?_)
          · have l_8 := il_8
            refine wq_le (fun hc_24722 => ?_) (fun hc_24723 => ?_)
            · refine wq_b (tt_fX3_weightOf hN (wb_sh I0_3_q24707 13) (wb_sh M0_4_q24708 15) v5_q24716) (fun r6_q24724 h_r6_q24724 => ?_)
              obtain ⟨-⟩ := h_r6_q24724
              have b_24725 := i32b r6_q24724
              exact wq_s ⟨k_M0_4_q24708, trivial⟩
            · refine wq_b (tt_fX3_howManyAlone hN (wb_sh I0_3_q24707 13) (wb_sh M0_4_q24708 15) v5_q24716) (fun r7_q24726 h_r7_q24726 => ?_)
              obtain ⟨-⟩ := h_r7_q24726
              have b_24727 := i32b r7_q24726
              exact wq_s ⟨k_M0_4_q24708, trivial⟩
          · refine wq_b (tt_fX3_howManyShared hN (wb_sh I0_3_q24707 13) (wb_sh M0_4_q24708 15) v5_q24716) (fun r8_q24728 h_r8_q24728 => ?_)
            obtain ⟨-⟩ := h_r8_q24728
            have b_24729 := i32b r8_q24728
            exact wq_s ⟨k_M0_4_q24708, trivial⟩
set_option maxHeartbeats 4000000 in
theorem tt_fX11_climatesThatCanBe_L27 {N : Nat} (hN : 3000000000 ≤ N) (I0 : Nat → Int32) (M0 : Nat → Nat → Int32) (x1 : Int32) (r1 : Int32) (r2 : Int32) (h_x1 : 0 ≤ x1.toInt ∧ x1.toInt ≤ 119) (h_r1 : -1 ≤ r1.toInt ∧ r1.toInt ≤ 359) (h_r2 : -1 ≤ r2.toInt ∧ r2.toInt ≤ 359) (k_I0 : KX11 I0 M0)  : ∀ (fu : Nat) (y27_4 : Int32) (y27_5 : Int32), (0 ≤ y27_4.toInt ∧ y27_4.toInt ≤ 255) → (0 ≤ y27_5.toInt ∧ y27_5.toInt ≤ 7) → (7 - y27_5.toInt) < (fu : Int) → wq (fX11_climatesThatCanBe_L27 N I0 M0 x1 r1 r2 fu y27_4 y27_5) (fun r => (0 ≤ r.toInt ∧ r.toInt ≤ 255) ∧ True) := by
  intro fu
  induction fu with
  | zero => intro y27_4 y27_5 h_y27_4 h_y27_5 hm; exfalso; omega
  | succ fu ih =>
    intro y27_4 y27_5 h_y27_4 h_y27_5 hm
    rw [fX11_climatesThatCanBe_L27.eq_2]
    have t_24970 := KX11.i9 k_I0
    refine wq_le (fun hc_24971 => ?_) (fun hc_24972 => ?_)
    · exact wq_s ⟨(show 0 ≤ y27_4.toInt ∧ y27_4.toInt ≤ 255 from ⟨by omega, by omega⟩), trivial⟩
    · have l_2 := il_2
      refine wq_b (tt_fX1_howManyDiffer hN (wb_sh I0 13) (wb_sh M0 13) (wb_sh I0 9) (wb_sh M0 5) x1 (2 : Int32) y27_5 ⟨by omega, by omega⟩ (KX11.s_X1_13_13 k_I0) (KX11.s_X2_9_5 k_I0) (by omega)) (fun r8_q24973 h_r8_q24973 => ?_)
      obtain ⟨-⟩ := h_r8_q24973
      have b_24974 := i32b r8_q24973
      have l_0 := il_0
      refine wq_eq (fun hc_24975 => ?_) (fun hc_24976 => ?_)
      · unfold fX11_climatesThatCanBe_J68
        have l_1 := il_1
        refine wq_eq (fun hc_24977 => ?_) (fun hc_24978 => ?_)
        · exfalso; omega
        · refine wq_b (tt_fX2_hasHour hN (wb_sh I0 9) (wb_sh M0 5) y27_5 r1 r2 ⟨by omega, by omega⟩ ⟨by omega, by omega⟩ (KX11.s_X2_9_5 k_I0)) (fun r4_q24979 h_r4_q24979 => ?_)
          obtain ⟨h_r4_q24979_0, -⟩ := h_r4_q24979
          refine wq_eq (fun hc_24980 => ?_) (fun hc_24981 => ?_)
          · have t_24983 := ia_add y27_5 (1 : Int32) (by omega) (by omega)
            refine wq_v (fun v5_q24982 h_v5_q24982 => ?_)
            have t_v5_q24982 := congrArg Int32.toInt h_v5_q24982
            exact ih y27_4 v5_q24982 ⟨by omega, by omega⟩ ⟨by omega, by omega⟩ (by omega)
          · have t_24985 := or_sh y27_4 y27_5 ⟨by omega, by omega⟩ ⟨by omega, by omega⟩
            refine wq_v (fun v6_q24984 h_v6_q24984 => ?_)
            have t_v6_q24984 := congrArg Int32.toInt h_v6_q24984
            have t_24987 := ia_add y27_5 (1 : Int32) (by omega) (by omega)
            refine wq_v (fun v7_q24986 h_v7_q24986 => ?_)
            have t_v7_q24986 := congrArg Int32.toInt h_v7_q24986
            exact ih v6_q24984 v7_q24986 ⟨by omega, by omega⟩ ⟨by omega, by omega⟩ (by omega)
      · unfold fX11_climatesThatCanBe_J68
        refine wq_eq (fun hc_24988 => ?_) (fun hc_24989 => ?_)
        · have l_1 := il_1
          have t_24991 := ia_add y27_5 (1 : Int32) (by omega) (by omega)
          refine wq_v (fun v3_q24990 h_v3_q24990 => ?_)
          have t_v3_q24990 := congrArg Int32.toInt h_v3_q24990
          exact ih y27_4 v3_q24990 ⟨by omega, by omega⟩ ⟨by omega, by omega⟩ (by omega)
        · exfalso; omega
set_option maxHeartbeats 4000000 in
theorem tt_fX11_climatesThatCanBe {N : Nat} (hN : 3000000000 ≤ N) (I0 : Nat → Int32) (M0 : Nat → Nat → Int32) (x1 : Int32) (h_x1 : 0 ≤ x1.toInt ∧ x1.toInt ≤ 119) (k_I0 : KX11 I0 M0) : wq (fX11_climatesThatCanBe N I0 M0 x1) (fun r => (0 ≤ r.toInt ∧ r.toInt ≤ 255) ∧ True) := by
  unfold fX11_climatesThatCanBe
  have l_0 := il_0
  refine wq_b (tt_fX1_degreeOf hN (wb_sh I0 13) (wb_sh M0 13) x1 (0 : Int32) ⟨by omega, by omega⟩ ⟨by omega, by omega⟩ (KX11.s_X1_13_13 k_I0)) (fun r1_q24992 h_r1_q24992 => ?_)
  obtain ⟨h_r1_q24992_0, h_r1_q24992_1, -⟩ := h_r1_q24992
  have l_7 := il_7
  refine wq_b (tt_fX1_degreeOf hN (wb_sh I0 13) (wb_sh M0 13) x1 (7 : Int32) ⟨by omega, by omega⟩ ⟨by omega, by omega⟩ (KX11.s_X1_13_13 k_I0)) (fun r2_q24993 h_r2_q24993 => ?_)
  obtain ⟨h_r2_q24993_0, h_r2_q24993_1, -⟩ := h_r2_q24993
  exact tt_fX11_climatesThatCanBe_L27 hN I0 M0 x1 r1_q24992 r2_q24993 ⟨by omega, by omega⟩ ⟨by omega, by omega⟩ ⟨by omega, by omega⟩ k_I0 N (0 : Int32) (0 : Int32) ⟨by omega, by omega⟩ ⟨by omega, by omega⟩ (by omega)
set_option maxHeartbeats 4000000 in
theorem tt_fX11_waysThatCanBe_L52 {N : Nat} (hN : 3000000000 ≤ N) (I0 : Nat → Int32) (M0 : Nat → Nat → Int32) (x1 : Int32) (h_x1 : 0 ≤ x1.toInt ∧ x1.toInt ≤ 119) (k_I0 : KX11 I0 M0)  : ∀ (fu : Nat) (y52_2 : Int32) (y52_3 : Int32), (0 ≤ y52_3.toInt ∧ y52_3.toInt ≤ 7) → (7 - y52_3.toInt) < (fu : Int) → wq (fX11_waysThatCanBe_L52 N I0 M0 x1 fu y52_2 y52_3) (fun r => True) := by
  intro fu
  induction fu with
  | zero => intro y52_2 y52_3 h_y52_3 hm; exfalso; omega
  | succ fu ih =>
    intro y52_2 y52_3 h_y52_3 hm
    rw [fX11_waysThatCanBe_L52.eq_2]
    have t_25357 := KX11.i9 k_I0
    refine wq_le (fun hc_25358 => ?_) (fun hc_25359 => ?_)
    · have b_25360 := i32b y52_2
      exact wq_s trivial
    · have l_2 := il_2
      refine wq_b (tt_fX1_howManyDiffer hN (wb_sh I0 13) (wb_sh M0 13) (wb_sh I0 9) (wb_sh M0 5) x1 (2 : Int32) y52_3 ⟨by omega, by omega⟩ (KX11.s_X1_13_13 k_I0) (KX11.s_X2_9_5 k_I0) (by omega)) (fun r1_q25361 h_r1_q25361 => ?_)
      obtain ⟨-⟩ := h_r1_q25361
      have b_25362 := i32b r1_q25361
      have l_0 := il_0
      refine wq_eq (fun hc_25363 => ?_) (fun hc_25364 => ?_)
      · refine wq_v (fun v3_q25365 h_v3_q25365 => ?_)
        have t_v3_q25365 := congrArg Int32.toInt h_v3_q25365
        have l_1 := il_1
        have t_25367 := ia_add y52_3 (1 : Int32) (by omega) (by omega)
        refine wq_v (fun v4_q25366 h_v4_q25366 => ?_)
        have t_v4_q25366 := congrArg Int32.toInt h_v4_q25366
        have b_25368 := i32b v3_q25365
        exact ih v3_q25365 v4_q25366 ⟨by omega, by omega⟩ (by omega)
      · have l_1 := il_1
        have t_25370 := ia_add y52_3 (1 : Int32) (by omega) (by omega)
        refine wq_v (fun v2_q25369 h_v2_q25369 => ?_)
        have t_v2_q25369 := congrArg Int32.toInt h_v2_q25369
        have b_25371 := i32b y52_2
        exact ih y52_2 v2_q25369 ⟨by omega, by omega⟩ (by omega)
set_option maxHeartbeats 4000000 in
theorem tt_fX11_waysThatCanBe {N : Nat} (hN : 3000000000 ≤ N) (I0 : Nat → Int32) (M0 : Nat → Nat → Int32) (x1 : Int32) (h_x1 : 0 ≤ x1.toInt ∧ x1.toInt ≤ 119) (k_I0 : KX11 I0 M0) : wq (fX11_waysThatCanBe N I0 M0 x1) (fun r => True) := by
  unfold fX11_waysThatCanBe
  have l_0 := il_0
  refine wq_b (tt_fX1_howManyDiffer hN (wb_sh I0 13) (wb_sh M0 13) (wb_sh I0 9) (wb_sh M0 5) x1 (0 : Int32) (0 : Int32) ⟨by omega, by omega⟩ (KX11.s_X1_13_13 k_I0) (KX11.s_X2_9_5 k_I0) (by omega)) (fun r7_q25372 h_r7_q25372 => ?_)
  obtain ⟨-⟩ := h_r7_q25372
  have b_25373 := i32b r7_q25372
  refine wq_eq (fun hc_25374 => ?_) (fun hc_25375 => ?_)
  · refine wq_v (fun v8_q25376 h_v8_q25376 => ?_)
    have t_v8_q25376 := congrArg Int32.toInt h_v8_q25376
    unfold fX11_waysThatCanBe_J26
    have l_1 := il_1
    refine wq_b (tt_fX1_howManyDiffer hN (wb_sh I0 13) (wb_sh M0 13) (wb_sh I0 9) (wb_sh M0 5) x1 (1 : Int32) (0 : Int32) ⟨by omega, by omega⟩ (KX11.s_X1_13_13 k_I0) (KX11.s_X2_9_5 k_I0) (by omega)) (fun r5_q25377 h_r5_q25377 => ?_)
    obtain ⟨-⟩ := h_r5_q25377
    have b_25378 := i32b r5_q25377
    refine wq_eq (fun hc_25379 => ?_) (fun hc_25380 => ?_)
    · refine wq_v (fun v6_q25381 h_v6_q25381 => ?_)
      have t_v6_q25381 := congrArg Int32.toInt h_v6_q25381
      unfold fX11_waysThatCanBe_J50
      have b_25382 := i32b v6_q25381
      exact tt_fX11_waysThatCanBe_L52 hN I0 M0 x1 ⟨by omega, by omega⟩ k_I0 N v6_q25381 (0 : Int32) ⟨by omega, by omega⟩ (by omega)
    · unfold fX11_waysThatCanBe_J50
      have b_25383 := i32b v8_q25376
      exact tt_fX11_waysThatCanBe_L52 hN I0 M0 x1 ⟨by omega, by omega⟩ k_I0 N v8_q25376 (0 : Int32) ⟨by omega, by omega⟩ (by omega)
  · unfold fX11_waysThatCanBe_J26
    have l_1 := il_1
    refine wq_b (tt_fX1_howManyDiffer hN (wb_sh I0 13) (wb_sh M0 13) (wb_sh I0 9) (wb_sh M0 5) x1 (1 : Int32) (0 : Int32) ⟨by omega, by omega⟩ (KX11.s_X1_13_13 k_I0) (KX11.s_X2_9_5 k_I0) (by omega)) (fun r5_q25384 h_r5_q25384 => ?_)
    obtain ⟨-⟩ := h_r5_q25384
    have b_25385 := i32b r5_q25384
    refine wq_eq (fun hc_25386 => ?_) (fun hc_25387 => ?_)
    · refine wq_v (fun v6_q25388 h_v6_q25388 => ?_)
      have t_v6_q25388 := congrArg Int32.toInt h_v6_q25388
      unfold fX11_waysThatCanBe_J50
      have b_25389 := i32b v6_q25388
      exact tt_fX11_waysThatCanBe_L52 hN I0 M0 x1 ⟨by omega, by omega⟩ k_I0 N v6_q25388 (0 : Int32) ⟨by omega, by omega⟩ (by omega)
    · unfold fX11_waysThatCanBe_J50
      exact tt_fX11_waysThatCanBe_L52 hN I0 M0 x1 ⟨by omega, by omega⟩ k_I0 N (0 : Int32) (0 : Int32) ⟨by omega, by omega⟩ (by omega)

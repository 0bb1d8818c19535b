set_option maxHeartbeats 4000000 in
theorem tt_fX11_hour {N : Nat} (hN : 3000000000 ≤ N) (I0 : Nat → Int32) (M0 : Nat → Nat → Int32) (x1 : Int32) (x2 : Int32) (x3 : Int32) (k_I0 : KX11 I0 M0) : wq (fX11_hour N I0 M0 x1 x2 x3) (qS 1 (fun r => True)) := by
  unfold fX11_hour
  have b_23142 := i32b x1
  have b_23143 := i32b x2
  refine wq_xb (tt_fX11_numberOf hN x1 x2) (by decide) (fun r5_q23141 h_r5_q23141 => ?_)
  obtain ⟨h_r5_q23141_0, h_r5_q23141_1, -⟩ := h_r5_q23141
  have l_0 := il_0
  refine wq_b (tt_fX1_degreeOf hN (wb_sh I0 13) (wb_sh M0 13) r5_q23141 (0 : Int32) ⟨by omega, by omega⟩ ⟨by omega, by omega⟩ (KX11.s_X1_13_13 k_I0)) (fun r6_q23144 h_r6_q23144 => ?_)
  obtain ⟨h_r6_q23144_0, h_r6_q23144_1, -⟩ := h_r6_q23144
  have l_7 := il_7
  refine wq_b (tt_fX1_degreeOf hN (wb_sh I0 13) (wb_sh M0 13) r5_q23141 (7 : Int32) ⟨by omega, by omega⟩ ⟨by omega, by omega⟩ (KX11.s_X1_13_13 k_I0)) (fun r7_q23145 h_r7_q23145 => ?_)
  obtain ⟨h_r7_q23145_0, h_r7_q23145_1, -⟩ := h_r7_q23145
  have l_m1 := il_m1
  refine wq_eq (fun hc_23146 => ?_) (fun hc_23147 => ?_)
  · unfold fX11_hour_J48
    unfold fX11_hour_J49
    have b_23148 := i32b x3
    refine wq_eq (fun hc_23149 => ?_) (fun hc_23150 => ?_)
    · refine wq_ok ?_
      refine wq_eq (fun hc_23151 => ?_) (fun hc_23152 => ?_)
      · exact wq_s trivial
      · exfalso; omega
    · refine wq_eq (fun hc_23153 => ?_) (fun hc_23154 => ?_)
      · unfold fX11_hour_J104
        refine wq_eq (fun hc_23155 => ?_) (fun hc_23156 => ?_)
        · exact wq_xb (tt_fX11_need0 N) (by decide) (fun _ h => absurd h id)
        · exfalso; omega
      · exfalso; omega
  · refine wq_eq (fun hc_23158 => ?_) (fun hc_23159 => ?_)
    · unfold fX11_hour_J48
      unfold fX11_hour_J49
      have b_23160 := i32b x3
      refine wq_eq (fun hc_23161 => ?_) (fun hc_23162 => ?_)
      · refine wq_ok ?_
        refine wq_eq (fun hc_23163 => ?_) (fun hc_23164 => ?_)
        · exact wq_s trivial
        · exfalso; omega
      · refine wq_eq (fun hc_23165 => ?_) (fun hc_23166 => ?_)
        · unfold fX11_hour_J104
          refine wq_eq (fun hc_23167 => ?_) (fun hc_23168 => ?_)
          · exact wq_xb (tt_fX11_need0 N) (by decide) (fun _ h => absurd h id)
          · exfalso; omega
        · exfalso; omega
    · unfold fX11_hour_J49
      have b_23170 := i32b x3
      refine wq_eq (fun hc_23171 => ?_) (fun hc_23172 => ?_)
      · refine wq_ok ?_
        have l_1 := il_1
        refine wq_eq (fun hc_23173 => ?_) (fun hc_23174 => ?_)
        · exfalso; omega
        · refine wq_b (tt_fX2_howManyHours hN (wb_sh I0 9) (wb_sh M0 5) r6_q23144 r7_q23145 ⟨by omega, by omega⟩ (KX11.s_X2_9_5 k_I0)) (fun r4_q23175 h_r4_q23175 => ?_)
          obtain ⟨-⟩ := h_r4_q23175
          have b_23176 := i32b r4_q23175
          exact wq_s trivial
      · have l_1 := il_1
        refine wq_eq (fun hc_23177 => ?_) (fun hc_23178 => ?_)
        · exfalso; omega
        · refine wq_b (tt_fX2_nthHour hN (wb_sh I0 9) (wb_sh M0 5) r6_q23144 r7_q23145 x3 ⟨by omega, by omega⟩ (KX11.s_X2_9_5 k_I0)) (fun r3_q23179 h_r3_q23179 => ?_)
          obtain ⟨h_r3_q23179_0, -⟩ := h_r3_q23179
          unfold fX11_hour_J104
          refine wq_eq (fun hc_23180 => ?_) (fun hc_23181 => ?_)
          · exact wq_xb (tt_fX11_need0 N) (by decide) (fun _ h => absurd h id)
          · refine wq_xb (tt_fX11_need hN (1 : Int32)) (by decide) (fun r2_q23183 h_r2_q23183 => ?_)
            obtain ⟨h_r2_q23183_0, -⟩ := h_r2_q23183
            refine wq_ok ?_
            exact wq_s trivial
set_option maxHeartbeats 4000000 in
theorem tt_fX11_isWay {N : Nat} (hN : 3000000000 ≤ N) (I0 : Nat → Int32) (M0 : Nat → Nat → Int32) (x1 : Int32) (x2 : Int32) (k_I0 : KX11 I0 M0) : wq (fX11_isWay N I0 M0 x1 x2) (fun r => (r.toInt = 0 ∨ (r.toInt = 1 ∧ ((0 ≤ x1.toInt ∧ x1.toInt ≤ 1) ∨ (x1.toInt = 2 ∧ 0 ≤ x2.toInt ∧ x2.toInt ≤ 6 ∧ x2.toInt < (I0 9).toInt)))) ∧ (0 ≤ r.toInt ∧ r.toInt ≤ 1) ∧ True) := by
  unfold fX11_isWay
  have b_23262 := i32b x1
  have l_0 := il_0
  have l_1 := il_1
  refine wq_b (tt_fX11_within hN x1 (0 : Int32) (1 : Int32)) (fun r1_q23263 h_r1_q23263 => ?_)
  obtain ⟨h_r1_q23263_0, h_r1_q23263_1, -⟩ := h_r1_q23263
  refine wq_eq (fun hc_23264 => ?_) (fun hc_23265 => ?_)
  · have l_2 := il_2
    refine wq_eq (fun hc_23266 => ?_) (fun hc_23267 => ?_)
    · have b_23268 := i32b x2
      refine wq_b (tt_fX11_isClimate hN I0 M0 x2 k_I0) (fun r2_q23269 h_r2_q23269 => ?_)
      obtain ⟨h_r2_q23269_0, h_r2_q23269_1, -⟩ := h_r2_q23269
      have t_23270 := KX11.i9 k_I0
      refine wq_eq (fun hc_23271 => ?_) (fun hc_23272 => ?_)
      · exact wq_s ⟨(show ((0 : Int32).toInt = 0 ∨ ((0 : Int32).toInt = 1 ∧ ((0 ≤ x1.toInt ∧ x1.toInt ≤ 1) ∨ (x1.toInt = 2 ∧ 0 ≤ x2.toInt ∧ x2.toInt ≤ 6 ∧ x2.toInt < (I0 9).toInt)))) from by omega), (show 0 ≤ (0 : Int32).toInt ∧ (0 : Int32).toInt ≤ 1 from ⟨by omega, by omega⟩), trivial⟩
      · exact wq_s ⟨(show ((1 : Int32).toInt = 0 ∨ ((1 : Int32).toInt = 1 ∧ ((0 ≤ x1.toInt ∧ x1.toInt ≤ 1) ∨ (x1.toInt = 2 ∧ 0 ≤ x2.toInt ∧ x2.toInt ≤ 6 ∧ x2.toInt < (I0 9).toInt)))) from by omega), (show 0 ≤ (1 : Int32).toInt ∧ (1 : Int32).toInt ≤ 1 from ⟨by omega, by omega⟩), trivial⟩
    · have t_23273 := KX11.i9 k_I0
      have b_23274 := i32b x2
      exact wq_s ⟨(show ((0 : Int32).toInt = 0 ∨ ((0 : Int32).toInt = 1 ∧ ((0 ≤ x1.toInt ∧ x1.toInt ≤ 1) ∨ (x1.toInt = 2 ∧ 0 ≤ x2.toInt ∧ x2.toInt ≤ 6 ∧ x2.toInt < (I0 9).toInt)))) from by omega), (show 0 ≤ (0 : Int32).toInt ∧ (0 : Int32).toInt ≤ 1 from ⟨by omega, by omega⟩), trivial⟩
  · have t_23275 := KX11.i9 k_I0
    have b_23276 := i32b x2
    exact wq_s ⟨(show ((1 : Int32).toInt = 0 ∨ ((1 : Int32).toInt = 1 ∧ ((0 ≤ x1.toInt ∧ x1.toInt ≤ 1) ∨ (x1.toInt = 2 ∧ 0 ≤ x2.toInt ∧ x2.toInt ≤ 6 ∧ x2.toInt < (I0 9).toInt)))) from by omega), (show 0 ≤ (1 : Int32).toInt ∧ (1 : Int32).toInt ≤ 1 from ⟨by omega, by omega⟩), trivial⟩
set_option maxHeartbeats 4000000 in
theorem tt_fX11_houseOf {N : Nat} (hN : 3000000000 ≤ N) (I0 : Nat → Int32) (M0 : Nat → Nat → Int32) (x1 : Int32) (x2 : Int32) (x3 : Int32) (x4 : Int32) (k_I0 : KX11 I0 M0) : wq (fX11_houseOf N I0 M0 x1 x2 x3 x4) (qS 1 (fun r => True)) := by
  unfold fX11_houseOf
  have b_23397 := i32b x1
  have l_0 := il_0
  have l_359 := il_359
  refine wq_b (tt_fX11_within hN x1 (0 : Int32) (359 : Int32)) (fun r3_q23398 h_r3_q23398 => ?_)
  obtain ⟨h_r3_q23398_0, h_r3_q23398_1, -⟩ := h_r3_q23398
  refine wq_eq (fun hc_23399 => ?_) (fun hc_23400 => ?_)
  · unfold fX11_houseOf_J35
    unfold fX11_houseOf_J36
    exact wq_xb (tt_fX11_need0 N) (by decide) (fun _ h => absurd h id)
  · have b_23402 := i32b x2
    have b_23403 := i32b x3
    refine wq_b (tt_fX11_isWay hN I0 M0 x2 x3 k_I0) (fun r4_q23404 h_r4_q23404 => ?_)
    obtain ⟨h_r4_q23404_0, h_r4_q23404_1, -⟩ := h_r4_q23404
    have t_23405 := KX11.i9 k_I0
    refine wq_eq (fun hc_23406 => ?_) (fun hc_23407 => ?_)
    · unfold fX11_houseOf_J35
      unfold fX11_houseOf_J36
      exact wq_xb (tt_fX11_need0 N) (by decide) (fun _ h => absurd h id)
    · have b_23409 := i32b x4
      have l_1 := il_1
      have l_12 := il_12
      refine wq_b (tt_fX11_within hN x4 (1 : Int32) (12 : Int32)) (fun r5_q23410 h_r5_q23410 => ?_)
      obtain ⟨h_r5_q23410_0, h_r5_q23410_1, -⟩ := h_r5_q23410
      refine wq_eq (fun hc_23411 => ?_) (fun hc_23412 => ?_)
      · unfold fX11_houseOf_J35
        unfold fX11_houseOf_J36
        exact wq_xb (tt_fX11_need0 N) (by decide) (fun _ h => absurd h id)
      · unfold fX11_houseOf_J36
        refine wq_xb (tt_fX11_need hN (1 : Int32)) (by decide) (fun r1_q23414 h_r1_q23414 => ?_)
        obtain ⟨h_r1_q23414_0, -⟩ := h_r1_q23414
        refine wq_ok ?_
        refine wq_b (tt_fX2_houseDegree hN (wb_sh I0 9) (wb_sh M0 5) x1 x2 x3 x4 ⟨by omega, by omega⟩ ⟨by omega, by omega⟩ (KX11.s_X2_9_5 k_I0) (by omega)) (fun r2_q23415 h_r2_q23415 => ?_)
        obtain ⟨-⟩ := h_r2_q23415
        have b_23416 := i32b r2_q23415
        exact wq_s trivial
set_option maxHeartbeats 4000000 in
theorem tt_fX11_agree {N : Nat} (hN : 3000000000 ≤ N) (I0 : Nat → Int32) (M0 : Nat → Nat → Int32) (x1 : Int32) (x2 : Int32) (x3 : Int32) (x4 : Int32) (k_I0 : KX11 I0 M0) : wq (fX11_agree N I0 M0 x1 x2 x3 x4) (qS 1 (fun r => True)) := by
  unfold fX11_agree
  have b_23508 := i32b x1
  have b_23509 := i32b x2
  refine wq_xb (tt_fX11_numberOf hN x1 x2) (by decide) (fun r1_q23507 h_r1_q23507 => ?_)
  obtain ⟨h_r1_q23507_0, h_r1_q23507_1, -⟩ := h_r1_q23507
  have b_23510 := i32b x3
  have b_23511 := i32b x4
  refine wq_b (tt_fX11_isWay hN I0 M0 x3 x4 k_I0) (fun r2_q23512 h_r2_q23512 => ?_)
  obtain ⟨h_r2_q23512_0, h_r2_q23512_1, -⟩ := h_r2_q23512
  have t_23513 := KX11.i9 k_I0
  refine wq_xb (tt_fX11_need hN r2_q23512) (by decide) (fun r3_q23514 h_r3_q23514 => ?_)
  obtain ⟨h_r3_q23514_0, -⟩ := h_r3_q23514
  refine wq_ok ?_
  have l_7 := il_7
  refine wq_b (tt_fX1_degreeOf hN (wb_sh I0 13) (wb_sh M0 13) r1_q23507 (7 : Int32) ⟨by omega, by omega⟩ ⟨by omega, by omega⟩ (KX11.s_X1_13_13 k_I0)) (fun r4_q23515 h_r4_q23515 => ?_)
  obtain ⟨h_r4_q23515_0, h_r4_q23515_1, -⟩ := h_r4_q23515
  have l_m1 := il_m1
  refine wq_eq (fun hc_23516 => ?_) (fun hc_23517 => ?_)
  · exact wq_s trivial
  · refine wq_b (tt_fX1_howManyHouses hN (wb_sh I0 13) (wb_sh M0 13) r1_q23507 ⟨by omega, by omega⟩ (KX11.s_X1_13_13 k_I0)) (fun r5_q23518 h_r5_q23518 => ?_)
    obtain ⟨-⟩ := h_r5_q23518
    refine wq_b (tt_fX1_howManyDiffer hN (wb_sh I0 13) (wb_sh M0 13) (wb_sh I0 9) (wb_sh M0 5) r1_q23507 x3 x4 ⟨by omega, by omega⟩ (KX11.s_X1_13_13 k_I0) (KX11.s_X2_9_5 k_I0) (by omega)) (fun r6_q23519 h_r6_q23519 => ?_)
    obtain ⟨-⟩ := h_r6_q23519
    have b_23520 := i32b r5_q23518
    have b_23521 := i32b r6_q23519
    exact wq_s trivial
set_option maxHeartbeats 4000000 in
theorem tt_fX11_lot {N : Nat} (hN : 3000000000 ≤ N) (I0 : Nat → Int32) (M0 : Nat → Nat → Int32) (x1 : Int32) (x2 : Int32) (x3 : Int32) (k_I0 : KX11 I0 M0) : wq (fX11_lot N I0 M0 x1 x2 x3) (qS 1 (fun r => True)) := by
  unfold fX11_lot
  have b_23625 := i32b x1
  have b_23626 := i32b x2
  refine wq_xb (tt_fX11_numberOf hN x1 x2) (by decide) (fun r1_q23624 h_r1_q23624 => ?_)
  obtain ⟨h_r1_q23624_0, h_r1_q23624_1, -⟩ := h_r1_q23624
  have b_23627 := i32b x3
  have l_0 := il_0
  have l_1 := il_1
  refine wq_b (tt_fX11_within hN x3 (0 : Int32) (1 : Int32)) (fun r2_q23628 h_r2_q23628 => ?_)
  obtain ⟨h_r2_q23628_0, h_r2_q23628_1, -⟩ := h_r2_q23628
  refine wq_xb (tt_fX11_need hN r2_q23628) (by decide) (fun r3_q23629 h_r3_q23629 => ?_)
  obtain ⟨h_r3_q23629_0, -⟩ := h_r3_q23629
  refine wq_ok ?_
  refine wq_b (tt_fX1_lotOf hN (wb_sh I0 13) (wb_sh M0 13) r1_q23624 ⟨by omega, by omega⟩ (KX11.s_X1_13_13 k_I0)) (fun r4_q23630 h_r4_q23630 => ?_)
  obtain ⟨-⟩ := h_r4_q23630
  refine wq_eq (fun hc_23631 => ?_) (fun hc_23632 => ?_)
  · have b_23633 := i32b r4_q23630
    exact wq_s trivial
  · have b_23634 := i32b r4_q23630
    have l_m1 := il_m1
    refine wq_eq (fun hc_23635 => ?_) (fun hc_23636 => ?_)
    · exact wq_s trivial
    · have l_8 := il_8
      refine wq_b (tt_fX1_degreeOf hN (wb_sh I0 13) (wb_sh M0 13) r1_q23624 (8 : Int32) ⟨by omega, by omega⟩ ⟨by omega, by omega⟩ (KX11.s_X1_13_13 k_I0)) (fun r5_q23637 h_r5_q23637 => ?_)
      obtain ⟨h_r5_q23637_0, h_r5_q23637_1, -⟩ := h_r5_q23637
      refine wq_eq (fun hc_23638 => ?_) (fun hc_23639 => ?_)
      · exact wq_s trivial
      · refine wq_b (tt_fX4_costBeside hN (wb_sh I0 10) (wb_sh M0 6) r5_q23637 r4_q23630 ⟨by omega, by omega⟩) (fun r6_q23640 h_r6_q23640 => ?_)
        obtain ⟨h_r6_q23640_0, -⟩ := h_r6_q23640
        exact wq_s trivial
set_option maxHeartbeats 4000000 in
theorem tt_fX11_price {N : Nat} (hN : 3000000000 ≤ N) (I0 : Nat → Int32) (M0 : Nat → Nat → Int32) (x1 : Int32) (x2 : Int32) (k_I0 : KX11 I0 M0) : wq (fX11_price N I0 M0 x1 x2) (qS 1 (fun r => True)) := by
  unfold fX11_price
  have b_23719 := i32b x1
  refine wq_b (tt_fX11_isBook hN x1) (fun r3_q23720 h_r3_q23720 => ?_)
  obtain ⟨h_r3_q23720_0, h_r3_q23720_1, -⟩ := h_r3_q23720
  have l_0 := il_0
  refine wq_eq (fun hc_23721 => ?_) (fun hc_23722 => ?_)
  · unfold fX11_price_J18
    unfold fX11_price_J19
    exact wq_xb (tt_fX11_need0 N) (by decide) (fun _ h => absurd h id)
  · have b_23724 := i32b x2
    refine wq_b (tt_fX11_isBook hN x2) (fun r4_q23725 h_r4_q23725 => ?_)
    obtain ⟨h_r4_q23725_0, h_r4_q23725_1, -⟩ := h_r4_q23725
    refine wq_eq (fun hc_23726 => ?_) (fun hc_23727 => ?_)
    · unfold fX11_price_J18
      unfold fX11_price_J19
      exact wq_xb (tt_fX11_need0 N) (by decide) (fun _ h => absurd h id)
    · unfold fX11_price_J19
      have l_1 := il_1
      refine wq_xb (tt_fX11_need hN (1 : Int32)) (by decide) (fun r1_q23729 h_r1_q23729 => ?_)
      obtain ⟨h_r1_q23729_0, -⟩ := h_r1_q23729
      refine wq_ok ?_
      refine wq_b (tt_fX10_priceOf hN (wb_sh I0 10) (wb_sh M0 6) (wb_sh I0 13) (wb_sh M0 13) x1 x2 ⟨by omega, by omega⟩ ⟨by omega, by omega⟩ (KX11.s_X1_13_13 k_I0)) (fun r2_q23730 h_r2_q23730 => ?_)
      obtain ⟨-⟩ := h_r2_q23730
      have b_23731 := i32b r2_q23730
      exact wq_s trivial
set_option maxHeartbeats 4000000 in
theorem tt_fX11_seek {N : Nat} (hN : 3000000000 ≤ N) (I0 : Nat → Int32) (M0 : Nat → Nat → Int32) (x1 : Int32) (x2 : Int32) (x3 : Int32) (x4 : Int32) (k_I0 : KX11 I0 M0) : wq (fX11_seek N I0 M0 x1 x2 x3 x4) (qS 1 (fun r => KX11 r.1 r.2 ∧ True)) := by
  unfold fX11_seek
  have b_23818 := i32b x1
  have b_23819 := i32b x2
  refine wq_xb (tt_fX11_numberOf hN x1 x2) (by decide) (fun r5_q23817 h_r5_q23817 => ?_)
  obtain ⟨h_r5_q23817_0, h_r5_q23817_1, -⟩ := h_r5_q23817
  have b_23820 := i32b x3
  have l_0 := il_0
  have l_3 := il_3
  refine wq_b (tt_fX11_within hN x3 (0 : Int32) (3 : Int32)) (fun r6_q23821 h_r6_q23821 => ?_)
  obtain ⟨h_r6_q23821_0, h_r6_q23821_1, -⟩ := h_r6_q23821
  refine wq_eq (fun hc_23822 => ?_) (fun hc_23823 => ?_)
  · unfold fX11_seek_J28
    unfold fX11_seek_J29
    exact wq_xb (tt_fX11_need0 N) (by decide) (fun _ h => absurd h id)
  · have b_23825 := i32b x4
    refine wq_b (tt_fX11_isDay hN x4) (fun r7_q23826 h_r7_q23826 => ?_)
    obtain ⟨h_r7_q23826_0, h_r7_q23826_1, -⟩ := h_r7_q23826
    refine wq_eq (fun hc_23827 => ?_) (fun hc_23828 => ?_)
    · unfold fX11_seek_J28
      unfold fX11_seek_J29
      exact wq_xb (tt_fX11_need0 N) (by decide) (fun _ h => absurd h id)
    · unfold fX11_seek_J29
      have l_1 := il_1
      refine wq_xb (tt_fX11_need hN (1 : Int32)) (by decide) (fun r1_q23830 h_r1_q23830 => ?_)
      obtain ⟨h_r1_q23830_0, -⟩ := h_r1_q23830
      refine wq_ok ?_
      refine wq_b (tt_fX8_begin hN (wb_sh I0 27) (wb_sh M0 18) r5_q23817 x3 x4 ⟨by omega, by omega⟩ ⟨by omega, by omega⟩ ⟨by omega, by omega⟩ (KX11.s_X8_27_18 k_I0)) (fun r2_q23831 h_r2_q23831 => ?_)
      obtain ⟨h_r2_q23831_0, -⟩ := h_r2_q23831
      refine wq_v (fun I0_3_q23832 h_I0_3_q23832 => ?_)
      refine wq_v (fun M0_4_q23833 h_M0_4_q23833 => ?_)
      have k_M0_4_q23833 : KX11 I0_3_q23832 M0_4_q23833 := by rw [h_I0_3_q23832, h_M0_4_q23833]; exact (KX11.p_X8_27_18 k_I0 h_r2_q23831_0)
      exact wq_s ⟨k_M0_4_q23833, trivial⟩
set_option maxHeartbeats 4000000 in
theorem tt_fX11_on {N : Nat} (hN : 3000000000 ≤ N) (I0 : Nat → Int32) (M0 : Nat → Nat → Int32) (x1 : Int32) (k_I0 : KX11 I0 M0) : wq (fX11_on N I0 M0 x1) (qS 3 (fun r => KX11 r.2.1 r.2.2 ∧ True)) := by
  unfold fX11_on
  have t_23889 := KX11.i27 k_I0
  refine wq_xb (tt_fX11_need hN (I0 27)) (by decide) (fun r1_q23888 h_r1_q23888 => ?_)
  obtain ⟨h_r1_q23888_0, -⟩ := h_r1_q23888
  have b_23890 := i32b x1
  have l_0 := il_0
  have l_50000 := il_50000
  refine wq_b (tt_fX11_within hN x1 (0 : Int32) (50000 : Int32)) (fun r2_q23891 h_r2_q23891 => ?_)
  obtain ⟨h_r2_q23891_0, h_r2_q23891_1, -⟩ := h_r2_q23891
  refine wq_xb (tt_fX11_allow hN r2_q23891) (by decide) (fun r3_q23892 h_r3_q23892 => ?_)
  obtain ⟨h_r3_q23892_0, -⟩ := h_r3_q23892
  refine wq_ok ?_
  refine wq_b (tt_fX8_goOn hN (wb_sh I0 27) (wb_sh M0 18) (wb_sh I0 9) (wb_sh M0 1) (wb_sh I0 13) (wb_sh M0 13) x1 (KX11.s_X8_27_18 k_I0) (KX11.s_X5_9_1 k_I0) (KX11.s_X1_13_13 k_I0)) (fun r4_q23893 h_r4_q23893 => ?_)
  obtain ⟨h_r4_q23893_0, -⟩ := h_r4_q23893
  refine wq_v (fun I0_5_q23894 h_I0_5_q23894 => ?_)
  refine wq_v (fun M0_6_q23895 h_M0_6_q23895 => ?_)
  have k_M0_6_q23895 : KX11 I0_5_q23894 M0_6_q23895 := by rw [h_I0_5_q23894, h_M0_6_q23895]; exact (KX11.p_X8_27_18 k_I0 h_r4_q23893_0)
  have b_23896 := i32b r4_q23893.1
  exact wq_s ⟨k_M0_6_q23895, trivial⟩
set_option maxHeartbeats 4000000 in
theorem tt_fX11_held {N : Nat} (hN : 3000000000 ≤ N) (I0 : Nat → Int32) (M0 : Nat → Nat → Int32) (x1 : Int32) (k_I0 : KX11 I0 M0) : wq (fX11_held N I0 M0 x1) (qS 1 (fun r => True)) := by
  unfold fX11_held
  have t_24167 := KX11.i27 k_I0
  have l_0 := il_0
  refine wq_eq (fun hc_24168 => ?_) (fun hc_24169 => ?_)
  · unfold fX11_held_J23
    unfold fX11_held_J24
    exact wq_xb (tt_fX11_need0 N) (by decide) (fun _ h => absurd h id)
  · have b_24171 := i32b x1
    have l_4 := il_4
    refine wq_b (tt_fX11_within hN x1 (0 : Int32) (4 : Int32)) (fun r3_q24172 h_r3_q24172 => ?_)
    obtain ⟨h_r3_q24172_0, h_r3_q24172_1, -⟩ := h_r3_q24172
    refine wq_eq (fun hc_24173 => ?_) (fun hc_24174 => ?_)
    · unfold fX11_held_J23
      unfold fX11_held_J24
      exact wq_xb (tt_fX11_need0 N) (by decide) (fun _ h => absurd h id)
    · unfold fX11_held_J24
      have l_1 := il_1
      refine wq_xb (tt_fX11_need hN (1 : Int32)) (by decide) (fun r2_q24176 h_r2_q24176 => ?_)
      obtain ⟨h_r2_q24176_0, -⟩ := h_r2_q24176
      refine wq_ok ?_
      have t_24177 := KX11.i32 k_I0
      refine wq_eq (fun hc_24178 => ?_) (fun hc_24179 => ?_)
      · unfold fX11_held_J42
        refine wq_eq (fun hc_24180 => ?_) (fun hc_24181 => ?_)
        · have t_24182 := KX11.i30 k_I0
          exact wq_s trivial
        · refine wq_eq (fun hc_24183 => ?_) (fun hc_24184 => ?_)
          · refine wq_eq (fun hc_24185 => ?_) (fun hc_24186 => ?_)
            · exfalso; omega
            · have l_m1 := il_m1
              exact wq_s trivial
          · have l_2 := il_2
            refine wq_eq (fun hc_24187 => ?_) (fun hc_24188 => ?_)
            · exact wq_s trivial
            · have l_3 := il_3
              refine wq_eq (fun hc_24189 => ?_) (fun hc_24190 => ?_)
              · refine wq_eq (fun hc_24191 => ?_) (fun hc_24192 => ?_)
                · exfalso; omega
                · have l_m1 := il_m1
                  exact wq_s trivial
              · refine wq_eq (fun hc_24193 => ?_) (fun hc_24194 => ?_)
                · exfalso; omega
                · have l_m1 := il_m1
                  exact wq_s trivial
      · unfold fX11_held_J42
        refine wq_eq (fun hc_24195 => ?_) (fun hc_24196 => ?_)
        · have t_24197 := KX11.i30 k_I0
          exact wq_s trivial
        · refine wq_eq (fun hc_24198 => ?_) (fun hc_24199 => ?_)
          · refine wq_eq (fun hc_24200 => ?_) (fun hc_24201 => ?_)
            · exact wq_s trivial
            · exfalso; omega
          · have l_2 := il_2
            refine wq_eq (fun hc_24202 => ?_) (fun hc_24203 => ?_)
            · exact wq_s trivial
            · have l_3 := il_3
              refine wq_eq (fun hc_24204 => ?_) (fun hc_24205 => ?_)
              · refine wq_eq (fun hc_24206 => ?_) (fun hc_24207 => ?_)
                · refine wq_b (tt_fX8_keptDay hN (wb_sh I0 27) (wb_sh M0 18) (0 : Int32) (KX11.s_X8_27_18 k_I0)) (fun r1_q24208 h_r1_q24208 => ?_)
                  obtain ⟨-⟩ := h_r1_q24208
                  have b_24209 := i32b r1_q24208
                  exact wq_s trivial
                · exfalso; omega
              · refine wq_eq (fun hc_24210 => ?_) (fun hc_24211 => ?_)
                · exact wq_s trivial
                · exfalso; omega
set_option maxHeartbeats 4000000 in
theorem tt_fX11_image {N : Nat} (hN : 3000000000 ≤ N) (I0 : Nat → Int32) (M0 : Nat → Nat → Int32) (k_I0 : KX11 I0 M0) : wq (fX11_image N I0 M0) (fun r => (0 ≤ r.1.toInt ∧ r.1.toInt ≤ 1) ∧ KX11 r.2.1 r.2.2 ∧ True) := by
  unfold fX11_image
  have t_24248 := KX11.i27 k_I0
  have l_0 := il_0
  refine wq_eq (fun hc_24249 => ?_) (fun hc_24250 => ?_)
  · exact wq_s ⟨(show 0 ≤ (0 : Int32).toInt ∧ (0 : Int32).toInt ≤ 1 from ⟨by omega, by omega⟩), k_I0, trivial⟩
  · refine wq_b (tt_fX8_copyFrom hN (wb_sh I0 34) (wb_sh M0 19) (wb_sh I0 27) (wb_sh M0 18) (KX11.s_X8_34_19 k_I0) (KX11.s_X8_27_18 k_I0)) (fun r1_q24251 h_r1_q24251 => ?_)
    obtain ⟨h_r1_q24251_0, -⟩ := h_r1_q24251
    refine wq_v (fun I0_2_q24252 h_I0_2_q24252 => ?_)
    refine wq_v (fun M0_3_q24253 h_M0_3_q24253 => ?_)
    have k_M0_3_q24253 : KX11 I0_2_q24252 M0_3_q24253 := by rw [h_I0_2_q24252, h_M0_3_q24253]; exact (KX11.p_X8_34_19 k_I0 h_r1_q24251_0)
    have l_1 := il_1
    exact wq_s ⟨(show 0 ≤ (1 : Int32).toInt ∧ (1 : Int32).toInt ≤ 1 from ⟨by omega, by omega⟩), k_M0_3_q24253, trivial⟩
set_option maxHeartbeats 4000000 in
theorem tt_fX11_restore {N : Nat} (hN : 3000000000 ≤ N) (I0 : Nat → Int32) (M0 : Nat → Nat → Int32) (k_I0 : KX11 I0 M0) : wq (fX11_restore N I0 M0) (fun r => (0 ≤ r.1.toInt ∧ r.1.toInt ≤ 1) ∧ KX11 r.2.1 r.2.2 ∧ True) := by
  unfold fX11_restore
  have t_24290 := KX11.i34 k_I0
  have l_0 := il_0
  refine wq_eq (fun hc_24291 => ?_) (fun hc_24292 => ?_)
  · exact wq_s ⟨(show 0 ≤ (0 : Int32).toInt ∧ (0 : Int32).toInt ≤ 1 from ⟨by omega, by omega⟩), k_I0, trivial⟩
  · refine wq_b (tt_fX8_copyFrom hN (wb_sh I0 27) (wb_sh M0 18) (wb_sh I0 34) (wb_sh M0 19) (KX11.s_X8_27_18 k_I0) (KX11.s_X8_34_19 k_I0)) (fun r1_q24293 h_r1_q24293 => ?_)
    obtain ⟨h_r1_q24293_0, -⟩ := h_r1_q24293
    refine wq_v (fun I0_2_q24294 h_I0_2_q24294 => ?_)
    refine wq_v (fun M0_3_q24295 h_M0_3_q24295 => ?_)
    have k_M0_3_q24295 : KX11 I0_2_q24294 M0_3_q24295 := by rw [h_I0_2_q24294, h_M0_3_q24295]; exact (KX11.p_X8_27_18 k_I0 h_r1_q24293_0)
    have l_1 := il_1
    exact wq_s ⟨(show 0 ≤ (1 : Int32).toInt ∧ (1 : Int32).toInt ≤ 1 from ⟨by omega, by omega⟩), k_M0_3_q24295, trivial⟩
set_option maxHeartbeats 4000000 in
theorem tt_fX11_misread {N : Nat} (hN : 3000000000 ≤ N) (I0 : Nat → Int32) (M0 : Nat → Nat → Int32) (x1 : Int32) (x2 : Int32) (x3 : Int32) (x4 : Int32) (x5 : Int32) (k_I0 : KX11 I0 M0) : wq (fX11_misread N I0 M0 x1 x2 x3 x4 x5) (qS 1 (fun r => (-1 ≤ r.toInt ∧ r.toInt ≤ 9) ∧ True)) := by
  unfold fX11_misread
  have b_24441 := i32b x1
  have b_24442 := i32b x2
  refine wq_xb (tt_fX11_numberOf hN x1 x2) (by decide) (fun r5_q24440 h_r5_q24440 => ?_)
  obtain ⟨h_r5_q24440_0, h_r5_q24440_1, -⟩ := h_r5_q24440
  have b_24443 := i32b x3
  have l_0 := il_0
  have l_3 := il_3
  refine wq_b (tt_fX11_within hN x3 (0 : Int32) (3 : Int32)) (fun r6_q24444 h_r6_q24444 => ?_)
  obtain ⟨h_r6_q24444_0, h_r6_q24444_1, -⟩ := h_r6_q24444
  refine wq_eq (fun hc_24445 => ?_) (fun hc_24446 => ?_)
  · unfold fX11_misread_J39
    unfold fX11_misread_J40
    exact wq_xb (tt_fX11_need0 N) (by decide) (fun _ h => absurd h id)
  · have b_24448 := i32b x4
    refine wq_b (tt_fX11_isDay hN x4) (fun r7_q24449 h_r7_q24449 => ?_)
    obtain ⟨h_r7_q24449_0, h_r7_q24449_1, -⟩ := h_r7_q24449
    refine wq_eq (fun hc_24450 => ?_) (fun hc_24451 => ?_)
    · unfold fX11_misread_J39
      unfold fX11_misread_J40
      exact wq_xb (tt_fX11_need0 N) (by decide) (fun _ h => absurd h id)
    · have b_24453 := i32b x5
      have l_6 := il_6
      refine wq_b (tt_fX11_within hN x5 (0 : Int32) (6 : Int32)) (fun r8_q24454 h_r8_q24454 => ?_)
      obtain ⟨h_r8_q24454_0, h_r8_q24454_1, -⟩ := h_r8_q24454
      refine wq_eq (fun hc_24455 => ?_) (fun hc_24456 => ?_)
      · unfold fX11_misread_J39
        unfold fX11_misread_J40
        exact wq_xb (tt_fX11_need0 N) (by decide) (fun _ h => absurd h id)
      · unfold fX11_misread_J40
        have l_1 := il_1
        refine wq_xb (tt_fX11_need hN (1 : Int32)) (by decide) (fun r1_q24458 h_r1_q24458 => ?_)
        obtain ⟨h_r1_q24458_0, -⟩ := h_r1_q24458
        refine wq_ok ?_
        refine wq_b (tt_fX1_degreeOf hN (wb_sh I0 13) (wb_sh M0 13) r5_q24440 x5 ⟨by omega, by omega⟩ ⟨by omega, by omega⟩ (KX11.s_X1_13_13 k_I0)) (fun r2_q24459 h_r2_q24459 => ?_)
        obtain ⟨h_r2_q24459_0, h_r2_q24459_1, -⟩ := h_r2_q24459
        have l_m1 := il_m1
        refine wq_eq (fun hc_24460 => ?_) (fun hc_24461 => ?_)
        · exact wq_s ⟨(show -1 ≤ (-1 : Int32).toInt ∧ (-1 : Int32).toInt ≤ 9 from ⟨by omega, by omega⟩), trivial⟩
        · refine wq_b (tt_fX5_degreeOn hN (wb_sh I0 9) (wb_sh M0 1) x3 x5 x4 ⟨by omega, by omega⟩ ⟨by omega, by omega⟩ (KX11.s_X5_9_1 k_I0)) (fun r3_q24462 h_r3_q24462 => ?_)
          obtain ⟨h_r3_q24462_0, -⟩ := h_r3_q24462
          refine wq_b (tt_fX4_misreading hN (wb_sh I0 10) (wb_sh M0 6) r2_q24459 r3_q24462 ⟨by omega, by omega⟩) (fun r4_q24463 h_r4_q24463 => ?_)
          obtain ⟨h_r4_q24463_0, -⟩ := h_r4_q24463
          exact wq_s ⟨(show -1 ≤ r4_q24463.toInt ∧ r4_q24463.toInt ≤ 9 from ⟨by omega, by omega⟩), trivial⟩
set_option maxHeartbeats 4000000 in
theorem tt_fX11_errors {N : Nat} (hN : 3000000000 ≤ N) (I0 : Nat → Int32) (M0 : Nat → Nat → Int32) (x1 : Int32) (x2 : Int32) (x3 : Int32) (x4 : Int32) (k_I0 : KX11 I0 M0) : wq (fX11_errors N I0 M0 x1 x2 x3 x4) (qS 1 (fun r => KX11 r.2.1 r.2.2 ∧ True)) := by
  unfold fX11_errors
  have b_24693 := i32b x1
  have b_24694 := i32b x2
  refine wq_xb (tt_fX11_numberOf hN x1 x2) (by decide) (fun r11_q24692 h_r11_q24692 => ?_)
  obtain ⟨h_r11_q24692_0, h_r11_q24692_1, -⟩ := h_r11_q24692
  have b_24695 := i32b x3
  refine wq_b (tt_fX11_isDay hN x3) (fun r12_q24696 h_r12_q24696 => ?_)
  obtain ⟨h_r12_q24696_0, h_r12_q24696_1, -⟩ := h_r12_q24696
  have l_0 := il_0
  refine wq_eq (fun hc_24697 => ?_) (fun hc_24698 => ?_)
  · unfold fX11_errors_J29
    unfold fX11_errors_J30
    exact wq_xb (tt_fX11_need0 N) (by decide) (fun _ h => absurd h id)
  · have b_24700 := i32b x4
    have l_10 := il_10
    refine wq_b (tt_fX11_within hN x4 (0 : Int32) (10 : Int32)) (fun r13_q24701 h_r13_q24701 => ?_)
    obtain ⟨h_r13_q24701_0, h_r13_q24701_1, -⟩ := h_r13_q24701
    refine wq_eq (fun hc_24702 => ?_) (fun hc_24703 => ?_)
    · unfold fX11_errors_J29
      unfold fX11_errors_J30
      exact wq_xb (tt_fX11_need0 N) (by decide) (fun _ h => absurd h id)
    · unfold fX11_errors_J30
      have l_1 := il_1
      refine wq_xb (tt_fX11_need hN (1 : Int32)) (by decide) (fun r1_q24705 h_r1_q24705 => ?_)
      obtain ⟨h_r1_q24705_0, -⟩ := h_r1_q24705
      refine wq_ok ?_
      refine wq_b (tt_fX3_setSharers hN (wb_sh I0 13) (wb_sh M0 15) (wb_sh I0 9) (wb_sh M0 1) (wb_sh I0 13) (wb_sh M0 13) r11_q24692 x3 ⟨by omega, by omega⟩ (KX11.s_X5_9_1 k_I0) (KX11.s_X1_13_13 k_I0)) (fun r2_q24706 h_r2_q24706 => ?_)
      obtain ⟨-⟩ := h_r2_q24706
      refine wq_v (fun I0_3_q24707 h_I0_3_q24707 => ?_)
      refine wq_v (fun M0_4_q24708 h_M0_4_q24708 => ?_)
      have k_M0_4_q24708 : KX11 I0_3_q24707 M0_4_q24708 := by rw [h_I0_3_q24707, h_M0_4_q24708]; exact (KX11.p_X3_13_15 k_I0)
      refine wq_eq (fun hc_24709 => ?_) (fun hc_24710 => ?_)
      · refine wq_b (tt_fX3_howManyErrors hN (wb_sh I0_3_q24707 13) (wb_sh M0_4_q24708 15)) (fun r10_q24711 h_r10_q24711 => ?_)
        obtain ⟨-⟩ := h_r10_q24711
        have b_24712 := i32b r10_q24711
        exact wq_s ⟨k_M0_4_q24708, trivial⟩
      · refine wq_eq (fun hc_24713 => ?_) (fun hc_24714 => ?_)
        · refine wq_b (tt_fX3_setFollowed hN (wb_sh I0_3_q24707 13) (wb_sh M0_4_q24708 15)) (fun r9b_q24715 h_r9b_q24715 => ?_)
          obtain ⟨h_r9b_q24715_0, -⟩ := h_r9b_q24715
          exact wq_s ⟨k_M0_4_q24708, trivial⟩
        · have l_2 := il_2
          have t_24717 := ia_sub x4 (2 : Int32) (by omega) (by omega)
          have l_3 := il_3
          have t_24718 := ia_rem (x4 - (2 : Int32)) (3 : Int32) 3 il_3 (by decide) (by omega)
          have t_24719 := ia_add ((x4 - (2 : Int32)) - (((x4 - (2 : Int32)) / (3 : Int32)) * (3 : Int32))) (1 : Int32) (by omega) (by omega)
          refine wq_v (fun v5_q24716 h_v5_q24716 => ?_)
          have t_v5_q24716 := congrArg Int32.toInt h_v5_q24716
          have l_5 := il_5
          refine wq_le (fun hc_24720 => ?_) (fun hc_24721 => ?_)
          · have l_8 := il_8
            refine wq_le (fun hc_24722 => ?_) (fun hc_24723 => ?_)
            · refine wq_b (tt_fX3_weightOf hN (wb_sh I0_3_q24707 13) (wb_sh M0_4_q24708 15) v5_q24716) (fun r6_q24724 h_r6_q24724 => ?_)
              obtain ⟨-⟩ := h_r6_q24724
              have b_24725 := i32b r6_q24724
              exact wq_s ⟨k_M0_4_q24708, trivial⟩
            · refine wq_b (tt_fX3_howManyAlone hN (wb_sh I0_3_q24707 13) (wb_sh M0_4_q24708 15) v5_q24716) (fun r7_q24726 h_r7_q24726 => ?_)
              obtain ⟨-⟩ := h_r7_q24726
              have b_24727 := i32b r7_q24726
              exact wq_s ⟨k_M0_4_q24708, trivial⟩
          · refine wq_b (tt_fX3_howManyShared hN (wb_sh I0_3_q24707 13) (wb_sh M0_4_q24708 15) v5_q24716) (fun r8_q24728 h_r8_q24728 => ?_)
            obtain ⟨-⟩ := h_r8_q24728
            have b_24729 := i32b r8_q24728
            exact wq_s ⟨k_M0_4_q24708, trivial⟩
set_option maxHeartbeats 4000000 in
theorem tt_fX11_climatesThatCanBe_L27 {N : Nat} (hN : 3000000000 ≤ N) (I0 : Nat → Int32) (M0 : Nat → Nat → Int32) (x1 : Int32) (r1 : Int32) (r2 : Int32) (h_x1 : 0 ≤ x1.toInt ∧ x1.toInt ≤ 119) (h_r1 : -1 ≤ r1.toInt ∧ r1.toInt ≤ 359) (h_r2 : -1 ≤ r2.toInt ∧ r2.toInt ≤ 359) (k_I0 : KX11 I0 M0)  : ∀ (fu : Nat) (y27_4 : Int32) (y27_5 : Int32), (0 ≤ y27_4.toInt ∧ y27_4.toInt ≤ 255) → (0 ≤ y27_5.toInt ∧ y27_5.toInt ≤ 7) → (7 - y27_5.toInt) < (fu : Int) → wq (fX11_climatesThatCanBe_L27 N I0 M0 x1 r1 r2 fu y27_4 y27_5) (fun r => (0 ≤ r.toInt ∧ r.toInt ≤ 255) ∧ True) := by
  intro fu
  induction fu with
  | zero => intro y27_4 y27_5 h_y27_4 h_y27_5 hm; exfalso; omega
  | succ fu ih =>
    intro y27_4 y27_5 h_y27_4 h_y27_5 hm
    rw [fX11_climatesThatCanBe_L27.eq_2]
    have t_24970 := KX11.i9 k_I0
    refine wq_le (fun hc_24971 => ?_) (fun hc_24972 => ?_)
    · exact wq_s ⟨(show 0 ≤ y27_4.toInt ∧ y27_4.toInt ≤ 255 from ⟨by omega, by omega⟩), trivial⟩
    · have l_2 := il_2
      refine wq_b (tt_fX1_howManyDiffer hN (wb_sh I0 13) (wb_sh M0 13) (wb_sh I0 9) (wb_sh M0 5) x1 (2 : Int32) y27_5 ⟨by omega, by omega⟩ (KX11.s_X1_13_13 k_I0) (KX11.s_X2_9_5 k_I0) (by omega)) (fun r8_q24973 h_r8_q24973 => ?_)
      obtain ⟨-⟩ := h_r8_q24973
      have b_24974 := i32b r8_q24973
      have l_0 := il_0
      refine wq_eq (fun hc_24975 => ?_) (fun hc_24976 => ?_)
      · unfold fX11_climatesThatCanBe_J68
        have l_1 := il_1
        refine wq_eq (fun hc_24977 => ?_) (fun hc_24978 => ?_)
        · exfalso; omega
        · refine wq_b (tt_fX2_hasHour hN (wb_sh I0 9) (wb_sh M0 5) y27_5 r1 r2 ⟨by omega, by omega⟩ ⟨by omega, by omega⟩ (KX11.s_X2_9_5 k_I0)) (fun r4_q24979 h_r4_q24979 => ?_)
          obtain ⟨h_r4_q24979_0, -⟩ := h_r4_q24979
          refine wq_eq (fun hc_24980 => ?_) (fun hc_24981 => ?_)
          · have t_24983 := ia_add y27_5 (1 : Int32) (by omega) (by omega)
            refine wq_v (fun v5_q24982 h_v5_q24982 => ?_)
            have t_v5_q24982 := congrArg Int32.toInt h_v5_q24982
            exact ih y27_4 v5_q24982 ⟨by omega, by omega⟩ ⟨by omega, by omega⟩ (by omega)
          · have t_24985 := or_sh y27_4 y27_5 ⟨by omega, by omega⟩ ⟨by omega, by omega⟩
            refine wq_v (fun v6_q24984 h_v6_q24984 => ?_)
            have t_v6_q24984 := congrArg Int32.toInt h_v6_q24984
            have t_24987 := ia_add y27_5 (1 : Int32) (by omega) (by omega)
            refine wq_v (fun v7_q24986 h_v7_q24986 => ?_)
            have t_v7_q24986 := congrArg Int32.toInt h_v7_q24986
            exact ih v6_q24984 v7_q24986 ⟨by omega, by omega⟩ ⟨by omega, by omega⟩ (by omega)
      · unfold fX11_climatesThatCanBe_J68
        refine wq_eq (fun hc_24988 => ?_) (fun hc_24989 => ?_)
        · have l_1 := il_1
          have t_24991 := ia_add y27_5 (1 : Int32) (by omega) (by omega)
          refine wq_v (fun v3_q24990 h_v3_q24990 => ?_)
          have t_v3_q24990 := congrArg Int32.toInt h_v3_q24990
          exact ih y27_4 v3_q24990 ⟨by omega, by omega⟩ ⟨by omega, by omega⟩ (by omega)
        · exfalso; omega
set_option maxHeartbeats 4000000 in
theorem tt_fX11_climatesThatCanBe {N : Nat} (hN : 3000000000 ≤ N) (I0 : Nat → Int32) (M0 : Nat → Nat → Int32) (x1 : Int32) (h_x1 : 0 ≤ x1.toInt ∧ x1.toInt ≤ 119) (k_I0 : KX11 I0 M0) : wq (fX11_climatesThatCanBe N I0 M0 x1) (fun r => (0 ≤ r.toInt ∧ r.toInt ≤ 255) ∧ True) := by
  unfold fX11_climatesThatCanBe
  have l_0 := il_0
  refine wq_b (tt_fX1_degreeOf hN (wb_sh I0 13) (wb_sh M0 13) x1 (0 : Int32) ⟨by omega, by omega⟩ ⟨by omega, by omega⟩ (KX11.s_X1_13_13 k_I0)) (fun r1_q24992 h_r1_q24992 => ?_)
  obtain ⟨h_r1_q24992_0, h_r1_q24992_1, -⟩ := h_r1_q24992
  have l_7 := il_7
  refine wq_b (tt_fX1_degreeOf hN (wb_sh I0 13) (wb_sh M0 13) x1 (7 : Int32) ⟨by omega, by omega⟩ ⟨by omega, by omega⟩ (KX11.s_X1_13_13 k_I0)) (fun r2_q24993 h_r2_q24993 => ?_)
  obtain ⟨h_r2_q24993_0, h_r2_q24993_1, -⟩ := h_r2_q24993
  exact tt_fX11_climatesThatCanBe_L27 hN I0 M0 x1 r1_q24992 r2_q24993 ⟨by omega, by omega⟩ ⟨by omega, by omega⟩ ⟨by omega, by omega⟩ k_I0 N (0 : Int32) (0 : Int32) ⟨by omega, by omega⟩ ⟨by omega, by omega⟩ (by omega)
set_option maxHeartbeats 4000000 in
theorem tt_fX11_waysThatCanBe_L52 {N : Nat} (hN : 3000000000 ≤ N) (I0 : Nat → Int32) (M0 : Nat → Nat → Int32) (x1 : Int32) (h_x1 : 0 ≤ x1.toInt ∧ x1.toInt ≤ 119) (k_I0 : KX11 I0 M0)  : ∀ (fu : Nat) (y52_2 : Int32) (y52_3 : Int32), (0 ≤ y52_3.toInt ∧ y52_3.toInt ≤ 7) → (7 - y52_3.toInt) < (fu : Int) → wq (fX11_waysThatCanBe_L52 N I0 M0 x1 fu y52_2 y52_3) (fun r => True) := by
  intro fu
  induction fu with
  | zero => intro y52_2 y52_3 h_y52_3 hm; exfalso; omega
  | succ fu ih =>
    intro y52_2 y52_3 h_y52_3 hm
    rw [fX11_waysThatCanBe_L52.eq_2]
    have t_25357 := KX11.i9 k_I0
    refine wq_le (fun hc_25358 => ?_) (fun hc_25359 => ?_)
    · have b_25360 := i32b y52_2
      exact wq_s trivial
    · have l_2 := il_2
      refine wq_b (tt_fX1_howManyDiffer hN (wb_sh I0 13) (wb_sh M0 13) (wb_sh I0 9) (wb_sh M0 5) x1 (2 : Int32) y52_3 ⟨by omega, by omega⟩ (KX11.s_X1_13_13 k_I0) (KX11.s_X2_9_5 k_I0) (by omega)) (fun r1_q25361 h_r1_q25361 => ?_)
      obtain ⟨-⟩ := h_r1_q25361
      have b_25362 := i32b r1_q25361
      have l_0 := il_0
      refine wq_eq (fun hc_25363 => ?_) (fun hc_25364 => ?_)
      · refine wq_v (fun v3_q25365 h_v3_q25365 => ?_)
        have t_v3_q25365 := congrArg Int32.toInt h_v3_q25365
        have l_1 := il_1
        have t_25367 := ia_add y52_3 (1 : Int32) (by omega) (by omega)
        refine wq_v (fun v4_q25366 h_v4_q25366 => ?_)
        have t_v4_q25366 := congrArg Int32.toInt h_v4_q25366
        have b_25368 := i32b v3_q25365
        exact ih v3_q25365 v4_q25366 ⟨by omega, by omega⟩ (by omega)
      · have l_1 := il_1
        have t_25370 := ia_add y52_3 (1 : Int32) (by omega) (by omega)
        refine wq_v (fun v2_q25369 h_v2_q25369 => ?_)
        have t_v2_q25369 := congrArg Int32.toInt h_v2_q25369
        have b_25371 := i32b y52_2
        exact ih y52_2 v2_q25369 ⟨by omega, by omega⟩ (by omega)
set_option maxHeartbeats 4000000 in
theorem tt_fX11_waysThatCanBe {N : Nat} (hN : 3000000000 ≤ N) (I0 : Nat → Int32) (M0 : Nat → Nat → Int32) (x1 : Int32) (h_x1 : 0 ≤ x1.toInt ∧ x1.toInt ≤ 119) (k_I0 : KX11 I0 M0) : wq (fX11_waysThatCanBe N I0 M0 x1) (fun r => True) := by
  unfold fX11_waysThatCanBe
  have l_0 := il_0
  refine wq_b (tt_fX1_howManyDiffer hN (wb_sh I0 13) (wb_sh M0 13) (wb_sh I0 9) (wb_sh M0 5) x1 (0 : Int32) (0 : Int32) ⟨by omega, by omega⟩ (KX11.s_X1_13_13 k_I0) (KX11.s_X2_9_5 k_I0) (by omega)) (fun r7_q25372 h_r7_q25372 => ?_)
  obtain ⟨-⟩ := h_r7_q25372
  have b_25373 := i32b r7_q25372
  refine wq_eq (fun hc_25374 => ?_) (fun hc_25375 => ?_)
  · refine wq_v (fun v8_q25376 h_v8_q25376 => ?_)
    have t_v8_q25376 := congrArg Int32.toInt h_v8_q25376
    unfold fX11_waysThatCanBe_J26
    have l_1 := il_1
    refine wq_b (tt_fX1_howManyDiffer hN (wb_sh I0 13) (wb_sh M0 13) (wb_sh I0 9) (wb_sh M0 5) x1 (1 : Int32) (0 : Int32) ⟨by omega, by omega⟩ (KX11.s_X1_13_13 k_I0) (KX11.s_X2_9_5 k_I0) (by omega)) (fun r5_q25377 h_r5_q25377 => ?_)
    obtain ⟨-⟩ := h_r5_q25377
    have b_25378 := i32b r5_q25377
    refine wq_eq (fun hc_25379 => ?_) (fun hc_25380 => ?_)
    · refine wq_v (fun v6_q25381 h_v6_q25381 => ?_)
      have t_v6_q25381 := congrArg Int32.toInt h_v6_q25381
      unfold fX11_waysThatCanBe_J50
      have b_25382 := i32b v6_q25381
      exact tt_fX11_waysThatCanBe_L52 hN I0 M0 x1 ⟨by omega, by omega⟩ k_I0 N v6_q25381 (0 : Int32) ⟨by omega, by omega⟩ (by omega)
    · unfold fX11_waysThatCanBe_J50
      have b_25383 := i32b v8_q25376
      exact tt_fX11_waysThatCanBe_L52 hN I0 M0 x1 ⟨by omega, by omega⟩ k_I0 N v8_q25376 (0 : Int32) ⟨by omega, by omega⟩ (by omega)
  · unfold fX11_waysThatCanBe_J26
    have l_1 := il_1
    refine wq_b (tt_fX1_howManyDiffer hN (wb_sh I0 13) (wb_sh M0 13) (wb_sh I0 9) (wb_sh M0 5) x1 (1 : Int32) (0 : Int32) ⟨by omega, by omega⟩ (KX11.s_X1_13_13 k_I0) (KX11.s_X2_9_5 k_I0) (by omega)) (fun r5_q25384 h_r5_q25384 => ?_)
    obtain ⟨-⟩ := h_r5_q25384
    have b_25385 := i32b r5_q25384
    refine wq_eq (fun hc_25386 => ?_) (fun hc_25387 => ?_)
    · refine wq_v (fun v6_q25388 h_v6_q25388 => ?_)
      have t_v6_q25388 := congrArg Int32.toInt h_v6_q25388
      unfold fX11_waysThatCanBe_J50
      have b_25389 := i32b v6_q25388
      exact tt_fX11_waysThatCanBe_L52 hN I0 M0 x1 ⟨by omega, by omega⟩ k_I0 N v6_q25388 (0 : Int32) ⟨by omega, by omega⟩ (by omega)
    · unfold fX11_waysThatCanBe_J50
      exact tt_fX11_waysThatCanBe_L52 hN I0 M0 x1 ⟨by omega, by omega⟩ k_I0 N (0 : Int32) (0 : Int32) ⟨by omega, by omega⟩ (by omega)
set_option maxHeartbeats 4000000 in
theorem tt_fX11_possible {N : Nat} (hN : 3000000000 ≤ N) (I0 : Nat → Int32) (M0 : Nat → Nat → Int32) (x1 : Int32) (x2 : Int32) (x3 : Int32) (k_I0 : KX11 I0 M0) : wq (fX11_possible N I0 M0 x1 x2 x3) (qS 1 (fun r => True)) := by
  unfold fX11_possible
  have b_25493 := i32b x1
  have b_25494 := i32b x2
  refine wq_xb (tt_fX11_numberOf hN x1 x2) (by decide) (fun r1_q25492 h_r1_q25492 => ?_)
  obtain ⟨h_r1_q25492_0, h_r1_q25492_1, -⟩ := h_r1_q25492
  have b_25495 := i32b x3
  have l_0 := il_0
  have l_1 := il_1
  refine wq_b (tt_fX11_within hN x3 (0 : Int32) (1 : Int32)) (fun r2_q25496 h_r2_q25496 => ?_)
  obtain ⟨h_r2_q25496_0, h_r2_q25496_1, -⟩ := h_r2_q25496
  refine wq_xb (tt_fX11_need hN r2_q25496) (by decide) (fun r3_q25497 h_r3_q25497 => ?_)
  obtain ⟨h_r3_q25497_0, -⟩ := h_r3_q25497
  refine wq_ok ?_
  have l_7 := il_7
  refine wq_b (tt_fX1_degreeOf hN (wb_sh I0 13) (wb_sh M0 13) r1_q25492 (7 : Int32) ⟨by omega, by omega⟩ ⟨by omega, by omega⟩ (KX11.s_X1_13_13 k_I0)) (fun r4_q25498 h_r4_q25498 => ?_)
  obtain ⟨h_r4_q25498_0, h_r4_q25498_1, -⟩ := h_r4_q25498
  have l_m1 := il_m1
  refine wq_eq (fun hc_25499 => ?_) (fun hc_25500 => ?_)
  · exact wq_s trivial
  · refine wq_eq (fun hc_25501 => ?_) (fun hc_25502 => ?_)
    · refine wq_b (tt_fX11_waysThatCanBe hN I0 M0 r1_q25492 ⟨by omega, by omega⟩ k_I0) (fun r7_q25503 h_r7_q25503 => ?_)
      obtain ⟨-⟩ := h_r7_q25503
      have b_25504 := i32b r7_q25503
      exact wq_s trivial
    · refine wq_b (tt_fX1_degreeOf hN (wb_sh I0 13) (wb_sh M0 13) r1_q25492 (0 : Int32) ⟨by omega, by omega⟩ ⟨by omega, by omega⟩ (KX11.s_X1_13_13 k_I0)) (fun r5_q25505 h_r5_q25505 => ?_)
      obtain ⟨h_r5_q25505_0, h_r5_q25505_1, -⟩ := h_r5_q25505
      refine wq_eq (fun hc_25506 => ?_) (fun hc_25507 => ?_)
      · exact wq_s trivial
      · refine wq_b (tt_fX11_climatesThatCanBe hN I0 M0 r1_q25492 ⟨by omega, by omega⟩ k_I0) (fun r6_q25508 h_r6_q25508 => ?_)
        obtain ⟨h_r6_q25508_0, -⟩ := h_r6_q25508
        exact wq_s trivial
set_option maxHeartbeats 4000000 in
theorem tt_fX11_slips {N : Nat} (hN : 3000000000 ≤ N) (I0 : Nat → Int32) (M0 : Nat → Nat → Int32) (x1 : Int32) (x2 : Int32) (k_I0 : KX11 I0 M0) : wq (fX11_slips N I0 M0 x1 x2) (qS 1 (fun r => True)) := by
  unfold fX11_slips
  have b_25611 := i32b x1
  have l_0 := il_0
  have l_29 := il_29
  refine wq_b (tt_fX11_within hN x1 (0 : Int32) (29 : Int32)) (fun r3_q25612 h_r3_q25612 => ?_)
  obtain ⟨h_r3_q25612_0, h_r3_q25612_1, -⟩ := h_r3_q25612
  refine wq_eq (fun hc_25613 => ?_) (fun hc_25614 => ?_)
  · unfold fX11_slips_J34
    unfold fX11_slips_J35
    exact wq_xb (tt_fX11_need0 N) (by decide) (fun _ h => absurd h id)
  · have b_25616 := i32b x2
    refine wq_b (tt_fX11_within hN x2 (0 : Int32) (29 : Int32)) (fun r4_q25617 h_r4_q25617 => ?_)
    obtain ⟨h_r4_q25617_0, h_r4_q25617_1, -⟩ := h_r4_q25617
    refine wq_eq (fun hc_25618 => ?_) (fun hc_25619 => ?_)
    · unfold fX11_slips_J34
      unfold fX11_slips_J35
      exact wq_xb (tt_fX11_need0 N) (by decide) (fun _ h => absurd h id)
    · have t_25621 := KX11.i42 k_I0
      refine wq_eq (fun hc_25622 => ?_) (fun hc_25623 => ?_)
      · unfold fX11_slips_J34
        unfold fX11_slips_J35
        exact wq_xb (tt_fX11_need0 N) (by decide) (fun _ h => absurd h id)
      · unfold fX11_slips_J35
        have l_1 := il_1
        refine wq_xb (tt_fX11_need hN (1 : Int32)) (by decide) (fun r1_q25625 h_r1_q25625 => ?_)
        obtain ⟨h_r1_q25625_0, -⟩ := h_r1_q25625
        refine wq_ok ?_
        refine wq_b (tt_fX10_howManySlips hN (wb_sh I0 41) (wb_sh M0 20) (wb_sh I0 10) (wb_sh M0 6) (wb_sh I0 13) (wb_sh M0 13) x1 x2 (KX11.s_X10_41_20 k_I0) (KX11.s_X1_13_13 k_I0)) (fun r2_q25626 h_r2_q25626 => ?_)
        obtain ⟨-⟩ := h_r2_q25626
        have b_25627 := i32b r2_q25626
        exact wq_s trivial
set_option maxHeartbeats 4000000 in
theorem tt_fX11_handed {N : Nat} (hN : 3000000000 ≤ N) (I0 : Nat → Int32) (M0 : Nat → Nat → Int32) (x1 : Int32) (x2 : Int32) (x3 : Int32) (k_I0 : KX11 I0 M0) : wq (fX11_handed N I0 M0 x1 x2 x3) (qS 1 (fun r => True)) := by
  unfold fX11_handed
  have b_25736 := i32b x1
  refine wq_b (tt_fX11_isBook hN x1) (fun r3_q25737 h_r3_q25737 => ?_)
  obtain ⟨h_r3_q25737_0, h_r3_q25737_1, -⟩ := h_r3_q25737
  have l_0 := il_0
  refine wq_eq (fun hc_25738 => ?_) (fun hc_25739 => ?_)
  · unfold fX11_handed_J25
    unfold fX11_handed_J26
    exact wq_xb (tt_fX11_need0 N) (by decide) (fun _ h => absurd h id)
  · have b_25741 := i32b x2
    refine wq_b (tt_fX11_isBook hN x2) (fun r4_q25742 h_r4_q25742 => ?_)
    obtain ⟨h_r4_q25742_0, h_r4_q25742_1, -⟩ := h_r4_q25742
    refine wq_eq (fun hc_25743 => ?_) (fun hc_25744 => ?_)
    · unfold fX11_handed_J25
      unfold fX11_handed_J26
      exact wq_xb (tt_fX11_need0 N) (by decide) (fun _ h => absurd h id)
    · have b_25746 := i32b x3
      refine wq_b (tt_fX11_isBook hN x3) (fun r5_q25747 h_r5_q25747 => ?_)
      obtain ⟨h_r5_q25747_0, h_r5_q25747_1, -⟩ := h_r5_q25747
      refine wq_eq (fun hc_25748 => ?_) (fun hc_25749 => ?_)
      · unfold fX11_handed_J25
        unfold fX11_handed_J26
        exact wq_xb (tt_fX11_need0 N) (by decide) (fun _ h => absurd h id)
      · unfold fX11_handed_J26
        have l_1 := il_1
        refine wq_xb (tt_fX11_need hN (1 : Int32)) (by decide) (fun r1_q25751 h_r1_q25751 => ?_)
        obtain ⟨h_r1_q25751_0, -⟩ := h_r1_q25751
        refine wq_ok ?_
        refine wq_b (tt_fX1_howManyHanded hN (wb_sh I0 13) (wb_sh M0 13) x1 x2 x3 ⟨by omega, by omega⟩ ⟨by omega, by omega⟩ ⟨by omega, by omega⟩ (KX11.s_X1_13_13 k_I0)) (fun r2_q25752 h_r2_q25752 => ?_)
        obtain ⟨-⟩ := h_r2_q25752
        have b_25753 := i32b r2_q25752
        exact wq_s trivial
set_option maxHeartbeats 4000000 in
theorem tt_fX11_leaf {N : Nat} (hN : 3000000000 ≤ N) (I0 : Nat → Int32) (M0 : Nat → Nat → Int32) (x1 : Int32) (x2 : Int32) (k_I0 : KX11 I0 M0) : wq (fX11_leaf N I0 M0 x1 x2) (qS 1 (fun r => (-1 ≤ r.1.toInt ∧ r.1.toInt ≤ 20) ∧ KX11 r.2.1 r.2.2 ∧ True)) := by
  unfold fX11_leaf
  have b_25838 := i32b x1
  refine wq_b (tt_fX11_isBook hN x1) (fun r5_q25839 h_r5_q25839 => ?_)
  obtain ⟨h_r5_q25839_0, h_r5_q25839_1, -⟩ := h_r5_q25839
  have l_0 := il_0
  refine wq_eq (fun hc_25840 => ?_) (fun hc_25841 => ?_)
  · unfold fX11_leaf_J21
    exact wq_xb (tt_fX11_need0 N) (by decide) (fun _ h => absurd h id)
  · have b_25843 := i32b x2
    have l_19 := il_19
    refine wq_b (tt_fX11_within hN x2 (0 : Int32) (19 : Int32)) (fun r6_q25844 h_r6_q25844 => ?_)
    obtain ⟨h_r6_q25844_0, h_r6_q25844_1, -⟩ := h_r6_q25844
    refine wq_eq (fun hc_25845 => ?_) (fun hc_25846 => ?_)
    · unfold fX11_leaf_J21
      exact wq_xb (tt_fX11_need0 N) (by decide) (fun _ h => absurd h id)
    · have l_1 := il_1
      refine wq_xb (tt_fX11_need hN (1 : Int32)) (by decide) (fun r7_q25848 h_r7_q25848 => ?_)
      obtain ⟨h_r7_q25848_0, -⟩ := h_r7_q25848
      refine wq_ok ?_
      refine wq_b (tt_fX6_addTo hN (wb_sh I0 43) (wb_sh M0 23) x1 x2 ⟨by omega, by omega⟩ (KX11.s_X6_43_23 k_I0)) (fun r8_q25849 h_r8_q25849 => ?_)
      obtain ⟨h_r8_q25849_0, h_r8_q25849_1, -⟩ := h_r8_q25849
      refine wq_v (fun I0_9_q25850 h_I0_9_q25850 => ?_)
      refine wq_v (fun M0_10_q25851 h_M0_10_q25851 => ?_)
      have k_M0_10_q25851 : KX11 I0_9_q25850 M0_10_q25851 := by rw [h_I0_9_q25850, h_M0_10_q25851]; exact (KX11.p_X6_43_23 k_I0 h_r8_q25849_1)
      exact wq_s ⟨(show -1 ≤ r8_q25849.1.toInt ∧ r8_q25849.1.toInt ≤ 20 from ⟨by omega, by omega⟩), k_M0_10_q25851, trivial⟩
set_option maxHeartbeats 4000000 in
theorem tt_fX11_order {N : Nat} (hN : 3000000000 ≤ N) (I0 : Nat → Int32) (M0 : Nat → Nat → Int32) (x1 : Int32) (x2 : Int32) (x3 : Int32) (k_I0 : KX11 I0 M0) : wq (fX11_order N I0 M0 x1 x2 x3) (qS 1 (fun r => KX11 r.2.1 r.2.2 ∧ True)) := by
  unfold fX11_order
  have b_26008 := i32b x1
  refine wq_b (tt_fX11_isBook hN x1) (fun r8_q26009 h_r8_q26009 => ?_)
  obtain ⟨h_r8_q26009_0, h_r8_q26009_1, -⟩ := h_r8_q26009
  have l_0 := il_0
  refine wq_eq (fun hc_26010 => ?_) (fun hc_26011 => ?_)
  · unfold fX11_order_J27
    unfold fX11_order_J28
    exact wq_xb (tt_fX11_need0 N) (by decide) (fun _ h => absurd h id)
  · have b_26013 := i32b x2
    refine wq_b (tt_fX11_isBook hN x2) (fun r9b_q26014 h_r9b_q26014 => ?_)
    obtain ⟨h_r9b_q26014_0, h_r9b_q26014_1, -⟩ := h_r9b_q26014
    refine wq_eq (fun hc_26015 => ?_) (fun hc_26016 => ?_)
    · unfold fX11_order_J27
      unfold fX11_order_J28
      exact wq_xb (tt_fX11_need0 N) (by decide) (fun _ h => absurd h id)
    · have b_26018 := i32b x3
      have l_1 := il_1
      refine wq_b (tt_fX11_within hN x3 (0 : Int32) (1 : Int32)) (fun r10_q26019 h_r10_q26019 => ?_)
      obtain ⟨h_r10_q26019_0, h_r10_q26019_1, -⟩ := h_r10_q26019
      refine wq_eq (fun hc_26020 => ?_) (fun hc_26021 => ?_)
      · unfold fX11_order_J27
        unfold fX11_order_J28
        exact wq_xb (tt_fX11_need0 N) (by decide) (fun _ h => absurd h id)
      · unfold fX11_order_J28
        refine wq_xb (tt_fX11_need hN (1 : Int32)) (by decide) (fun r1_q26023 h_r1_q26023 => ?_)
        obtain ⟨h_r1_q26023_0, -⟩ := h_r1_q26023
        refine wq_ok ?_
        refine wq_eq (fun hc_26024 => ?_) (fun hc_26025 => ?_)
        · refine wq_b (tt_fX6_howManyInOrder hN (wb_sh I0 43) (wb_sh M0 23) x1 x2 ⟨by omega, by omega⟩ ⟨by omega, by omega⟩ (KX11.s_X6_43_23 k_I0)) (fun r5_q26026 h_r5_q26026 => ?_)
          obtain ⟨h_r5_q26026_0, h_r5_q26026_1, -⟩ := h_r5_q26026
          refine wq_v (fun I0_6_q26027 h_I0_6_q26027 => ?_)
          refine wq_v (fun M0_7_q26028 h_M0_7_q26028 => ?_)
          have k_M0_7_q26028 : KX11 I0_6_q26027 M0_7_q26028 := by rw [h_I0_6_q26027, h_M0_7_q26028]; exact (KX11.p_X6_43_23 k_I0 h_r5_q26026_1)
          have b_26029 := i32b r5_q26026.1
          exact wq_s ⟨k_M0_7_q26028, trivial⟩
        · refine wq_b (tt_fX6_howManyTurned hN (wb_sh I0 43) (wb_sh M0 23) x1 x2 ⟨by omega, by omega⟩ ⟨by omega, by omega⟩ (KX11.s_X6_43_23 k_I0)) (fun r2_q26030 h_r2_q26030 => ?_)
          obtain ⟨h_r2_q26030_0, -⟩ := h_r2_q26030
          refine wq_v (fun I0_3_q26031 h_I0_3_q26031 => ?_)
          refine wq_v (fun M0_4_q26032 h_M0_4_q26032 => ?_)
          have k_M0_4_q26032 : KX11 I0_3_q26031 M0_4_q26032 := by rw [h_I0_3_q26031, h_M0_4_q26032]; exact (KX11.p_X6_43_23 k_I0 h_r2_q26030_0)
          have b_26033 := i32b r2_q26030.1
          exact wq_s ⟨k_M0_4_q26032, trivial⟩
set_option maxHeartbeats 4000000 in
theorem tt_fX11_isNumber {N : Nat} (hN : 3000000000 ≤ N) (x0 : Int32)  : wq (fX11_isNumber N x0) (fun r => (r.toInt = 0 ∨ (r.toInt = 1 ∧ 0 ≤ x0.toInt ∧ x0.toInt ≤ 119)) ∧ (0 ≤ r.toInt ∧ r.toInt ≤ 1) ∧ True) := by
  unfold fX11_isNumber
  have b_26046 := i32b x0
  have l_0 := il_0
  have l_119 := il_119
  refine wq_b (tt_fX11_within hN x0 (0 : Int32) (119 : Int32)) (fun r1_q26047 h_r1_q26047 => ?_)
  obtain ⟨h_r1_q26047_0, h_r1_q26047_1, -⟩ := h_r1_q26047
  refine wq_bz (by omega) ?_
  exact wq_s ⟨(show (r1_q26047.toInt = 0 ∨ (r1_q26047.toInt = 1 ∧ 0 ≤ x0.toInt ∧ x0.toInt ≤ 119)) from by omega), (show 0 ≤ r1_q26047.toInt ∧ r1_q26047.toInt ≤ 1 from ⟨by omega, by omega⟩), trivial⟩
set_option maxHeartbeats 4000000 in
theorem tt_fX11_same {N : Nat} (hN : 3000000000 ≤ N) (I0 : Nat → Int32) (M0 : Nat → Nat → Int32) (x1 : Int32) (x2 : Int32) (x3 : Int32) (k_I0 : KX11 I0 M0) : wq (fX11_same N I0 M0 x1 x2 x3) (qS 1 (fun r => (0 ≤ r.toInt ∧ r.toInt ≤ 1) ∧ True)) := by
  unfold fX11_same
  have b_26150 := i32b x1
  refine wq_b (tt_fX11_isNumber hN x1) (fun r3_q26151 h_r3_q26151 => ?_)
  obtain ⟨h_r3_q26151_0, h_r3_q26151_1, -⟩ := h_r3_q26151
  have l_0 := il_0
  refine wq_eq (fun hc_26152 => ?_) (fun hc_26153 => ?_)
  · unfold fX11_same_J28
    unfold fX11_same_J29
    exact wq_xb (tt_fX11_need0 N) (by decide) (fun _ h => absurd h id)
  · have b_26155 := i32b x2
    refine wq_b (tt_fX11_isNumber hN x2) (fun r4_q26156 h_r4_q26156 => ?_)
    obtain ⟨h_r4_q26156_0, h_r4_q26156_1, -⟩ := h_r4_q26156
    refine wq_eq (fun hc_26157 => ?_) (fun hc_26158 => ?_)
    · unfold fX11_same_J28
      unfold fX11_same_J29
      exact wq_xb (tt_fX11_need0 N) (by decide) (fun _ h => absurd h id)
    · have b_26160 := i32b x3
      have l_1 := il_1
      have l_7 := il_7
      refine wq_b (tt_fX11_within hN x3 (1 : Int32) (7 : Int32)) (fun r5_q26161 h_r5_q26161 => ?_)
      obtain ⟨h_r5_q26161_0, h_r5_q26161_1, -⟩ := h_r5_q26161
      refine wq_eq (fun hc_26162 => ?_) (fun hc_26163 => ?_)
      · unfold fX11_same_J28
        unfold fX11_same_J29
        exact wq_xb (tt_fX11_need0 N) (by decide) (fun _ h => absurd h id)
      · unfold fX11_same_J29
        refine wq_xb (tt_fX11_need hN (1 : Int32)) (by decide) (fun r1_q26165 h_r1_q26165 => ?_)
        obtain ⟨h_r1_q26165_0, -⟩ := h_r1_q26165
        refine wq_ok ?_
        refine wq_b (tt_fX0_areOne hN (wb_sh I0 10) (wb_sh M0 6) (wb_sh I0 13) (wb_sh M0 13) x1 x2 x3 ⟨by omega, by omega⟩ ⟨by omega, by omega⟩ (KX11.s_X1_13_13 k_I0)) (fun r2_q26166 h_r2_q26166 => ?_)
        obtain ⟨h_r2_q26166_0, -⟩ := h_r2_q26166
        refine wq_bz (by omega) ?_
        exact wq_s ⟨(show 0 ≤ r2_q26166.toInt ∧ r2_q26166.toInt ≤ 1 from ⟨by omega, by omega⟩), trivial⟩
set_option maxHeartbeats 4000000 in
theorem tt_fX11_births {N : Nat} (hN : 3000000000 ≤ N) (I0 : Nat → Int32) (M0 : Nat → Nat → Int32) (x1 : Int32) (x2 : Int32) (k_I0 : KX11 I0 M0) : wq (fX11_births N I0 M0 x1 x2) (qS 1 (fun r => KX11 r.2.1 r.2.2 ∧ True)) := by
  unfold fX11_births
  have b_26365 := i32b x1
  have l_m1 := il_m1
  refine wq_eq (fun hc_26366 => ?_) (fun hc_26367 => ?_)
  · unfold fX11_births_J12
    have b_26368 := i32b x2
    have l_1 := il_1
    have l_7 := il_7
    refine wq_b (tt_fX11_within hN x2 (1 : Int32) (7 : Int32)) (fun r7_q26369 h_r7_q26369 => ?_)
    obtain ⟨h_r7_q26369_0, h_r7_q26369_1, -⟩ := h_r7_q26369
    have l_0 := il_0
    refine wq_eq (fun hc_26370 => ?_) (fun hc_26371 => ?_)
    · unfold fX11_births_J26
      unfold fX11_births_J27
      exact wq_xb (tt_fX11_need0 N) (by decide) (fun _ h => absurd h id)
    · unfold fX11_births_J27
      refine wq_xb (tt_fX11_need hN (1 : Int32)) (by decide) (fun r1_q26373 h_r1_q26373 => ?_)
      obtain ⟨h_r1_q26373_0, -⟩ := h_r1_q26373
      refine wq_ok ?_
      refine wq_b (tt_fX0_partBy hN (wb_sh I0 43) (wb_sh M0 27) (wb_sh I0 10) (wb_sh M0 6) (wb_sh I0 13) (wb_sh M0 13) x2 (KX11.s_X1_13_13 k_I0)) (fun r2_q26374 h_r2_q26374 => ?_)
      obtain ⟨-⟩ := h_r2_q26374
      refine wq_v (fun I0_3_q26375 h_I0_3_q26375 => ?_)
      refine wq_v (fun M0_4_q26376 h_M0_4_q26376 => ?_)
      have k_M0_4_q26376 : KX11 I0_3_q26375 M0_4_q26376 := by rw [h_I0_3_q26375, h_M0_4_q26376]; exact (KX11.p_X0_43_27 k_I0)
      refine wq_eq (fun hc_26377 => ?_) (fun hc_26378 => ?_)
      · refine wq_b (tt_fX0_howManyParts hN (wb_sh I0_3_q26375 43) (wb_sh M0_4_q26376 27) (wb_sh I0_3_q26375 13) (wb_sh M0_4_q26376 13) (KX11.s_X1_13_13 k_M0_4_q26376)) (fun r6_q26379 h_r6_q26379 => ?_)
        obtain ⟨-⟩ := h_r6_q26379
        have b_26380 := i32b r6_q26379
        exact wq_s ⟨k_M0_4_q26376, trivial⟩
      · exfalso; omega
  · refine wq_b (tt_fX11_isNumber hN x1) (fun r8_q26381 h_r8_q26381 => ?_)
    obtain ⟨h_r8_q26381_0, h_r8_q26381_1, -⟩ := h_r8_q26381
    have l_0 := il_0
    refine wq_eq (fun hc_26382 => ?_) (fun hc_26383 => ?_)
    · unfold fX11_births_J26
      unfold fX11_births_J27
      exact wq_xb (tt_fX11_need0 N) (by decide) (fun _ h => absurd h id)
    · unfold fX11_births_J12
      have b_26385 := i32b x2
      have l_1 := il_1
      have l_7 := il_7
      refine wq_b (tt_fX11_within hN x2 (1 : Int32) (7 : Int32)) (fun r7_q26386 h_r7_q26386 => ?_)
      obtain ⟨h_r7_q26386_0, h_r7_q26386_1, -⟩ := h_r7_q26386
      refine wq_eq (fun hc_26387 => ?_) (fun hc_26388 => ?_)
      · unfold fX11_births_J26
        unfold fX11_births_J27
        exact wq_xb (tt_fX11_need0 N) (by decide) (fun _ h => absurd h id)
      · unfold fX11_births_J27
        refine wq_xb (tt_fX11_need hN (1 : Int32)) (by decide) (fun r1_q26390 h_r1_q26390 => ?_)
        obtain ⟨h_r1_q26390_0, -⟩ := h_r1_q26390
        refine wq_ok ?_
        refine wq_b (tt_fX0_partBy hN (wb_sh I0 43) (wb_sh M0 27) (wb_sh I0 10) (wb_sh M0 6) (wb_sh I0 13) (wb_sh M0 13) x2 (KX11.s_X1_13_13 k_I0)) (fun r2_q26391 h_r2_q26391 => ?_)
        obtain ⟨-⟩ := h_r2_q26391
        refine wq_v (fun I0_3_q26392 h_I0_3_q26392 => ?_)
        refine wq_v (fun M0_4_q26393 h_M0_4_q26393 => ?_)
        have k_M0_4_q26393 : KX11 I0_3_q26392 M0_4_q26393 := by rw [h_I0_3_q26392, h_M0_4_q26393]; exact (KX11.p_X0_43_27 k_I0)
        refine wq_eq (fun hc_26394 => ?_) (fun hc_26395 => ?_)
        · exfalso; omega
        · refine wq_b (tt_fX0_leastOf hN (wb_sh I0_3_q26392 43) (wb_sh M0_4_q26393 27) x1 ⟨by omega, by omega⟩) (fun r5_q26396 h_r5_q26396 => ?_)
          obtain ⟨-⟩ := h_r5_q26396
          have b_26397 := i32b r5_q26396
          exact wq_s ⟨k_M0_4_q26393, trivial⟩
set_option maxHeartbeats 4000000 in
theorem tt_fX11_tree {N : Nat} (hN : 3000000000 ≤ N) (I0 : Nat → Int32) (M0 : Nat → Nat → Int32) (k_I0 : KX11 I0 M0) : wq (fX11_tree N I0 M0) (fun r => KX11 r.2.1 r.2.2 ∧ True) := by
  unfold fX11_tree
  refine wq_b (tt_fX10_setBooks hN (wb_sh I0 41) (wb_sh M0 20) (wb_sh I0 13) (wb_sh M0 13) (KX11.s_X10_41_20 k_I0) (KX11.s_X1_13_13 k_I0)) (fun r1_q26470 h_r1_q26470 => ?_)
  obtain ⟨h_r1_q26470_0, h_r1_q26470_1, -⟩ := h_r1_q26470
  refine wq_v (fun I0_2_q26471 h_I0_2_q26471 => ?_)
  refine wq_v (fun M0_3_q26472 h_M0_3_q26472 => ?_)
  have k_M0_3_q26472 : KX11 I0_2_q26471 M0_3_q26472 := by rw [h_I0_2_q26471, h_M0_3_q26472]; exact (KX11.p_X10_41_20 k_I0 h_r1_q26470_1)
  have l_0 := il_0
  refine wq_eq (fun hc_26473 => ?_) (fun hc_26474 => ?_)
  · have l_m1 := il_m1
    exact wq_s ⟨k_M0_3_q26472, trivial⟩
  · refine wq_b (tt_fX10_setPrices hN (wb_sh I0_2_q26471 41) (wb_sh M0_3_q26472 20) (wb_sh I0_2_q26471 10) (wb_sh M0_3_q26472 6) (wb_sh I0_2_q26471 13) (wb_sh M0_3_q26472 13) (KX11.s_X10_41_20 k_M0_3_q26472) (KX11.s_X1_13_13 k_M0_3_q26472)) (fun r4_q26475 h_r4_q26475 => ?_)
    obtain ⟨h_r4_q26475_0, -⟩ := h_r4_q26475
    refine wq_v (fun I0_5_q26476 h_I0_5_q26476 => ?_)
    refine wq_v (fun M0_6_q26477 h_M0_6_q26477 => ?_)
    have k_M0_6_q26477 : KX11 I0_5_q26476 M0_6_q26477 := by rw [h_I0_5_q26476, h_M0_6_q26477]; exact (KX11.p_X10_41_20 k_M0_3_q26472 h_r4_q26475_0)
    refine wq_b (tt_fX10_grow hN (wb_sh I0_5_q26476 41) (wb_sh M0_6_q26477 20) (KX11.s_X10_41_20 k_M0_6_q26477)) (fun r7_q26478 h_r7_q26478 => ?_)
    obtain ⟨h_r7_q26478_0, -⟩ := h_r7_q26478
    refine wq_v (fun I0_8_q26479 h_I0_8_q26479 => ?_)
    refine wq_v (fun M0_9_q26480 h_M0_9_q26480 => ?_)
    have k_M0_9_q26480 : KX11 I0_8_q26479 M0_9_q26480 := by rw [h_I0_8_q26479, h_M0_9_q26480]; exact (KX11.p_X10_41_20 k_M0_6_q26477 h_r7_q26478_0)
    have b_26481 := i32b r7_q26478.1
    exact wq_s ⟨k_M0_9_q26480, trivial⟩
set_option maxHeartbeats 4000000 in
theorem tt_fX11_whence {N : Nat} (hN : 3000000000 ≤ N) (I0 : Nat → Int32) (M0 : Nat → Nat → Int32) (x1 : Int32) (k_I0 : KX11 I0 M0) : wq (fX11_whence N I0 M0 x1) (qS 1 (fun r => (-3 ≤ r.toInt ∧ r.toInt ≤ 5) ∧ True)) := by
  unfold fX11_whence
  have b_26572 := i32b x1
  refine wq_b (tt_fX11_isBook hN x1) (fun r1_q26573 h_r1_q26573 => ?_)
  obtain ⟨h_r1_q26573_0, h_r1_q26573_1, -⟩ := h_r1_q26573
  have l_0 := il_0
  refine wq_eq (fun hc_26574 => ?_) (fun hc_26575 => ?_)
  · exact wq_xb (tt_fX11_need0 N) (by decide) (fun _ h => absurd h id)
  · have t_26577 := KX11.i42 k_I0
    refine wq_eq (fun hc_26578 => ?_) (fun hc_26579 => ?_)
    · exact wq_xb (tt_fX11_need0 N) (by decide) (fun _ h => absurd h id)
    · refine wq_b (tt_fX10_holds hN (wb_sh I0 41) (wb_sh M0 20) x1 ⟨by omega, by omega⟩ (KX11.s_X10_41_20 k_I0)) (fun r6_q26581 h_r6_q26581 => ?_)
      obtain ⟨h_r6_q26581_0, -⟩ := h_r6_q26581
      refine wq_eq (fun hc_26582 => ?_) (fun hc_26583 => ?_)
      · exact wq_xb (tt_fX11_need0 N) (by decide) (fun _ h => absurd h id)
      · have l_1 := il_1
        refine wq_xb (tt_fX11_need hN (1 : Int32)) (by decide) (fun r9b_q26585 h_r9b_q26585 => ?_)
        obtain ⟨h_r9b_q26585_0, -⟩ := h_r9b_q26585
        refine wq_ok ?_
        refine wq_b (tt_fX10_parentOf hN (wb_sh I0 41) (wb_sh M0 20) x1 ⟨by omega, by omega⟩ (KX11.s_X10_41_20 k_I0)) (fun r10_q26586 h_r10_q26586 => ?_)
        obtain ⟨h_r10_q26586_0, -⟩ := h_r10_q26586
        exact wq_s ⟨(show -3 ≤ r10_q26586.toInt ∧ r10_q26586.toInt ≤ 5 from ⟨by omega, by omega⟩), trivial⟩
set_option maxHeartbeats 4000000 in
theorem tt_fX11_life {N : Nat} (hN : 3000000000 ≤ N) (I0 : Nat → Int32) (M0 : Nat → Nat → Int32) (x1 : Int32) (x2 : Int32) (x3 : Int32) (k_I0 : KX11 I0 M0) : wq (fX11_life N I0 M0 x1 x2 x3) (qS 1 (fun r => (0 ≤ r.1.toInt ∧ r.1.toInt ≤ 1) ∧ KX11 r.2.1 r.2.2 ∧ True)) := by
  unfold fX11_life
  have b_26671 := i32b x1
  have l_0 := il_0
  have l_19 := il_19
  refine wq_b (tt_fX11_within hN x1 (0 : Int32) (19 : Int32)) (fun r1_q26672 h_r1_q26672 => ?_)
  obtain ⟨h_r1_q26672_0, h_r1_q26672_1, -⟩ := h_r1_q26672
  refine wq_xb (tt_fX11_need hN r1_q26672) (by decide) (fun r2_q26673 h_r2_q26673 => ?_)
  obtain ⟨h_r2_q26673_0, -⟩ := h_r2_q26673
  refine wq_ok ?_
  have b_26674 := i32b x2
  have l_120 := il_120
  refine wq_b (tt_fX11_within hN x2 (0 : Int32) (120 : Int32)) (fun r3_q26675 h_r3_q26675 => ?_)
  obtain ⟨h_r3_q26675_0, h_r3_q26675_1, -⟩ := h_r3_q26675
  refine wq_eq (fun hc_26676 => ?_) (fun hc_26677 => ?_)
  · exact wq_s ⟨(show 0 ≤ (0 : Int32).toInt ∧ (0 : Int32).toInt ≤ 1 from ⟨by omega, by omega⟩), k_I0, trivial⟩
  · have b_26678 := i32b x3
    refine wq_b (tt_fX11_within hN x3 (0 : Int32) (120 : Int32)) (fun r4_q26679 h_r4_q26679 => ?_)
    obtain ⟨h_r4_q26679_0, h_r4_q26679_1, -⟩ := h_r4_q26679
    refine wq_eq (fun hc_26680 => ?_) (fun hc_26681 => ?_)
    · exact wq_s ⟨(show 0 ≤ (0 : Int32).toInt ∧ (0 : Int32).toInt ≤ 1 from ⟨by omega, by omega⟩), k_I0, trivial⟩
    · refine wq_b (tt_fX7_tellLife hN (wb_sh I0 43) (wb_sh M0 28) x1 x2 x3 ⟨by omega, by omega⟩ (KX11.s_X7_43_28 k_I0)) (fun r5_q26682 h_r5_q26682 => ?_)
      obtain ⟨h_r5_q26682_0, -⟩ := h_r5_q26682
      refine wq_v (fun I0_6_q26683 h_I0_6_q26683 => ?_)
      refine wq_v (fun M0_7_q26684 h_M0_7_q26684 => ?_)
      have k_M0_7_q26684 : KX11 I0_6_q26683 M0_7_q26684 := by rw [h_I0_6_q26683, h_M0_7_q26684]; exact (KX11.p_X7_43_28 k_I0 h_r5_q26682_0)
      have l_1 := il_1
      exact wq_s ⟨(show 0 ≤ (1 : Int32).toInt ∧ (1 : Int32).toInt ≤ 1 from ⟨by omega, by omega⟩), k_M0_7_q26684, trivial⟩
set_option maxHeartbeats 4000000 in
theorem tt_fX11_fate {N : Nat} (hN : 3000000000 ≤ N) (I0 : Nat → Int32) (M0 : Nat → Nat → Int32) (x1 : Int32) (x2 : Int32) (k_I0 : KX11 I0 M0) : wq (fX11_fate N I0 M0 x1 x2) (qS 1 (fun r => (0 ≤ r.1.toInt ∧ r.1.toInt ≤ 1) ∧ KX11 r.2.1 r.2.2 ∧ True)) := by
  unfold fX11_fate
  have b_26745 := i32b x1
  have l_0 := il_0
  have l_19 := il_19
  refine wq_b (tt_fX11_within hN x1 (0 : Int32) (19 : Int32)) (fun r1_q26746 h_r1_q26746 => ?_)
  obtain ⟨h_r1_q26746_0, h_r1_q26746_1, -⟩ := h_r1_q26746
  refine wq_xb (tt_fX11_need hN r1_q26746) (by decide) (fun r2_q26747 h_r2_q26747 => ?_)
  obtain ⟨h_r2_q26747_0, -⟩ := h_r2_q26747
  refine wq_ok ?_
  have b_26748 := i32b x2
  have l_1 := il_1
  have l_12 := il_12
  refine wq_b (tt_fX11_within hN x2 (1 : Int32) (12 : Int32)) (fun r3_q26749 h_r3_q26749 => ?_)
  obtain ⟨h_r3_q26749_0, h_r3_q26749_1, -⟩ := h_r3_q26749
  refine wq_eq (fun hc_26750 => ?_) (fun hc_26751 => ?_)
  · exact wq_s ⟨(show 0 ≤ (0 : Int32).toInt ∧ (0 : Int32).toInt ≤ 1 from ⟨by omega, by omega⟩), k_I0, trivial⟩
  · refine wq_b (tt_fX7_tellFate hN (wb_sh I0 43) (wb_sh M0 28) x1 x2 ⟨by omega, by omega⟩ (KX11.s_X7_43_28 k_I0)) (fun r4_q26752 h_r4_q26752 => ?_)
    obtain ⟨h_r4_q26752_0, -⟩ := h_r4_q26752
    refine wq_v (fun I0_5_q26753 h_I0_5_q26753 => ?_)
    refine wq_v (fun M0_6_q26754 h_M0_6_q26754 => ?_)
    have k_M0_6_q26754 : KX11 I0_5_q26753 M0_6_q26754 := by rw [h_I0_5_q26753, h_M0_6_q26754]; exact (KX11.p_X7_43_28 k_I0 h_r4_q26752_0)
    exact wq_s ⟨(show 0 ≤ (1 : Int32).toInt ∧ (1 : Int32).toInt ≤ 1 from ⟨by omega, by omega⟩), k_M0_6_q26754, trivial⟩
set_option maxHeartbeats 4000000 in
theorem tt_fX11_fates {N : Nat} (hN : 3000000000 ≤ N) (I0 : Nat → Int32) (M0 : Nat → Nat → Int32) (x1 : Int32) (k_I0 : KX11 I0 M0) : wq (fX11_fates N I0 M0 x1) (qS 1 (fun r => KX11 r.2.1 r.2.2 ∧ True)) := by
  unfold fX11_fates
  have b_26827 := i32b x1
  have l_0 := il_0
  have l_1 := il_1
  refine wq_b (tt_fX11_within hN x1 (0 : Int32) (1 : Int32)) (fun r1_q26828 h_r1_q26828 => ?_)
  obtain ⟨h_r1_q26828_0, h_r1_q26828_1, -⟩ := h_r1_q26828
  refine wq_xb (tt_fX11_need hN r1_q26828) (by decide) (fun r2_q26829 h_r2_q26829 => ?_)
  obtain ⟨h_r2_q26829_0, -⟩ := h_r2_q26829
  refine wq_ok ?_
  refine wq_eq (fun hc_26830 => ?_) (fun hc_26831 => ?_)
  · refine wq_b (tt_fX7_howManyToldByLot hN (wb_sh I0 43) (wb_sh M0 28) (wb_sh I0 13) (wb_sh M0 13) (KX11.s_X7_43_28 k_I0) (KX11.s_X1_13_13 k_I0)) (fun r6_q26832 h_r6_q26832 => ?_)
    obtain ⟨h_r6_q26832_0, h_r6_q26832_1, -⟩ := h_r6_q26832
    refine wq_v (fun I0_7_q26833 h_I0_7_q26833 => ?_)
    refine wq_v (fun M0_8_q26834 h_M0_8_q26834 => ?_)
    have k_M0_8_q26834 : KX11 I0_7_q26833 M0_8_q26834 := by rw [h_I0_7_q26833, h_M0_8_q26834]; exact (KX11.p_X7_43_28 k_I0 h_r6_q26832_1)
    exact wq_s ⟨k_M0_8_q26834, trivial⟩
  · refine wq_b (tt_fX7_chanceOfFates hN (wb_sh I0 43) (wb_sh M0 28) (wb_sh I0 13) (wb_sh M0 13) (KX11.s_X7_43_28 k_I0) (KX11.s_X1_13_13 k_I0)) (fun r3_q26835 h_r3_q26835 => ?_)
    obtain ⟨h_r3_q26835_0, -⟩ := h_r3_q26835
    refine wq_v (fun I0_4_q26836 h_I0_4_q26836 => ?_)
    refine wq_v (fun M0_5_q26837 h_M0_5_q26837 => ?_)
    have k_M0_5_q26837 : KX11 I0_4_q26836 M0_5_q26837 := by rw [h_I0_4_q26836, h_M0_5_q26837]; exact (KX11.p_X7_43_28 k_I0 h_r3_q26835_0)
    have b_26838 := i32b r3_q26835.1
    exact wq_s ⟨k_M0_5_q26837, trivial⟩
set_option maxHeartbeats 4000000 in
theorem tt_fX11_hits {N : Nat} (hN : 3000000000 ≤ N) (I0 : Nat → Int32) (M0 : Nat → Nat → Int32) (x1 : Int32) (x2 : Int32) (k_I0 : KX11 I0 M0) : wq (fX11_hits N I0 M0 x1 x2) (qS 1 (fun r => KX11 r.2.1 r.2.2 ∧ True)) := by
  unfold fX11_hits
  have b_26959 := i32b x1
  have l_0 := il_0
  have l_1 := il_1
  refine wq_b (tt_fX11_within hN x1 (0 : Int32) (1 : Int32)) (fun r8_q26960 h_r8_q26960 => ?_)
  obtain ⟨h_r8_q26960_0, h_r8_q26960_1, -⟩ := h_r8_q26960
  refine wq_eq (fun hc_26961 => ?_) (fun hc_26962 => ?_)
  · unfold fX11_hits_J23
    unfold fX11_hits_J24
    exact wq_xb (tt_fX11_need0 N) (by decide) (fun _ h => absurd h id)
  · have b_26964 := i32b x2
    have l_120 := il_120
    refine wq_b (tt_fX11_within hN x2 (0 : Int32) (120 : Int32)) (fun r9b_q26965 h_r9b_q26965 => ?_)
    obtain ⟨h_r9b_q26965_0, h_r9b_q26965_1, -⟩ := h_r9b_q26965
    refine wq_eq (fun hc_26966 => ?_) (fun hc_26967 => ?_)
    · unfold fX11_hits_J23
      unfold fX11_hits_J24
      exact wq_xb (tt_fX11_need0 N) (by decide) (fun _ h => absurd h id)
    · unfold fX11_hits_J24
      refine wq_xb (tt_fX11_need hN (1 : Int32)) (by decide) (fun r1_q26969 h_r1_q26969 => ?_)
      obtain ⟨h_r1_q26969_0, -⟩ := h_r1_q26969
      refine wq_ok ?_
      refine wq_eq (fun hc_26970 => ?_) (fun hc_26971 => ?_)
      · refine wq_b (tt_fX7_howManyHits hN (wb_sh I0 43) (wb_sh M0 28) x2 (KX11.s_X7_43_28 k_I0)) (fun r5_q26972 h_r5_q26972 => ?_)
        obtain ⟨h_r5_q26972_0, h_r5_q26972_1, -⟩ := h_r5_q26972
        refine wq_v (fun I0_6_q26973 h_I0_6_q26973 => ?_)
        refine wq_v (fun M0_7_q26974 h_M0_7_q26974 => ?_)
        have k_M0_7_q26974 : KX11 I0_6_q26973 M0_7_q26974 := by rw [h_I0_6_q26973, h_M0_7_q26974]; exact (KX11.p_X7_43_28 k_I0 h_r5_q26972_1)
        exact wq_s ⟨k_M0_7_q26974, trivial⟩
      · refine wq_b (tt_fX7_chanceOfLives hN (wb_sh I0 43) (wb_sh M0 28) x2 (KX11.s_X7_43_28 k_I0)) (fun r2_q26975 h_r2_q26975 => ?_)
        obtain ⟨h_r2_q26975_0, -⟩ := h_r2_q26975
        refine wq_v (fun I0_3_q26976 h_I0_3_q26976 => ?_)
        refine wq_v (fun M0_4_q26977 h_M0_4_q26977 => ?_)
        have k_M0_4_q26977 : KX11 I0_3_q26976 M0_4_q26977 := by rw [h_I0_3_q26976, h_M0_4_q26977]; exact (KX11.p_X7_43_28 k_I0 h_r2_q26975_0)
        have b_26978 := i32b r2_q26975.1
        exact wq_s ⟨k_M0_4_q26977, trivial⟩
set_option maxHeartbeats 4000000 in
theorem tt_fX12_right {N : Nat} (hN : 3000000000 ≤ N) (I0 : Nat → Int32) (L0 : Int64) (M0 : Nat → Nat → Int32) (x1 : Int32) (x2 : Int32) (h_x2 : 1 ≤ x2.toInt ∧ x2.toInt ≤ 2) (k_I0 : KX12 I0 M0) : wq (fX12_right N I0 L0 M0 x1 x2) (fun r => (r.1.toInt = 0 ∨ (r.1.toInt = 1 ∧ x1.toInt ≠ 0)) ∧ (r.2.1 1).toInt = (I0 1).toInt ∧ (0 ≤ r.1.toInt ∧ r.1.toInt ≤ 1) ∧ KX12 r.2.1 r.2.2.2 ∧ True) := by
  unfold fX12_right
  have l_0 := il_0
  refine wq_eq (fun hc_27099 => ?_) (fun hc_27100 => ?_)
  · have b_27101 := i32b x1
    refine wq_eq (fun hc_27102 => ?_) (fun hc_27103 => ?_)
    · refine wq_v (fun I0_1_q27104 h_I0_1_q27104 => ?_)
      have k_I0_1_q27104 : KX12 I0_1_q27104 M0 := by rw [h_I0_1_q27104]; exact KX12.si0 k_I0
      have tr_27105 : (I0_1_q27104 0).toInt = x2.toInt := by rw [h_I0_1_q27104]; rfl
      have tr_27106 : (I0_1_q27104 1).toInt = (I0 1).toInt := by rw [h_I0_1_q27104]; rfl
      have t_27107 : (I0_1_q27104 0).toInt = x2.toInt := by rw [h_I0_1_q27104]; rfl
      refine wq_eq (fun hc_27108 => ?_) (fun hc_27109 => ?_)
      · exfalso; omega
      · have t_27110 := KX12.i1 k_I0
        have t_27111 : (I0_1_q27104 1).toInt = (I0 1).toInt := by rw [h_I0_1_q27104]; rfl
        exact wq_s ⟨(show ((0 : Int32).toInt = 0 ∨ ((0 : Int32).toInt = 1 ∧ x1.toInt ≠ 0)) from by omega), (show (I0_1_q27104 1).toInt = (I0 1).toInt from by omega), (show 0 ≤ (0 : Int32).toInt ∧ (0 : Int32).toInt ≤ 1 from ⟨by omega, by omega⟩), k_I0_1_q27104, trivial⟩
    · refine wq_eq (fun hc_27112 => ?_) (fun hc_27113 => ?_)
      · have t_27114 := KX12.i1 k_I0
        have l_1 := il_1
        exact wq_s ⟨(show ((1 : Int32).toInt = 0 ∨ ((1 : Int32).toInt = 1 ∧ x1.toInt ≠ 0)) from by omega), (show (I0 1).toInt = (I0 1).toInt from by omega), (show 0 ≤ (1 : Int32).toInt ∧ (1 : Int32).toInt ≤ 1 from ⟨by omega, by omega⟩), k_I0, trivial⟩
      · exfalso; omega
  · refine wq_eq (fun hc_27115 => ?_) (fun hc_27116 => ?_)
    · have t_27117 := KX12.i1 k_I0
      have b_27118 := i32b x1
      have l_1 := il_1
      exact wq_s ⟨(show ((1 : Int32).toInt = 0 ∨ ((1 : Int32).toInt = 1 ∧ x1.toInt ≠ 0)) from by omega), (show (I0 1).toInt = (I0 1).toInt from by omega), (show 0 ≤ (1 : Int32).toInt ∧ (1 : Int32).toInt ≤ 1 from ⟨by omega, by omega⟩), k_I0, trivial⟩
    · have t_27119 := KX12.i1 k_I0
      have b_27120 := i32b x1
      exact wq_s ⟨(show ((0 : Int32).toInt = 0 ∨ ((0 : Int32).toInt = 1 ∧ x1.toInt ≠ 0)) from by omega), (show (I0 1).toInt = (I0 1).toInt from by omega), (show 0 ≤ (0 : Int32).toInt ∧ (0 : Int32).toInt ≤ 1 from ⟨by omega, by omega⟩), k_I0, trivial⟩
set_option maxHeartbeats 4000000 in
theorem tt_fX12_within {N : Nat} (hN : 3000000000 ≤ N) (x0 : Int32) (x1 : Int32) (x2 : Int32)  : wq (fX12_within N x0 x1 x2) (fun r => (r.toInt = 0 ∨ (r.toInt = 1 ∧ x1.toInt ≤ x0.toInt ∧ x0.toInt ≤ x2.toInt)) ∧ (0 ≤ r.toInt ∧ r.toInt ≤ 1) ∧ True) := by
  unfold fX12_within
  have b_27163 := i32b x0
  have b_27164 := i32b x1
  refine wq_lt (fun hc_27165 => ?_) (fun hc_27166 => ?_)
  · have b_27167 := i32b x2
    have l_0 := il_0
    exact wq_s ⟨(show ((0 : Int32).toInt = 0 ∨ ((0 : Int32).toInt = 1 ∧ x1.toInt ≤ x0.toInt ∧ x0.toInt ≤ x2.toInt)) from by omega), (show 0 ≤ (0 : Int32).toInt ∧ (0 : Int32).toInt ≤ 1 from ⟨by omega, by omega⟩), trivial⟩
  · have b_27168 := i32b x2
    refine wq_lt (fun hc_27169 => ?_) (fun hc_27170 => ?_)
    · have l_0 := il_0
      exact wq_s ⟨(show ((0 : Int32).toInt = 0 ∨ ((0 : Int32).toInt = 1 ∧ x1.toInt ≤ x0.toInt ∧ x0.toInt ≤ x2.toInt)) from by omega), (show 0 ≤ (0 : Int32).toInt ∧ (0 : Int32).toInt ≤ 1 from ⟨by omega, by omega⟩), trivial⟩
    · have l_1 := il_1
      exact wq_s ⟨(show ((1 : Int32).toInt = 0 ∨ ((1 : Int32).toInt = 1 ∧ x1.toInt ≤ x0.toInt ∧ x0.toInt ≤ x2.toInt)) from by omega), (show 0 ≤ (1 : Int32).toInt ∧ (1 : Int32).toInt ≤ 1 from ⟨by omega, by omega⟩), trivial⟩
theorem tt_lay1 (N fu : Nat) (x y : Int32) (I : Nat → Int32) (L : Int64) (M : Nat → Nat → Int32) (k : KX12 I M) (h : (I 3).toInt ≤ 599) (hy : ¬ y < 0) : ∃ (J : Nat → Int32) (M2 : Nat → Nat → Int32), fX12_lays_L3 N x (fu + 1) I L M y = fX12_lays_L3 N x fu J L M2 (y + (-8)) ∧ KX12 J M2 ∧ (J 3).toInt = (I 3).toInt + 1 := by
  have k3 := k.i3
  have l_1 := il_1
  have ta := ia_add (I 3) (1 : Int32) (by omega) (by omega)
  have hin : ¬ (I 3 < 0 ∨ 600 ≤ (I 3).toNatClampNeg) := by
    rw [nI_back (I 3) k3.1]
    exact wp_in (by omega) (by decide)
  refine ⟨upd I 3 (I 3 + 1), wb_um M 8 (I 3).toNatClampNeg ((x >>> (y &&& 31)) &&& (255 : Int32)), ?_, KX12.si3 (KX12.sm8 k) ⟨by omega, by omega⟩, ?_⟩
  · rw [fX12_lays_L3.eq_2, if_neg hy, if_neg hin, Option.bind_some, Option.bind_some, Option.bind_some]
  · show (I 3 + 1).toInt = _
    omega
theorem tt_fX12_lays {N : Nat} (hN : 3000000000 ≤ N) (I0 : Nat → Int32) (L0 : Int64) (M0 : Nat → Nat → Int32) (x1 : Int32) (k_I0 : KX12 I0 M0) (hr_1 : (I0 3).toInt ≤ 596) : wq (fX12_lays N I0 L0 M0 x1) (fun r => (r.1 3).toInt = (I0 3).toInt + 4 ∧ KX12 r.1 r.2.2 ∧ True) := by
  obtain ⟨n, rfl⟩ : ∃ n, N = n + 5 := ⟨N - 5, by omega⟩
  unfold fX12_lays
  obtain ⟨J1, M1, h1, k1, e1⟩ := tt_lay1 (n + 5) (n + 4) x1 24 I0 L0 M0 k_I0 (by omega) (by decide)
  obtain ⟨J2, M2, h2, k2, e2⟩ := tt_lay1 (n + 5) (n + 3) x1 (24 + -8) J1 L0 M1 k1 (by omega) (by decide)
  obtain ⟨J3, M3, h3, k3, e3⟩ := tt_lay1 (n + 5) (n + 2) x1 (24 + -8 + -8) J2 L0 M2 k2 (by omega) (by decide)
  obtain ⟨J4, M4, h4, k4, e4⟩ := tt_lay1 (n + 5) (n + 1) x1 (24 + -8 + -8 + -8) J3 L0 M3 k3 (by omega) (by decide)
  refine ⟨(J4, L0, M4), h1.trans (h2.trans (h3.trans (h4.trans ?_))), ?_, k4, trivial⟩
  · rw [fX12_lays_L3.eq_2, if_pos (by decide)]
  · show (J4 3).toInt = (I0 3).toInt + 4
    omega
set_option maxHeartbeats 4000000 in
theorem tt_fX12_feed {N : Nat} (hN : 3000000000 ≤ N) (I0 : Nat → Int32) (L0 : Int64) (M0 : Nat → Nat → Int32) (x1 : Int32) (x2 : Int32) (x3 : Int32) (x4 : Int32) (x5 : Int32) (k_I0 : KX12 I0 M0) : wq (fX12_feed N I0 L0 M0 x1 x2 x3 x4 x5) (fun r => (-1 ≤ r.1.toInt ∧ r.1.toInt ≤ 600) ∧ KX12 r.2.1 r.2.2.2 ∧ True) := by
  unfold fX12_feed
  refine wq_v (fun I0_1_q27297 h_I0_1_q27297 => ?_)
  have k_I0_1_q27297 : KX12 I0_1_q27297 M0 := by rw [h_I0_1_q27297]; exact KX12.si0 k_I0
  have t_27298 := KX12.i3 k_I0
  have t_27299 : (I0_1_q27297 3).toInt = (I0 3).toInt := by rw [h_I0_1_q27297]; rfl
  have l_20 := il_20
  have t_27300 := ia_add (I0_1_q27297 3) (20 : Int32) (by omega) (by omega)
  have l_600 := il_600
  refine wq_le (fun hc_27301 => ?_) (fun hc_27302 => ?_)
  · have b_27303 := i32b x1
    refine wq_b (tt_fX12_lays hN I0_1_q27297 L0 M0 x1 k_I0_1_q27297 (by omega)) (fun r2_q27304 h_r2_q27304 => ?_)
    obtain ⟨h_r2_q27304_0, h_r2_q27304_1, -⟩ := h_r2_q27304
    have t_27305 := KX12.i3 h_r2_q27304_1
    have b_27306 := i32b x2
    refine wq_b (tt_fX12_lays hN r2_q27304.1 r2_q27304.2.1 r2_q27304.2.2 x2 h_r2_q27304_1 (by omega)) (fun r3_q27307 h_r3_q27307 => ?_)
    obtain ⟨h_r3_q27307_0, h_r3_q27307_1, -⟩ := h_r3_q27307
    have t_27308 := KX12.i3 h_r3_q27307_1
    have b_27309 := i32b x3
    refine wq_b (tt_fX12_lays hN r3_q27307.1 r3_q27307.2.1 r3_q27307.2.2 x3 h_r3_q27307_1 (by omega)) (fun r4_q27310 h_r4_q27310 => ?_)
    obtain ⟨h_r4_q27310_0, h_r4_q27310_1, -⟩ := h_r4_q27310
    have t_27311 := KX12.i3 h_r4_q27310_1
    have b_27312 := i32b x4
    refine wq_b (tt_fX12_lays hN r4_q27310.1 r4_q27310.2.1 r4_q27310.2.2 x4 h_r4_q27310_1 (by omega)) (fun r5_q27313 h_r5_q27313 => ?_)
    obtain ⟨h_r5_q27313_0, h_r5_q27313_1, -⟩ := h_r5_q27313
    have t_27314 := KX12.i3 h_r5_q27313_1
    have b_27315 := i32b x5
    refine wq_b (tt_fX12_lays hN r5_q27313.1 r5_q27313.2.1 r5_q27313.2.2 x5 h_r5_q27313_1 (by omega)) (fun r6_q27316 h_r6_q27316 => ?_)
    obtain ⟨h_r6_q27316_0, h_r6_q27316_1, -⟩ := h_r6_q27316
    have t_27317 := KX12.i3 h_r6_q27316_1
    exact wq_s ⟨(show -1 ≤ (r6_q27316.1 3).toInt ∧ (r6_q27316.1 3).toInt ≤ 600 from ⟨by omega, by omega⟩), h_r6_q27316_1, trivial⟩
  · have l_m1 := il_m1
    exact wq_s ⟨(show -1 ≤ (-1 : Int32).toInt ∧ (-1 : Int32).toInt ≤ 600 from ⟨by omega, by omega⟩), k_I0_1_q27297, trivial⟩
set_option maxHeartbeats 4000000 in
theorem tt_fX12_byteAt {N : Nat} (hN : 3000000000 ≤ N) (I0 : Nat → Int32) (L0 : Int64) (M0 : Nat → Nat → Int32) (x1 : Int32) (h_x1 : 0 ≤ x1.toInt ∧ x1.toInt ≤ 600) (k_I0 : KX12 I0 M0) : wq (fX12_byteAt N I0 L0 M0 x1) (fun r => (r.toInt = 0 ∨ x1.toInt < (I0 6).toInt) ∧ True) := by
  unfold fX12_byteAt
  have t_27336 := KX12.i6 k_I0
  refine wq_le (fun hc_27337 => ?_) (fun hc_27338 => ?_)
  · have l_0 := il_0
    exact wq_s ⟨(show ((0 : Int32).toInt = 0 ∨ x1.toInt < (I0 6).toInt) from by omega), trivial⟩
  · refine wq_in (n := 600) ⟨by omega, by omega⟩ ?_
    exact wq_s ⟨(show ((M0 8 x1.toNatClampNeg).toInt = 0 ∨ x1.toInt < (I0 6).toInt) from by omega), trivial⟩
set_option maxHeartbeats 4000000 in
theorem tt_fX12_isLetter {N : Nat} (hN : 3000000000 ≤ N) (x0 : Int32)  : wq (fX12_isLetter N x0) (fun r => (r.toInt = 0 ∨ (r.toInt = 1 ∧ 97 ≤ x0.toInt)) ∧ (0 ≤ r.toInt ∧ r.toInt ≤ 1) ∧ True) := by
  unfold fX12_isLetter
  have b_27369 := i32b x0
  have l_97 := il_97
  refine wq_lt (fun hc_27370 => ?_) (fun hc_27371 => ?_)
  · have l_0 := il_0
    exact wq_s ⟨(show ((0 : Int32).toInt = 0 ∨ ((0 : Int32).toInt = 1 ∧ 97 ≤ x0.toInt)) from by omega), (show 0 ≤ (0 : Int32).toInt ∧ (0 : Int32).toInt ≤ 1 from ⟨by omega, by omega⟩), trivial⟩
  · have l_122 := il_122
    refine wq_lt (fun hc_27372 => ?_) (fun hc_27373 => ?_)
    · have l_0 := il_0
      exact wq_s ⟨(show ((0 : Int32).toInt = 0 ∨ ((0 : Int32).toInt = 1 ∧ 97 ≤ x0.toInt)) from by omega), (show 0 ≤ (0 : Int32).toInt ∧ (0 : Int32).toInt ≤ 1 from ⟨by omega, by omega⟩), trivial⟩
    · have l_1 := il_1
      exact wq_s ⟨(show ((1 : Int32).toInt = 0 ∨ ((1 : Int32).toInt = 1 ∧ 97 ≤ x0.toInt)) from by omega), (show 0 ≤ (1 : Int32).toInt ∧ (1 : Int32).toInt ≤ 1 from ⟨by omega, by omega⟩), trivial⟩
set_option maxHeartbeats 4000000 in
theorem tt_fX12_isDigit {N : Nat} (hN : 3000000000 ≤ N) (x0 : Int32)  : wq (fX12_isDigit N x0) (fun r => (r.toInt = 0 ∨ (r.toInt = 1 ∧ 48 ≤ x0.toInt)) ∧ (0 ≤ r.toInt ∧ r.toInt ≤ 1) ∧ True) := by
  unfold fX12_isDigit
  have b_27404 := i32b x0
  have l_48 := il_48
  refine wq_lt (fun hc_27405 => ?_) (fun hc_27406 => ?_)
  · have l_0 := il_0
    exact wq_s ⟨(show ((0 : Int32).toInt = 0 ∨ ((0 : Int32).toInt = 1 ∧ 48 ≤ x0.toInt)) from by omega), (show 0 ≤ (0 : Int32).toInt ∧ (0 : Int32).toInt ≤ 1 from ⟨by omega, by omega⟩), trivial⟩
  · have l_57 := il_57
    refine wq_lt (fun hc_27407 => ?_) (fun hc_27408 => ?_)
    · have l_0 := il_0
      exact wq_s ⟨(show ((0 : Int32).toInt = 0 ∨ ((0 : Int32).toInt = 1 ∧ 48 ≤ x0.toInt)) from by omega), (show 0 ≤ (0 : Int32).toInt ∧ (0 : Int32).toInt ≤ 1 from ⟨by omega, by omega⟩), trivial⟩
    · have l_1 := il_1
      exact wq_s ⟨(show ((1 : Int32).toInt = 0 ∨ ((1 : Int32).toInt = 1 ∧ 48 ≤ x0.toInt)) from by omega), (show 0 ≤ (1 : Int32).toInt ∧ (1 : Int32).toInt ≤ 1 from ⟨by omega, by omega⟩), trivial⟩
theorem FR.rf (I : Nat → Int32) : FR I I := fun _ _ _ _ _ _ _ _ => rfl
theorem FR.tr {I J K : Nat → Int32} (h : FR I J) (g : FR J K) : FR I K := fun k a b c d e f m => (g k a b c d e f m).trans (h k a b c d e f m)
theorem FR.up {I J : Nat → Int32} (h : FR I J) {j : Nat} {v : Int32} (hj : j = 4 ∨ j = 5 ∨ j = 7 ∨ j = 8 ∨ j = 9 ∨ j = 10 ∨ j = 11) : FR I (upd J j v) := by
  intro k a b c d e f m
  unfold upd
  rw [if_neg (by omega)]
  exact h k a b c d e f m
/-- what a step does: rows stay, of the ints only those of the text move, no fault; the end, or a byte on -/
def SP (I : Nat → Int32) (M : Nat → Nat → Int32) (r : (Nat → Int32) × Int64 × (Nat → Nat → Int32)) : Prop := r.2.2 = M ∧ FR I r.1 ∧ r.1 4 = I 4 ∧ r.1 5 = I 5 ∧ KX12 r.1 M ∧ (I 7).toInt ≤ (r.1 7).toInt ∧ ((r.1 8).toInt = 0 ∨ (I 7).toInt < (r.1 7).toInt)
theorem tt_st279 (N : Nat) (I0 I : Nat → Int32) (L : Int64) (M : Nat → Nat → Int32) (k : KX12 I M) (hf : FR I0 I) (h4 : I 4 = I0 4) (h5 : I 5 = I0 5) (hp : (I0 7).toInt ≤ (I 7).toInt ∧ ((I 8).toInt = 0 ∨ (I0 7).toInt < (I 7).toInt)) : wq (fX12_steps_J279 N I L M) (SP I0 M) := by
  unfold fX12_steps_J279
  refine wq_v (fun J e => ?_)
  rw [e]
  exact wq_s ⟨rfl, hf.up (by omega), h4, h5, KX12.si10 k, hp.1, hp.2⟩
theorem tt_st182 {N : Nat} (hN : 3000000000 ≤ N) (I0 : Nat → Int32) (M : Nat → Nat → Int32) : ∀ (fu : Nat) (I : Nat → Int32) (L : Int64), KX12 I M → FR I0 I → I 4 = I0 4 → I 5 = I0 5 → (I0 7).toInt < (I 7).toInt → 600 - (I 7).toInt < (fu : Int) → wq (fX12_steps_L182 N fu I L M) (SP I0 M) := by
  intro fu
  induction fu with
  | zero => intro I L k hf h4 h5 hp hm; have := k.i7; exfalso; omega
  | succ fu ih =>
    intro I L k hf h4 h5 hp hm
    rw [fX12_steps_L182.eq_2]
    have h7 := k.i7
    have h6 := k.i6
    have l_0 := il_0
    have l_1 := il_1
    refine wq_b (tt_fX12_byteAt hN I L M (I 7) h7 k) (fun r10 h10 => ?_)
    obtain ⟨h10, -⟩ := h10
    refine wq_b (tt_fX12_isDigit hN r10) (fun r11 h11 => ?_)
    obtain ⟨h11, -, -⟩ := h11
    refine wq_eq (fun hc => ?_) (fun hc => ?_)
    · refine wq_v (fun J e => ?_)
      subst e
      exact tt_st279 N I0 _ L M (KX12.si8 k) (hf.up (by omega)) h4 h5 ⟨by show _ ≤ (I 7).toInt; omega, Or.inr hp⟩
    · have ta := ia_add (I 7) (1 : Int32) (by omega) (by omega)
      have hgo : ∀ (J : Nat → Int32) (L2 : Int64), KX12 J M → FR I0 J → J 4 = I0 4 → J 5 = I0 5 → J 7 = I 7 → wq (fX12_steps_L182 N fu (upd J 7 (I 7 + 1)) L2 M) (SP I0 M) := by
        intro J L2 kJ fJ j4 j5 j7
        refine ih _ L2 (KX12.si7 kJ ⟨by omega, by omega⟩) (fJ.up (by omega)) j4 j5 ?_ ?_
        · show (I0 7).toInt < (I 7 + 1).toInt
          omega
        · show 600 - (I 7 + 1).toInt < _
          omega
      refine wq_le (fun hc2 => ?_) (fun hc2 => ?_)
      · refine wq_v (fun J e => ?_)
        subst e
        exact hgo I L k hf h4 h5 rfl
      · refine wq_b (tt_fX12_byteAt hN I L M (I 7) h7 k) (fun r14 h14 => ?_)
        refine wq_v (fun J e => ?_)
        refine wq_v (fun J2 e2 => ?_)
        have q7 : J 7 = I 7 := by rw [e]; rfl
        rw [q7] at e2
        subst e2
        refine hgo J L ?_ ?_ ?_ ?_ q7
        · rw [e]; exact KX12.si11 k
        · rw [e]; exact hf.up (by omega)
        · rw [e]; exact h4
        · rw [e]; exact h5
theorem tt_st103 {N : Nat} (hN : 3000000000 ≤ N) (I0 : Nat → Int32) (M : Nat → Nat → Int32) : ∀ (fu : Nat) (I : Nat → Int32) (L : Int64), KX12 I M → FR I0 I → I 4 = I0 4 → I 5 = I0 5 → (I0 7).toInt < (I 7).toInt → 600 - (I 7).toInt < (fu : Int) → wq (fX12_steps_L103 N fu I L M) (SP I0 M) := by
  intro fu
  induction fu with
  | zero => intro I L k hf h4 h5 hp hm; have := k.i7; exfalso; omega
  | succ fu ih =>
    intro I L k hf h4 h5 hp hm
    rw [fX12_steps_L103.eq_2]
    have h7 := k.i7
    have h6 := k.i6
    have l_0 := il_0
    have l_1 := il_1
    refine wq_b (tt_fX12_byteAt hN I L M (I 7) h7 k) (fun r10 h10 => ?_)
    obtain ⟨h10, -⟩ := h10
    refine wq_b (tt_fX12_isLetter hN r10) (fun r11 h11 => ?_)
    obtain ⟨h11, -, -⟩ := h11
    refine wq_eq (fun hc => ?_) (fun hc => ?_)
    · refine wq_v (fun J e => ?_)
      subst e
      exact tt_st279 N I0 _ L M (KX12.si8 k) (hf.up (by omega)) h4 h5 ⟨by show _ ≤ (I 7).toInt; omega, Or.inr hp⟩
    · have ta := ia_add (I 7) (1 : Int32) (by omega) (by omega)
      have hgo : ∀ (J : Nat → Int32) (L2 : Int64), KX12 J M → FR I0 J → J 4 = I0 4 → J 5 = I0 5 → J 7 = I 7 → wq (fX12_steps_L103 N fu (upd J 7 (I 7 + 1)) L2 M) (SP I0 M) := by
        intro J L2 kJ fJ j4 j5 j7
        refine ih _ L2 (KX12.si7 kJ ⟨by omega, by omega⟩) (fJ.up (by omega)) j4 j5 ?_ ?_
        · show (I0 7).toInt < (I 7 + 1).toInt
          omega
        · show 600 - (I 7 + 1).toInt < _
          omega
      refine wq_le (fun hc2 => ?_) (fun hc2 => ?_)
      · refine wq_v (fun J e => ?_)
        subst e
        exact hgo I L k hf h4 h5 rfl
      · refine wq_b (tt_fX12_byteAt hN I L M (I 7) h7 k) (fun r14 h14 => ?_)
        refine wq_v (fun L2 eL => ?_)
        refine wq_v (fun J e => ?_)
        subst e
        exact hgo I L2 k hf h4 h5 rfl
theorem tt_st50 {N : Nat} (hN : 3000000000 ≤ N) (I0 I : Nat → Int32) (L : Int64) (M : Nat → Nat → Int32) (k : KX12 I M) (hf : FR I0 I) (h4 : I 4 = I0 4) (h5 : I 5 = I0 5) (hp : (I0 7).toInt ≤ (I 7).toInt) : wq (fX12_steps_J50 N I L M) (SP I0 M) := by
  unfold fX12_steps_J50
  refine wq_v (fun I3 e3 => ?_)
  refine wq_v (fun L4 e4 => ?_)
  refine wq_v (fun I5 e5 => ?_)
  have k5 : KX12 I5 M := by rw [e5, e3]; exact KX12.si11 (KX12.si9 k)
  have f5 : FR I0 I5 := by rw [e5, e3]; exact (hf.up (by omega)).up (by omega)
  have g4 : I5 4 = I0 4 := by rw [e5, e3]; exact h4
  have g5 : I5 5 = I0 5 := by rw [e5, e3]; exact h5
  have g7 : I5 7 = I 7 := by rw [e5, e3]; rfl
  rw [← g7] at hp
  clear e5 e3
  have h7 := k5.i7
  have h6 := k5.i6
  have l_0 := il_0
  have l_1 := il_1
  obtain ⟨r6, e6, -⟩ := tt_fX12_byteAt hN I5 L4 M (I5 7) h7 k5
  rw [e6, Option.bind_some]
  refine wq_lt (fun hc => ?_) (fun hc => ?_)
  · obtain ⟨r7, e7, -⟩ := tt_fX12_isLetter hN r6
    rw [e7, Option.bind_some]
    refine wq_eq (fun hc1 => ?_) (fun hc1 => ?_)
    · obtain ⟨r8, e8, -⟩ := tt_fX12_isDigit hN r6
      rw [e8, Option.bind_some]
      refine wq_eq (fun hc2 => ?_) (fun hc2 => ?_)
      · have ta := ia_add (I5 7) (1 : Int32) (by omega) (by omega)
        refine wq_v (fun I9 e9 => ?_)
        subst e9
        have k9 : KX12 (upd I5 7 (I5 7 + 1)) M := KX12.si7 k5 ⟨by omega, by omega⟩
        have hz : ∀ z : Int32, wq (fX12_steps_J276 N (upd I5 7 (I5 7 + 1)) L4 M z) (SP I0 M) := by
          intro z
          unfold fX12_steps_J276
          refine wq_v (fun J e => ?_)
          subst e
          refine tt_st279 N I0 _ L4 M (KX12.si8 k9) ((f5.up (by omega)).up (by omega)) g4 g5 ⟨?_, Or.inr ?_⟩
          · show _ ≤ (I5 7 + 1).toInt
            omega
          · show _ < (I5 7 + 1).toInt
            omega
        exact wq_i (fun _ => hz _) (fun _ => hz _)
      · have hq : wq (fX12_steps_L182 N N I5 L4 M) (SP I0 M) := by
          obtain ⟨n, rfl⟩ : ∃ n, N = n + 1 := ⟨N - 1, by omega⟩
          rw [fX12_steps_L182.eq_2, e6, Option.bind_some, e8, Option.bind_some]
          have ta := ia_add (I5 7) (1 : Int32) (by omega) (by omega)
          have hgo : ∀ (J : Nat → Int32) (L2 : Int64), KX12 J M → FR I0 J → J 4 = I0 4 → J 5 = I0 5 → J 7 = I5 7 → wq (fX12_steps_L182 (n + 1) n (upd J 7 (I5 7 + 1)) L2 M) (SP I0 M) := by
            intro J L2 kJ fJ j4 j5 j7
            refine tt_st182 hN I0 M n _ L2 (KX12.si7 kJ ⟨by omega, by omega⟩) (fJ.up (by omega)) j4 j5 ?_ ?_
            · show (I0 7).toInt < (I5 7 + 1).toInt
              omega
            · show 600 - (I5 7 + 1).toInt < _
              omega
          refine wq_eq (fun hx => absurd hx hc2) (fun _ => ?_)
          refine wq_le (fun hc2 => ?_) (fun hc2 => ?_)
          · refine wq_v (fun J e => ?_)
            subst e
            exact hgo I5 L4 k5 f5 g4 g5 rfl
          · rw [Option.bind_some]
            refine wq_v (fun J e => ?_)
            refine wq_v (fun J2 e2 => ?_)
            have q7 : J 7 = I5 7 := by rw [e]; rfl
            rw [q7] at e2
            subst e2
            refine hgo J L4 ?_ ?_ ?_ ?_ q7
            · rw [e]; exact KX12.si11 k5
            · rw [e]; exact f5.up (by omega)
            · rw [e]; exact g4
            · rw [e]; exact g5
        exact hq
    · have hq : wq (fX12_steps_L103 N N I5 L4 M) (SP I0 M) := by
        obtain ⟨n, rfl⟩ : ∃ n, N = n + 1 := ⟨N - 1, by omega⟩
        rw [fX12_steps_L103.eq_2, e6, Option.bind_some, e7, Option.bind_some]
        have ta := ia_add (I5 7) (1 : Int32) (by omega) (by omega)
        have hgo : ∀ (J : Nat → Int32) (L2 : Int64), KX12 J M → FR I0 J → J 4 = I0 4 → J 5 = I0 5 → J 7 = I5 7 → wq (fX12_steps_L103 (n + 1) n (upd J 7 (I5 7 + 1)) L2 M) (SP I0 M) := by
          intro J L2 kJ fJ j4 j5 j7
          refine tt_st103 hN I0 M n _ L2 (KX12.si7 kJ ⟨by omega, by omega⟩) (fJ.up (by omega)) j4 j5 ?_ ?_
          · show (I0 7).toInt < (I5 7 + 1).toInt
            omega
          · show 600 - (I5 7 + 1).toInt < _
            omega
        refine wq_eq (fun hx => absurd hx hc1) (fun _ => ?_)
        refine wq_le (fun hc2 => ?_) (fun hc2 => ?_)
        · refine wq_v (fun J e => ?_)
          subst e
          exact hgo I5 L4 k5 f5 g4 g5 rfl
        · rw [Option.bind_some]
          refine wq_v (fun L2 eL => ?_)
          refine wq_v (fun J e => ?_)
          subst e
          exact hgo I5 L2 k5 f5 g4 g5 rfl
      exact hq
  · refine wq_v (fun J e => ?_)
    subst e
    exact tt_st279 N I0 _ L4 M (KX12.si8 k5) (f5.up (by omega)) g4 g5 ⟨hp, Or.inl il_0⟩
theorem tt_st0 {N : Nat} (hN : 3000000000 ≤ N) (I0 : Nat → Int32) (M : Nat → Nat → Int32) : ∀ (fu : Nat) (I : Nat → Int32) (L : Int64), KX12 I M → FR I0 I → I 4 = I0 4 → I 5 = I0 5 → (I0 7).toInt ≤ (I 7).toInt → 600 - (I 7).toInt < (fu : Int) → wq (fX12_steps_L0 N fu I L M) (SP I0 M) := by
  intro fu
  induction fu with
  | zero => intro I L k hf h4 h5 hp hm; have := k.i7; exfalso; omega
  | succ fu ih =>
    intro I L k hf h4 h5 hp hm
    rw [fX12_steps_L0.eq_2]
    have h7 := k.i7
    have h6 := k.i6
    have l_0 := il_0
    have l_1 := il_1
    refine wq_le (fun hc => ?_) (fun hc => ?_)
    · exact tt_st50 hN I0 I L M k hf h4 h5 hp
    · have ta := ia_add (I 7) (1 : Int32) (by omega) (by omega)
      have hn : wq (fX12_steps_L0 N fu (upd I 7 (I 7 + 1)) L M) (SP I0 M) := by
        refine ih _ L (KX12.si7 k ⟨by omega, by omega⟩) (hf.up (by omega)) h4 h5 ?_ ?_
        · show _ ≤ (I 7 + 1).toInt
          omega
        · show 600 - (I 7 + 1).toInt < _
          omega
      refine wq_b (tt_fX12_byteAt hN I L M (I 7) h7 k) (fun r25 h25 => ?_)
      refine wq_i (fun _ => ?_) (fun _ => ?_)
      · exact wq_v (fun J e => by subst e; exact hn)
      · refine wq_b (tt_fX12_byteAt hN I L M (I 7) h7 k) (fun r27 h27 => ?_)
        refine wq_i (fun _ => ?_) (fun _ => ?_)
        · exact wq_v (fun J e => by subst e; exact hn)
        · exact tt_st50 hN I0 I L M k hf h4 h5 hp
theorem tt_steps {N : Nat} (hN : 3000000000 ≤ N) (I : Nat → Int32) (L : Int64) (M : Nat → Nat → Int32) (k : KX12 I M) : wq (fX12_steps N I L M) (SP I M) := by
  unfold fX12_steps
  have h7 := k.i7
  exact tt_st0 hN I M N I L k (FR.rf I) rfl rfl (by omega) (by omega)
theorem tt_fX12_steps {N : Nat} (hN : 3000000000 ≤ N) (I0 : Nat → Int32) (L0 : Int64) (M0 : Nat → Nat → Int32) (k_I0 : KX12 I0 M0) : wq (fX12_steps N I0 L0 M0) (fun r => KX12 r.1 r.2.2 ∧ True) := wq_w (tt_steps hN I0 L0 M0 k_I0) (fun r h => by rw [h.1]; exact ⟨h.2.2.2.2.1, trivial⟩)
set_option maxHeartbeats 4000000 in
theorem tt_fX12_spelled {N : Nat} (hN : 3000000000 ≤ N) (x0 : Int32) (x1 : Int32) (x2 : Int32) (x3 : Int32) (x4 : Int32) (x5 : Int32) (x6 : Int32)  : wq (fX12_spelled N x0 x1 x2 x3 x4 x5 x6) (fun r => True) := by
  unfold fX12_spelled
  refine wq_v (fun v6_q28674 h_v6_q28674 => ?_)
  have b_28675 := i32b x1
  have l_0 := il_0
  refine wq_eq (fun hc_28676 => ?_) (fun hc_28677 => ?_)
  · unfold fX12_spelled_J23
    have b_28678 := i32b x2
    refine wq_eq (fun hc_28679 => ?_) (fun hc_28680 => ?_)
    · unfold fX12_spelled_J39
      have b_28681 := i32b x3
      refine wq_eq (fun hc_28682 => ?_) (fun hc_28683 => ?_)
      · unfold fX12_spelled_J55
        have b_28684 := i32b x4
        refine wq_eq (fun hc_28685 => ?_) (fun hc_28686 => ?_)
        · unfold fX12_spelled_J73
          have b_28687 := i32b x5
          refine wq_eq (fun hc_28688 => ?_) (fun hc_28689 => ?_)
          · unfold fX12_spelled_J91
            have b_28690 := i32b x6
            refine wq_eq (fun hc_28691 => ?_) (fun hc_28692 => ?_)
            · exact wq_s trivial
            · refine wq_v (fun v1_q28693 h_v1_q28693 => ?_)
              exact wq_s trivial
          · refine wq_v (fun v2_q28694 h_v2_q28694 => ?_)
            unfold fX12_spelled_J91
            have b_28695 := i32b x6
            refine wq_eq (fun hc_28696 => ?_) (fun hc_28697 => ?_)
            · exact wq_s trivial
            · refine wq_v (fun v1_q28698 h_v1_q28698 => ?_)
              exact wq_s trivial
        · refine wq_v (fun v3_q28699 h_v3_q28699 => ?_)
          unfold fX12_spelled_J73
          have b_28700 := i32b x5
          refine wq_eq (fun hc_28701 => ?_) (fun hc_28702 => ?_)
          · unfold fX12_spelled_J91
            have b_28703 := i32b x6
            refine wq_eq (fun hc_28704 => ?_) (fun hc_28705 => ?_)
            · exact wq_s trivial
            · refine wq_v (fun v1_q28706 h_v1_q28706 => ?_)
              exact wq_s trivial
          · refine wq_v (fun v2_q28707 h_v2_q28707 => ?_)
            unfold fX12_spelled_J91
            have b_28708 := i32b x6
            refine wq_eq (fun hc_28709 => ?_) (fun hc_28710 => ?_)
            · exact wq_s trivial
            · refine wq_v (fun v1_q28711 h_v1_q28711 => ?_)
              exact wq_s trivial
      · refine wq_v (fun v4_q28712 h_v4_q28712 => ?_)
        unfold fX12_spelled_J55
        have b_28713 := i32b x4
        refine wq_eq (fun hc_28714 => ?_) (fun hc_28715 => ?_)
        · unfold fX12_spelled_J73
          have b_28716 := i32b x5
          refine wq_eq (fun hc_28717 => ?_) (fun hc_28718 => ?_)
          · unfold fX12_spelled_J91
            have b_28719 := i32b x6
            refine wq_eq (fun hc_28720 => ?_) (fun hc_28721 => ?_)
            · exact wq_s trivial
            · refine wq_v (fun v1_q28722 h_v1_q28722 => ?_)
              exact wq_s trivial
          · refine wq_v (fun v2_q28723 h_v2_q28723 => ?_)
            unfold fX12_spelled_J91
            have b_28724 := i32b x6
            refine wq_eq (fun hc_28725 => ?_) (fun hc_28726 => ?_)
            · exact wq_s trivial
            · refine wq_v (fun v1_q28727 h_v1_q28727 => ?_)
              exact wq_s trivial
        · refine wq_v (fun v3_q28728 h_v3_q28728 => ?_)
          unfold fX12_spelled_J73
          have b_28729 := i32b x5
          refine wq_eq (fun hc_28730 => ?_) (fun hc_28731 => ?_)
          · unfold fX12_spelled_J91
            have b_28732 := i32b x6
            refine wq_eq (fun hc_28733 => ?_) (fun hc_28734 => ?_)
            · exact wq_s trivial
            · refine wq_v (fun v1_q28735 h_v1_q28735 => ?_)
              exact wq_s trivial
          · refine wq_v (fun v2_q28736 h_v2_q28736 => ?_)
            unfold fX12_spelled_J91
            have b_28737 := i32b x6
            refine wq_eq (fun hc_28738 => ?_) (fun hc_28739 => ?_)
            · exact wq_s trivial
            · refine wq_v (fun v1_q28740 h_v1_q28740 => ?_)
              exact wq_s trivial
    · refine wq_v (fun v5_q28741 h_v5_q28741 => ?_)
      unfold fX12_spelled_J39
      have b_28742 := i32b x3
      refine wq_eq (fun hc_28743 => ?_) (fun hc_28744 => ?_)
      · unfold fX12_spelled_J55
        have b_28745 := i32b x4
        refine wq_eq (fun hc_28746 => ?_) (fun hc_28747 => ?_)
        · unfold fX12_spelled_J73
          have b_28748 := i32b x5
          refine wq_eq (fun hc_28749 => ?_) (fun hc_28750 => ?_)
          · unfold fX12_spelled_J91
            have b_28751 := i32b x6
            refine wq_eq (fun hc_28752 => ?_) (fun hc_28753 => ?_)
            · exact wq_s trivial
            · refine wq_v (fun v1_q28754 h_v1_q28754 => ?_)
              exact wq_s trivial
          · refine wq_v (fun v2_q28755 h_v2_q28755 => ?_)
            unfold fX12_spelled_J91
            have b_28756 := i32b x6
            refine wq_eq (fun hc_28757 => ?_) (fun hc_28758 => ?_)
            · exact wq_s trivial
            · refine wq_v (fun v1_q28759 h_v1_q28759 => ?_)
              exact wq_s trivial
        · refine wq_v (fun v3_q28760 h_v3_q28760 => ?_)
          unfold fX12_spelled_J73
          have b_28761 := i32b x5
          refine wq_eq (fun hc_28762 => ?_) (fun hc_28763 => ?_)
          · unfold fX12_spelled_J91
            have b_28764 := i32b x6
            refine wq_eq (fun hc_28765 => ?_) (fun hc_28766 => ?_)
            · exact wq_s trivial
            · refine wq_v (fun v1_q28767 h_v1_q28767 => ?_)
              exact wq_s trivial
          · refine wq_v (fun v2_q28768 h_v2_q28768 => ?_)
            unfold fX12_spelled_J91
            have b_28769 := i32b x6
            refine wq_eq (fun hc_28770 => ?_) (fun hc_28771 => ?_)
            · exact wq_s trivial
            · refine wq_v (fun v1_q28772 h_v1_q28772 => ?_)
              exact wq_s trivial
      · refine wq_v (fun v4_q28773 h_v4_q28773 => ?_)
        unfold fX12_spelled_J55
        have b_28774 := i32b x4
        refine wq_eq (fun hc_28775 => ?_) (fun hc_28776 => ?_)
        · unfold fX12_spelled_J73
          have b_28777 := i32b x5
          refine wq_eq (fun hc_28778 => ?_) (fun hc_28779 => ?_)
          · unfold fX12_spelled_J91
            have b_28780 := i32b x6
            refine wq_eq (fun hc_28781 => ?_) (fun hc_28782 => ?_)
            · exact wq_s trivial
            · refine wq_v (fun v1_q28783 h_v1_q28783 => ?_)
              exact wq_s trivial
          · refine wq_v (fun v2_q28784 h_v2_q28784 => ?_)
            unfold fX12_spelled_J91
            have b_28785 := i32b x6
            refine wq_eq (fun hc_28786 => ?_) (fun hc_28787 => ?_)
            · exact wq_s trivial
            · refine wq_v (fun v1_q28788 h_v1_q28788 => ?_)
              exact wq_s trivial
        · refine wq_v (fun v3_q28789 h_v3_q28789 => ?_)
          unfold fX12_spelled_J73
          have b_28790 := i32b x5
          refine wq_eq (fun hc_28791 => ?_) (fun hc_28792 => ?_)
          · unfold fX12_spelled_J91
            have b_28793 := i32b x6
            refine wq_eq (fun hc_28794 => ?_) (fun hc_28795 => ?_)
            · exact wq_s trivial
            · refine wq_v (fun v1_q28796 h_v1_q28796 => ?_)
              exact wq_s trivial
          · refine wq_v (fun v2_q28797 h_v2_q28797 => ?_)
            unfold fX12_spelled_J91
            have b_28798 := i32b x6
            refine wq_eq (fun hc_28799 => ?_) (fun hc_28800 => ?_)
            · exact wq_s trivial
            · refine wq_v (fun v1_q28801 h_v1_q28801 => ?_)
              exact wq_s trivial
  · refine wq_v (fun v7_q28802 h_v7_q28802 => ?_)
    unfold fX12_spelled_J23
    have b_28803 := i32b x2
    refine wq_eq (fun hc_28804 => ?_) (fun hc_28805 => ?_)
    · unfold fX12_spelled_J39
      have b_28806 := i32b x3
      refine wq_eq (fun hc_28807 => ?_) (fun hc_28808 => ?_)
      · unfold fX12_spelled_J55
        have b_28809 := i32b x4
        refine wq_eq (fun hc_28810 => ?_) (fun hc_28811 => ?_)
        · unfold fX12_spelled_J73
          have b_28812 := i32b x5
          refine wq_eq (fun hc_28813 => ?_) (fun hc_28814 => ?_)
          · unfold fX12_spelled_J91
            have b_28815 := i32b x6
            refine wq_eq (fun hc_28816 => ?_) (fun hc_28817 => ?_)
            · exact wq_s trivial
            · refine wq_v (fun v1_q28818 h_v1_q28818 => ?_)
              exact wq_s trivial
          · refine wq_v (fun v2_q28819 h_v2_q28819 => ?_)
            unfold fX12_spelled_J91
            have b_28820 := i32b x6
            refine wq_eq (fun hc_28821 => ?_) (fun hc_28822 => ?_)
            · exact wq_s trivial
            · refine wq_v (fun v1_q28823 h_v1_q28823 => ?_)
              exact wq_s trivial
        · refine wq_v (fun v3_q28824 h_v3_q28824 => ?_)
          unfold fX12_spelled_J73
          have b_28825 := i32b x5
          refine wq_eq (fun hc_28826 => ?_) (fun hc_28827 => ?_)
          · unfold fX12_spelled_J91
            have b_28828 := i32b x6
            refine wq_eq (fun hc_28829 => ?_) (fun hc_28830 => ?_)
            · exact wq_s trivial
            · refine wq_v (fun v1_q28831 h_v1_q28831 => ?_)
              exact wq_s trivial
          · refine wq_v (fun v2_q28832 h_v2_q28832 => ?_)
            unfold fX12_spelled_J91
            have b_28833 := i32b x6
            refine wq_eq (fun hc_28834 => ?_) (fun hc_28835 => ?_)
            · exact wq_s trivial
            · refine wq_v (fun v1_q28836 h_v1_q28836 => ?_)
              exact wq_s trivial
      · refine wq_v (fun v4_q28837 h_v4_q28837 => ?_)
        unfold fX12_spelled_J55
        have b_28838 := i32b x4
        refine wq_eq (fun hc_28839 => ?_) (fun hc_28840 => ?_)
        · unfold fX12_spelled_J73
          have b_28841 := i32b x5
          refine wq_eq (fun hc_28842 => ?_) (fun hc_28843 => ?_)
          · unfold fX12_spelled_J91
            have b_28844 := i32b x6
            refine wq_eq (fun hc_28845 => ?_) (fun hc_28846 => ?_)
            · exact wq_s trivial
            · refine wq_v (fun v1_q28847 h_v1_q28847 => ?_)
              exact wq_s trivial
          · refine wq_v (fun v2_q28848 h_v2_q28848 => ?_)
            unfold fX12_spelled_J91
            have b_28849 := i32b x6
            refine wq_eq (fun hc_28850 => ?_) (fun hc_28851 => ?_)
            · exact wq_s trivial
            · refine wq_v (fun v1_q28852 h_v1_q28852 => ?_)
              exact wq_s trivial
        · refine wq_v (fun v3_q28853 h_v3_q28853 => ?_)
          unfold fX12_spelled_J73
          have b_28854 := i32b x5
          refine wq_eq (fun hc_28855 => ?_) (fun hc_28856 => ?_)
          · unfold fX12_spelled_J91
            have b_28857 := i32b x6
            refine wq_eq (fun hc_28858 => ?_) (fun hc_28859 => ?_)
            · exact wq_s trivial
            · refine wq_v (fun v1_q28860 h_v1_q28860 => ?_)
              exact wq_s trivial
          · refine wq_v (fun v2_q28861 h_v2_q28861 => ?_)
            unfold fX12_spelled_J91
            have b_28862 := i32b x6
            refine wq_eq (fun hc_28863 => ?_) (fun hc_28864 => ?_)
            · exact wq_s trivial
            · refine wq_v (fun v1_q28865 h_v1_q28865 => ?_)
              exact wq_s trivial
    · refine wq_v (fun v5_q28866 h_v5_q28866 => ?_)
      unfold fX12_spelled_J39
      have b_28867 := i32b x3
      refine wq_eq (fun hc_28868 => ?_) (fun hc_28869 => ?_)
      · unfold fX12_spelled_J55
        have b_28870 := i32b x4
        refine wq_eq (fun hc_28871 => ?_) (fun hc_28872 => ?_)
        · unfold fX12_spelled_J73
          have b_28873 := i32b x5
          refine wq_eq (fun hc_28874 => ?_) (fun hc_28875 => ?_)
          · unfold fX12_spelled_J91
            have b_28876 := i32b x6
            refine wq_eq (fun hc_28877 => ?_) (fun hc_28878 => ?_)
            · exact wq_s trivial
            · refine wq_v (fun v1_q28879 h_v1_q28879 => ?_)
              exact wq_s trivial
          · refine wq_v (fun v2_q28880 h_v2_q28880 => ?_)
            unfold fX12_spelled_J91
            have b_28881 := i32b x6
            refine wq_eq (fun hc_28882 => ?_) (fun hc_28883 => ?_)
            · exact wq_s trivial
            · refine wq_v (fun v1_q28884 h_v1_q28884 => ?_)
              exact wq_s trivial
        · refine wq_v (fun v3_q28885 h_v3_q28885 => ?_)
          unfold fX12_spelled_J73
          have b_28886 := i32b x5
          refine wq_eq (fun hc_28887 => ?_) (fun hc_28888 => ?_)
          · unfold fX12_spelled_J91
            have b_28889 := i32b x6
            refine wq_eq (fun hc_28890 => ?_) (fun hc_28891 => ?_)
            · exact wq_s trivial
            · refine wq_v (fun v1_q28892 h_v1_q28892 => ?_)
              exact wq_s trivial
          · refine wq_v (fun v2_q28893 h_v2_q28893 => ?_)
            unfold fX12_spelled_J91
            have b_28894 := i32b x6
            refine wq_eq (fun hc_28895 => ?_) (fun hc_28896 => ?_)
            · exact wq_s trivial
            · refine wq_v (fun v1_q28897 h_v1_q28897 => ?_)
              exact wq_s trivial
      · refine wq_v (fun v4_q28898 h_v4_q28898 => ?_)
        unfold fX12_spelled_J55
        have b_28899 := i32b x4
        refine wq_eq (fun hc_28900 => ?_) (fun hc_28901 => ?_)
        · unfold fX12_spelled_J73
          have b_28902 := i32b x5
          refine wq_eq (fun hc_28903 => ?_) (fun hc_28904 => ?_)
          · unfold fX12_spelled_J91
            have b_28905 := i32b x6
            refine wq_eq (fun hc_28906 => ?_) (fun hc_28907 => ?_)
            · exact wq_s trivial
            · refine wq_v (fun v1_q28908 h_v1_q28908 => ?_)
              exact wq_s trivial
          · refine wq_v (fun v2_q28909 h_v2_q28909 => ?_)
            unfold fX12_spelled_J91
            have b_28910 := i32b x6
            refine wq_eq (fun hc_28911 => ?_) (fun hc_28912 => ?_)
            · exact wq_s trivial
            · refine wq_v (fun v1_q28913 h_v1_q28913 => ?_)
              exact wq_s trivial
        · refine wq_v (fun v3_q28914 h_v3_q28914 => ?_)
          unfold fX12_spelled_J73
          have b_28915 := i32b x5
          refine wq_eq (fun hc_28916 => ?_) (fun hc_28917 => ?_)
          · unfold fX12_spelled_J91
            have b_28918 := i32b x6
            refine wq_eq (fun hc_28919 => ?_) (fun hc_28920 => ?_)
            · exact wq_s trivial
            · refine wq_v (fun v1_q28921 h_v1_q28921 => ?_)
              exact wq_s trivial
          · refine wq_v (fun v2_q28922 h_v2_q28922 => ?_)
            unfold fX12_spelled_J91
            have b_28923 := i32b x6
            refine wq_eq (fun hc_28924 => ?_) (fun hc_28925 => ?_)
            · exact wq_s trivial
            · refine wq_v (fun v1_q28926 h_v1_q28926 => ?_)
              exact wq_s trivial
set_option maxHeartbeats 4000000 in
theorem tt_fX12_letters {N : Nat} (hN : 3000000000 ≤ N) (x0 : Int32)  : wq (fX12_letters N x0) (fun r => True) := by
  unfold fX12_letters
  have b_29207 := i32b x0
  have l_0 := il_0
  refine wq_eq (fun hc_29208 => ?_) (fun hc_29209 => ?_)
  · have l_115 := il_115
    have l_117 := il_117
    have l_110 := il_110
    refine wq_b (tt_fX12_spelled hN (115 : Int32) (117 : Int32) (110 : Int32) (0 : Int32) (0 : Int32) (0 : Int32) (0 : Int32)) (fun r1_q29210 h_r1_q29210 => ?_)
    obtain ⟨-⟩ := h_r1_q29210
    exact wq_s trivial
  · have l_1 := il_1
    refine wq_eq (fun hc_29211 => ?_) (fun hc_29212 => ?_)
    · have l_109 := il_109
      have l_111 := il_111
      have l_110 := il_110
      refine wq_b (tt_fX12_spelled hN (109 : Int32) (111 : Int32) (111 : Int32) (110 : Int32) (0 : Int32) (0 : Int32) (0 : Int32)) (fun r2_q29213 h_r2_q29213 => ?_)
      obtain ⟨-⟩ := h_r2_q29213
      exact wq_s trivial
    · have l_2 := il_2
      refine wq_eq (fun hc_29214 => ?_) (fun hc_29215 => ?_)
      · have l_109 := il_109
        have l_101 := il_101
        have l_114 := il_114
        have l_99 := il_99
        have l_117 := il_117
        have l_121 := il_121
        refine wq_b (tt_fX12_spelled hN (109 : Int32) (101 : Int32) (114 : Int32) (99 : Int32) (117 : Int32) (114 : Int32) (121 : Int32)) (fun r3_q29216 h_r3_q29216 => ?_)
        obtain ⟨-⟩ := h_r3_q29216
        exact wq_s trivial
      · have l_3 := il_3
        refine wq_eq (fun hc_29217 => ?_) (fun hc_29218 => ?_)
        · have l_118 := il_118
          have l_101 := il_101
          have l_110 := il_110
          have l_117 := il_117
          have l_115 := il_115
          refine wq_b (tt_fX12_spelled hN (118 : Int32) (101 : Int32) (110 : Int32) (117 : Int32) (115 : Int32) (0 : Int32) (0 : Int32)) (fun r4_q29219 h_r4_q29219 => ?_)
          obtain ⟨-⟩ := h_r4_q29219
          exact wq_s trivial
        · have l_4 := il_4
          refine wq_eq (fun hc_29220 => ?_) (fun hc_29221 => ?_)
          · have l_109 := il_109
            have l_97 := il_97
            have l_114 := il_114
            have l_115 := il_115
            refine wq_b (tt_fX12_spelled hN (109 : Int32) (97 : Int32) (114 : Int32) (115 : Int32) (0 : Int32) (0 : Int32) (0 : Int32)) (fun r5_q29222 h_r5_q29222 => ?_)
            obtain ⟨-⟩ := h_r5_q29222
            exact wq_s trivial
          · have l_5 := il_5
            refine wq_eq (fun hc_29223 => ?_) (fun hc_29224 => ?_)
            · have l_106 := il_106
              have l_117 := il_117
              have l_112 := il_112
              have l_105 := il_105
              have l_116 := il_116
              have l_101 := il_101
              have l_114 := il_114
              refine wq_b (tt_fX12_spelled hN (106 : Int32) (117 : Int32) (112 : Int32) (105 : Int32) (116 : Int32) (101 : Int32) (114 : Int32)) (fun r6_q29225 h_r6_q29225 => ?_)
              obtain ⟨-⟩ := h_r6_q29225
              exact wq_s trivial
            · have l_6 := il_6
              refine wq_eq (fun hc_29226 => ?_) (fun hc_29227 => ?_)
              · have l_115 := il_115
                have l_97 := il_97
                have l_116 := il_116
                have l_117 := il_117
                have l_114 := il_114
                have l_110 := il_110
                refine wq_b (tt_fX12_spelled hN (115 : Int32) (97 : Int32) (116 : Int32) (117 : Int32) (114 : Int32) (110 : Int32) (0 : Int32)) (fun r7_q29228 h_r7_q29228 => ?_)
                obtain ⟨-⟩ := h_r7_q29228
                exact wq_s trivial
              · have l_7 := il_7
                refine wq_eq (fun hc_29229 => ?_) (fun hc_29230 => ?_)
                · have l_114 := il_114
                  have l_105 := il_105
                  have l_115 := il_115
                  have l_101 := il_101
                  refine wq_b (tt_fX12_spelled hN (114 : Int32) (105 : Int32) (115 : Int32) (101 : Int32) (0 : Int32) (0 : Int32) (0 : Int32)) (fun r8_q29231 h_r8_q29231 => ?_)
                  obtain ⟨-⟩ := h_r8_q29231
                  exact wq_s trivial
                · have l_8 := il_8
                  refine wq_eq (fun hc_29232 => ?_) (fun hc_29233 => ?_)
                  · have l_108 := il_108
                    have l_111 := il_111
                    have l_116 := il_116
                    refine wq_b (tt_fX12_spelled hN (108 : Int32) (111 : Int32) (116 : Int32) (0 : Int32) (0 : Int32) (0 : Int32) (0 : Int32)) (fun r9b_q29234 h_r9b_q29234 => ?_)
                    obtain ⟨-⟩ := h_r9b_q29234
                    exact wq_s trivial
                  · have l_9 := il_9
                    refine wq_eq (fun hc_29235 => ?_) (fun hc_29236 => ?_)
                    · have l_104 := il_104
                      have l_111 := il_111
                      have l_117 := il_117
                      have l_115 := il_115
                      have l_101 := il_101
                      refine wq_b (tt_fX12_spelled hN (104 : Int32) (111 : Int32) (117 : Int32) (115 : Int32) (101 : Int32) (0 : Int32) (0 : Int32)) (fun r10_q29237 h_r10_q29237 => ?_)
                      obtain ⟨-⟩ := h_r10_q29237
                      exact wq_s trivial
                    · have l_10 := il_10
                      refine wq_eq (fun hc_29238 => ?_) (fun hc_29239 => ?_)
                      · have l_100 := il_100
                        have l_97 := il_97
                        have l_116 := il_116
                        have l_101 := il_101
                        refine wq_b (tt_fX12_spelled hN (100 : Int32) (97 : Int32) (116 : Int32) (101 : Int32) (0 : Int32) (0 : Int32) (0 : Int32)) (fun r11_q29240 h_r11_q29240 => ?_)
                        obtain ⟨-⟩ := h_r11_q29240
                        exact wq_s trivial
                      · have l_11 := il_11
                        refine wq_eq (fun hc_29241 => ?_) (fun hc_29242 => ?_)
                        · have l_115 := il_115
                          have l_101 := il_101
                          have l_116 := il_116
                          refine wq_b (tt_fX12_spelled hN (115 : Int32) (101 : Int32) (116 : Int32) (0 : Int32) (0 : Int32) (0 : Int32) (0 : Int32)) (fun r12_q29243 h_r12_q29243 => ?_)
                          obtain ⟨-⟩ := h_r12_q29243
                          exact wq_s trivial
                        · have l_12 := il_12
                          refine wq_eq (fun hc_29244 => ?_) (fun hc_29245 => ?_)
                          · have l_97 := il_97
                            have l_116 := il_116
                            refine wq_b (tt_fX12_spelled hN (97 : Int32) (116 : Int32) (0 : Int32) (0 : Int32) (0 : Int32) (0 : Int32) (0 : Int32)) (fun r13_q29246 h_r13_q29246 => ?_)
                            obtain ⟨-⟩ := h_r13_q29246
                            exact wq_s trivial
                          · have l_13 := il_13
                            refine wq_eq (fun hc_29247 => ?_) (fun hc_29248 => ?_)
                            · have l_103 := il_103
                              have l_111 := il_111
                              have l_101 := il_101
                              have l_115 := il_115
                              refine wq_b (tt_fX12_spelled hN (103 : Int32) (111 : Int32) (101 : Int32) (115 : Int32) (0 : Int32) (0 : Int32) (0 : Int32)) (fun r14_q29249 h_r14_q29249 => ?_)
                              obtain ⟨-⟩ := h_r14_q29249
                              exact wq_s trivial
                            · have l_14 := il_14
                              refine wq_eq (fun hc_29250 => ?_) (fun hc_29251 => ?_)
                              · have l_115 := il_115
                                have l_119 := il_119
                                have l_105 := il_105
                                have l_110 := il_110
                                have l_103 := il_103
                                refine wq_b (tt_fX12_spelled hN (115 : Int32) (119 : Int32) (105 : Int32) (110 : Int32) (103 : Int32) (0 : Int32) (0 : Int32)) (fun r15_q29252 h_r15_q29252 => ?_)
                                obtain ⟨-⟩ := h_r15_q29252
                                exact wq_s trivial
                              · have l_15 := il_15
                                refine wq_eq (fun hc_29253 => ?_) (fun hc_29254 => ?_)
                                · have l_105 := il_105
                                  have l_110 := il_110
                                  refine wq_b (tt_fX12_spelled hN (105 : Int32) (110 : Int32) (0 : Int32) (0 : Int32) (0 : Int32) (0 : Int32) (0 : Int32)) (fun r16_q29255 h_r16_q29255 => ?_)
                                  obtain ⟨-⟩ := h_r16_q29255
                                  exact wq_s trivial
                                · have l_16 := il_16
                                  refine wq_eq (fun hc_29256 => ?_) (fun hc_29257 => ?_)
                                  · have l_99 := il_99
                                    have l_108 := il_108
                                    have l_105 := il_105
                                    have l_109 := il_109
                                    have l_97 := il_97
                                    have l_116 := il_116
                                    have l_101 := il_101
                                    refine wq_b (tt_fX12_spelled hN (99 : Int32) (108 : Int32) (105 : Int32) (109 : Int32) (97 : Int32) (116 : Int32) (101 : Int32)) (fun r17_q29258 h_r17_q29258 => ?_)
                                    obtain ⟨-⟩ := h_r17_q29258
                                    exact wq_s trivial
                                  · have l_17 := il_17
                                    refine wq_eq (fun hc_29259 => ?_) (fun hc_29260 => ?_)
                                    · have l_104 := il_104
                                      have l_97 := il_97
                                      have l_110 := il_110
                                      have l_100 := il_100
                                      refine wq_b (tt_fX12_spelled hN (104 : Int32) (97 : Int32) (110 : Int32) (100 : Int32) (0 : Int32) (0 : Int32) (0 : Int32)) (fun r18_q29261 h_r18_q29261 => ?_)
                                      obtain ⟨-⟩ := h_r18_q29261
                                      exact wq_s trivial
                                    · have l_102 := il_102
                                      have l_111 := il_111
                                      have l_114 := il_114
                                      refine wq_b (tt_fX12_spelled hN (102 : Int32) (111 : Int32) (114 : Int32) (0 : Int32) (0 : Int32) (0 : Int32) (0 : Int32)) (fun r19_q29262 h_r19_q29262 => ?_)
                                      obtain ⟨-⟩ := h_r19_q29262
                                      exact wq_s trivial
set_option maxHeartbeats 4000000 in
theorem tt_fX12_knownWord_L21 {N : Nat} (hN : 3000000000 ≤ N) (I0 : Nat → Int32) (L0 : Int64) (M0 : Nat → Nat → Int32) (k_I0 : KX12 I0 M0)  : ∀ (fu : Nat) (y21_1 : Int32), (0 ≤ y21_1.toInt ∧ y21_1.toInt ≤ 19) → (19 - y21_1.toInt) < (fu : Int) → wq (fX12_knownWord_L21 N I0 L0 M0 fu y21_1) (fun r => (-1 ≤ r.toInt ∧ r.toInt ≤ 18) ∧ True) := by
  intro fu
  induction fu with
  | zero => intro y21_1 h_y21_1 hm; exfalso; omega
  | succ fu ih =>
    intro y21_1 h_y21_1 hm
    rw [fX12_knownWord_L21.eq_2]
    have l_19 := il_19
    refine wq_le (fun hc_29406 => ?_) (fun hc_29407 => ?_)
    · have l_m1 := il_m1
      exact wq_s ⟨(show -1 ≤ (-1 : Int32).toInt ∧ (-1 : Int32).toInt ≤ 18 from ⟨by omega, by omega⟩), trivial⟩
    · refine wq_b (tt_fX12_letters hN y21_1) (fun r1_q29408 h_r1_q29408 => ?_)
      obtain ⟨-⟩ := h_r1_q29408
      have l_0 := il_0
      refine wq_eq (fun hc_29409 => ?_) (fun hc_29410 => ?_)
      · exact wq_s ⟨(show -1 ≤ y21_1.toInt ∧ y21_1.toInt ≤ 18 from ⟨by omega, by omega⟩), trivial⟩
      · have l_1 := il_1
        have t_29412 := ia_add y21_1 (1 : Int32) (by omega) (by omega)
        refine wq_v (fun v2_q29411 h_v2_q29411 => ?_)
        have t_v2_q29411 := congrArg Int32.toInt h_v2_q29411
        exact ih v2_q29411 ⟨by omega, by omega⟩ (by omega)
set_option maxHeartbeats 4000000 in
theorem tt_fX12_knownWord {N : Nat} (hN : 3000000000 ≤ N) (I0 : Nat → Int32) (L0 : Int64) (M0 : Nat → Nat → Int32) (k_I0 : KX12 I0 M0) : wq (fX12_knownWord N I0 L0 M0) (fun r => (-1 ≤ r.toInt ∧ r.toInt ≤ 18) ∧ True) := by
  unfold fX12_knownWord
  have l_1 := il_1
  refine wq_eq (fun hc_29413 => ?_) (fun hc_29414 => ?_)
  · have l_7 := il_7
    refine wq_le (fun hc_29415 => ?_) (fun hc_29416 => ?_)
    · have l_0 := il_0
      exact tt_fX12_knownWord_L21 hN I0 L0 M0 k_I0 N (0 : Int32) ⟨by omega, by omega⟩ (by omega)
    · have l_m1 := il_m1
      exact wq_s ⟨(show -1 ≤ (-1 : Int32).toInt ∧ (-1 : Int32).toInt ≤ 18 from ⟨by omega, by omega⟩), trivial⟩
  · have l_m1 := il_m1
    exact wq_s ⟨(show -1 ≤ (-1 : Int32).toInt ∧ (-1 : Int32).toInt ≤ 18 from ⟨by omega, by omega⟩), trivial⟩
/-- a call that reads: rows stay, only the text's ints move, a fault stays -/
def NP (I : Nat → Int32) (M : Nat → Nat → Int32) (r : (Nat → Int32) × Int64 × (Nat → Nat → Int32)) : Prop := r.2.2 = M ∧ FR I r.1 ∧ KX12 r.1 M ∧ ((I 4).toInt = 0 ∨ (r.1 4).toInt ≠ 0) ∧ (I 7).toInt ≤ (r.1 7).toInt
theorem NP.of {I : Nat → Int32} {M : Nat → Nat → Int32} {r : (Nat → Int32) × Int64 × (Nat → Nat → Int32)} (h : SP I M r) : NP I M r := ⟨h.1, h.2.1, h.2.2.2.2.1, by rw [h.2.2.1]; omega, h.2.2.2.2.2.1⟩
theorem NP.tr {I : Nat → Int32} {M : Nat → Nat → Int32} {r q : (Nat → Int32) × Int64 × (Nat → Nat → Int32)} (h : NP I M r) (g : NP r.1 M q) : NP I M q := ⟨g.1, h.2.1.tr g.2.1, g.2.2.1, by have a := h.2.2.2.1; have b := g.2.2.2.1; omega, by have a := h.2.2.2.2; have b := g.2.2.2.2; omega⟩
theorem NP.rf {I : Nat → Int32} {L : Int64} {M : Nat → Nat → Int32} (k : KX12 I M) : NP I M (I, L, M) := ⟨rfl, FR.rf I, k, by show _ ∨ (I 4).toInt ≠ 0; omega, Int.le_refl _⟩
theorem tt_wrong (N : Nat) (I : Nat → Int32) (L : Int64) (M : Nat → Nat → Int32) (x : Int32) (hx : x.toInt ≠ 0) (k : KX12 I M) : wq (fX12_wrong N I L M x) (fun r => NP I M r ∧ (r.1 4).toInt ≠ 0) := by
  unfold fX12_wrong
  have l_0 := il_0
  refine wq_eq (fun hc => ?_) (fun hc => ?_)
  · refine wq_v (fun J e => ?_)
    refine wq_v (fun J2 e2 => ?_)
    subst e
    subst e2
    refine wq_s ⟨⟨rfl, ((FR.rf I).up (by omega)).up (by omega), KX12.si5 (KX12.si4 k), Or.inr hx, Int.le_refl _⟩, hx⟩
  · exact wq_s ⟨NP.rf k, by show (I 4).toInt ≠ 0; omega⟩
theorem tt_good (N : Nat) (I : Nat → Int32) (L : Int64) (M : Nat → Nat → Int32) : wq (fX12_isGood N I L M) (fun r => (r.toInt = 0 ∧ (I 4).toInt ≠ 0) ∨ (r.toInt = 1 ∧ (I 4).toInt = 0)) := by
  unfold fX12_isGood
  have l_0 := il_0
  have l_1 := il_1
  refine wq_eq (fun hc => ?_) (fun hc => ?_)
  · exact wq_s (by omega)
  · exact wq_s (by omega)
theorem tt_need {N : Nat} (hN : 3000000000 ≤ N) (I : Nat → Int32) (L : Int64) (M : Nat → Nat → Int32) (x : Int32) (k : KX12 I M) : wq (fX12_need N I L M x) (fun r => NP I M r ∧ ((r.1 4).toInt ≠ 0 ∨ (x.toInt ≠ 0 ∧ ((r.1 8).toInt = 0 ∨ (I 7).toInt < (r.1 7).toInt)))) := by
  unfold fX12_need
  have l_0 := il_0
  refine wq_b (tt_good N I L M) (fun r1 h1 => ?_)
  refine wq_eq (fun hc => ?_) (fun hc => ?_)
  · exact wq_s ⟨NP.rf k, Or.inl (by show (I 4).toInt ≠ 0; omega)⟩
  · refine wq_eq (fun hc2 => ?_) (fun hc2 => ?_)
    · refine wq_b (tt_wrong N I L M 1 (by decide) k) (fun r2 h2 => ?_)
      exact wq_s ⟨h2.1, Or.inl h2.2⟩
    · refine wq_b (tt_steps hN I L M k) (fun r3 h3 => ?_)
      exact wq_s ⟨NP.of h3, Or.inr ⟨by omega, h3.2.2.2.2.2.2⟩⟩
theorem tt_num55 {N : Nat} (hN : 3000000000 ≤ N) (I0 I : Nat → Int32) (L : Int64) (M : Nat → Nat → Int32) (x1 x2 : Int32) (P : Int32 → Prop) (h : NP I0 M (I, L, M)) (hp : (I 4).toInt ≠ 0 ∨ P (I 11)) : wq (fX12_number_J55 N x1 x2 I L M) (fun r => NP I0 M r.2 ∧ ((r.2.1 4).toInt ≠ 0 ∨ P r.1)) := by
  unfold fX12_number_J55
  have l_0 := il_0
  refine wq_v (fun v e => ?_)
  subst e
  refine wq_b (tt_good N I L M) (fun r1 h1 => ?_)
  refine wq_eq (fun hc => ?_) (fun hc => ?_)
  · exact wq_s ⟨h, hp⟩
  · refine wq_b (tt_steps hN I L M h.2.2.1) (fun r3 h3 => ?_)
    refine wq_s ⟨NP.tr h (NP.of h3), ?_⟩
    rcases hp with q | q
    · exact absurd q (by omega)
    · exact Or.inr q
theorem tt_number {N : Nat} (hN : 3000000000 ≤ N) (I : Nat → Int32) (L : Int64) (M : Nat → Nat → Int32) (x1 x2 : Int32) (k : KX12 I M) : wq (fX12_number N I L M x1 x2) (fun r => NP I M r.2 ∧ ((r.2.1 4).toInt ≠ 0 ∨ (r.1 = I 11 ∧ x1.toInt ≤ r.1.toInt ∧ r.1.toInt ≤ x2.toInt ∧ (I 8).toInt = 2 ∧ (I 10).toInt ≤ 7))) := by
  unfold fX12_number
  have l_0 := il_0
  have l_2 := il_2
  have l_7 := il_7
  have h50 : wq (fX12_number_J50 N x1 x2 I L M) (fun r => NP I M r.2 ∧ ((r.2.1 4).toInt ≠ 0 ∨ (r.1 = I 11 ∧ x1.toInt ≤ r.1.toInt ∧ r.1.toInt ≤ x2.toInt ∧ (I 8).toInt = 2 ∧ (I 10).toInt ≤ 7))) := by
    unfold fX12_number_J50
    refine wq_b (tt_wrong N I L M 2 (by decide) k) (fun r4 h4 => ?_)
    obtain ⟨h4, g4⟩ := h4
    have e : r4.2.2 = M := h4.1
    rw [e]
    refine tt_num55 hN I r4.1 r4.2.1 M x1 x2 (fun v => v = I 11 ∧ x1.toInt ≤ v.toInt ∧ v.toInt ≤ x2.toInt ∧ (I 8).toInt = 2 ∧ (I 10).toInt ≤ 7) ⟨rfl, h4.2.1, h4.2.2.1, h4.2.2.2⟩ (Or.inl g4)
  refine wq_b (tt_good N I L M) (fun r5 h5 => ?_)
  refine wq_eq (fun hc => ?_) (fun hc => ?_)
  · exact wq_s ⟨NP.rf k, Or.inl (by show (I 4).toInt ≠ 0; omega)⟩
  · refine wq_eq (fun h8 => ?_) (fun h8 => ?_)
    · refine wq_lt (fun h10 => h50) (fun h10 => ?_)
      refine wq_lt (fun h11 => h50) (fun h11 => ?_)
      refine wq_le (fun h12 => ?_) (fun h12 => h50)
      exact tt_num55 hN I I L M x1 x2 (fun v => v = I 11 ∧ x1.toInt ≤ v.toInt ∧ v.toInt ≤ x2.toInt ∧ (I 8).toInt = 2 ∧ (I 10).toInt ≤ 7) (NP.rf k) (Or.inr ⟨rfl, by omega, by omega, by omega, by omega⟩)
    · refine wq_b (tt_wrong N I L M 1 (by decide) k) (fun r6 h6 => ?_)
      obtain ⟨h6, g6⟩ := h6
      have e : r6.2.2 = M := h6.1
      rw [e]
      exact tt_num55 hN I r6.1 r6.2.1 M x1 x2 (fun v => v = I 11 ∧ x1.toInt ≤ v.toInt ∧ v.toInt ≤ x2.toInt ∧ (I 8).toInt = 2 ∧ (I 10).toInt ≤ 7) ⟨rfl, h6.2.1, h6.2.2.1, h6.2.2.2⟩ (Or.inl g6)
/-- a line is read: a fault stays, the place does not go back -/
def RO (I : Nat → Int32) (r : (Nat → Int32) × Int64 × (Nat → Nat → Int32)) : Prop := KX12 r.1 r.2.2 ∧ ((I 4).toInt = 0 ∨ (r.1 4).toInt ≠ 0) ∧ (I 7).toInt ≤ (r.1 7).toInt
theorem RO.of {I : Nat → Int32} {M : Nat → Nat → Int32} {r : (Nat → Int32) × Int64 × (Nat → Nat → Int32)} (h : NP I M r) : RO I r := ⟨by rw [h.1]; exact h.2.2.1, h.2.2.2.1, h.2.2.2.2⟩
theorem RO.tr {I : Nat → Int32} {M : Nat → Nat → Int32} {r q : (Nat → Int32) × Int64 × (Nat → Nat → Int32)} (h : NP I M r) (g : RO r.1 q) : RO I q := ⟨g.1, by have a := h.2.2.2.1; have b := g.2.1; omega, by have a := h.2.2.2.2; have b := g.2.2; omega⟩
theorem RO.go {I J : Nat → Int32} {q : (Nat → Int32) × Int64 × (Nat → Nat → Int32)} (a : (I 4).toInt = 0 ∨ (J 4).toInt ≠ 0) (b : (I 7).toInt ≤ (J 7).toInt) (g : RO J q) : RO I q := ⟨g.1, by have c := g.2.1; omega, by have c := g.2.2; omega⟩
def RP (I : Nat → Int32) (f : Nat → Int32) (r : (Nat → Int32) × Int64 × (Nat → Nat → Int32)) : Prop := KX12 r.1 r.2.2 ∧ ((I 4).toInt = 0 ∨ (r.1 4).toInt ≠ 0) ∧ (I 7).toInt ≤ (r.1 7).toInt ∧ (PD f → PD (r.2.2 12))
theorem RP.of {I : Nat → Int32} {M : Nat → Nat → Int32} {r : (Nat → Int32) × Int64 × (Nat → Nat → Int32)} (h : NP I M r) : RP I (M 12) r := ⟨by rw [h.1]; exact h.2.2.1, h.2.2.2.1, h.2.2.2.2, by rw [h.1]; exact id⟩
theorem RP.tr {I f : Nat → Int32} {M : Nat → Nat → Int32} {r q : (Nat → Int32) × Int64 × (Nat → Nat → Int32)} (h : NP I M r) (g : RP r.1 f q) : RP I f q := ⟨g.1, by have a := h.2.2.2.1; have b := g.2.1; omega, by have a := h.2.2.2.2; have b := g.2.2.1; omega, g.2.2.2⟩
theorem RP.go {I J f : Nat → Int32} {q : (Nat → Int32) × Int64 × (Nat → Nat → Int32)} (a : (I 4).toInt = 0 ∨ (J 4).toInt ≠ 0) (b : (I 7).toInt ≤ (J 7).toInt) (g : RP J f q) : RP I f q := ⟨g.1, by have c := g.2.1; omega, by have c := g.2.2.1; omega, g.2.2.2⟩
theorem PD.um {f : Nat → Int32} (h : PD f) {i : Nat} {v : Int32} (hv : 1 ≤ v.toInt ∧ v.toInt ≤ 1000000) : PD (upd f i v) := by
  intro j hj
  unfold upd
  by_cases q : j = i
  · rw [if_pos q]; exact hv
  · rw [if_neg q]; exact h j hj
theorem tt_named {N : Nat} (hN : 3000000000 ≤ N) (I : Nat → Int32) (L : Int64) (M : Nat → Nat → Int32) (x1 x2 x3 : Int32) (k : KX12 I M) : wq (fX12_named N I L M x1 x2 x3) (fun r => NP I M r.2 ∧ ((r.2.1 4).toInt ≠ 0 ∨ (x2.toInt ≤ r.1.toInt ∧ r.1.toInt ≤ x3.toInt))) := by
  unfold fX12_named
  have hb : ∀ z : Int32, wq ((fX12_need N I L M z).bind fun r4 => (fX12_number N r4.1 r4.2.1 r4.2.2 x2 x3).bind fun r5 => some (r5.1, r5.2.1, r5.2.2.1, r5.2.2.2)) (fun r => NP I M r.2 ∧ ((r.2.1 4).toInt ≠ 0 ∨ (x2.toInt ≤ r.1.toInt ∧ r.1.toInt ≤ x3.toInt))) := by
    intro z
    refine wq_b (tt_need hN I L M z k) (fun r4 h4 => ?_)
    obtain ⟨h4, -⟩ := h4
    have e : r4.2.2 = M := h4.1
    rw [e]
    refine wq_b (tt_number hN r4.1 r4.2.1 M x2 x3 h4.2.2.1) (fun r5 h5 => ?_)
    obtain ⟨h5, g5⟩ := h5
    refine wq_s ⟨NP.tr h4 h5, ?_⟩
    rcases g5 with q | q
    · exact Or.inl q
    · exact Or.inr ⟨q.2.1, q.2.2.1⟩
  refine wq_b (tt_fX12_knownWord hN I L M k) (fun r1 h1 => ?_)
  exact wq_i (fun _ => hb 1) (fun _ => hb 0)
set_option maxHeartbeats 4000000 in
theorem tt_fX12_begins {N : Nat} (hN : 3000000000 ≤ N) (I0 : Nat → Int32) (L0 : Int64) (M0 : Nat → Nat → Int32) (x1 : Int32) (k_I0 : KX12 I0 M0) : wq (fX12_begins N I0 L0 M0 x1) (fun r => (0 ≤ r.1.toInt ∧ r.1.toInt ≤ 1) ∧ KX12 r.2.1 r.2.2.2 ∧ True) := by
  unfold fX12_begins
  have b_30151 := i32b x1
  have l_0 := il_0
  refine wq_lt (fun hc_30152 => ?_) (fun hc_30153 => ?_)
  · unfold fX12_begins_J17
    unfold fX12_begins_J18
    refine wq_eq (fun hc_30154 => ?_) (fun hc_30155 => ?_)
    · have t_30156 := KX12.i12 k_I0
      refine wq_eq (fun hc_30157 => ?_) (fun hc_30158 => ?_)
      · unfold fX12_begins_J36
        unfold fX12_begins_J37
        have l_1 := il_1
        refine wq_b (tt_fX12_right hN I0 L0 M0 (0 : Int32) (1 : Int32) ⟨by omega, by omega⟩ k_I0) (fun r1_q30159 h_r1_q30159 => ?_)
        obtain ⟨h_r1_q30159_0, h_r1_q30159_1, h_r1_q30159_2, h_r1_q30159_3, -⟩ := h_r1_q30159
        have t_30160 := KX12.i1 h_r1_q30159_3
        have t_30161 := KX12.i1 k_I0
        refine wq_eq (fun hc_30162 => ?_) (fun hc_30163 => ?_)
        · exact wq_s ⟨(show 0 ≤ (0 : Int32).toInt ∧ (0 : Int32).toInt ≤ 1 from ⟨by omega, by omega⟩), h_r1_q30159_3, trivial⟩
        · refine wq_v (fun I0_2_q30164 h_I0_2_q30164 => ?_)
          have k_I0_2_q30164 : KX12 I0_2_q30164 r1_q30159.2.2.2 := by rw [h_I0_2_q30164]; exact KX12.si3 h_r1_q30159_3 ⟨by omega, by omega⟩
          refine wq_v (fun I0_3_q30165 h_I0_3_q30165 => ?_)
          have k_I0_3_q30165 : KX12 I0_3_q30165 r1_q30159.2.2.2 := by rw [h_I0_3_q30165]; exact KX12.si5 k_I0_2_q30164
          refine wq_v (fun I0_4_q30166 h_I0_4_q30166 => ?_)
          have k_I0_4_q30166 : KX12 I0_4_q30166 r1_q30159.2.2.2 := by rw [h_I0_4_q30166]; exact KX12.si4 k_I0_3_q30165
          refine wq_v (fun I0_5_q30167 h_I0_5_q30167 => ?_)
          have k_I0_5_q30167 : KX12 I0_5_q30167 r1_q30159.2.2.2 := by rw [h_I0_5_q30167]; exact KX12.si6 k_I0_4_q30166 ⟨by omega, by omega⟩
          refine wq_v (fun I0_6_q30168 h_I0_6_q30168 => ?_)
          have k_I0_6_q30168 : KX12 I0_6_q30168 r1_q30159.2.2.2 := by rw [h_I0_6_q30168]; exact KX12.si7 k_I0_5_q30167 ⟨by omega, by omega⟩
          refine wq_b (tt_fX12_steps hN I0_6_q30168 r1_q30159.2.2.1 r1_q30159.2.2.2 k_I0_6_q30168) (fun r7_q30169 h_r7_q30169 => ?_)
          obtain ⟨h_r7_q30169_0, -⟩ := h_r7_q30169
          exact wq_s ⟨(show 0 ≤ (1 : Int32).toInt ∧ (1 : Int32).toInt ≤ 1 from ⟨by omega, by omega⟩), h_r7_q30169_0, trivial⟩
      · unfold fX12_begins_J37
        have l_2 := il_2
        refine wq_b (tt_fX12_right hN I0 L0 M0 (0 : Int32) (2 : Int32) ⟨by omega, by omega⟩ k_I0) (fun r1_q30170 h_r1_q30170 => ?_)
        obtain ⟨h_r1_q30170_0, h_r1_q30170_1, h_r1_q30170_2, h_r1_q30170_3, -⟩ := h_r1_q30170
        have t_30171 := KX12.i1 h_r1_q30170_3
        have t_30172 := KX12.i1 k_I0
        refine wq_eq (fun hc_30173 => ?_) (fun hc_30174 => ?_)
        · exact wq_s ⟨(show 0 ≤ (0 : Int32).toInt ∧ (0 : Int32).toInt ≤ 1 from ⟨by omega, by omega⟩), h_r1_q30170_3, trivial⟩
        · refine wq_v (fun I0_2_q30175 h_I0_2_q30175 => ?_)
          have k_I0_2_q30175 : KX12 I0_2_q30175 r1_q30170.2.2.2 := by rw [h_I0_2_q30175]; exact KX12.si3 h_r1_q30170_3 ⟨by omega, by omega⟩
          refine wq_v (fun I0_3_q30176 h_I0_3_q30176 => ?_)
          have k_I0_3_q30176 : KX12 I0_3_q30176 r1_q30170.2.2.2 := by rw [h_I0_3_q30176]; exact KX12.si5 k_I0_2_q30175
          refine wq_v (fun I0_4_q30177 h_I0_4_q30177 => ?_)
          have k_I0_4_q30177 : KX12 I0_4_q30177 r1_q30170.2.2.2 := by rw [h_I0_4_q30177]; exact KX12.si4 k_I0_3_q30176
          refine wq_v (fun I0_5_q30178 h_I0_5_q30178 => ?_)
          have k_I0_5_q30178 : KX12 I0_5_q30178 r1_q30170.2.2.2 := by rw [h_I0_5_q30178]; exact KX12.si6 k_I0_4_q30177 ⟨by omega, by omega⟩
          refine wq_v (fun I0_6_q30179 h_I0_6_q30179 => ?_)
          have k_I0_6_q30179 : KX12 I0_6_q30179 r1_q30170.2.2.2 := by rw [h_I0_6_q30179]; exact KX12.si7 k_I0_5_q30178 ⟨by omega, by omega⟩
          refine wq_b (tt_fX12_steps hN I0_6_q30179 r1_q30170.2.2.1 r1_q30170.2.2.2 k_I0_6_q30179) (fun r7_q30180 h_r7_q30180 => ?_)
          obtain ⟨h_r7_q30180_0, -⟩ := h_r7_q30180
          have l_1 := il_1
          exact wq_s ⟨(show 0 ≤ (1 : Int32).toInt ∧ (1 : Int32).toInt ≤ 1 from ⟨by omega, by omega⟩), h_r7_q30180_0, trivial⟩
    · unfold fX12_begins_J36
      unfold fX12_begins_J37
      have l_1 := il_1
      refine wq_b (tt_fX12_right hN I0 L0 M0 (0 : Int32) (1 : Int32) ⟨by omega, by omega⟩ k_I0) (fun r1_q30181 h_r1_q30181 => ?_)
      obtain ⟨h_r1_q30181_0, h_r1_q30181_1, h_r1_q30181_2, h_r1_q30181_3, -⟩ := h_r1_q30181
      have t_30182 := KX12.i1 h_r1_q30181_3
      have t_30183 := KX12.i1 k_I0
      refine wq_eq (fun hc_30184 => ?_) (fun hc_30185 => ?_)
      · exact wq_s ⟨(show 0 ≤ (0 : Int32).toInt ∧ (0 : Int32).toInt ≤ 1 from ⟨by omega, by omega⟩), h_r1_q30181_3, trivial⟩
      · refine wq_v (fun I0_2_q30186 h_I0_2_q30186 => ?_)
        have k_I0_2_q30186 : KX12 I0_2_q30186 r1_q30181.2.2.2 := by rw [h_I0_2_q30186]; exact KX12.si3 h_r1_q30181_3 ⟨by omega, by omega⟩
        refine wq_v (fun I0_3_q30187 h_I0_3_q30187 => ?_)
        have k_I0_3_q30187 : KX12 I0_3_q30187 r1_q30181.2.2.2 := by rw [h_I0_3_q30187]; exact KX12.si5 k_I0_2_q30186
        refine wq_v (fun I0_4_q30188 h_I0_4_q30188 => ?_)
        have k_I0_4_q30188 : KX12 I0_4_q30188 r1_q30181.2.2.2 := by rw [h_I0_4_q30188]; exact KX12.si4 k_I0_3_q30187
        refine wq_v (fun I0_5_q30189 h_I0_5_q30189 => ?_)
        have k_I0_5_q30189 : KX12 I0_5_q30189 r1_q30181.2.2.2 := by rw [h_I0_5_q30189]; exact KX12.si6 k_I0_4_q30188 ⟨by omega, by omega⟩
        refine wq_v (fun I0_6_q30190 h_I0_6_q30190 => ?_)
        have k_I0_6_q30190 : KX12 I0_6_q30190 r1_q30181.2.2.2 := by rw [h_I0_6_q30190]; exact KX12.si7 k_I0_5_q30189 ⟨by omega, by omega⟩
        refine wq_b (tt_fX12_steps hN I0_6_q30190 r1_q30181.2.2.1 r1_q30181.2.2.2 k_I0_6_q30190) (fun r7_q30191 h_r7_q30191 => ?_)
        obtain ⟨h_r7_q30191_0, -⟩ := h_r7_q30191
        exact wq_s ⟨(show 0 ≤ (1 : Int32).toInt ∧ (1 : Int32).toInt ≤ 1 from ⟨by omega, by omega⟩), h_r7_q30191_0, trivial⟩
  · have t_30192 := KX12.i3 k_I0
    refine wq_lt (fun hc_30193 => ?_) (fun hc_30194 => ?_)
    · unfold fX12_begins_J17
      unfold fX12_begins_J18
      refine wq_eq (fun hc_30195 => ?_) (fun hc_30196 => ?_)
      · have t_30197 := KX12.i12 k_I0
        refine wq_eq (fun hc_30198 => ?_) (fun hc_30199 => ?_)
        · unfold fX12_begins_J36
          unfold fX12_begins_J37
          have l_1 := il_1
          refine wq_b (tt_fX12_right hN I0 L0 M0 (0 : Int32) (1 : Int32) ⟨by omega, by omega⟩ k_I0) (fun r1_q30200 h_r1_q30200 => ?_)
          obtain ⟨h_r1_q30200_0, h_r1_q30200_1, h_r1_q30200_2, h_r1_q30200_3, -⟩ := h_r1_q30200
          have t_30201 := KX12.i1 h_r1_q30200_3
          have t_30202 := KX12.i1 k_I0
          refine wq_eq (fun hc_30203 => ?_) (fun hc_30204 => ?_)
          · exact wq_s ⟨(show 0 ≤ (0 : Int32).toInt ∧ (0 : Int32).toInt ≤ 1 from ⟨by omega, by omega⟩), h_r1_q30200_3, trivial⟩
          · refine wq_v (fun I0_2_q30205 h_I0_2_q30205 => ?_)
            have k_I0_2_q30205 : KX12 I0_2_q30205 r1_q30200.2.2.2 := by rw [h_I0_2_q30205]; exact KX12.si3 h_r1_q30200_3 ⟨by omega, by omega⟩
            refine wq_v (fun I0_3_q30206 h_I0_3_q30206 => ?_)
            have k_I0_3_q30206 : KX12 I0_3_q30206 r1_q30200.2.2.2 := by rw [h_I0_3_q30206]; exact KX12.si5 k_I0_2_q30205
            refine wq_v (fun I0_4_q30207 h_I0_4_q30207 => ?_)
            have k_I0_4_q30207 : KX12 I0_4_q30207 r1_q30200.2.2.2 := by rw [h_I0_4_q30207]; exact KX12.si4 k_I0_3_q30206
            refine wq_v (fun I0_5_q30208 h_I0_5_q30208 => ?_)
            have k_I0_5_q30208 : KX12 I0_5_q30208 r1_q30200.2.2.2 := by rw [h_I0_5_q30208]; exact KX12.si6 k_I0_4_q30207 ⟨by omega, by omega⟩
            refine wq_v (fun I0_6_q30209 h_I0_6_q30209 => ?_)
            have k_I0_6_q30209 : KX12 I0_6_q30209 r1_q30200.2.2.2 := by rw [h_I0_6_q30209]; exact KX12.si7 k_I0_5_q30208 ⟨by omega, by omega⟩
            refine wq_b (tt_fX12_steps hN I0_6_q30209 r1_q30200.2.2.1 r1_q30200.2.2.2 k_I0_6_q30209) (fun r7_q30210 h_r7_q30210 => ?_)
            obtain ⟨h_r7_q30210_0, -⟩ := h_r7_q30210
            exact wq_s ⟨(show 0 ≤ (1 : Int32).toInt ∧ (1 : Int32).toInt ≤ 1 from ⟨by omega, by omega⟩), h_r7_q30210_0, trivial⟩
        · unfold fX12_begins_J37
          have l_2 := il_2
          refine wq_b (tt_fX12_right hN I0 L0 M0 (0 : Int32) (2 : Int32) ⟨by omega, by omega⟩ k_I0) (fun r1_q30211 h_r1_q30211 => ?_)
          obtain ⟨h_r1_q30211_0, h_r1_q30211_1, h_r1_q30211_2, h_r1_q30211_3, -⟩ := h_r1_q30211
          have t_30212 := KX12.i1 h_r1_q30211_3
          have t_30213 := KX12.i1 k_I0
          refine wq_eq (fun hc_30214 => ?_) (fun hc_30215 => ?_)
          · exact wq_s ⟨(show 0 ≤ (0 : Int32).toInt ∧ (0 : Int32).toInt ≤ 1 from ⟨by omega, by omega⟩), h_r1_q30211_3, trivial⟩
          · refine wq_v (fun I0_2_q30216 h_I0_2_q30216 => ?_)
            have k_I0_2_q30216 : KX12 I0_2_q30216 r1_q30211.2.2.2 := by rw [h_I0_2_q30216]; exact KX12.si3 h_r1_q30211_3 ⟨by omega, by omega⟩
            refine wq_v (fun I0_3_q30217 h_I0_3_q30217 => ?_)
            have k_I0_3_q30217 : KX12 I0_3_q30217 r1_q30211.2.2.2 := by rw [h_I0_3_q30217]; exact KX12.si5 k_I0_2_q30216
            refine wq_v (fun I0_4_q30218 h_I0_4_q30218 => ?_)
            have k_I0_4_q30218 : KX12 I0_4_q30218 r1_q30211.2.2.2 := by rw [h_I0_4_q30218]; exact KX12.si4 k_I0_3_q30217
            refine wq_v (fun I0_5_q30219 h_I0_5_q30219 => ?_)
            have k_I0_5_q30219 : KX12 I0_5_q30219 r1_q30211.2.2.2 := by rw [h_I0_5_q30219]; exact KX12.si6 k_I0_4_q30218 ⟨by omega, by omega⟩
            refine wq_v (fun I0_6_q30220 h_I0_6_q30220 => ?_)
            have k_I0_6_q30220 : KX12 I0_6_q30220 r1_q30211.2.2.2 := by rw [h_I0_6_q30220]; exact KX12.si7 k_I0_5_q30219 ⟨by omega, by omega⟩
            refine wq_b (tt_fX12_steps hN I0_6_q30220 r1_q30211.2.2.1 r1_q30211.2.2.2 k_I0_6_q30220) (fun r7_q30221 h_r7_q30221 => ?_)
            obtain ⟨h_r7_q30221_0, -⟩ := h_r7_q30221
            have l_1 := il_1
            exact wq_s ⟨(show 0 ≤ (1 : Int32).toInt ∧ (1 : Int32).toInt ≤ 1 from ⟨by omega, by omega⟩), h_r7_q30221_0, trivial⟩
      · unfold fX12_begins_J36
        unfold fX12_begins_J37
        have l_1 := il_1
        refine wq_b (tt_fX12_right hN I0 L0 M0 (0 : Int32) (1 : Int32) ⟨by omega, by omega⟩ k_I0) (fun r1_q30222 h_r1_q30222 => ?_)
        obtain ⟨h_r1_q30222_0, h_r1_q30222_1, h_r1_q30222_2, h_r1_q30222_3, -⟩ := h_r1_q30222
        have t_30223 := KX12.i1 h_r1_q30222_3
        have t_30224 := KX12.i1 k_I0
        refine wq_eq (fun hc_30225 => ?_) (fun hc_30226 => ?_)
        · exact wq_s ⟨(show 0 ≤ (0 : Int32).toInt ∧ (0 : Int32).toInt ≤ 1 from ⟨by omega, by omega⟩), h_r1_q30222_3, trivial⟩
        · refine wq_v (fun I0_2_q30227 h_I0_2_q30227 => ?_)
          have k_I0_2_q30227 : KX12 I0_2_q30227 r1_q30222.2.2.2 := by rw [h_I0_2_q30227]; exact KX12.si3 h_r1_q30222_3 ⟨by omega, by omega⟩
          refine wq_v (fun I0_3_q30228 h_I0_3_q30228 => ?_)
          have k_I0_3_q30228 : KX12 I0_3_q30228 r1_q30222.2.2.2 := by rw [h_I0_3_q30228]; exact KX12.si5 k_I0_2_q30227
          refine wq_v (fun I0_4_q30229 h_I0_4_q30229 => ?_)
          have k_I0_4_q30229 : KX12 I0_4_q30229 r1_q30222.2.2.2 := by rw [h_I0_4_q30229]; exact KX12.si4 k_I0_3_q30228
          refine wq_v (fun I0_5_q30230 h_I0_5_q30230 => ?_)
          have k_I0_5_q30230 : KX12 I0_5_q30230 r1_q30222.2.2.2 := by rw [h_I0_5_q30230]; exact KX12.si6 k_I0_4_q30229 ⟨by omega, by omega⟩
          refine wq_v (fun I0_6_q30231 h_I0_6_q30231 => ?_)
          have k_I0_6_q30231 : KX12 I0_6_q30231 r1_q30222.2.2.2 := by rw [h_I0_6_q30231]; exact KX12.si7 k_I0_5_q30230 ⟨by omega, by omega⟩
          refine wq_b (tt_fX12_steps hN I0_6_q30231 r1_q30222.2.2.1 r1_q30222.2.2.2 k_I0_6_q30231) (fun r7_q30232 h_r7_q30232 => ?_)
          obtain ⟨h_r7_q30232_0, -⟩ := h_r7_q30232
          exact wq_s ⟨(show 0 ≤ (1 : Int32).toInt ∧ (1 : Int32).toInt ≤ 1 from ⟨by omega, by omega⟩), h_r7_q30232_0, trivial⟩
    · unfold fX12_begins_J18
      refine wq_eq (fun hc_30233 => ?_) (fun hc_30234 => ?_)
      · have t_30235 := KX12.i12 k_I0
        refine wq_eq (fun hc_30236 => ?_) (fun hc_30237 => ?_)
        · unfold fX12_begins_J36
          unfold fX12_begins_J37
          have l_1 := il_1
          refine wq_b (tt_fX12_right hN I0 L0 M0 (1 : Int32) (1 : Int32) ⟨by omega, by omega⟩ k_I0) (fun r1_q30238 h_r1_q30238 => ?_)
          obtain ⟨h_r1_q30238_0, h_r1_q30238_1, h_r1_q30238_2, h_r1_q30238_3, -⟩ := h_r1_q30238
          have t_30239 := KX12.i1 h_r1_q30238_3
          have t_30240 := KX12.i1 k_I0
          refine wq_eq (fun hc_30241 => ?_) (fun hc_30242 => ?_)
          · exact wq_s ⟨(show 0 ≤ (0 : Int32).toInt ∧ (0 : Int32).toInt ≤ 1 from ⟨by omega, by omega⟩), h_r1_q30238_3, trivial⟩
          · refine wq_v (fun I0_2_q30243 h_I0_2_q30243 => ?_)
            have k_I0_2_q30243 : KX12 I0_2_q30243 r1_q30238.2.2.2 := by rw [h_I0_2_q30243]; exact KX12.si3 h_r1_q30238_3 ⟨by omega, by omega⟩
            refine wq_v (fun I0_3_q30244 h_I0_3_q30244 => ?_)
            have k_I0_3_q30244 : KX12 I0_3_q30244 r1_q30238.2.2.2 := by rw [h_I0_3_q30244]; exact KX12.si5 k_I0_2_q30243
            refine wq_v (fun I0_4_q30245 h_I0_4_q30245 => ?_)
            have k_I0_4_q30245 : KX12 I0_4_q30245 r1_q30238.2.2.2 := by rw [h_I0_4_q30245]; exact KX12.si4 k_I0_3_q30244
            refine wq_v (fun I0_5_q30246 h_I0_5_q30246 => ?_)
            have k_I0_5_q30246 : KX12 I0_5_q30246 r1_q30238.2.2.2 := by rw [h_I0_5_q30246]; exact KX12.si6 k_I0_4_q30245 ⟨by omega, by omega⟩
            refine wq_v (fun I0_6_q30247 h_I0_6_q30247 => ?_)
            have k_I0_6_q30247 : KX12 I0_6_q30247 r1_q30238.2.2.2 := by rw [h_I0_6_q30247]; exact KX12.si7 k_I0_5_q30246 ⟨by omega, by omega⟩
            refine wq_b (tt_fX12_steps hN I0_6_q30247 r1_q30238.2.2.1 r1_q30238.2.2.2 k_I0_6_q30247) (fun r7_q30248 h_r7_q30248 => ?_)
            obtain ⟨h_r7_q30248_0, -⟩ := h_r7_q30248
            exact wq_s ⟨(show 0 ≤ (1 : Int32).toInt ∧ (1 : Int32).toInt ≤ 1 from ⟨by omega, by omega⟩), h_r7_q30248_0, trivial⟩
        · unfold fX12_begins_J37
          have l_1 := il_1
          have l_2 := il_2
          refine wq_b (tt_fX12_right hN I0 L0 M0 (1 : Int32) (2 : Int32) ⟨by omega, by omega⟩ k_I0) (fun r1_q30249 h_r1_q30249 => ?_)
          obtain ⟨h_r1_q30249_0, h_r1_q30249_1, h_r1_q30249_2, h_r1_q30249_3, -⟩ := h_r1_q30249
          have t_30250 := KX12.i1 h_r1_q30249_3
          have t_30251 := KX12.i1 k_I0
          refine wq_eq (fun hc_30252 => ?_) (fun hc_30253 => ?_)
          · exact wq_s ⟨(show 0 ≤ (0 : Int32).toInt ∧ (0 : Int32).toInt ≤ 1 from ⟨by omega, by omega⟩), h_r1_q30249_3, trivial⟩
          · refine wq_v (fun I0_2_q30254 h_I0_2_q30254 => ?_)
            have k_I0_2_q30254 : KX12 I0_2_q30254 r1_q30249.2.2.2 := by rw [h_I0_2_q30254]; exact KX12.si3 h_r1_q30249_3 ⟨by omega, by omega⟩
            refine wq_v (fun I0_3_q30255 h_I0_3_q30255 => ?_)
            have k_I0_3_q30255 : KX12 I0_3_q30255 r1_q30249.2.2.2 := by rw [h_I0_3_q30255]; exact KX12.si5 k_I0_2_q30254
            refine wq_v (fun I0_4_q30256 h_I0_4_q30256 => ?_)
            have k_I0_4_q30256 : KX12 I0_4_q30256 r1_q30249.2.2.2 := by rw [h_I0_4_q30256]; exact KX12.si4 k_I0_3_q30255
            refine wq_v (fun I0_5_q30257 h_I0_5_q30257 => ?_)
            have k_I0_5_q30257 : KX12 I0_5_q30257 r1_q30249.2.2.2 := by rw [h_I0_5_q30257]; exact KX12.si6 k_I0_4_q30256 ⟨by omega, by omega⟩
            refine wq_v (fun I0_6_q30258 h_I0_6_q30258 => ?_)
            have k_I0_6_q30258 : KX12 I0_6_q30258 r1_q30249.2.2.2 := by rw [h_I0_6_q30258]; exact KX12.si7 k_I0_5_q30257 ⟨by omega, by omega⟩
            refine wq_b (tt_fX12_steps hN I0_6_q30258 r1_q30249.2.2.1 r1_q30249.2.2.2 k_I0_6_q30258) (fun r7_q30259 h_r7_q30259 => ?_)
            obtain ⟨h_r7_q30259_0, -⟩ := h_r7_q30259
            exact wq_s ⟨(show 0 ≤ (1 : Int32).toInt ∧ (1 : Int32).toInt ≤ 1 from ⟨by omega, by omega⟩), h_r7_q30259_0, trivial⟩
      · unfold fX12_begins_J36
        unfold fX12_begins_J37
        have l_1 := il_1
        refine wq_b (tt_fX12_right hN I0 L0 M0 (1 : Int32) (1 : Int32) ⟨by omega, by omega⟩ k_I0) (fun r1_q30260 h_r1_q30260 => ?_)
        obtain ⟨h_r1_q30260_0, h_r1_q30260_1, h_r1_q30260_2, h_r1_q30260_3, -⟩ := h_r1_q30260
        have t_30261 := KX12.i1 h_r1_q30260_3
        have t_30262 := KX12.i1 k_I0
        refine wq_eq (fun hc_30263 => ?_) (fun hc_30264 => ?_)
        · exact wq_s ⟨(show 0 ≤ (0 : Int32).toInt ∧ (0 : Int32).toInt ≤ 1 from ⟨by omega, by omega⟩), h_r1_q30260_3, trivial⟩
        · refine wq_v (fun I0_2_q30265 h_I0_2_q30265 => ?_)
          have k_I0_2_q30265 : KX12 I0_2_q30265 r1_q30260.2.2.2 := by rw [h_I0_2_q30265]; exact KX12.si3 h_r1_q30260_3 ⟨by omega, by omega⟩
          refine wq_v (fun I0_3_q30266 h_I0_3_q30266 => ?_)
          have k_I0_3_q30266 : KX12 I0_3_q30266 r1_q30260.2.2.2 := by rw [h_I0_3_q30266]; exact KX12.si5 k_I0_2_q30265
          refine wq_v (fun I0_4_q30267 h_I0_4_q30267 => ?_)
          have k_I0_4_q30267 : KX12 I0_4_q30267 r1_q30260.2.2.2 := by rw [h_I0_4_q30267]; exact KX12.si4 k_I0_3_q30266
          refine wq_v (fun I0_5_q30268 h_I0_5_q30268 => ?_)
          have k_I0_5_q30268 : KX12 I0_5_q30268 r1_q30260.2.2.2 := by rw [h_I0_5_q30268]; exact KX12.si6 k_I0_4_q30267 ⟨by omega, by omega⟩
          refine wq_v (fun I0_6_q30269 h_I0_6_q30269 => ?_)
          have k_I0_6_q30269 : KX12 I0_6_q30269 r1_q30260.2.2.2 := by rw [h_I0_6_q30269]; exact KX12.si7 k_I0_5_q30268 ⟨by omega, by omega⟩
          refine wq_b (tt_fX12_steps hN I0_6_q30269 r1_q30260.2.2.1 r1_q30260.2.2.2 k_I0_6_q30269) (fun r7_q30270 h_r7_q30270 => ?_)
          obtain ⟨h_r7_q30270_0, -⟩ := h_r7_q30270
          exact wq_s ⟨(show 0 ≤ (1 : Int32).toInt ∧ (1 : Int32).toInt ≤ 1 from ⟨by omega, by omega⟩), h_r7_q30270_0, trivial⟩
theorem tt_rs102 (N : Nat) (I : Nat → Int32) (L : Int64) (M : Nat → Nat → Int32) (y1 y2 y3 y4 y5 y6 : Int32) (k : KX12 I M) (h : (I 4).toInt ≠ 0 ∨ ((0 ≤ y1.toInt ∧ y1.toInt ≤ 3) ∧ (0 ≤ y2.toInt ∧ y2.toInt ≤ 6) ∧ (1 ≤ y6.toInt ∧ y6.toInt ≤ 1000000))) : wq (fX12_readsSet_J102 N I L M y1 y2 y3 y4 y5 y6) (RP I (M 12)) := by
  unfold fX12_readsSet_J102
  have l_0 := il_0
  have l_7 := il_7
  refine wq_b (tt_good N I L M) (fun r1 h1 => ?_)
  refine wq_eq (fun hc => ?_) (fun hc => ?_)
  · exact wq_s (RP.of (M := M) (NP.rf k))
  · have hh : (0 ≤ y1.toInt ∧ y1.toInt ≤ 3) ∧ (0 ≤ y2.toInt ∧ y2.toInt ≤ 6) ∧ (1 ≤ y6.toInt ∧ y6.toInt ≤ 1000000) := by
      rcases h with q | q
      · exact absurd q (by omega)
      · exact q
    have ta := ia_mul (7 : Int32) 7 il_7 y1 (by omega) (by omega)
    have tb := ia_add ((7 : Int32) * y1) y2 (by omega) (by omega)
    refine wq_in (n := 28) ⟨by omega, by omega⟩ (wq_v (fun M2 e2 => ?_))
    refine wq_in (n := 28) ⟨by omega, by omega⟩ (wq_v (fun M3 e3 => ?_))
    refine wq_in (n := 28) ⟨by omega, by omega⟩ (wq_v (fun M4 e4 => ?_))
    refine wq_in (n := 28) ⟨by omega, by omega⟩ (wq_v (fun M5 e5 => ?_))
    subst e2
    subst e3
    subst e4
    subst e5
    exact wq_s ⟨KX12.sm12 (KX12.sm11 (KX12.sm10 (KX12.sm9 k))) ⟨by omega, by omega⟩, by show _ ∨ (I 4).toInt ≠ 0; omega, Int.le_refl _, fun h => PD.um h hh.2.2⟩

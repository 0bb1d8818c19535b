set_option maxHeartbeats 4000000 in
theorem tt_fX11_lot {N : Nat} (hN : 3000000000 ≤ N) (I0 : Nat → Int32) (M0 : Nat → Nat → Int32) (x1 : Int32) (x2 : Int32) (x3 : Int32) (k_I0 : KX11 I0 M0) : wq (fX11_lot N I0 M0 x1 x2 x3) (qS 1 (fun r => True)) := by
  unfold fX11_lot
  have b_18783 := i32b x1
  have b_18784 := i32b x2
  refine wq_xb (tt_fX11_numberOf hN x1 x2) (by decide) (fun r1_q18782 h_r1_q18782 => ?_)
  obtain ⟨h_r1_q18782_0, h_r1_q18782_1, -⟩ := h_r1_q18782
  have b_18785 := i32b x3
  have l_0 := il_0
  have l_1 := il_1
  refine wq_b (tt_fX11_within hN x3 (0 : Int32) (1 : Int32)) (fun r2_q18786 h_r2_q18786 => ?_)
  obtain ⟨h_r2_q18786_0, h_r2_q18786_1, -⟩ := h_r2_q18786
  refine wq_xb (tt_fX11_need hN r2_q18786) (by decide) (fun r3_q18787 h_r3_q18787 => ?_)
  obtain ⟨h_r3_q18787_0, -⟩ := h_r3_q18787
  refine wq_ok ?_
  refine wq_b (tt_fX1_lotOf hN (wb_sh I0 13) (wb_sh M0 13) r1_q18782 ⟨by omega, by omega⟩ (KX11.s_X1_13_13 k_I0)) (fun r4_q18788 h_r4_q18788 => ?_)
  obtain ⟨-⟩ := h_r4_q18788
  refine wq_eq (fun hc_18789 => ?_) (fun hc_18790 => ?_)
  · have b_18791 := i32b r4_q18788
    exact wq_s trivial
  · have b_18792 := i32b r4_q18788
    have l_m1 := il_m1
    refine wq_eq (fun hc_18793 => ?_) (fun hc_18794 => ?_)
    · exact wq_s trivial
    · have l_8 := il_8
      refine wq_b (tt_fX1_degreeOf hN (wb_sh I0 13) (wb_sh M0 13) r1_q18782 (8 : Int32) ⟨by omega, by omega⟩ ⟨by omega, by omega⟩ (KX11.s_X1_13_13 k_I0)) (fun r5_q18795 h_r5_q18795 => ?_)
      obtain ⟨h_r5_q18795_0, h_r5_q18795_1, -⟩ := h_r5_q18795
      refine wq_eq (fun hc_18796 => ?_) (fun hc_18797 => ?_)
      · exact wq_s trivial
      · refine wq_b (tt_fX4_costBeside hN (wb_sh I0 10) (wb_sh M0 6) r5_q18795 r4_q18788 ⟨by omega, by omega⟩) (fun r6_q18798 h_r6_q18798 => ?_)
        obtain ⟨h_r6_q18798_0, -⟩ := h_r6_q18798
        exact wq_s trivial
set_option maxHeartbeats 4000000 in
theorem tt_fX11_price {N : Nat} (hN : 3000000000 ≤ N) (I0 : Nat → Int32) (M0 : Nat → Nat → Int32) (x1 : Int32) (x2 : Int32) (k_I0 : KX11 I0 M0) : wq (fX11_price N I0 M0 x1 x2) (qS 1 (fun r => True)) := by
  unfold fX11_price
  have b_18877 := i32b x1
  refine wq_b (tt_fX11_isBook hN x1) (fun r3_q18878 h_r3_q18878 => ?_)
  obtain ⟨h_r3_q18878_0, h_r3_q18878_1, -⟩ := h_r3_q18878
  have l_0 := il_0
  refine wq_eq (fun hc_18879 => ?_) (fun hc_18880 => ?_)
  · unfold fX11_price_J18
    unfold fX11_price_J19
    exact wq_xb (tt_fX11_need0 N) (by decide) (fun _ h => absurd h id)
  · have b_18882 := i32b x2
    refine wq_b (tt_fX11_isBook hN x2) (fun r4_q18883 h_r4_q18883 => ?_)
    obtain ⟨h_r4_q18883_0, h_r4_q18883_1, -⟩ := h_r4_q18883
    refine wq_eq (fun hc_18884 => ?_) (fun hc_18885 => ?_)
    · unfold fX11_price_J18
      unfold fX11_price_J19
      exact wq_xb (tt_fX11_need0 N) (by decide) (fun _ h => absurd h id)
    · unfold fX11_price_J19
      have l_1 := il_1
      refine wq_xb (tt_fX11_need hN (1 : Int32)) (by decide) (fun r1_q18887 h_r1_q18887 => ?_)
      obtain ⟨h_r1_q18887_0, -⟩ := h_r1_q18887
      refine wq_ok ?_
      refine wq_b (tt_fX10_priceOf hN (wb_sh I0 10) (wb_sh M0 6) (wb_sh I0 13) (wb_sh M0 13) x1 x2 ⟨by omega, by omega⟩ ⟨by omega, by omega⟩ (KX11.s_X1_13_13 k_I0)) (fun r2_q18888 h_r2_q18888 => ?_)
      obtain ⟨-⟩ := h_r2_q18888
      have b_18889 := i32b r2_q18888
      exact wq_s trivial
set_option maxHeartbeats 4000000 in
theorem tt_fX11_seek {N : Nat} (hN : 3000000000 ≤ N) (I0 : Nat → Int32) (M0 : Nat → Nat → Int32) (x1 : Int32) (x2 : Int32) (x3 : Int32) (x4 : Int32) (k_I0 : KX11 I0 M0) : wq (fX11_seek N I0 M0 x1 x2 x3 x4) (qS 1 (fun r => KX11 r.1 r.2 ∧ True)) := by
  unfold fX11_seek
  have b_18976 := i32b x1
  have b_18977 := i32b x2
  refine wq_xb (tt_fX11_numberOf hN x1 x2) (by decide) (fun r5_q18975 h_r5_q18975 => ?_)
  obtain ⟨h_r5_q18975_0, h_r5_q18975_1, -⟩ := h_r5_q18975
  have b_18978 := i32b x3
  have l_0 := il_0
  have l_3 := il_3
  refine wq_b (tt_fX11_within hN x3 (0 : Int32) (3 : Int32)) (fun r6_q18979 h_r6_q18979 => ?_)
  obtain ⟨h_r6_q18979_0, h_r6_q18979_1, -⟩ := h_r6_q18979
  refine wq_eq (fun hc_18980 => ?_) (fun hc_18981 => ?_)
  · unfold fX11_seek_J28
    unfold fX11_seek_J29
    exact wq_xb (tt_fX11_need0 N) (by decide) (fun _ h => absurd h id)
  · have b_18983 := i32b x4
    refine wq_b (tt_fX11_isDay hN x4) (fun r7_q18984 h_r7_q18984 => ?_)
    obtain ⟨h_r7_q18984_0, h_r7_q18984_1, -⟩ := h_r7_q18984
    refine wq_eq (fun hc_18985 => ?_) (fun hc_18986 => ?_)
    · unfold fX11_seek_J28
      unfold fX11_seek_J29
      exact wq_xb (tt_fX11_need0 N) (by decide) (fun _ h => absurd h id)
    · unfold fX11_seek_J29
      have l_1 := il_1
      refine wq_xb (tt_fX11_need hN (1 : Int32)) (by decide) (fun r1_q18988 h_r1_q18988 => ?_)
      obtain ⟨h_r1_q18988_0, -⟩ := h_r1_q18988
      refine wq_ok ?_
      refine wq_b (tt_fX8_begin hN (wb_sh I0 27) (wb_sh M0 18) r5_q18975 x3 x4 ⟨by omega, by omega⟩ ⟨by omega, by omega⟩ ⟨by omega, by omega⟩ (KX11.s_X8_27_18 k_I0)) (fun r2_q18989 h_r2_q18989 => ?_)
      obtain ⟨h_r2_q18989_0, -⟩ := h_r2_q18989
      refine wq_v (fun I0_3_q18990 h_I0_3_q18990 => ?_)
      refine wq_v (fun M0_4_q18991 h_M0_4_q18991 => ?_)
      have k_M0_4_q18991 : KX11 I0_3_q18990 M0_4_q18991 := by rw [h_I0_3_q18990, h_M0_4_q18991]; exact KX11.p_X8_27_18 k_I0 h_r2_q18989_0
      exact wq_s ⟨k_M0_4_q18991, trivial⟩
set_option maxHeartbeats 4000000 in
theorem tt_fX11_on {N : Nat} (hN : 3000000000 ≤ N) (I0 : Nat → Int32) (M0 : Nat → Nat → Int32) (x1 : Int32) (k_I0 : KX11 I0 M0) : wq (fX11_on N I0 M0 x1) (qS 3 (fun r => KX11 r.2.1 r.2.2 ∧ True)) := by
  unfold fX11_on
  have t_19047 := KX11.i27 k_I0
  refine wq_xb (tt_fX11_need hN (I0 27)) (by decide) (fun r1_q19046 h_r1_q19046 => ?_)
  obtain ⟨h_r1_q19046_0, -⟩ := h_r1_q19046
  have b_19048 := i32b x1
  have l_0 := il_0
  have l_50000 := il_50000
  refine wq_b (tt_fX11_within hN x1 (0 : Int32) (50000 : Int32)) (fun r2_q19049 h_r2_q19049 => ?_)
  obtain ⟨h_r2_q19049_0, h_r2_q19049_1, -⟩ := h_r2_q19049
  refine wq_xb (tt_fX11_allow hN r2_q19049) (by decide) (fun r3_q19050 h_r3_q19050 => ?_)
  obtain ⟨h_r3_q19050_0, -⟩ := h_r3_q19050
  refine wq_ok ?_
  refine wq_b (tt_fX8_goOn hN (wb_sh I0 27) (wb_sh M0 18) (wb_sh I0 9) (wb_sh M0 1) (wb_sh I0 13) (wb_sh M0 13) x1 (KX11.s_X8_27_18 k_I0) (KX11.s_X5_9_1 k_I0) (KX11.s_X1_13_13 k_I0)) (fun r4_q19051 h_r4_q19051 => ?_)
  obtain ⟨h_r4_q19051_0, -⟩ := h_r4_q19051
  refine wq_v (fun I0_5_q19052 h_I0_5_q19052 => ?_)
  refine wq_v (fun M0_6_q19053 h_M0_6_q19053 => ?_)
  have k_M0_6_q19053 : KX11 I0_5_q19052 M0_6_q19053 := by rw [h_I0_5_q19052, h_M0_6_q19053]; exact KX11.p_X8_27_18 k_I0 h_r4_q19051_0
  have b_19054 := i32b r4_q19051.1
  exact wq_s ⟨k_M0_6_q19053, trivial⟩
set_option maxHeartbeats 4000000 in
theorem tt_fX11_held {N : Nat} (hN : 3000000000 ≤ N) (I0 : Nat → Int32) (M0 : Nat → Nat → Int32) (x1 : Int32) (k_I0 : KX11 I0 M0) : wq (fX11_held N I0 M0 x1) (qS 1 (fun r => True)) := by
  unfold fX11_held
  have t_19325 := KX11.i27 k_I0
  have l_0 := il_0
  refine wq_eq (fun hc_19326 => ?_) (fun hc_19327 => ?_)
  · unfold fX11_held_J23
    unfold fX11_held_J24
    exact wq_xb (tt_fX11_need0 N) (by decide) (fun _ h => absurd h id)
  · have b_19329 := i32b x1
    have l_4 := il_4
    refine wq_b (tt_fX11_within hN x1 (0 : Int32) (4 : Int32)) (fun r3_q19330 h_r3_q19330 => ?_)
    obtain ⟨h_r3_q19330_0, h_r3_q19330_1, -⟩ := h_r3_q19330
    refine wq_eq (fun hc_19331 => ?_) (fun hc_19332 => ?_)
    · unfold fX11_held_J23
      unfold fX11_held_J24
      exact wq_xb (tt_fX11_need0 N) (by decide) (fun _ h => absurd h id)
    · unfold fX11_held_J24
      have l_1 := il_1
      refine wq_xb (tt_fX11_need hN (1 : Int32)) (by decide) (fun r2_q19334 h_r2_q19334 => ?_)
      obtain ⟨h_r2_q19334_0, -⟩ := h_r2_q19334
      refine wq_ok ?_
      have t_19335 := KX11.i32 k_I0
      refine wq_eq (fun hc_19336 => ?_) (fun hc_19337 => ?_)
      · unfold fX11_held_J42
        refine wq_eq (fun hc_19338 => ?_) (fun hc_19339 => ?_)
        · have t_19340 := KX11.i30 k_I0
          exact wq_s trivial
        · refine wq_eq (fun hc_19341 => ?_) (fun hc_19342 => ?_)
          · refine wq_eq (fun hc_19343 => ?_) (fun hc_19344 => ?_)
            · exfalso; omega
            · have l_m1 := il_m1
              exact wq_s trivial
          · have l_2 := il_2
            refine wq_eq (fun hc_19345 => ?_) (fun hc_19346 => ?_)
            · exact wq_s trivial
            · have l_3 := il_3
              refine wq_eq (fun hc_19347 => ?_) (fun hc_19348 => ?_)
              · refine wq_eq (fun hc_19349 => ?_) (fun hc_19350 => ?_)
                · exfalso; omega
                · have l_m1 := il_m1
                  exact wq_s trivial
              · refine wq_eq (fun hc_19351 => ?_) (fun hc_19352 => ?_)
                · exfalso; omega
                · have l_m1 := il_m1
                  exact wq_s trivial
      · unfold fX11_held_J42
        refine wq_eq (fun hc_19353 => ?_) (fun hc_19354 => ?_)
        · have t_19355 := KX11.i30 k_I0
          exact wq_s trivial
        · refine wq_eq (fun hc_19356 => ?_) (fun hc_19357 => ?_)
          · refine wq_eq (fun hc_19358 => ?_) (fun hc_19359 => ?_)
            · exact wq_s trivial
            · exfalso; omega
          · have l_2 := il_2
            refine wq_eq (fun hc_19360 => ?_) (fun hc_19361 => ?_)
            · exact wq_s trivial
            · have l_3 := il_3
              refine wq_eq (fun hc_19362 => ?_) (fun hc_19363 => ?_)
              · refine wq_eq (fun hc_19364 => ?_) (fun hc_19365 => ?_)
                · refine wq_b (tt_fX8_keptDay hN (wb_sh I0 27) (wb_sh M0 18) (0 : Int32) (KX11.s_X8_27_18 k_I0)) (fun r1_q19366 h_r1_q19366 => ?_)
                  obtain ⟨-⟩ := h_r1_q19366
                  have b_19367 := i32b r1_q19366
                  exact wq_s trivial
                · exfalso; omega
              · refine wq_eq (fun hc_19368 => ?_) (fun hc_19369 => ?_)
                · exact wq_s trivial
                · exfalso; omega
set_option maxHeartbeats 4000000 in
theorem tt_fX11_image {N : Nat} (hN : 3000000000 ≤ N) (I0 : Nat → Int32) (M0 : Nat → Nat → Int32) (k_I0 : KX11 I0 M0) : wq (fX11_image N I0 M0) (fun r => (0 ≤ r.1.toInt ∧ r.1.toInt ≤ 1) ∧ KX11 r.2.1 r.2.2 ∧ True) := by
  unfold fX11_image
  have t_19406 := KX11.i27 k_I0
  have l_0 := il_0
  refine wq_eq (fun hc_19407 => ?_) (fun hc_19408 => ?_)
  · exact wq_s ⟨(show 0 ≤ (0 : Int32).toInt ∧ (0 : Int32).toInt ≤ 1 from ⟨by omega, by omega⟩), k_I0, trivial⟩
  · refine wq_b (tt_fX8_copyFrom hN (wb_sh I0 34) (wb_sh M0 19) (wb_sh I0 27) (wb_sh M0 18) (KX11.s_X8_34_19 k_I0) (KX11.s_X8_27_18 k_I0)) (fun r1_q19409 h_r1_q19409 => ?_)
    obtain ⟨h_r1_q19409_0, -⟩ := h_r1_q19409
    refine wq_v (fun I0_2_q19410 h_I0_2_q19410 => ?_)
    refine wq_v (fun M0_3_q19411 h_M0_3_q19411 => ?_)
    have k_M0_3_q19411 : KX11 I0_2_q19410 M0_3_q19411 := by rw [h_I0_2_q19410, h_M0_3_q19411]; exact KX11.p_X8_34_19 k_I0 h_r1_q19409_0
    have l_1 := il_1
    exact wq_s ⟨(show 0 ≤ (1 : Int32).toInt ∧ (1 : Int32).toInt ≤ 1 from ⟨by omega, by omega⟩), k_M0_3_q19411, trivial⟩
set_option maxHeartbeats 4000000 in
theorem tt_fX11_restore {N : Nat} (hN : 3000000000 ≤ N) (I0 : Nat → Int32) (M0 : Nat → Nat → Int32) (k_I0 : KX11 I0 M0) : wq (fX11_restore N I0 M0) (fun r => (0 ≤ r.1.toInt ∧ r.1.toInt ≤ 1) ∧ KX11 r.2.1 r.2.2 ∧ True) := by
  unfold fX11_restore
  have t_19448 := KX11.i34 k_I0
  have l_0 := il_0
  refine wq_eq (fun hc_19449 => ?_) (fun hc_19450 => ?_)
  · exact wq_s ⟨(show 0 ≤ (0 : Int32).toInt ∧ (0 : Int32).toInt ≤ 1 from ⟨by omega, by omega⟩), k_I0, trivial⟩
  · refine wq_b (tt_fX8_copyFrom hN (wb_sh I0 27) (wb_sh M0 18) (wb_sh I0 34) (wb_sh M0 19) (KX11.s_X8_27_18 k_I0) (KX11.s_X8_34_19 k_I0)) (fun r1_q19451 h_r1_q19451 => ?_)
    obtain ⟨h_r1_q19451_0, -⟩ := h_r1_q19451
    refine wq_v (fun I0_2_q19452 h_I0_2_q19452 => ?_)
    refine wq_v (fun M0_3_q19453 h_M0_3_q19453 => ?_)
    have k_M0_3_q19453 : KX11 I0_2_q19452 M0_3_q19453 := by rw [h_I0_2_q19452, h_M0_3_q19453]; exact KX11.p_X8_27_18 k_I0 h_r1_q19451_0
    have l_1 := il_1
    exact wq_s ⟨(show 0 ≤ (1 : Int32).toInt ∧ (1 : Int32).toInt ≤ 1 from ⟨by omega, by omega⟩), k_M0_3_q19453, trivial⟩
set_option maxHeartbeats 4000000 in
theorem tt_fX11_misread {N : Nat} (hN : 3000000000 ≤ N) (I0 : Nat → Int32) (M0 : Nat → Nat → Int32) (x1 : Int32) (x2 : Int32) (x3 : Int32) (x4 : Int32) (x5 : Int32) (k_I0 : KX11 I0 M0) : wq (fX11_misread N I0 M0 x1 x2 x3 x4 x5) (qS 1 (fun r => (-1 ≤ r.toInt ∧ r.toInt ≤ 9) ∧ True)) := by
  unfold fX11_misread
  have b_19599 := i32b x1
  have b_19600 := i32b x2
  refine wq_xb (tt_fX11_numberOf hN x1 x2) (by decide) (fun r5_q19598 h_r5_q19598 => ?_)
  obtain ⟨h_r5_q19598_0, h_r5_q19598_1, -⟩ := h_r5_q19598
  have b_19601 := i32b x3
  have l_0 := il_0
  have l_3 := il_3
  refine wq_b (tt_fX11_within hN x3 (0 : Int32) (3 : Int32)) (fun r6_q19602 h_r6_q19602 => ?_)
  obtain ⟨h_r6_q19602_0, h_r6_q19602_1, -⟩ := h_r6_q19602
  refine wq_eq (fun hc_19603 => ?_) (fun hc_19604 => ?_)
  · unfold fX11_misread_J39
    unfold fX11_misread_J40
    exact wq_xb (tt_fX11_need0 N) (by decide) (fun _ h => absurd h id)
  · have b_19606 := i32b x4
    refine wq_b (tt_fX11_isDay hN x4) (fun r7_q19607 h_r7_q19607 => ?_)
    obtain ⟨h_r7_q19607_0, h_r7_q19607_1, -⟩ := h_r7_q19607
    refine wq_eq (fun hc_19608 => ?_) (fun hc_19609 => ?_)
    · unfold fX11_misread_J39
      unfold fX11_misread_J40
      exact wq_xb (tt_fX11_need0 N) (by decide) (fun _ h => absurd h id)
    · have b_19611 := i32b x5
      have l_6 := il_6
      refine wq_b (tt_fX11_within hN x5 (0 : Int32) (6 : Int32)) (fun r8_q19612 h_r8_q19612 => ?_)
      obtain ⟨h_r8_q19612_0, h_r8_q19612_1, -⟩ := h_r8_q19612
      refine wq_eq (fun hc_19613 => ?_) (fun hc_19614 => ?_)
      · unfold fX11_misread_J39
        unfold fX11_misread_J40
        exact wq_xb (tt_fX11_need0 N) (by decide) (fun _ h => absurd h id)
      · unfold fX11_misread_J40
        have l_1 := il_1
        refine wq_xb (tt_fX11_need hN (1 : Int32)) (by decide) (fun r1_q19616 h_r1_q19616 => ?_)
        obtain ⟨h_r1_q19616_0, -⟩ := h_r1_q19616
        refine wq_ok ?_
        refine wq_b (tt_fX1_degreeOf hN (wb_sh I0 13) (wb_sh M0 13) r5_q19598 x5 ⟨by omega, by omega⟩ ⟨by omega, by omega⟩ (KX11.s_X1_13_13 k_I0)) (fun r2_q19617 h_r2_q19617 => ?_)
        obtain ⟨h_r2_q19617_0, h_r2_q19617_1, -⟩ := h_r2_q19617
        have l_m1 := il_m1
        refine wq_eq (fun hc_19618 => ?_) (fun hc_19619 => ?_)
        · exact wq_s ⟨(show -1 ≤ (-1 : Int32).toInt ∧ (-1 : Int32).toInt ≤ 9 from ⟨by omega, by omega⟩), trivial⟩
        · refine wq_b (tt_fX5_degreeOn hN (wb_sh I0 9) (wb_sh M0 1) x3 x5 x4 ⟨by omega, by omega⟩ ⟨by omega, by omega⟩ (KX11.s_X5_9_1 k_I0)) (fun r3_q19620 h_r3_q19620 => ?_)
          obtain ⟨h_r3_q19620_0, -⟩ := h_r3_q19620
          refine wq_b (tt_fX4_misreading hN (wb_sh I0 10) (wb_sh M0 6) r2_q19617 r3_q19620 ⟨by omega, by omega⟩) (fun r4_q19621 h_r4_q19621 => ?_)
          obtain ⟨h_r4_q19621_0, -⟩ := h_r4_q19621
          exact wq_s ⟨(show -1 ≤ r4_q19621.toInt ∧ r4_q19621.toInt ≤ 9 from ⟨by omega, by omega⟩), trivial⟩
set_option maxHeartbeats 4000000 in
theorem tt_fX11_errors {N : Nat} (hN : 3000000000 ≤ N) (I0 : Nat → Int32) (M0 : Nat → Nat → Int32) (x1 : Int32) (x2 : Int32) (x3 : Int32) (x4 : Int32) (k_I0 : KX11 I0 M0) : wq (fX11_errors N I0 M0 x1 x2 x3 x4) (qS 1 (fun r => KX11 r.2.1 r.2.2 ∧ True)) := by
  unfold fX11_errors
  have b_19851 := i32b x1
  have b_19852 := i32b x2
  refine wq_xb (tt_fX11_numberOf hN x1 x2) (by decide) (fun r11_q19850 h_r11_q19850 => ?_)
  obtain ⟨h_r11_q19850_0, h_r11_q19850_1, -⟩ := h_r11_q19850
  have b_19853 := i32b x3
  refine wq_b (tt_fX11_isDay hN x3) (fun r12_q19854 h_r12_q19854 => ?_)
  obtain ⟨h_r12_q19854_0, h_r12_q19854_1, -⟩ := h_r12_q19854
  have l_0 := il_0
  refine wq_eq (fun hc_19855 => ?_) (fun hc_19856 => ?_)
  · unfold fX11_errors_J29
    unfold fX11_errors_J30
    exact wq_xb (tt_fX11_need0 N) (by decide) (fun _ h => absurd h id)
  · have b_19858 := i32b x4
    have l_10 := il_10
    refine wq_b (tt_fX11_within hN x4 (0 : Int32) (10 : Int32)) (fun r13_q19859 h_r13_q19859 => ?_)
    obtain ⟨h_r13_q19859_0, h_r13_q19859_1, -⟩ := h_r13_q19859
    refine wq_eq (fun hc_19860 => ?_) (fun hc_19861 => ?_)
    · unfold fX11_errors_J29
      unfold fX11_errors_J30
      exact wq_xb (tt_fX11_need0 N) (by decide) (fun _ h => absurd h id)
    · unfold fX11_errors_J30
      have l_1 := il_1
      refine wq_xb (tt_fX11_need hN (1 : Int32)) (by decide) (fun r1_q19863 h_r1_q19863 => ?_)
      obtain ⟨h_r1_q19863_0, -⟩ := h_r1_q19863
      refine wq_ok ?_
      refine wq_b (tt_fX3_setSharers hN (wb_sh I0 13) (wb_sh M0 15) (wb_sh I0 9) (wb_sh M0 1) (wb_sh I0 13) (wb_sh M0 13) r11_q19850 x3 ⟨by omega, by omega⟩ (KX11.s_X5_9_1 k_I0) (KX11.s_X1_13_13 k_I0)) (fun r2_q19864 h_r2_q19864 => ?_)
      obtain ⟨-⟩ := h_r2_q19864
      refine wq_v (fun I0_3_q19865 h_I0_3_q19865 => ?_)
      refine wq_v (fun M0_4_q19866 h_M0_4_q19866 => ?_)
      have k_M0_4_q19866 : KX11 I0_3_q19865 M0_4_q19866 := by rw [h_I0_3_q19865, h_M0_4_q19866]; exact KX11.p_X3_13_15 k_I0
      refine wq_eq (fun hc_19867 => ?_) (fun hc_19868 => ?_)
      · refine wq_b (tt_fX3_howManyErrors hN (wb_sh I0_3_q19865 13) (wb_sh M0_4_q19866 15)) (fun r10_q19869 h_r10_q19869 => ?_)
        obtain ⟨-⟩ := h_r10_q19869
        have b_19870 := i32b r10_q19869
        exact wq_s ⟨k_M0_4_q19866, trivial⟩
      · refine wq_eq (fun hc_19871 => ?_) (fun hc_19872 => ?_)
        · refine wq_b (tt_fX3_setFollowed hN (wb_sh I0_3_q19865 13) (wb_sh M0_4_q19866 15)) (fun r9b_q19873 h_r9b_q19873 => ?_)
          obtain ⟨h_r9b_q19873_0, -⟩ := h_r9b_q19873
          exact wq_s ⟨k_M0_4_q19866, trivial⟩
        · have l_2 := il_2
          have t_19875 := ia_sub x4 (2 : Int32) (by omega) (by omega)
          have l_3 := il_3
          have t_19876 := ia_rem (x4 - (2 : Int32)) (3 : Int32) 3 il_3 (by decide) (by omega)
          have t_19877 := ia_add ((x4 - (2 : Int32)) - (((x4 - (2 : Int32)) / (3 : Int32)) * (3 : Int32))) (1 : Int32) (by omega) (by omega)
          refine wq_v (fun v5_q19874 h_v5_q19874 => ?_)
          have t_v5_q19874 := congrArg Int32.toInt h_v5_q19874
          have l_5 := il_5
          refine wq_le (fun hc_19878 => ?_) (fun hc_19879 => ?_)
          · have l_8 := il_8
            refine wq_le (fun hc_19880 => ?_) (fun hc_19881 => ?_)
            · refine wq_b (tt_fX3_weightOf hN (wb_sh I0_3_q19865 13) (wb_sh M0_4_q19866 15) v5_q19874) (fun r6_q19882 h_r6_q19882 => ?_)
              obtain ⟨-⟩ := h_r6_q19882
              have b_19883 := i32b r6_q19882
              exact wq_s ⟨k_M0_4_q19866, trivial⟩
            · refine wq_b (tt_fX3_howManyAlone hN (wb_sh I0_3_q19865 13) (wb_sh M0_4_q19866 15) v5_q19874) (fun r7_q19884 h_r7_q19884 => ?_)
              obtain ⟨-⟩ := h_r7_q19884
              have b_19885 := i32b r7_q19884
              exact wq_s ⟨k_M0_4_q19866, trivial⟩
          · refine wq_b (tt_fX3_howManyShared hN (wb_sh I0_3_q19865 13) (wb_sh M0_4_q19866 15) v5_q19874) (fun r8_q19886 h_r8_q19886 => ?_)
            obtain ⟨-⟩ := h_r8_q19886
            have b_19887 := i32b r8_q19886
            exact wq_s ⟨k_M0_4_q19866, trivial⟩
set_option maxHeartbeats 4000000 in
theorem tt_fX11_climatesThatCanBe_L27 {N : Nat} (hN : 3000000000 ≤ N) (I0 : Nat → Int32) (M0 : Nat → Nat → Int32) (x1 : Int32) (r1 : Int32) (r2 : Int32) (h_x1 : 0 ≤ x1.toInt ∧ x1.toInt ≤ 119) (h_r1 : -1 ≤ r1.toInt ∧ r1.toInt ≤ 359) (h_r2 : -1 ≤ r2.toInt ∧ r2.toInt ≤ 359) (k_I0 : KX11 I0 M0)  : ∀ (fu : Nat) (y27_4 : Int32) (y27_5 : Int32), (0 ≤ y27_4.toInt ∧ y27_4.toInt ≤ 255) → (0 ≤ y27_5.toInt ∧ y27_5.toInt ≤ 7) → (7 - y27_5.toInt) < (fu : Int) → wq (fX11_climatesThatCanBe_L27 N I0 M0 x1 r1 r2 fu y27_4 y27_5) (fun r => (0 ≤ r.toInt ∧ r.toInt ≤ 255) ∧ True) := by
  intro fu
  induction fu with
  | zero => intro y27_4 y27_5 h_y27_4 h_y27_5 hm; exfalso; omega
  | succ fu ih =>
    intro y27_4 y27_5 h_y27_4 h_y27_5 hm
    rw [fX11_climatesThatCanBe_L27.eq_2]
    have t_20128 := KX11.i9 k_I0
    refine wq_le (fun hc_20129 => ?_) (fun hc_20130 => ?_)
    · exact wq_s ⟨(show 0 ≤ y27_4.toInt ∧ y27_4.toInt ≤ 255 from ⟨by omega, by omega⟩), trivial⟩
    · have l_2 := il_2
      refine wq_b (tt_fX1_howManyDiffer hN (wb_sh I0 13) (wb_sh M0 13) (wb_sh I0 9) (wb_sh M0 5) x1 (2 : Int32) y27_5 ⟨by omega, by omega⟩ (KX11.s_X1_13_13 k_I0) (KX11.s_X2_9_5 k_I0) (by omega)) (fun r8_q20131 h_r8_q20131 => ?_)
      obtain ⟨-⟩ := h_r8_q20131
      have b_20132 := i32b r8_q20131
      have l_0 := il_0
      refine wq_eq (fun hc_20133 => ?_) (fun hc_20134 => ?_)
      · unfold fX11_climatesThatCanBe_J68
        have l_1 := il_1
        refine wq_eq (fun hc_20135 => ?_) (fun hc_20136 => ?_)
        · exfalso; omega
        · refine wq_b (tt_fX2_hasHour hN (wb_sh I0 9) (wb_sh M0 5) y27_5 r1 r2 ⟨by omega, by omega⟩ ⟨by omega, by omega⟩ (KX11.s_X2_9_5 k_I0)) (fun r4_q20137 h_r4_q20137 => ?_)
          obtain ⟨h_r4_q20137_0, -⟩ := h_r4_q20137
          refine wq_eq (fun hc_20138 => ?_) (fun hc_20139 => ?_)
          · have t_20141 := ia_add y27_5 (1 : Int32) (by omega) (by omega)
            refine wq_v (fun v5_q20140 h_v5_q20140 => ?_)
            have t_v5_q20140 := congrArg Int32.toInt h_v5_q20140
            exact ih y27_4 v5_q20140 ⟨by omega, by omega⟩ ⟨by omega, by omega⟩ (by omega)
          · have t_20143 := or_sh y27_4 y27_5 ⟨by omega, by omega⟩ ⟨by omega, by omega⟩
            refine wq_v (fun v6_q20142 h_v6_q20142 => ?_)
            have t_v6_q20142 := congrArg Int32.toInt h_v6_q20142
            have t_20145 := ia_add y27_5 (1 : Int32) (by omega) (by omega)
            refine wq_v (fun v7_q20144 h_v7_q20144 => ?_)
            have t_v7_q20144 := congrArg Int32.toInt h_v7_q20144
            exact ih v6_q20142 v7_q20144 ⟨by omega, by omega⟩ ⟨by omega, by omega⟩ (by omega)
      · unfold fX11_climatesThatCanBe_J68
        refine wq_eq (fun hc_20146 => ?_) (fun hc_20147 => ?_)
        · have l_1 := il_1
          have t_20149 := ia_add y27_5 (1 : Int32) (by omega) (by omega)
          refine wq_v (fun v3_q20148 h_v3_q20148 => ?_)
          have t_v3_q20148 := congrArg Int32.toInt h_v3_q20148
          exact ih y27_4 v3_q20148 ⟨by omega, by omega⟩ ⟨by omega, by omega⟩ (by omega)
        · exfalso; omega
set_option maxHeartbeats 4000000 in
theorem tt_fX11_climatesThatCanBe {N : Nat} (hN : 3000000000 ≤ N) (I0 : Nat → Int32) (M0 : Nat → Nat → Int32) (x1 : Int32) (h_x1 : 0 ≤ x1.toInt ∧ x1.toInt ≤ 119) (k_I0 : KX11 I0 M0) : wq (fX11_climatesThatCanBe N I0 M0 x1) (fun r => (0 ≤ r.toInt ∧ r.toInt ≤ 255) ∧ True) := by
  unfold fX11_climatesThatCanBe
  have l_0 := il_0
  refine wq_b (tt_fX1_degreeOf hN (wb_sh I0 13) (wb_sh M0 13) x1 (0 : Int32) ⟨by omega, by omega⟩ ⟨by omega, by omega⟩ (KX11.s_X1_13_13 k_I0)) (fun r1_q20150 h_r1_q20150 => ?_)
  obtain ⟨h_r1_q20150_0, h_r1_q20150_1, -⟩ := h_r1_q20150
  have l_7 := il_7
  refine wq_b (tt_fX1_degreeOf hN (wb_sh I0 13) (wb_sh M0 13) x1 (7 : Int32) ⟨by omega, by omega⟩ ⟨by omega, by omega⟩ (KX11.s_X1_13_13 k_I0)) (fun r2_q20151 h_r2_q20151 => ?_)
  obtain ⟨h_r2_q20151_0, h_r2_q20151_1, -⟩ := h_r2_q20151
  exact tt_fX11_climatesThatCanBe_L27 hN I0 M0 x1 r1_q20150 r2_q20151 ⟨by omega, by omega⟩ ⟨by omega, by omega⟩ ⟨by omega, by omega⟩ k_I0 N (0 : Int32) (0 : Int32) ⟨by omega, by omega⟩ ⟨by omega, by omega⟩ (by omega)
set_option maxHeartbeats 4000000 in
theorem tt_fX11_waysThatCanBe_L52 {N : Nat} (hN : 3000000000 ≤ N) (I0 : Nat → Int32) (M0 : Nat → Nat → Int32) (x1 : Int32) (h_x1 : 0 ≤ x1.toInt ∧ x1.toInt ≤ 119) (k_I0 : KX11 I0 M0)  : ∀ (fu : Nat) (y52_2 : Int32) (y52_3 : Int32), (0 ≤ y52_3.toInt ∧ y52_3.toInt ≤ 7) → (7 - y52_3.toInt) < (fu : Int) → wq (fX11_waysThatCanBe_L52 N I0 M0 x1 fu y52_2 y52_3) (fun r => True) := by
  intro fu
  induction fu with
  | zero => intro y52_2 y52_3 h_y52_3 hm; exfalso; omega
  | succ fu ih =>
    intro y52_2 y52_3 h_y52_3 hm
    rw [fX11_waysThatCanBe_L52.eq_2]
    have t_20515 := KX11.i9 k_I0
    refine wq_le (fun hc_20516 => ?_) (fun hc_20517 => ?_)
    · have b_20518 := i32b y52_2
      exact wq_s trivial
    · have l_2 := il_2
      refine wq_b (tt_fX1_howManyDiffer hN (wb_sh I0 13) (wb_sh M0 13) (wb_sh I0 9) (wb_sh M0 5) x1 (2 : Int32) y52_3 ⟨by omega, by omega⟩ (KX11.s_X1_13_13 k_I0) (KX11.s_X2_9_5 k_I0) (by omega)) (fun r1_q20519 h_r1_q20519 => ?_)
      obtain ⟨-⟩ := h_r1_q20519
      have b_20520 := i32b r1_q20519
      have l_0 := il_0
      refine wq_eq (fun hc_20521 => ?_) (fun hc_20522 => ?_)
      · refine wq_v (fun v3_q20523 h_v3_q20523 => ?_)
        have t_v3_q20523 := congrArg Int32.toInt h_v3_q20523
        have l_1 := il_1
        have t_20525 := ia_add y52_3 (1 : Int32) (by omega) (by omega)
        refine wq_v (fun v4_q20524 h_v4_q20524 => ?_)
        have t_v4_q20524 := congrArg Int32.toInt h_v4_q20524
        have b_20526 := i32b v3_q20523
        exact ih v3_q20523 v4_q20524 ⟨by omega, by omega⟩ (by omega)
      · have l_1 := il_1
        have t_20528 := ia_add y52_3 (1 : Int32) (by omega) (by omega)
        refine wq_v (fun v2_q20527 h_v2_q20527 => ?_)
        have t_v2_q20527 := congrArg Int32.toInt h_v2_q20527
        have b_20529 := i32b y52_2
        exact ih y52_2 v2_q20527 ⟨by omega, by omega⟩ (by omega)
set_option maxHeartbeats 4000000 in
theorem tt_fX11_waysThatCanBe {N : Nat} (hN : 3000000000 ≤ N) (I0 : Nat → Int32) (M0 : Nat → Nat → Int32) (x1 : Int32) (h_x1 : 0 ≤ x1.toInt ∧ x1.toInt ≤ 119) (k_I0 : KX11 I0 M0) : wq (fX11_waysThatCanBe N I0 M0 x1) (fun r => True) := by
  unfold fX11_waysThatCanBe
  have l_0 := il_0
  refine wq_b (tt_fX1_howManyDiffer hN (wb_sh I0 13) (wb_sh M0 13) (wb_sh I0 9) (wb_sh M0 5) x1 (0 : Int32) (0 : Int32) ⟨by omega, by omega⟩ (KX11.s_X1_13_13 k_I0) (KX11.s_X2_9_5 k_I0) (by omega)) (fun r7_q20530 h_r7_q20530 => ?_)
  obtain ⟨-⟩ := h_r7_q20530
  have b_20531 := i32b r7_q20530
  refine wq_eq (fun hc_20532 => ?_) (fun hc_20533 => ?_)
  · refine wq_v (fun v8_q20534 h_v8_q20534 => ?_)
    have t_v8_q20534 := congrArg Int32.toInt h_v8_q20534
    unfold fX11_waysThatCanBe_J26
    have l_1 := il_1
    refine wq_b (tt_fX1_howManyDiffer hN (wb_sh I0 13) (wb_sh M0 13) (wb_sh I0 9) (wb_sh M0 5) x1 (1 : Int32) (0 : Int32) ⟨by omega, by omega⟩ (KX11.s_X1_13_13 k_I0) (KX11.s_X2_9_5 k_I0) (by omega)) (fun r5_q20535 h_r5_q20535 => ?_)
    obtain ⟨-⟩ := h_r5_q20535
    have b_20536 := i32b r5_q20535
    refine wq_eq (fun hc_20537 => ?_) (fun hc_20538 => ?_)
    · refine wq_v (fun v6_q20539 h_v6_q20539 => ?_)
      have t_v6_q20539 := congrArg Int32.toInt h_v6_q20539
      unfold fX11_waysThatCanBe_J50
      have b_20540 := i32b v6_q20539
      exact tt_fX11_waysThatCanBe_L52 hN I0 M0 x1 ⟨by omega, by omega⟩ k_I0 N v6_q20539 (0 : Int32) ⟨by omega, by omega⟩ (by omega)
    · unfold fX11_waysThatCanBe_J50
      have b_20541 := i32b v8_q20534
      exact tt_fX11_waysThatCanBe_L52 hN I0 M0 x1 ⟨by omega, by omega⟩ k_I0 N v8_q20534 (0 : Int32) ⟨by omega, by omega⟩ (by omega)
  · unfold fX11_waysThatCanBe_J26
    have l_1 := il_1
    refine wq_b (tt_fX1_howManyDiffer hN (wb_sh I0 13) (wb_sh M0 13) (wb_sh I0 9) (wb_sh M0 5) x1 (1 : Int32) (0 : Int32) ⟨by omega, by omega⟩ (KX11.s_X1_13_13 k_I0) (KX11.s_X2_9_5 k_I0) (by omega)) (fun r5_q20542 h_r5_q20542 => ?_)
    obtain ⟨-⟩ := h_r5_q20542
    have b_20543 := i32b r5_q20542
    refine wq_eq (fun hc_20544 => ?_) (fun hc_20545 => ?_)
    · refine wq_v (fun v6_q20546 h_v6_q20546 => ?_)
      have t_v6_q20546 := congrArg Int32.toInt h_v6_q20546
      unfold fX11_waysThatCanBe_J50
      have b_20547 := i32b v6_q20546
      exact tt_fX11_waysThatCanBe_L52 hN I0 M0 x1 ⟨by omega, by omega⟩ k_I0 N v6_q20546 (0 : Int32) ⟨by omega, by omega⟩ (by omega)
    · unfold fX11_waysThatCanBe_J50
      exact tt_fX11_waysThatCanBe_L52 hN I0 M0 x1 ⟨by omega, by omega⟩ k_I0 N (0 : Int32) (0 : Int32) ⟨by omega, by omega⟩ (by omega)
set_option maxHeartbeats 4000000 in
theorem tt_fX11_possible {N : Nat} (hN : 3000000000 ≤ N) (I0 : Nat → Int32) (M0 : Nat → Nat → Int32) (x1 : Int32) (x2 : Int32) (x3 : Int32) (k_I0 : KX11 I0 M0) : wq (fX11_possible N I0 M0 x1 x2 x3) (qS 1 (fun r => True)) := by
  unfold fX11_possible
  have b_20651 := i32b x1
  have b_20652 := i32b x2
  refine wq_xb (tt_fX11_numberOf hN x1 x2) (by decide) (fun r1_q20650 h_r1_q20650 => ?_)
  obtain ⟨h_r1_q20650_0, h_r1_q20650_1, -⟩ := h_r1_q20650
  have b_20653 := i32b x3
  have l_0 := il_0
  have l_1 := il_1
  refine wq_b (tt_fX11_within hN x3 (0 : Int32) (1 : Int32)) (fun r2_q20654 h_r2_q20654 => ?_)
  obtain ⟨h_r2_q20654_0, h_r2_q20654_1, -⟩ := h_r2_q20654
  refine wq_xb (tt_fX11_need hN r2_q20654) (by decide) (fun r3_q20655 h_r3_q20655 => ?_)
  obtain ⟨h_r3_q20655_0, -⟩ := h_r3_q20655
  refine wq_ok ?_
  have l_7 := il_7
  refine wq_b (tt_fX1_degreeOf hN (wb_sh I0 13) (wb_sh M0 13) r1_q20650 (7 : Int32) ⟨by omega, by omega⟩ ⟨by omega, by omega⟩ (KX11.s_X1_13_13 k_I0)) (fun r4_q20656 h_r4_q20656 => ?_)
  obtain ⟨h_r4_q20656_0, h_r4_q20656_1, -⟩ := h_r4_q20656
  have l_m1 := il_m1
  refine wq_eq (fun hc_20657 => ?_) (fun hc_20658 => ?_)
  · exact wq_s trivial
  · refine wq_eq (fun hc_20659 => ?_) (fun hc_20660 => ?_)
    · refine wq_b (tt_fX11_waysThatCanBe hN I0 M0 r1_q20650 ⟨by omega, by omega⟩ k_I0) (fun r7_q20661 h_r7_q20661 => ?_)
      obtain ⟨-⟩ := h_r7_q20661
      have b_20662 := i32b r7_q20661
      exact wq_s trivial
    · refine wq_b (tt_fX1_degreeOf hN (wb_sh I0 13) (wb_sh M0 13) r1_q20650 (0 : Int32) ⟨by omega, by omega⟩ ⟨by omega, by omega⟩ (KX11.s_X1_13_13 k_I0)) (fun r5_q20663 h_r5_q20663 => ?_)
      obtain ⟨h_r5_q20663_0, h_r5_q20663_1, -⟩ := h_r5_q20663
      refine wq_eq (fun hc_20664 => ?_) (fun hc_20665 => ?_)
      · exact wq_s trivial
      · refine wq_b (tt_fX11_climatesThatCanBe hN I0 M0 r1_q20650 ⟨by omega, by omega⟩ k_I0) (fun r6_q20666 h_r6_q20666 => ?_)
        obtain ⟨h_r6_q20666_0, -⟩ := h_r6_q20666
        exact wq_s trivial
set_option maxHeartbeats 4000000 in
theorem tt_fX11_slips {N : Nat} (hN : 3000000000 ≤ N) (I0 : Nat → Int32) (M0 : Nat → Nat → Int32) (x1 : Int32) (x2 : Int32) (k_I0 : KX11 I0 M0) : wq (fX11_slips N I0 M0 x1 x2) (qS 1 (fun r => True)) := by
  unfold fX11_slips
  have b_20769 := i32b x1
  have l_0 := il_0
  have l_29 := il_29
  refine wq_b (tt_fX11_within hN x1 (0 : Int32) (29 : Int32)) (fun r3_q20770 h_r3_q20770 => ?_)
  obtain ⟨h_r3_q20770_0, h_r3_q20770_1, -⟩ := h_r3_q20770
  refine wq_eq (fun hc_20771 => ?_) (fun hc_20772 => ?_)
  · unfold fX11_slips_J34
    unfold fX11_slips_J35
    exact wq_xb (tt_fX11_need0 N) (by decide) (fun _ h => absurd h id)
  · have b_20774 := i32b x2
    refine wq_b (tt_fX11_within hN x2 (0 : Int32) (29 : Int32)) (fun r4_q20775 h_r4_q20775 => ?_)
    obtain ⟨h_r4_q20775_0, h_r4_q20775_1, -⟩ := h_r4_q20775
    refine wq_eq (fun hc_20776 => ?_) (fun hc_20777 => ?_)
    · unfold fX11_slips_J34
      unfold fX11_slips_J35
      exact wq_xb (tt_fX11_need0 N) (by decide) (fun _ h => absurd h id)
    · have t_20779 := KX11.i42 k_I0
      refine wq_eq (fun hc_20780 => ?_) (fun hc_20781 => ?_)
      · unfold fX11_slips_J34
        unfold fX11_slips_J35
        exact wq_xb (tt_fX11_need0 N) (by decide) (fun _ h => absurd h id)
      · unfold fX11_slips_J35
        have l_1 := il_1
        refine wq_xb (tt_fX11_need hN (1 : Int32)) (by decide) (fun r1_q20783 h_r1_q20783 => ?_)
        obtain ⟨h_r1_q20783_0, -⟩ := h_r1_q20783
        refine wq_ok ?_
        refine wq_b (tt_fX10_howManySlips hN (wb_sh I0 41) (wb_sh M0 20) (wb_sh I0 10) (wb_sh M0 6) (wb_sh I0 13) (wb_sh M0 13) x1 x2 (KX11.s_X10_41_20 k_I0) (KX11.s_X1_13_13 k_I0)) (fun r2_q20784 h_r2_q20784 => ?_)
        obtain ⟨-⟩ := h_r2_q20784
        have b_20785 := i32b r2_q20784
        exact wq_s trivial
set_option maxHeartbeats 4000000 in
theorem tt_fX11_handed {N : Nat} (hN : 3000000000 ≤ N) (I0 : Nat → Int32) (M0 : Nat → Nat → Int32) (x1 : Int32) (x2 : Int32) (x3 : Int32) (k_I0 : KX11 I0 M0) : wq (fX11_handed N I0 M0 x1 x2 x3) (qS 1 (fun r => True)) := by
  unfold fX11_handed
  have b_20894 := i32b x1
  refine wq_b (tt_fX11_isBook hN x1) (fun r3_q20895 h_r3_q20895 => ?_)
  obtain ⟨h_r3_q20895_0, h_r3_q20895_1, -⟩ := h_r3_q20895
  have l_0 := il_0
  refine wq_eq (fun hc_20896 => ?_) (fun hc_20897 => ?_)
  · unfold fX11_handed_J25
    unfold fX11_handed_J26
    exact wq_xb (tt_fX11_need0 N) (by decide) (fun _ h => absurd h id)
  · have b_20899 := i32b x2
    refine wq_b (tt_fX11_isBook hN x2) (fun r4_q20900 h_r4_q20900 => ?_)
    obtain ⟨h_r4_q20900_0, h_r4_q20900_1, -⟩ := h_r4_q20900
    refine wq_eq (fun hc_20901 => ?_) (fun hc_20902 => ?_)
    · unfold fX11_handed_J25
      unfold fX11_handed_J26
      exact wq_xb (tt_fX11_need0 N) (by decide) (fun _ h => absurd h id)
    · have b_20904 := i32b x3
      refine wq_b (tt_fX11_isBook hN x3) (fun r5_q20905 h_r5_q20905 => ?_)
      obtain ⟨h_r5_q20905_0, h_r5_q20905_1, -⟩ := h_r5_q20905
      refine wq_eq (fun hc_20906 => ?_) (fun hc_20907 => ?_)
      · unfold fX11_handed_J25
        unfold fX11_handed_J26
        exact wq_xb (tt_fX11_need0 N) (by decide) (fun _ h => absurd h id)
      · unfold fX11_handed_J26
        have l_1 := il_1
        refine wq_xb (tt_fX11_need hN (1 : Int32)) (by decide) (fun r1_q20909 h_r1_q20909 => ?_)
        obtain ⟨h_r1_q20909_0, -⟩ := h_r1_q20909
        refine wq_ok ?_
        refine wq_b (tt_fX1_howManyHanded hN (wb_sh I0 13) (wb_sh M0 13) x1 x2 x3 ⟨by omega, by omega⟩ ⟨by omega, by omega⟩ ⟨by omega, by omega⟩ (KX11.s_X1_13_13 k_I0)) (fun r2_q20910 h_r2_q20910 => ?_)
        obtain ⟨-⟩ := h_r2_q20910
        have b_20911 := i32b r2_q20910
        exact wq_s trivial
set_option maxHeartbeats 4000000 in
theorem tt_fX11_leaf {N : Nat} (hN : 3000000000 ≤ N) (I0 : Nat → Int32) (M0 : Nat → Nat → Int32) (x1 : Int32) (x2 : Int32) (k_I0 : KX11 I0 M0) : wq (fX11_leaf N I0 M0 x1 x2) (qS 1 (fun r => (-1 ≤ r.1.toInt ∧ r.1.toInt ≤ 20) ∧ KX11 r.2.1 r.2.2 ∧ True)) := by
  unfold fX11_leaf
  have b_20996 := i32b x1
  refine wq_b (tt_fX11_isBook hN x1) (fun r5_q20997 h_r5_q20997 => ?_)
  obtain ⟨h_r5_q20997_0, h_r5_q20997_1, -⟩ := h_r5_q20997
  have l_0 := il_0
  refine wq_eq (fun hc_20998 => ?_) (fun hc_20999 => ?_)
  · unfold fX11_leaf_J21
    exact wq_xb (tt_fX11_need0 N) (by decide) (fun _ h => absurd h id)
  · have b_21001 := i32b x2
    have l_19 := il_19
    refine wq_b (tt_fX11_within hN x2 (0 : Int32) (19 : Int32)) (fun r6_q21002 h_r6_q21002 => ?_)
    obtain ⟨h_r6_q21002_0, h_r6_q21002_1, -⟩ := h_r6_q21002
    refine wq_eq (fun hc_21003 => ?_) (fun hc_21004 => ?_)
    · unfold fX11_leaf_J21
      exact wq_xb (tt_fX11_need0 N) (by decide) (fun _ h => absurd h id)
    · have l_1 := il_1
      refine wq_xb (tt_fX11_need hN (1 : Int32)) (by decide) (fun r7_q21006 h_r7_q21006 => ?_)
      obtain ⟨h_r7_q21006_0, -⟩ := h_r7_q21006
      refine wq_ok ?_
      refine wq_b (tt_fX6_addTo hN (wb_sh I0 43) (wb_sh M0 23) x1 x2 ⟨by omega, by omega⟩ (KX11.s_X6_43_23 k_I0)) (fun r8_q21007 h_r8_q21007 => ?_)
      obtain ⟨h_r8_q21007_0, h_r8_q21007_1, -⟩ := h_r8_q21007
      refine wq_v (fun I0_9_q21008 h_I0_9_q21008 => ?_)
      refine wq_v (fun M0_10_q21009 h_M0_10_q21009 => ?_)
      have k_M0_10_q21009 : KX11 I0_9_q21008 M0_10_q21009 := by rw [h_I0_9_q21008, h_M0_10_q21009]; exact KX11.p_X6_43_23 k_I0 h_r8_q21007_1
      exact wq_s ⟨(show -1 ≤ r8_q21007.1.toInt ∧ r8_q21007.1.toInt ≤ 20 from ⟨by omega, by omega⟩), k_M0_10_q21009, trivial⟩

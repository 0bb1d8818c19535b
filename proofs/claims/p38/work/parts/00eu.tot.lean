set_option maxHeartbeats 4000000 in
theorem tt_fX12_count_L46 {N : Nat} (hN : 3000000000 ≤ N) (x1 : Int32) (h_x1 : 2 ≤ x1.toInt ∧ x1.toInt ≤ 5)  : ∀ (fu : Nat) (I0_l46 : (Nat → Int32)) (L0_l46 : Int64) (M0_l46 : (Nat → Nat → Int32)) (y46_2 : Int32) (y46_3 : Int32), (0 ≤ y46_3.toInt ∧ y46_3.toInt ≤ 120) → (KX12 I0_l46 M0_l46) → (120 - y46_3.toInt) < (fu : Int) → wq (fX12_count_L46 N x1 fu I0_l46 L0_l46 M0_l46 y46_2 y46_3) (fun r => KX12 r.2.1 r.2.2.2 ∧ True) := by
  intro fu
  induction fu with
  | zero => intro I0_l46 L0_l46 M0_l46 y46_2 y46_3 h_y46_3 k_I0_l46 hm; exfalso; omega
  | succ fu ih =>
    intro I0_l46 L0_l46 M0_l46 y46_2 y46_3 h_y46_3 k_I0_l46 hm
    rw [fX12_count_L46.eq_2]
    have l_120 := il_120
    refine wq_le (fun hc_63214 => ?_) (fun hc_63215 => ?_)
    · unfold fX12_count_J79
      have b_63216 := i32b y46_2
      have l_0 := il_0
      exact tt_fX12_count_L81 hN x1 ⟨by omega, by omega⟩ N I0_l46 L0_l46 M0_l46 y46_2 (0 : Int32) ⟨by omega, by omega⟩ k_I0_l46 (by omega)
    · have l_2 := il_2
      refine wq_eq (fun hc_63217 => ?_) (fun hc_63218 => ?_)
      · refine wq_b (tt_fX12_tells hN I0_l46 L0_l46 M0_l46 y46_3 ⟨by omega, by omega⟩ k_I0_l46) (fun r12_q63219 h_r12_q63219 => ?_)
        obtain ⟨h_r12_q63219_0, -⟩ := h_r12_q63219
        have l_0 := il_0
        refine wq_eq (fun hc_63220 => ?_) (fun hc_63221 => ?_)
        · have b_63223 := i32b y46_2
          have t_63224 := ia_add y46_2 (0 : Int32) (by omega) (by omega)
          refine wq_v (fun v13_q63222 h_v13_q63222 => ?_)
          have t_v13_q63222 := congrArg Int32.toInt h_v13_q63222
          have l_1 := il_1
          have t_63226 := ia_add y46_3 (1 : Int32) (by omega) (by omega)
          refine wq_v (fun v14_q63225 h_v14_q63225 => ?_)
          have t_v14_q63225 := congrArg Int32.toInt h_v14_q63225
          have b_63227 := i32b v13_q63222
          exact ih I0_l46 L0_l46 M0_l46 v13_q63222 v14_q63225 ⟨by omega, by omega⟩ k_I0_l46 (by omega)
        · have b_63229 := i32b y46_2
          have l_1 := il_1
          refine wq_v (fun v15_q63228 h_v15_q63228 => ?_)
          have t_v15_q63228 := congrArg Int32.toInt h_v15_q63228
          have t_63231 := ia_add y46_3 (1 : Int32) (by omega) (by omega)
          refine wq_v (fun v16_q63230 h_v16_q63230 => ?_)
          have t_v16_q63230 := congrArg Int32.toInt h_v16_q63230
          have b_63232 := i32b v15_q63228
          exact ih I0_l46 L0_l46 M0_l46 v15_q63228 v16_q63230 ⟨by omega, by omega⟩ k_I0_l46 (by omega)
      · unfold fX12_count_J79
        have b_63233 := i32b y46_2
        have l_0 := il_0
        exact tt_fX12_count_L81 hN x1 ⟨by omega, by omega⟩ N I0_l46 L0_l46 M0_l46 y46_2 (0 : Int32) ⟨by omega, by omega⟩ k_I0_l46 (by omega)
set_option maxHeartbeats 4000000 in
theorem tt_fX12_count {N : Nat} (hN : 3000000000 ≤ N) (I0 : Nat → Int32) (L0 : Int64) (M0 : Nat → Nat → Int32) (x1 : Int32) (k_I0 : KX12 I0 M0) : wq (fX12_count N I0 L0 M0 x1) (fun r => KX12 r.2.1 r.2.2.2 ∧ True) := by
  unfold fX12_count
  refine wq_v (fun I0_9_q63234 h_I0_9_q63234 => ?_)
  have k_I0_9_q63234 : KX12 I0_9_q63234 M0 := by rw [h_I0_9_q63234]; exact KX12.si0 k_I0
  have b_63235 := i32b x1
  have l_0 := il_0
  have l_5 := il_5
  refine wq_b (tt_fX12_within hN x1 (0 : Int32) (5 : Int32)) (fun r10_q63236 h_r10_q63236 => ?_)
  obtain ⟨h_r10_q63236_0, h_r10_q63236_1, -⟩ := h_r10_q63236
  have l_1 := il_1
  refine wq_b (tt_fX12_right hN I0_9_q63234 L0 M0 r10_q63236 (1 : Int32) ⟨by omega, by omega⟩ k_I0_9_q63234) (fun r11_q63237 h_r11_q63237 => ?_)
  obtain ⟨h_r11_q63237_0, h_r11_q63237_1, h_r11_q63237_2, h_r11_q63237_3, -⟩ := h_r11_q63237
  have t_63238 := KX12.i1 h_r11_q63237_3
  have t_63239 := KX12.i1 k_I0
  have t_63240 : (I0_9_q63234 1).toInt = (I0 1).toInt := by rw [h_I0_9_q63234]; rfl
  refine wq_eq (fun hc_63241 => ?_) (fun hc_63242 => ?_)
  · exact wq_s ⟨h_r11_q63237_3, trivial⟩
  · have l_2 := il_2
    refine wq_le (fun hc_63243 => ?_) (fun hc_63244 => ?_)
    · exact tt_fX12_count_L46 hN x1 ⟨by omega, by omega⟩ N r11_q63237.2.1 r11_q63237.2.2.1 r11_q63237.2.2.2 (0 : Int32) (0 : Int32) ⟨by omega, by omega⟩ h_r11_q63237_3 (by omega)
    · refine wq_eq (fun hc_63245 => ?_) (fun hc_63246 => ?_)
      · exact wq_s ⟨h_r11_q63237_3, trivial⟩
      · have t_63247 := KX12.i2 h_r11_q63237_3
        exact wq_s ⟨h_r11_q63237_3, trivial⟩
set_option maxHeartbeats 4000000 in
theorem tt_fX12_life {N : Nat} (hN : 3000000000 ≤ N) (I0 : Nat → Int32) (L0 : Int64) (M0 : Nat → Nat → Int32) (x1 : Int32) (x2 : Int32) (x3 : Int32) (k_I0 : KX12 I0 M0) : wq (fX12_life N I0 L0 M0 x1 x2 x3) (fun r => (0 ≤ r.1.toInt ∧ r.1.toInt ≤ 1) ∧ KX12 r.2.1 r.2.2.2 ∧ True) := by
  unfold fX12_life
  refine wq_v (fun I0_1_q63362 h_I0_1_q63362 => ?_)
  have k_I0_1_q63362 : KX12 I0_1_q63362 M0 := by rw [h_I0_1_q63362]; exact KX12.si0 k_I0
  have b_63363 := i32b x1
  have l_0 := il_0
  have l_19 := il_19
  refine wq_b (tt_fX12_within hN x1 (0 : Int32) (19 : Int32)) (fun r2_q63364 h_r2_q63364 => ?_)
  obtain ⟨h_r2_q63364_0, h_r2_q63364_1, -⟩ := h_r2_q63364
  have l_1 := il_1
  refine wq_b (tt_fX12_right hN I0_1_q63362 L0 M0 r2_q63364 (1 : Int32) ⟨by omega, by omega⟩ k_I0_1_q63362) (fun r3_q63365 h_r3_q63365 => ?_)
  obtain ⟨h_r3_q63365_0, h_r3_q63365_1, h_r3_q63365_2, h_r3_q63365_3, -⟩ := h_r3_q63365
  have t_63366 := KX12.i1 h_r3_q63365_3
  have t_63367 := KX12.i1 k_I0
  have t_63368 : (I0_1_q63362 1).toInt = (I0 1).toInt := by rw [h_I0_1_q63362]; rfl
  refine wq_eq (fun hc_63369 => ?_) (fun hc_63370 => ?_)
  · exact wq_s ⟨(show 0 ≤ (0 : Int32).toInt ∧ (0 : Int32).toInt ≤ 1 from ⟨by omega, by omega⟩), h_r3_q63365_3, trivial⟩
  · have b_63371 := i32b x2
    have l_120 := il_120
    refine wq_b (tt_fX12_within hN x2 (0 : Int32) (120 : Int32)) (fun r4_q63372 h_r4_q63372 => ?_)
    obtain ⟨h_r4_q63372_0, h_r4_q63372_1, -⟩ := h_r4_q63372
    refine wq_eq (fun hc_63373 => ?_) (fun hc_63374 => ?_)
    · exact wq_s ⟨(show 0 ≤ (0 : Int32).toInt ∧ (0 : Int32).toInt ≤ 1 from ⟨by omega, by omega⟩), h_r3_q63365_3, trivial⟩
    · have b_63375 := i32b x3
      refine wq_b (tt_fX12_within hN x3 (0 : Int32) (120 : Int32)) (fun r5_q63376 h_r5_q63376 => ?_)
      obtain ⟨h_r5_q63376_0, h_r5_q63376_1, -⟩ := h_r5_q63376
      refine wq_eq (fun hc_63377 => ?_) (fun hc_63378 => ?_)
      · exact wq_s ⟨(show 0 ≤ (0 : Int32).toInt ∧ (0 : Int32).toInt ≤ 1 from ⟨by omega, by omega⟩), h_r3_q63365_3, trivial⟩
      · refine wq_in (n := 20) ⟨by omega, by omega⟩ ?_
        refine wq_v (fun M0_6_q63379 h_M0_6_q63379 => ?_)
        have k_M0_6_q63379 : KX12 r3_q63365.2.1 M0_6_q63379 := by rw [h_M0_6_q63379]; exact KX12.sm32 h_r3_q63365_3
        refine wq_in (n := 20) ⟨by omega, by omega⟩ ?_
        refine wq_v (fun M0_7_q63380 h_M0_7_q63380 => ?_)
        have k_M0_7_q63380 : KX12 r3_q63365.2.1 M0_7_q63380 := by rw [h_M0_7_q63380]; exact KX12.sm33 k_M0_6_q63379
        exact wq_s ⟨(show 0 ≤ (1 : Int32).toInt ∧ (1 : Int32).toInt ≤ 1 from ⟨by omega, by omega⟩), k_M0_7_q63380, trivial⟩
set_option maxHeartbeats 4000000 in
theorem tt_fX12_fate {N : Nat} (hN : 3000000000 ≤ N) (I0 : Nat → Int32) (L0 : Int64) (M0 : Nat → Nat → Int32) (x1 : Int32) (x2 : Int32) (k_I0 : KX12 I0 M0) : wq (fX12_fate N I0 L0 M0 x1 x2) (fun r => (0 ≤ r.1.toInt ∧ r.1.toInt ≤ 1) ∧ KX12 r.2.1 r.2.2.2 ∧ True) := by
  unfold fX12_fate
  refine wq_v (fun I0_1_q63465 h_I0_1_q63465 => ?_)
  have k_I0_1_q63465 : KX12 I0_1_q63465 M0 := by rw [h_I0_1_q63465]; exact KX12.si0 k_I0
  have b_63466 := i32b x1
  have l_0 := il_0
  have l_19 := il_19
  refine wq_b (tt_fX12_within hN x1 (0 : Int32) (19 : Int32)) (fun r2_q63467 h_r2_q63467 => ?_)
  obtain ⟨h_r2_q63467_0, h_r2_q63467_1, -⟩ := h_r2_q63467
  have l_1 := il_1
  refine wq_b (tt_fX12_right hN I0_1_q63465 L0 M0 r2_q63467 (1 : Int32) ⟨by omega, by omega⟩ k_I0_1_q63465) (fun r3_q63468 h_r3_q63468 => ?_)
  obtain ⟨h_r3_q63468_0, h_r3_q63468_1, h_r3_q63468_2, h_r3_q63468_3, -⟩ := h_r3_q63468
  have t_63469 := KX12.i1 h_r3_q63468_3
  have t_63470 := KX12.i1 k_I0
  have t_63471 : (I0_1_q63465 1).toInt = (I0 1).toInt := by rw [h_I0_1_q63465]; rfl
  refine wq_eq (fun hc_63472 => ?_) (fun hc_63473 => ?_)
  · exact wq_s ⟨(show 0 ≤ (0 : Int32).toInt ∧ (0 : Int32).toInt ≤ 1 from ⟨by omega, by omega⟩), h_r3_q63468_3, trivial⟩
  · have b_63474 := i32b x2
    have l_12 := il_12
    refine wq_b (tt_fX12_within hN x2 (1 : Int32) (12 : Int32)) (fun r4_q63475 h_r4_q63475 => ?_)
    obtain ⟨h_r4_q63475_0, h_r4_q63475_1, -⟩ := h_r4_q63475
    refine wq_eq (fun hc_63476 => ?_) (fun hc_63477 => ?_)
    · exact wq_s ⟨(show 0 ≤ (0 : Int32).toInt ∧ (0 : Int32).toInt ≤ 1 from ⟨by omega, by omega⟩), h_r3_q63468_3, trivial⟩
    · refine wq_in (n := 20) ⟨by omega, by omega⟩ ?_
      refine wq_v (fun M0_5_q63478 h_M0_5_q63478 => ?_)
      have k_M0_5_q63478 : KX12 r3_q63468.2.1 M0_5_q63478 := by rw [h_M0_5_q63478]; exact KX12.sm34 h_r3_q63468_3
      exact wq_s ⟨(show 0 ≤ (1 : Int32).toInt ∧ (1 : Int32).toInt ≤ 1 from ⟨by omega, by omega⟩), k_M0_5_q63478, trivial⟩
set_option maxHeartbeats 4000000 in
theorem tt_fX12_isHit {N : Nat} (hN : 3000000000 ≤ N) (I0 : Nat → Int32) (L0 : Int64) (M0 : Nat → Nat → Int32) (x1 : Int32) (x2 : Int32) (x3 : Int32) (h_x1 : 0 ≤ x1.toInt ∧ x1.toInt ≤ 19) (h_x2 : 0 ≤ x2.toInt ∧ x2.toInt ≤ 19) (k_I0 : KX12 I0 M0) : wq (fX12_isHit N I0 L0 M0 x1 x2 x3) (fun r => (0 ≤ r.toInt ∧ r.toInt ≤ 1) ∧ True) := by
  unfold fX12_isHit
  refine wq_in (n := 20) ⟨by omega, by omega⟩ ?_
  refine wq_in (n := 20) ⟨by omega, by omega⟩ ?_
  refine wq_v (fun v1_q63521 h_v1_q63521 => ?_)
  have t_v1_q63521 := congrArg Int32.toInt h_v1_q63521
  have b_63522 := i32b x3
  have b_63523 := i32b v1_q63521
  refine wq_lt (fun hc_63524 => ?_) (fun hc_63525 => ?_)
  · have l_0 := il_0
    exact wq_s ⟨(show 0 ≤ (0 : Int32).toInt ∧ (0 : Int32).toInt ≤ 1 from ⟨by omega, by omega⟩), trivial⟩
  · refine wq_lt (fun hc_63526 => ?_) (fun hc_63527 => ?_)
    · have l_0 := il_0
      exact wq_s ⟨(show 0 ≤ (0 : Int32).toInt ∧ (0 : Int32).toInt ≤ 1 from ⟨by omega, by omega⟩), trivial⟩
    · have l_1 := il_1
      exact wq_s ⟨(show 0 ≤ (1 : Int32).toInt ∧ (1 : Int32).toInt ≤ 1 from ⟨by omega, by omega⟩), trivial⟩
set_option maxHeartbeats 4000000 in
theorem tt_fX12_isTold {N : Nat} (hN : 3000000000 ≤ N) (I0 : Nat → Int32) (L0 : Int64) (M0 : Nat → Nat → Int32) (x1 : Int32) (x2 : Int32) (h_x1 : 0 ≤ x1.toInt ∧ x1.toInt ≤ 19) (h_x2 : 0 ≤ x2.toInt ∧ x2.toInt ≤ 19) (k_I0 : KX12 I0 M0) : wq (fX12_isTold N I0 L0 M0 x1 x2) (fun r => (0 ≤ r.toInt ∧ r.toInt ≤ 1) ∧ True) := by
  unfold fX12_isTold
  have l_7 := il_7
  refine wq_b (tt_fX12_at hN I0 L0 M0 x1 (7 : Int32) ⟨by omega, by omega⟩ ⟨by omega, by omega⟩ k_I0) (fun r1_q63594 h_r1_q63594 => ?_)
  obtain ⟨h_r1_q63594_0, h_r1_q63594_1, h_r1_q63594_2, -⟩ := h_r1_q63594
  have l_8 := il_8
  refine wq_b (tt_fX12_at hN I0 L0 M0 x1 (8 : Int32) ⟨by omega, by omega⟩ ⟨by omega, by omega⟩ k_I0) (fun r2_q63595 h_r2_q63595 => ?_)
  obtain ⟨h_r2_q63595_0, h_r2_q63595_1, h_r2_q63595_2, -⟩ := h_r2_q63595
  have l_m1 := il_m1
  refine wq_eq (fun hc_63596 => ?_) (fun hc_63597 => ?_)
  · have l_0 := il_0
    exact wq_s ⟨(show 0 ≤ (0 : Int32).toInt ∧ (0 : Int32).toInt ≤ 1 from ⟨by omega, by omega⟩), trivial⟩
  · refine wq_eq (fun hc_63598 => ?_) (fun hc_63599 => ?_)
    · have l_0 := il_0
      exact wq_s ⟨(show 0 ≤ (0 : Int32).toInt ∧ (0 : Int32).toInt ≤ 1 from ⟨by omega, by omega⟩), trivial⟩
    · refine wq_in (n := 20) ⟨by omega, by omega⟩ ?_
      have l_30 := il_30
      have t_63600 := ia_div r2_q63595 (30 : Int32) 30 il_30 (by decide) (by omega)
      have t_63601 := ia_div r1_q63594 (30 : Int32) 30 il_30 (by decide) (by omega)
      have l_1 := il_1
      have l_12 := il_12
      have t_63602 := ia_rem2 (((r1_q63594 / (30 : Int32)) + (M0 34 x2.toNatClampNeg)) - (1 : Int32)) (12 : Int32) 12 il_12 (by decide)
      refine wq_eq (fun hc_63603 => ?_) (fun hc_63604 => ?_)
      · exact wq_s ⟨(show 0 ≤ (1 : Int32).toInt ∧ (1 : Int32).toInt ≤ 1 from ⟨by omega, by omega⟩), trivial⟩
      · have l_0 := il_0
        exact wq_s ⟨(show 0 ≤ (0 : Int32).toInt ∧ (0 : Int32).toInt ≤ 1 from ⟨by omega, by omega⟩), trivial⟩
set_option maxHeartbeats 4000000 in
theorem tt_fX12_hitsBy_L4 {N : Nat} (hN : 3000000000 ≤ N) (I0 : Nat → Int32) (L0 : Int64) (M0 : Nat → Nat → Int32) (x1 : Int32) (k_I0 : KX12 I0 M0)  : ∀ (fu : Nat) (y4_2 : Int32) (y4_3 : Int32), (0 ≤ y4_3.toInt ∧ y4_3.toInt ≤ 20) → (20 - y4_3.toInt) < (fu : Int) → wq (fX12_hitsBy_L4 N I0 L0 M0 x1 fu y4_2 y4_3) (fun r => True) := by
  intro fu
  induction fu with
  | zero => intro y4_2 y4_3 h_y4_3 hm; exfalso; omega
  | succ fu ih =>
    intro y4_2 y4_3 h_y4_3 hm
    rw [fX12_hitsBy_L4.eq_2]
    have t_64043 := KX12.i19 k_I0
    refine wq_le (fun hc_64044 => ?_) (fun hc_64045 => ?_)
    · have b_64046 := i32b y4_2
      exact wq_s trivial
    · have l_0 := il_0
      have b_64047 := i32b x1
      refine wq_le (fun hc_64048 => ?_) (fun hc_64049 => ?_)
      · refine wq_in (n := 20) ⟨by omega, by omega⟩ ?_
        refine wq_in (n := 20) ⟨by omega, by omega⟩ ?_
        have t_64050 := KX12.m36 k_I0 y4_3.toNatClampNeg
        refine wq_in (n := 20) ⟨by omega, by omega⟩ ?_
        have t_64051 := KX12.m35 k_I0 y4_3.toNatClampNeg
        have t_64052 := KX12.m35 k_I0 ((M0 36 y4_3.toNatClampNeg)).toNatClampNeg
        refine wq_b (tt_fX12_isHit hN I0 L0 M0 (M0 35 y4_3.toNatClampNeg) (M0 35 (M0 36 y4_3.toNatClampNeg).toNatClampNeg) x1 ⟨by omega, by omega⟩ ⟨by omega, by omega⟩ k_I0) (fun r1_q64053 h_r1_q64053 => ?_)
        obtain ⟨h_r1_q64053_0, -⟩ := h_r1_q64053
        refine wq_eq (fun hc_64054 => ?_) (fun hc_64055 => ?_)
        · have b_64057 := i32b y4_2
          have t_64058 := ia_add y4_2 (0 : Int32) (by omega) (by omega)
          refine wq_v (fun v2_q64056 h_v2_q64056 => ?_)
          have t_v2_q64056 := congrArg Int32.toInt h_v2_q64056
          have l_1 := il_1
          have t_64060 := ia_add y4_3 (1 : Int32) (by omega) (by omega)
          refine wq_v (fun v3_q64059 h_v3_q64059 => ?_)
          have t_v3_q64059 := congrArg Int32.toInt h_v3_q64059
          have b_64061 := i32b v2_q64056
          exact ih v2_q64056 v3_q64059 ⟨by omega, by omega⟩ (by omega)
        · have b_64063 := i32b y4_2
          have l_1 := il_1
          refine wq_v (fun v4_q64062 h_v4_q64062 => ?_)
          have t_v4_q64062 := congrArg Int32.toInt h_v4_q64062
          have t_64065 := ia_add y4_3 (1 : Int32) (by omega) (by omega)
          refine wq_v (fun v5_q64064 h_v5_q64064 => ?_)
          have t_v5_q64064 := congrArg Int32.toInt h_v5_q64064
          have b_64066 := i32b v4_q64062
          exact ih v4_q64062 v5_q64064 ⟨by omega, by omega⟩ (by omega)
      · refine wq_in (n := 20) ⟨by omega, by omega⟩ ?_
        refine wq_in (n := 20) ⟨by omega, by omega⟩ ?_
        have t_64067 := KX12.m36 k_I0 y4_3.toNatClampNeg
        refine wq_in (n := 20) ⟨by omega, by omega⟩ ?_
        have t_64068 := KX12.m35 k_I0 y4_3.toNatClampNeg
        have t_64069 := KX12.m35 k_I0 ((M0 36 y4_3.toNatClampNeg)).toNatClampNeg
        refine wq_b (tt_fX12_isTold hN I0 L0 M0 (M0 35 y4_3.toNatClampNeg) (M0 35 (M0 36 y4_3.toNatClampNeg).toNatClampNeg) ⟨by omega, by omega⟩ ⟨by omega, by omega⟩ k_I0) (fun r6_q64070 h_r6_q64070 => ?_)
        obtain ⟨h_r6_q64070_0, -⟩ := h_r6_q64070
        refine wq_eq (fun hc_64071 => ?_) (fun hc_64072 => ?_)
        · have b_64074 := i32b y4_2
          have t_64075 := ia_add y4_2 (0 : Int32) (by omega) (by omega)
          refine wq_v (fun v7_q64073 h_v7_q64073 => ?_)
          have t_v7_q64073 := congrArg Int32.toInt h_v7_q64073
          have l_1 := il_1
          have t_64077 := ia_add y4_3 (1 : Int32) (by omega) (by omega)
          refine wq_v (fun v8_q64076 h_v8_q64076 => ?_)
          have t_v8_q64076 := congrArg Int32.toInt h_v8_q64076
          have b_64078 := i32b v7_q64073
          exact ih v7_q64073 v8_q64076 ⟨by omega, by omega⟩ (by omega)
        · have b_64080 := i32b y4_2
          have l_1 := il_1
          refine wq_v (fun v9_q64079 h_v9_q64079 => ?_)
          have t_v9_q64079 := congrArg Int32.toInt h_v9_q64079
          have t_64082 := ia_add y4_3 (1 : Int32) (by omega) (by omega)
          refine wq_v (fun v10_q64081 h_v10_q64081 => ?_)
          have t_v10_q64081 := congrArg Int32.toInt h_v10_q64081
          have b_64083 := i32b v9_q64079
          exact ih v9_q64079 v10_q64081 ⟨by omega, by omega⟩ (by omega)
set_option maxHeartbeats 4000000 in
theorem tt_fX12_hitsBy {N : Nat} (hN : 3000000000 ≤ N) (I0 : Nat → Int32) (L0 : Int64) (M0 : Nat → Nat → Int32) (x1 : Int32) (k_I0 : KX12 I0 M0) : wq (fX12_hitsBy N I0 L0 M0 x1) (fun r => True) := by
  unfold fX12_hitsBy
  have b_64084 := i32b x1
  have l_0 := il_0
  exact tt_fX12_hitsBy_L4 hN I0 L0 M0 x1 k_I0 N (0 : Int32) (0 : Int32) ⟨by omega, by omega⟩ (by omega)
set_option maxHeartbeats 4000000 in
theorem tt_fX12_swaps {N : Nat} (hN : 3000000000 ≤ N) (I0 : Nat → Int32) (L0 : Int64) (M0 : Nat → Nat → Int32) (x1 : Int32) (x2 : Int32) (h_x1 : 0 ≤ x1.toInt ∧ x1.toInt ≤ 19) (h_x2 : 0 ≤ x2.toInt ∧ x2.toInt ≤ 19) (k_I0 : KX12 I0 M0) : wq (fX12_swaps N I0 L0 M0 x1 x2) (fun r => KX12 r.1 r.2.2 ∧ True) := by
  unfold fX12_swaps
  refine wq_in (n := 20) ⟨by omega, by omega⟩ ?_
  have t_64111 := KX12.m36 k_I0 x1.toNatClampNeg
  refine wq_v (fun v1_q64110 h_v1_q64110 => ?_)
  have t_v1_q64110 := congrArg Int32.toInt h_v1_q64110
  refine wq_in (n := 20) ⟨by omega, by omega⟩ ?_
  refine wq_in (n := 20) ⟨by omega, by omega⟩ ?_
  refine wq_v (fun M0_2_q64112 h_M0_2_q64112 => ?_)
  have t_64113 := KX12.m36 k_I0 x2.toNatClampNeg
  have k_M0_2_q64112 : KX12 I0 M0_2_q64112 := by rw [h_M0_2_q64112]; exact KX12.sm36 k_I0 ⟨by omega, by omega⟩
  refine wq_in (n := 20) ⟨by omega, by omega⟩ ?_
  refine wq_v (fun M0_3_q64114 h_M0_3_q64114 => ?_)
  have k_M0_3_q64114 : KX12 I0 M0_3_q64114 := by rw [h_M0_3_q64114]; exact KX12.sm36 k_M0_2_q64112 ⟨by omega, by omega⟩
  exact wq_s ⟨k_M0_3_q64114, trivial⟩
set_option maxHeartbeats 4000000 in
theorem tt_fX12_turns_L86 {N : Nat} (hN : 3000000000 ≤ N) (g47 : (Nat → Int32) → Int64 → (Nat → Nat → Int32) → Int32 → Option (Int32 × (Nat → Int32) × Int64 × (Nat → Nat → Int32)))   : ∀ (fu : Nat) (I0_l86 : (Nat → Int32)) (L0_l86 : Int64) (M0_l86 : (Nat → Nat → Int32)) (y86_3 : Int32) (y86_4 : Int32), (1 ≤ y86_3.toInt ∧ y86_3.toInt ≤ 19) → (-1 ≤ y86_4.toInt ∧ y86_4.toInt ≤ 19) → (KX12 I0_l86 M0_l86) → (19 - y86_3.toInt) < (fu : Int) → wq (fX12_turns_L86 N g47 fu I0_l86 L0_l86 M0_l86 y86_3 y86_4) (fun r => (0 ≤ r.1.toInt ∧ r.1.toInt ≤ 1) ∧ KX12 r.2.1 r.2.2.2 ∧ True) := by
  intro fu
  induction fu with
  | zero => intro I0_l86 L0_l86 M0_l86 y86_3 y86_4 h_y86_3 h_y86_4 k_I0_l86 hm; exfalso; omega
  | succ fu ih =>
    intro I0_l86 L0_l86 M0_l86 y86_3 y86_4 h_y86_3 h_y86_4 k_I0_l86 hm
    rw [fX12_turns_L86.eq_2]
    refine wq_le (fun hc_64343 => ?_) (fun hc_64344 => ?_)
    · have l_1 := il_1
      exact wq_s ⟨(show 0 ≤ (1 : Int32).toInt ∧ (1 : Int32).toInt ≤ 1 from ⟨by omega, by omega⟩), k_I0_l86, trivial⟩
    · refine wq_b (tt_fX12_swaps hN I0_l86 L0_l86 M0_l86 y86_3 y86_4 ⟨by omega, by omega⟩ ⟨by omega, by omega⟩ k_I0_l86) (fun r5_q64345 h_r5_q64345 => ?_)
      obtain ⟨h_r5_q64345_0, -⟩ := h_r5_q64345
      have l_1 := il_1
      have t_64347 := ia_add y86_3 (1 : Int32) (by omega) (by omega)
      refine wq_v (fun v6_q64346 h_v6_q64346 => ?_)
      have t_v6_q64346 := congrArg Int32.toInt h_v6_q64346
      have l_m1 := il_m1
      have t_64349 := ia_add y86_4 ((-1) : Int32) (by omega) (by omega)
      refine wq_v (fun v7_q64348 h_v7_q64348 => ?_)
      have t_v7_q64348 := congrArg Int32.toInt h_v7_q64348
      exact ih r5_q64345.1 r5_q64345.2.1 r5_q64345.2.2 v6_q64346 v7_q64348 ⟨by omega, by omega⟩ ⟨by omega, by omega⟩ h_r5_q64345_0 (by omega)
set_option maxHeartbeats 4000000 in
theorem tt_fX12_turns_L47 {N : Nat} (hN : 3000000000 ≤ N) (y34_1 : Int32) (h_y34_1 : 0 ≤ y34_1.toInt ∧ y34_1.toInt ≤ 18)  : ∀ (fu : Nat) (I0_l47 : (Nat → Int32)) (L0_l47 : Int64) (M0_l47 : (Nat → Nat → Int32)) (y47_2 : Int32), (-1 ≤ y47_2.toInt ∧ y47_2.toInt ≤ 19) → (KX12 I0_l47 M0_l47) → (y47_2.toInt - -1) < (fu : Int) → wq (fX12_turns_L47 N y34_1 fu I0_l47 L0_l47 M0_l47 y47_2) (fun r => (0 ≤ r.1.toInt ∧ r.1.toInt ≤ 1) ∧ KX12 r.2.1 r.2.2.2 ∧ True) := by
  intro fu
  induction fu with
  | zero => intro I0_l47 L0_l47 M0_l47 y47_2 h_y47_2 k_I0_l47 hm; exfalso; omega
  | succ fu ih =>
    intro I0_l47 L0_l47 M0_l47 y47_2 h_y47_2 k_I0_l47 hm
    rw [fX12_turns_L47.eq_2]
    refine wq_in (n := 20) ⟨by omega, by omega⟩ ?_
    refine wq_in (n := 20) ⟨by omega, by omega⟩ ?_
    have t_64350 := KX12.m36 k_I0_l47 y34_1.toNatClampNeg
    have t_64351 := KX12.m36 k_I0_l47 y47_2.toNatClampNeg
    refine wq_le (fun hc_64352 => ?_) (fun hc_64353 => ?_)
    · refine wq_b (tt_fX12_swaps hN I0_l47 L0_l47 M0_l47 y34_1 y47_2 ⟨by omega, by omega⟩ ⟨by omega, by omega⟩ k_I0_l47) (fun r2_q64354 h_r2_q64354 => ?_)
      obtain ⟨h_r2_q64354_0, -⟩ := h_r2_q64354
      have l_1 := il_1
      have t_64356 := ia_add y34_1 (1 : Int32) (by omega) (by omega)
      refine wq_v (fun v3_q64355 h_v3_q64355 => ?_)
      have t_v3_q64355 := congrArg Int32.toInt h_v3_q64355
      have t_64358 := KX12.i19 h_r2_q64354_0
      have t_64359 := ia_sub (r2_q64354.1 19) (1 : Int32) (by omega) (by omega)
      refine wq_v (fun v4_q64357 h_v4_q64357 => ?_)
      have t_v4_q64357 := congrArg Int32.toInt h_v4_q64357
      exact tt_fX12_turns_L86 hN _ N r2_q64354.1 r2_q64354.2.1 r2_q64354.2.2 v3_q64355 v4_q64357 ⟨by omega, by omega⟩ ⟨by omega, by omega⟩ h_r2_q64354_0 (by omega)
    · have l_m1 := il_m1
      have t_64361 := ia_add y47_2 ((-1) : Int32) (by omega) (by omega)
      refine wq_v (fun v8_q64360 h_v8_q64360 => ?_)
      have t_v8_q64360 := congrArg Int32.toInt h_v8_q64360
      exact ih I0_l47 L0_l47 M0_l47 v8_q64360 ⟨by omega, by omega⟩ k_I0_l47 (by omega)
set_option maxHeartbeats 4000000 in
theorem tt_fX12_turns_L7 {N : Nat} (hN : 3000000000 ≤ N)    : ∀ (fu : Nat) (I0_l7 : (Nat → Int32)) (L0_l7 : Int64) (M0_l7 : (Nat → Nat → Int32)) (y7_1 : Int32), (-2 ≤ y7_1.toInt ∧ y7_1.toInt ≤ 18) → (KX12 I0_l7 M0_l7) → (y7_1.toInt - -2) < (fu : Int) → wq (fX12_turns_L7 N fu I0_l7 L0_l7 M0_l7 y7_1) (fun r => (0 ≤ r.1.toInt ∧ r.1.toInt ≤ 1) ∧ KX12 r.2.1 r.2.2.2 ∧ True) := by
  intro fu
  induction fu with
  | zero => intro I0_l7 L0_l7 M0_l7 y7_1 h_y7_1 k_I0_l7 hm; exfalso; omega
  | succ fu ih =>
    intro I0_l7 L0_l7 M0_l7 y7_1 h_y7_1 k_I0_l7 hm
    rw [fX12_turns_L7.eq_2]
    have l_0 := il_0
    refine wq_lt (fun hc_64362 => ?_) (fun hc_64363 => ?_)
    · unfold fX12_turns_J34
      refine wq_le (fun hc_64364 => ?_) (fun hc_64365 => ?_)
      · exfalso; omega
      · exact wq_s ⟨(show 0 ≤ (0 : Int32).toInt ∧ (0 : Int32).toInt ≤ 1 from ⟨by omega, by omega⟩), k_I0_l7, trivial⟩
    · refine wq_in (n := 20) ⟨by omega, by omega⟩ ?_
      have l_1 := il_1
      have t_64366 := ia_add y7_1 (1 : Int32) (by omega) (by omega)
      refine wq_in (n := 20) ⟨by omega, by omega⟩ ?_
      have t_64367 := KX12.m36 k_I0_l7 y7_1.toNatClampNeg
      have t_64368 := KX12.m36 k_I0_l7 ((y7_1 + (1 : Int32))).toNatClampNeg
      refine wq_le (fun hc_64369 => ?_) (fun hc_64370 => ?_)
      · unfold fX12_turns_J34
        refine wq_le (fun hc_64371 => ?_) (fun hc_64372 => ?_)
        · have t_64374 := KX12.i19 k_I0_l7
          have t_64375 := ia_sub (I0_l7 19) (1 : Int32) (by omega) (by omega)
          refine wq_v (fun v1_q64373 h_v1_q64373 => ?_)
          have t_v1_q64373 := congrArg Int32.toInt h_v1_q64373
          exact tt_fX12_turns_L47 hN y7_1 ⟨by omega, by omega⟩ N I0_l7 L0_l7 M0_l7 v1_q64373 ⟨by omega, by omega⟩ k_I0_l7 (by omega)
        · exfalso; omega
      · have l_m1 := il_m1
        have t_64377 := ia_add y7_1 ((-1) : Int32) (by omega) (by omega)
        refine wq_v (fun v10_q64376 h_v10_q64376 => ?_)
        have t_v10_q64376 := congrArg Int32.toInt h_v10_q64376
        exact ih I0_l7 L0_l7 M0_l7 v10_q64376 ⟨by omega, by omega⟩ k_I0_l7 (by omega)
set_option maxHeartbeats 4000000 in
theorem tt_fX12_turns {N : Nat} (hN : 3000000000 ≤ N) (I0 : Nat → Int32) (L0 : Int64) (M0 : Nat → Nat → Int32) (k_I0 : KX12 I0 M0) : wq (fX12_turns N I0 L0 M0) (fun r => (0 ≤ r.1.toInt ∧ r.1.toInt ≤ 1) ∧ KX12 r.2.1 r.2.2.2 ∧ True) := by
  unfold fX12_turns
  have t_64379 := KX12.i19 k_I0
  have l_2 := il_2
  have t_64380 := ia_sub (I0 19) (2 : Int32) (by omega) (by omega)
  refine wq_v (fun v9_q64378 h_v9_q64378 => ?_)
  have t_v9_q64378 := congrArg Int32.toInt h_v9_q64378
  exact tt_fX12_turns_L7 hN N I0 L0 M0 v9_q64378 ⟨by omega, by omega⟩ k_I0 (by omega)
set_option maxHeartbeats 4000000 in
theorem tt_fX12_asks_133 {N : Nat} (hN : 3000000000 ≤ N) (I0 : Nat → Int32) (L0 : Int64) (M0 : Nat → Nat → Int32) (x2 : Int32) (x3 : Int32) (k_I0 : KX12 I0 M0) : wq (fX12_asks_133 N I0 L0 M0 x2 x3) (fun r => KX12 r.2.1 r.2.2.2 ∧ True) := by sorry
set_option maxHeartbeats 4000000 in
theorem tt_fX12_hits {N : Nat} (hN : 3000000000 ≤ N) (I0 : Nat → Int32) (L0 : Int64) (M0 : Nat → Nat → Int32) (x1 : Int32) (x2 : Int32) (k_I0 : KX12 I0 M0) : wq (fX12_hits N I0 L0 M0 x1 x2) (fun r => KX12 r.2.1 r.2.2.2 ∧ True) := by
  unfold fX12_hits
  refine wq_v (fun I0_4_q65457 h_I0_4_q65457 => ?_)
  have k_I0_4_q65457 : KX12 I0_4_q65457 M0 := by rw [h_I0_4_q65457]; exact KX12.si0 k_I0
  have b_65458 := i32b x1
  have l_0 := il_0
  refine wq_eq (fun hc_65459 => ?_) (fun hc_65460 => ?_)
  · unfold fX12_hits_J15
    have b_65461 := i32b x2
    have l_120 := il_120
    refine wq_b (tt_fX12_within hN x2 (0 : Int32) (120 : Int32)) (fun r3_q65462 h_r3_q65462 => ?_)
    obtain ⟨h_r3_q65462_0, h_r3_q65462_1, -⟩ := h_r3_q65462
    refine wq_eq (fun hc_65463 => ?_) (fun hc_65464 => ?_)
    · unfold fX12_hits_J29
      unfold fX12_hits_J30
      have l_1 := il_1
      refine wq_b (tt_fX12_right hN I0_4_q65457 L0 M0 (0 : Int32) (1 : Int32) ⟨by omega, by omega⟩ k_I0_4_q65457) (fun r1_q65465 h_r1_q65465 => ?_)
      obtain ⟨h_r1_q65465_0, h_r1_q65465_1, h_r1_q65465_2, h_r1_q65465_3, -⟩ := h_r1_q65465
      have t_65466 := KX12.i1 h_r1_q65465_3
      have t_65467 := KX12.i1 k_I0
      have t_65468 : (I0_4_q65457 1).toInt = (I0 1).toInt := by rw [h_I0_4_q65457]; rfl
      refine wq_eq (fun hc_65469 => ?_) (fun hc_65470 => ?_)
      · exact wq_s ⟨h_r1_q65465_3, trivial⟩
      · refine wq_b (tt_fX12_asks_133 hN r1_q65465.2.1 r1_q65465.2.2.1 r1_q65465.2.2.2 x1 x2 h_r1_q65465_3) (fun r2_q65471 h_r2_q65471 => ?_)
        obtain ⟨h_r2_q65471_0, -⟩ := h_r2_q65471
        have b_65472 := i32b r2_q65471.1
        exact wq_s ⟨h_r2_q65471_0, trivial⟩
    · unfold fX12_hits_J30
      have l_1 := il_1
      refine wq_b (tt_fX12_right hN I0_4_q65457 L0 M0 (1 : Int32) (1 : Int32) ⟨by omega, by omega⟩ k_I0_4_q65457) (fun r1_q65473 h_r1_q65473 => ?_)
      obtain ⟨h_r1_q65473_0, h_r1_q65473_1, h_r1_q65473_2, h_r1_q65473_3, -⟩ := h_r1_q65473
      have t_65474 := KX12.i1 h_r1_q65473_3
      have t_65475 := KX12.i1 k_I0
      have t_65476 : (I0_4_q65457 1).toInt = (I0 1).toInt := by rw [h_I0_4_q65457]; rfl
      refine wq_eq (fun hc_65477 => ?_) (fun hc_65478 => ?_)
      · exact wq_s ⟨h_r1_q65473_3, trivial⟩
      · refine wq_b (tt_fX12_asks_133 hN r1_q65473.2.1 r1_q65473.2.2.1 r1_q65473.2.2.2 x1 x2 h_r1_q65473_3) (fun r2_q65479 h_r2_q65479 => ?_)
        obtain ⟨h_r2_q65479_0, -⟩ := h_r2_q65479
        have b_65480 := i32b r2_q65479.1
        exact wq_s ⟨h_r2_q65479_0, trivial⟩
  · have l_1 := il_1
    refine wq_eq (fun hc_65481 => ?_) (fun hc_65482 => ?_)
    · unfold fX12_hits_J15
      have b_65483 := i32b x2
      have l_120 := il_120
      refine wq_b (tt_fX12_within hN x2 (0 : Int32) (120 : Int32)) (fun r3_q65484 h_r3_q65484 => ?_)
      obtain ⟨h_r3_q65484_0, h_r3_q65484_1, -⟩ := h_r3_q65484
      refine wq_eq (fun hc_65485 => ?_) (fun hc_65486 => ?_)
      · unfold fX12_hits_J29
        unfold fX12_hits_J30
        refine wq_b (tt_fX12_right hN I0_4_q65457 L0 M0 (0 : Int32) (1 : Int32) ⟨by omega, by omega⟩ k_I0_4_q65457) (fun r1_q65487 h_r1_q65487 => ?_)
        obtain ⟨h_r1_q65487_0, h_r1_q65487_1, h_r1_q65487_2, h_r1_q65487_3, -⟩ := h_r1_q65487
        have t_65488 := KX12.i1 h_r1_q65487_3
        have t_65489 := KX12.i1 k_I0
        have t_65490 : (I0_4_q65457 1).toInt = (I0 1).toInt := by rw [h_I0_4_q65457]; rfl
        refine wq_eq (fun hc_65491 => ?_) (fun hc_65492 => ?_)
        · exact wq_s ⟨h_r1_q65487_3, trivial⟩
        · refine wq_b (tt_fX12_asks_133 hN r1_q65487.2.1 r1_q65487.2.2.1 r1_q65487.2.2.2 x1 x2 h_r1_q65487_3) (fun r2_q65493 h_r2_q65493 => ?_)
          obtain ⟨h_r2_q65493_0, -⟩ := h_r2_q65493
          have b_65494 := i32b r2_q65493.1
          exact wq_s ⟨h_r2_q65493_0, trivial⟩
      · unfold fX12_hits_J30
        refine wq_b (tt_fX12_right hN I0_4_q65457 L0 M0 (1 : Int32) (1 : Int32) ⟨by omega, by omega⟩ k_I0_4_q65457) (fun r1_q65495 h_r1_q65495 => ?_)
        obtain ⟨h_r1_q65495_0, h_r1_q65495_1, h_r1_q65495_2, h_r1_q65495_3, -⟩ := h_r1_q65495
        have t_65496 := KX12.i1 h_r1_q65495_3
        have t_65497 := KX12.i1 k_I0
        have t_65498 : (I0_4_q65457 1).toInt = (I0 1).toInt := by rw [h_I0_4_q65457]; rfl
        refine wq_eq (fun hc_65499 => ?_) (fun hc_65500 => ?_)
        · exact wq_s ⟨h_r1_q65495_3, trivial⟩
        · refine wq_b (tt_fX12_asks_133 hN r1_q65495.2.1 r1_q65495.2.2.1 r1_q65495.2.2.2 x1 x2 h_r1_q65495_3) (fun r2_q65501 h_r2_q65501 => ?_)
          obtain ⟨h_r2_q65501_0, -⟩ := h_r2_q65501
          have b_65502 := i32b r2_q65501.1
          exact wq_s ⟨h_r2_q65501_0, trivial⟩
    · unfold fX12_hits_J29
      unfold fX12_hits_J30
      refine wq_b (tt_fX12_right hN I0_4_q65457 L0 M0 (0 : Int32) (1 : Int32) ⟨by omega, by omega⟩ k_I0_4_q65457) (fun r1_q65503 h_r1_q65503 => ?_)
      obtain ⟨h_r1_q65503_0, h_r1_q65503_1, h_r1_q65503_2, h_r1_q65503_3, -⟩ := h_r1_q65503
      have t_65504 := KX12.i1 h_r1_q65503_3
      have t_65505 := KX12.i1 k_I0
      have t_65506 : (I0_4_q65457 1).toInt = (I0 1).toInt := by rw [h_I0_4_q65457]; rfl
      refine wq_eq (fun hc_65507 => ?_) (fun hc_65508 => ?_)
      · exact wq_s ⟨h_r1_q65503_3, trivial⟩
      · have b_65509 := i32b x2
        refine wq_b (tt_fX12_asks_133 hN r1_q65503.2.1 r1_q65503.2.2.1 r1_q65503.2.2.2 x1 x2 h_r1_q65503_3) (fun r2_q65510 h_r2_q65510 => ?_)
        obtain ⟨h_r2_q65510_0, -⟩ := h_r2_q65510
        have b_65511 := i32b r2_q65510.1
        exact wq_s ⟨h_r2_q65510_0, trivial⟩
set_option maxHeartbeats 4000000 in
theorem tt_fX12_asks_135 {N : Nat} (hN : 3000000000 ≤ N) (I0 : Nat → Int32) (L0 : Int64) (M0 : Nat → Nat → Int32) (x2 : Int32) (x3 : Int32) (k_I0 : KX12 I0 M0) : wq (fX12_asks_135 N I0 L0 M0 x2 x3) (fun r => KX12 r.2.1 r.2.2.2 ∧ True) := by sorry
set_option maxHeartbeats 4000000 in
theorem tt_fX12_fates {N : Nat} (hN : 3000000000 ≤ N) (I0 : Nat → Int32) (L0 : Int64) (M0 : Nat → Nat → Int32) (x1 : Int32) (k_I0 : KX12 I0 M0) : wq (fX12_fates N I0 L0 M0 x1) (fun r => KX12 r.2.1 r.2.2.2 ∧ True) := by
  unfold fX12_fates
  refine wq_v (fun I0_3_q66438 h_I0_3_q66438 => ?_)
  have k_I0_3_q66438 : KX12 I0_3_q66438 M0 := by rw [h_I0_3_q66438]; exact KX12.si0 k_I0
  have b_66439 := i32b x1
  have l_0 := il_0
  refine wq_eq (fun hc_66440 => ?_) (fun hc_66441 => ?_)
  · unfold fX12_fates_J15
    unfold fX12_fates_J20
    have l_1 := il_1
    refine wq_b (tt_fX12_right hN I0_3_q66438 L0 M0 (1 : Int32) (1 : Int32) ⟨by omega, by omega⟩ k_I0_3_q66438) (fun r1_q66442 h_r1_q66442 => ?_)
    obtain ⟨h_r1_q66442_0, h_r1_q66442_1, h_r1_q66442_2, h_r1_q66442_3, -⟩ := h_r1_q66442
    have t_66443 := KX12.i1 h_r1_q66442_3
    have t_66444 := KX12.i1 k_I0
    have t_66445 : (I0_3_q66438 1).toInt = (I0 1).toInt := by rw [h_I0_3_q66438]; rfl
    refine wq_eq (fun hc_66446 => ?_) (fun hc_66447 => ?_)
    · exact wq_s ⟨h_r1_q66442_3, trivial⟩
    · have l_m1 := il_m1
      refine wq_b (tt_fX12_asks_135 hN r1_q66442.2.1 r1_q66442.2.2.1 r1_q66442.2.2.2 x1 ((-1) : Int32) h_r1_q66442_3) (fun r2_q66448 h_r2_q66448 => ?_)
      obtain ⟨h_r2_q66448_0, -⟩ := h_r2_q66448
      have b_66449 := i32b r2_q66448.1
      exact wq_s ⟨h_r2_q66448_0, trivial⟩
  · have l_1 := il_1
    refine wq_eq (fun hc_66450 => ?_) (fun hc_66451 => ?_)
    · unfold fX12_fates_J15
      unfold fX12_fates_J20
      refine wq_b (tt_fX12_right hN I0_3_q66438 L0 M0 (1 : Int32) (1 : Int32) ⟨by omega, by omega⟩ k_I0_3_q66438) (fun r1_q66452 h_r1_q66452 => ?_)
      obtain ⟨h_r1_q66452_0, h_r1_q66452_1, h_r1_q66452_2, h_r1_q66452_3, -⟩ := h_r1_q66452
      have t_66453 := KX12.i1 h_r1_q66452_3
      have t_66454 := KX12.i1 k_I0
      have t_66455 : (I0_3_q66438 1).toInt = (I0 1).toInt := by rw [h_I0_3_q66438]; rfl
      refine wq_eq (fun hc_66456 => ?_) (fun hc_66457 => ?_)
      · exact wq_s ⟨h_r1_q66452_3, trivial⟩
      · have l_m1 := il_m1
        refine wq_b (tt_fX12_asks_135 hN r1_q66452.2.1 r1_q66452.2.2.1 r1_q66452.2.2.2 x1 ((-1) : Int32) h_r1_q66452_3) (fun r2_q66458 h_r2_q66458 => ?_)
        obtain ⟨h_r2_q66458_0, -⟩ := h_r2_q66458
        have b_66459 := i32b r2_q66458.1
        exact wq_s ⟨h_r2_q66458_0, trivial⟩
    · unfold fX12_fates_J20
      refine wq_b (tt_fX12_right hN I0_3_q66438 L0 M0 (0 : Int32) (1 : Int32) ⟨by omega, by omega⟩ k_I0_3_q66438) (fun r1_q66460 h_r1_q66460 => ?_)
      obtain ⟨h_r1_q66460_0, h_r1_q66460_1, h_r1_q66460_2, h_r1_q66460_3, -⟩ := h_r1_q66460
      have t_66461 := KX12.i1 h_r1_q66460_3
      have t_66462 := KX12.i1 k_I0
      have t_66463 : (I0_3_q66438 1).toInt = (I0 1).toInt := by rw [h_I0_3_q66438]; rfl
      refine wq_eq (fun hc_66464 => ?_) (fun hc_66465 => ?_)
      · exact wq_s ⟨h_r1_q66460_3, trivial⟩
      · have l_m1 := il_m1
        refine wq_b (tt_fX12_asks_135 hN r1_q66460.2.1 r1_q66460.2.2.1 r1_q66460.2.2.2 x1 ((-1) : Int32) h_r1_q66460_3) (fun r2_q66466 h_r2_q66466 => ?_)
        obtain ⟨h_r2_q66466_0, -⟩ := h_r2_q66466
        have b_66467 := i32b r2_q66466.1
        exact wq_s ⟨h_r2_q66466_0, trivial⟩

set_option maxHeartbeats 4000000 in
theorem tt_fX10_setBooks_L4 {N : Nat} (hN : 3000000000 ≤ N) (I1 : Nat → Int32) (M1 : Nat → Nat → Int32) (k_I1 : KX1 I1 M1)  : ∀ (fu : Nat) (I0_l4 : (Nat → Int32)) (M0_l4 : (Nat → Nat → Int32)) (y4_2 : Int32) (y4_3 : Int32), (0 ≤ y4_2.toInt ∧ y4_2.toInt ≤ 1) → (0 ≤ y4_3.toInt ∧ y4_3.toInt ≤ 6) → (KX10 I0_l4 M0_l4) → (6 - y4_3.toInt) < (fu : Int) → wq (fX10_setBooks_L4 N I1 M1 fu I0_l4 M0_l4 y4_2 y4_3) (fun r => (0 ≤ r.1.toInt ∧ r.1.toInt ≤ 1) ∧ KX10 r.2.1 r.2.2 ∧ True) := by
  intro fu
  induction fu with
  | zero => intro I0_l4 M0_l4 y4_2 y4_3 h_y4_2 h_y4_3 k_I0_l4 hm; exfalso; omega
  | succ fu ih =>
    intro I0_l4 M0_l4 y4_2 y4_3 h_y4_2 h_y4_3 k_I0_l4 hm
    rw [fX10_setBooks_L4.eq_2]
    have l_6 := il_6
    refine wq_le (fun hc_12790 => ?_) (fun hc_12791 => ?_)
    · refine wq_bz (by omega) ?_
      exact wq_s ⟨(show 0 ≤ y4_2.toInt ∧ y4_2.toInt ≤ 1 from ⟨by omega, by omega⟩), k_I0_l4, trivial⟩
    · refine wq_b (tt_fX1_bookTells hN I1 M1 y4_3 ⟨by omega, by omega⟩ k_I1) (fun r5_q12792 h_r5_q12792 => ?_)
      obtain ⟨h_r5_q12792_0, -⟩ := h_r5_q12792
      have l_0 := il_0
      refine wq_eq (fun hc_12793 => ?_) (fun hc_12794 => ?_)
      · unfold fX10_setBooks_J30
        refine wq_in (n := 6) ⟨by omega, by omega⟩ ?_
        refine wq_v (fun M0_1_q12795 h_M0_1_q12795 => ?_)
        have l_m2 := il_m2
        have k_M0_1_q12795 : KX10 I0_l4 M0_1_q12795 := by rw [h_M0_1_q12795]; exact KX10.sm1 k_I0_l4 ⟨by omega, by omega⟩
        refine wq_eq (fun hc_12796 => ?_) (fun hc_12797 => ?_)
        · refine wq_in (n := 6) ⟨by omega, by omega⟩ ?_
          have t_12798 := KX10.m1 k_M0_1_q12795 y4_3.toNatClampNeg
          have l_m3 := il_m3
          refine wq_eq (fun hc_12799 => ?_) (fun hc_12800 => ?_)
          · have l_1 := il_1
            have t_12802 := ia_add y4_3 (1 : Int32) (by omega) (by omega)
            refine wq_v (fun v4_q12801 h_v4_q12801 => ?_)
            have t_v4_q12801 := congrArg Int32.toInt h_v4_q12801
            exact ih I0_l4 M0_1_q12795 (1 : Int32) v4_q12801 ⟨by omega, by omega⟩ ⟨by omega, by omega⟩ k_M0_1_q12795 (by omega)
          · have l_1 := il_1
            have t_12804 := ia_add y4_3 (1 : Int32) (by omega) (by omega)
            refine wq_v (fun v3_q12803 h_v3_q12803 => ?_)
            have t_v3_q12803 := congrArg Int32.toInt h_v3_q12803
            exact ih I0_l4 M0_1_q12795 (0 : Int32) v3_q12803 ⟨by omega, by omega⟩ ⟨by omega, by omega⟩ k_M0_1_q12795 (by omega)
        · have l_1 := il_1
          have t_12806 := ia_add y4_3 (1 : Int32) (by omega) (by omega)
          refine wq_v (fun v2_q12805 h_v2_q12805 => ?_)
          have t_v2_q12805 := congrArg Int32.toInt h_v2_q12805
          exact ih I0_l4 M0_1_q12795 (1 : Int32) v2_q12805 ⟨by omega, by omega⟩ ⟨by omega, by omega⟩ k_M0_1_q12795 (by omega)
      · unfold fX10_setBooks_J30
        refine wq_in (n := 6) ⟨by omega, by omega⟩ ?_
        refine wq_v (fun M0_1_q12807 h_M0_1_q12807 => ?_)
        have l_m3 := il_m3
        have k_M0_1_q12807 : KX10 I0_l4 M0_1_q12807 := by rw [h_M0_1_q12807]; exact KX10.sm1 k_I0_l4 ⟨by omega, by omega⟩
        refine wq_eq (fun hc_12808 => ?_) (fun hc_12809 => ?_)
        · refine wq_in (n := 6) ⟨by omega, by omega⟩ ?_
          have t_12810 := KX10.m1 k_M0_1_q12807 y4_3.toNatClampNeg
          refine wq_eq (fun hc_12811 => ?_) (fun hc_12812 => ?_)
          · have l_1 := il_1
            have t_12814 := ia_add y4_3 (1 : Int32) (by omega) (by omega)
            refine wq_v (fun v4_q12813 h_v4_q12813 => ?_)
            have t_v4_q12813 := congrArg Int32.toInt h_v4_q12813
            exact ih I0_l4 M0_1_q12807 (1 : Int32) v4_q12813 ⟨by omega, by omega⟩ ⟨by omega, by omega⟩ k_M0_1_q12807 (by omega)
          · have l_1 := il_1
            have t_12816 := ia_add y4_3 (1 : Int32) (by omega) (by omega)
            refine wq_v (fun v3_q12815 h_v3_q12815 => ?_)
            have t_v3_q12815 := congrArg Int32.toInt h_v3_q12815
            exact ih I0_l4 M0_1_q12807 (0 : Int32) v3_q12815 ⟨by omega, by omega⟩ ⟨by omega, by omega⟩ k_M0_1_q12807 (by omega)
        · have l_1 := il_1
          have t_12818 := ia_add y4_3 (1 : Int32) (by omega) (by omega)
          refine wq_v (fun v2_q12817 h_v2_q12817 => ?_)
          have t_v2_q12817 := congrArg Int32.toInt h_v2_q12817
          exact ih I0_l4 M0_1_q12807 (1 : Int32) v2_q12817 ⟨by omega, by omega⟩ ⟨by omega, by omega⟩ k_M0_1_q12807 (by omega)
set_option maxHeartbeats 4000000 in
theorem tt_fX10_setBooks {N : Nat} (hN : 3000000000 ≤ N) (I0 : Nat → Int32) (M0 : Nat → Nat → Int32) (I1 : Nat → Int32) (M1 : Nat → Nat → Int32) (k_I0 : KX10 I0 M0) (k_I1 : KX1 I1 M1) : wq (fX10_setBooks N I0 M0 I1 M1) (fun r => (0 ≤ r.1.toInt ∧ r.1.toInt ≤ 1) ∧ KX10 r.2.1 r.2.2 ∧ True) := by
  unfold fX10_setBooks
  have l_0 := il_0
  exact tt_fX10_setBooks_L4 hN I1 M1 k_I1 N I0 M0 (0 : Int32) (0 : Int32) ⟨by omega, by omega⟩ ⟨by omega, by omega⟩ k_I0 (by omega)
set_option maxHeartbeats 4000000 in
theorem tt_fX10_setPrices_L11 {N : Nat} (hN : 3000000000 ≤ N) (I1 : Nat → Int32) (M1 : Nat → Nat → Int32) (I2 : Nat → Int32) (M2 : Nat → Nat → Int32) (y2_3 : Int32) (g2 : (Nat → Int32) → (Nat → Nat → Int32) → Int32 → Option ((Nat → Int32) × (Nat → Nat → Int32))) (h_y2_3 : 0 ≤ y2_3.toInt ∧ y2_3.toInt ≤ 5) (k_I2 : KX1 I2 M2) (hg2 : ∀ (q0 : (Nat → Int32)) (q1 : (Nat → Nat → Int32)) (q2 : Int32), (0 ≤ q2.toInt ∧ q2.toInt ≤ 6) → (KX10 q0 q1) → (y2_3.toInt < q2.toInt) → wq (g2 q0 q1 q2) (fun r => KX10 r.1 r.2 ∧ True)) : ∀ (fu : Nat) (I0_l11 : (Nat → Int32)) (M0_l11 : (Nat → Nat → Int32)) (y11_4 : Int32), (0 ≤ y11_4.toInt ∧ y11_4.toInt ≤ 6) → (KX10 I0_l11 M0_l11) → (6 - y11_4.toInt) < (fu : Int) → wq (fX10_setPrices_L11 N I1 M1 I2 M2 y2_3 g2 fu I0_l11 M0_l11 y11_4) (fun r => KX10 r.1 r.2 ∧ True) := by
  intro fu
  induction fu with
  | zero => intro I0_l11 M0_l11 y11_4 h_y11_4 k_I0_l11 hm; exfalso; omega
  | succ fu ih =>
    intro I0_l11 M0_l11 y11_4 h_y11_4 k_I0_l11 hm
    rw [fX10_setPrices_L11.eq_2]
    have l_6 := il_6
    refine wq_le (fun hc_13285 => ?_) (fun hc_13286 => ?_)
    · have l_1 := il_1
      have t_13288 := ia_add y2_3 (1 : Int32) (by omega) (by omega)
      refine wq_v (fun v6_q13287 h_v6_q13287 => ?_)
      have t_v6_q13287 := congrArg Int32.toInt h_v6_q13287
      exact hg2 I0_l11 M0_l11 v6_q13287 ⟨by omega, by omega⟩ k_I0_l11 (by omega)
    · refine wq_in (n := 6) ⟨by omega, by omega⟩ ?_
      have t_13289 := KX10.m1 k_I0_l11 y2_3.toNatClampNeg
      have l_m3 := il_m3
      refine wq_eq (fun hc_13290 => ?_) (fun hc_13291 => ?_)
      · refine wq_in (n := 6) ⟨by omega, by omega⟩ ?_
        have t_13292 := KX10.m1 k_I0_l11 y11_4.toNatClampNeg
        refine wq_eq (fun hc_13293 => ?_) (fun hc_13294 => ?_)
        · unfold fX10_setPrices_J46
          have l_1 := il_1
          have l_0 := il_0
          refine wq_eq (fun hc_13295 => ?_) (fun hc_13296 => ?_)
          · exfalso; omega
          · refine wq_b (tt_fX10_priceOf hN I1 M1 I2 M2 y2_3 y11_4 ⟨by omega, by omega⟩ ⟨by omega, by omega⟩ k_I2) (fun r3_q13297 h_r3_q13297 => ?_)
            obtain ⟨-⟩ := h_r3_q13297
            have t_13298 := ia_mul (6 : Int32) (6) il_6 y2_3 (by omega) (by omega)
            have t_13299 := ia_add ((6 : Int32) * y2_3) y11_4 (by omega) (by omega)
            refine wq_in (n := 36) ⟨by omega, by omega⟩ ?_
            refine wq_v (fun M0_4_q13300 h_M0_4_q13300 => ?_)
            have k_M0_4_q13300 : KX10 I0_l11 M0_4_q13300 := by rw [h_M0_4_q13300]; exact KX10.sm0 k_I0_l11
            have t_13302 := ia_add y11_4 (1 : Int32) (by omega) (by omega)
            refine wq_v (fun v5_q13301 h_v5_q13301 => ?_)
            have t_v5_q13301 := congrArg Int32.toInt h_v5_q13301
            exact ih I0_l11 M0_4_q13300 v5_q13301 ⟨by omega, by omega⟩ k_M0_4_q13300 (by omega)
        · unfold fX10_setPrices_J45
          unfold fX10_setPrices_J46
          have l_0 := il_0
          refine wq_eq (fun hc_13303 => ?_) (fun hc_13304 => ?_)
          · have t_13305 := ia_mul (6 : Int32) (6) il_6 y2_3 (by omega) (by omega)
            have t_13306 := ia_add ((6 : Int32) * y2_3) y11_4 (by omega) (by omega)
            refine wq_in (n := 36) ⟨by omega, by omega⟩ ?_
            refine wq_v (fun M0_1_q13307 h_M0_1_q13307 => ?_)
            have k_M0_1_q13307 : KX10 I0_l11 M0_1_q13307 := by rw [h_M0_1_q13307]; exact KX10.sm0 k_I0_l11
            have l_1 := il_1
            have t_13309 := ia_add y11_4 (1 : Int32) (by omega) (by omega)
            refine wq_v (fun v2_q13308 h_v2_q13308 => ?_)
            have t_v2_q13308 := congrArg Int32.toInt h_v2_q13308
            exact ih I0_l11 M0_1_q13307 v2_q13308 ⟨by omega, by omega⟩ k_M0_1_q13307 (by omega)
          · exfalso; omega
      · unfold fX10_setPrices_J45
        unfold fX10_setPrices_J46
        have l_0 := il_0
        refine wq_eq (fun hc_13310 => ?_) (fun hc_13311 => ?_)
        · have t_13312 := ia_mul (6 : Int32) (6) il_6 y2_3 (by omega) (by omega)
          have t_13313 := ia_add ((6 : Int32) * y2_3) y11_4 (by omega) (by omega)
          refine wq_in (n := 36) ⟨by omega, by omega⟩ ?_
          refine wq_v (fun M0_1_q13314 h_M0_1_q13314 => ?_)
          have k_M0_1_q13314 : KX10 I0_l11 M0_1_q13314 := by rw [h_M0_1_q13314]; exact KX10.sm0 k_I0_l11
          have l_1 := il_1
          have t_13316 := ia_add y11_4 (1 : Int32) (by omega) (by omega)
          refine wq_v (fun v2_q13315 h_v2_q13315 => ?_)
          have t_v2_q13315 := congrArg Int32.toInt h_v2_q13315
          exact ih I0_l11 M0_1_q13314 v2_q13315 ⟨by omega, by omega⟩ k_M0_1_q13314 (by omega)
        · exfalso; omega
set_option maxHeartbeats 4000000 in
theorem tt_fX10_setPrices_L2 {N : Nat} (hN : 3000000000 ≤ N) (I1 : Nat → Int32) (M1 : Nat → Nat → Int32) (I2 : Nat → Int32) (M2 : Nat → Nat → Int32) (k_I2 : KX1 I2 M2)  : ∀ (fu : Nat) (I0_l2 : (Nat → Int32)) (M0_l2 : (Nat → Nat → Int32)) (y2_3 : Int32), (0 ≤ y2_3.toInt ∧ y2_3.toInt ≤ 6) → (KX10 I0_l2 M0_l2) → (6 - y2_3.toInt) < (fu : Int) → wq (fX10_setPrices_L2 N I1 M1 I2 M2 fu I0_l2 M0_l2 y2_3) (fun r => KX10 r.1 r.2 ∧ True) := by
  intro fu
  induction fu with
  | zero => intro I0_l2 M0_l2 y2_3 h_y2_3 k_I0_l2 hm; exfalso; omega
  | succ fu ih =>
    intro I0_l2 M0_l2 y2_3 h_y2_3 k_I0_l2 hm
    rw [fX10_setPrices_L2.eq_2]
    have l_6 := il_6
    refine wq_le (fun hc_13317 => ?_) (fun hc_13318 => ?_)
    · exact wq_s ⟨k_I0_l2, trivial⟩
    · have l_0 := il_0
      exact tt_fX10_setPrices_L11 hN I1 M1 I2 M2 y2_3 _ ⟨by omega, by omega⟩ k_I2 (fun q0 q1 q2 hq0 hq1 hq2 => ih q0 q1 q2 hq0 hq1 (by omega)) N I0_l2 M0_l2 (0 : Int32) ⟨by omega, by omega⟩ k_I0_l2 (by omega)
set_option maxHeartbeats 4000000 in
theorem tt_fX10_setPrices {N : Nat} (hN : 3000000000 ≤ N) (I0 : Nat → Int32) (M0 : Nat → Nat → Int32) (I1 : Nat → Int32) (M1 : Nat → Nat → Int32) (I2 : Nat → Int32) (M2 : Nat → Nat → Int32) (k_I0 : KX10 I0 M0) (k_I2 : KX1 I2 M2) : wq (fX10_setPrices N I0 M0 I1 M1 I2 M2) (fun r => KX10 r.1 r.2 ∧ True) := by
  unfold fX10_setPrices
  have l_0 := il_0
  exact tt_fX10_setPrices_L2 hN I1 M1 I2 M2 k_I2 N I0 M0 (0 : Int32) ⟨by omega, by omega⟩ k_I0 (by omega)
set_option maxHeartbeats 4000000 in
theorem tt_fX10_comesFrom_L5 {N : Nat} (hN : 3000000000 ≤ N) (I0 : Nat → Int32) (M0 : Nat → Nat → Int32) (x1 : Int32) (x2 : Int32) (h_x1 : 0 ≤ x1.toInt ∧ x1.toInt ≤ 5) (h_x2 : 0 ≤ x2.toInt ∧ x2.toInt ≤ 5) (k_I0 : KX10 I0 M0)  : ∀ (fu : Nat) (y5_3 : Int32) (y5_4 : Int32), (-3 ≤ y5_3.toInt ∧ y5_3.toInt ≤ 5) → (0 ≤ y5_4.toInt ∧ y5_4.toInt ≤ 6) → (6 - y5_4.toInt) < (fu : Int) → wq (fX10_comesFrom_L5 N I0 M0 x1 x2 fu y5_3 y5_4) (fun r => (0 ≤ r.toInt ∧ r.toInt ≤ 1) ∧ True) := by
  intro fu
  induction fu with
  | zero => intro y5_3 y5_4 h_y5_3 h_y5_4 hm; exfalso; omega
  | succ fu ih =>
    intro y5_3 y5_4 h_y5_3 h_y5_4 hm
    rw [fX10_comesFrom_L5.eq_2]
    have l_6 := il_6
    refine wq_le (fun hc_13419 => ?_) (fun hc_13420 => ?_)
    · have l_0 := il_0
      exact wq_s ⟨(show 0 ≤ (0 : Int32).toInt ∧ (0 : Int32).toInt ≤ 1 from ⟨by omega, by omega⟩), trivial⟩
    · have l_0 := il_0
      refine wq_lt (fun hc_13421 => ?_) (fun hc_13422 => ?_)
      · exact wq_s ⟨(show 0 ≤ (0 : Int32).toInt ∧ (0 : Int32).toInt ≤ 1 from ⟨by omega, by omega⟩), trivial⟩
      · refine wq_eq (fun hc_13423 => ?_) (fun hc_13424 => ?_)
        · have l_1 := il_1
          exact wq_s ⟨(show 0 ≤ (1 : Int32).toInt ∧ (1 : Int32).toInt ≤ 1 from ⟨by omega, by omega⟩), trivial⟩
        · refine wq_in (n := 6) ⟨by omega, by omega⟩ ?_
          have t_13426 := KX10.m1 k_I0 y5_3.toNatClampNeg
          refine wq_v (fun v1_q13425 h_v1_q13425 => ?_)
          have t_v1_q13425 := congrArg Int32.toInt h_v1_q13425
          have l_1 := il_1
          have t_13428 := ia_add y5_4 (1 : Int32) (by omega) (by omega)
          refine wq_v (fun v2_q13427 h_v2_q13427 => ?_)
          have t_v2_q13427 := congrArg Int32.toInt h_v2_q13427
          exact ih v1_q13425 v2_q13427 ⟨by omega, by omega⟩ ⟨by omega, by omega⟩ (by omega)
set_option maxHeartbeats 4000000 in
theorem tt_fX10_comesFrom {N : Nat} (hN : 3000000000 ≤ N) (I0 : Nat → Int32) (M0 : Nat → Nat → Int32) (x1 : Int32) (x2 : Int32) (h_x1 : 0 ≤ x1.toInt ∧ x1.toInt ≤ 5) (h_x2 : 0 ≤ x2.toInt ∧ x2.toInt ≤ 5) (k_I0 : KX10 I0 M0) : wq (fX10_comesFrom N I0 M0 x1 x2) (fun r => (0 ≤ r.toInt ∧ r.toInt ≤ 1) ∧ True) := by
  unfold fX10_comesFrom
  have l_0 := il_0
  exact tt_fX10_comesFrom_L5 hN I0 M0 x1 x2 ⟨by omega, by omega⟩ ⟨by omega, by omega⟩ k_I0 N x1 (0 : Int32) ⟨by omega, by omega⟩ ⟨by omega, by omega⟩ (by omega)
set_option maxHeartbeats 4000000 in
theorem tt_fX10_holds {N : Nat} (hN : 3000000000 ≤ N) (I0 : Nat → Int32) (M0 : Nat → Nat → Int32) (x1 : Int32) (h_x1 : 0 ≤ x1.toInt ∧ x1.toInt ≤ 5) (k_I0 : KX10 I0 M0) : wq (fX10_holds N I0 M0 x1) (fun r => (0 ≤ r.toInt ∧ r.toInt ≤ 1) ∧ True) := by
  unfold fX10_holds
  refine wq_in (n := 6) ⟨by omega, by omega⟩ ?_
  have t_13447 := KX10.m2 k_I0 x1.toNatClampNeg
  have l_m2 := il_m2
  refine wq_eq (fun hc_13448 => ?_) (fun hc_13449 => ?_)
  · have l_0 := il_0
    exact wq_s ⟨(show 0 ≤ (0 : Int32).toInt ∧ (0 : Int32).toInt ≤ 1 from ⟨by omega, by omega⟩), trivial⟩
  · have l_1 := il_1
    exact wq_s ⟨(show 0 ≤ (1 : Int32).toInt ∧ (1 : Int32).toInt ≤ 1 from ⟨by omega, by omega⟩), trivial⟩
set_option maxHeartbeats 4000000 in
theorem tt_fX10_parentOf {N : Nat} (hN : 3000000000 ≤ N) (I0 : Nat → Int32) (M0 : Nat → Nat → Int32) (x1 : Int32) (h_x1 : 0 ≤ x1.toInt ∧ x1.toInt ≤ 5) (k_I0 : KX10 I0 M0) : wq (fX10_parentOf N I0 M0 x1) (fun r => (-2 ≤ r.toInt ∧ r.toInt ≤ 5) ∧ True) := by
  unfold fX10_parentOf
  refine wq_in (n := 6) ⟨by omega, by omega⟩ ?_
  have t_13456 := KX10.m2 k_I0 x1.toNatClampNeg
  exact wq_s ⟨(show -2 ≤ (M0 2 x1.toNatClampNeg).toInt ∧ (M0 2 x1.toNatClampNeg).toInt ≤ 5 from ⟨by omega, by omega⟩), trivial⟩
set_option maxHeartbeats 4000000 in
theorem tt_fX10_isSlip {N : Nat} (hN : 3000000000 ≤ N) (I0 : Nat → Int32) (M0 : Nat → Nat → Int32) (x1 : Int32) (x2 : Int32) (x3 : Int32) (x4 : Int32) (h_x1 : 0 ≤ x1.toInt ∧ x1.toInt ≤ 389) : wq (fX10_isSlip N I0 M0 x1 x2 x3 x4) (fun r => (0 ≤ r.toInt ∧ r.toInt ≤ 1) ∧ True) := by
  unfold fX10_isSlip
  have b_13595 := i32b x2
  refine wq_b (tt_fX4_misreading hN I0 M0 x1 x2 ⟨by omega, by omega⟩) (fun r1_q13596 h_r1_q13596 => ?_)
  obtain ⟨h_r1_q13596_0, -⟩ := h_r1_q13596
  have l_1 := il_1
  refine wq_eq (fun hc_13597 => ?_) (fun hc_13598 => ?_)
  · have l_30 := il_30
    have t_13599 := ia_rem x1 (30 : Int32) 30 il_30 (by decide) (by omega)
    have b_13600 := i32b x3
    refine wq_eq (fun hc_13601 => ?_) (fun hc_13602 => ?_)
    · have t_13603 := ia_rem2 x2 (30 : Int32) 30 il_30 (by decide)
      have b_13604 := i32b x4
      refine wq_eq (fun hc_13605 => ?_) (fun hc_13606 => ?_)
      · exact wq_s ⟨(show 0 ≤ (1 : Int32).toInt ∧ (1 : Int32).toInt ≤ 1 from ⟨by omega, by omega⟩), trivial⟩
      · have l_0 := il_0
        exact wq_s ⟨(show 0 ≤ (0 : Int32).toInt ∧ (0 : Int32).toInt ≤ 1 from ⟨by omega, by omega⟩), trivial⟩
    · have l_0 := il_0
      exact wq_s ⟨(show 0 ≤ (0 : Int32).toInt ∧ (0 : Int32).toInt ≤ 1 from ⟨by omega, by omega⟩), trivial⟩
  · have l_2 := il_2
    refine wq_eq (fun hc_13607 => ?_) (fun hc_13608 => ?_)
    · have l_30 := il_30
      have t_13609 := ia_div x1 (30 : Int32) 30 il_30 (by decide) (by omega)
      have b_13610 := i32b x3
      refine wq_eq (fun hc_13611 => ?_) (fun hc_13612 => ?_)
      · have t_13613 := i32b x2
        have t_13614 := ia_div2 x2 (30 : Int32) 30 il_30 (by decide)
        have b_13615 := i32b x4
        refine wq_eq (fun hc_13616 => ?_) (fun hc_13617 => ?_)
        · exact wq_s ⟨(show 0 ≤ (1 : Int32).toInt ∧ (1 : Int32).toInt ≤ 1 from ⟨by omega, by omega⟩), trivial⟩
        · have l_0 := il_0
          exact wq_s ⟨(show 0 ≤ (0 : Int32).toInt ∧ (0 : Int32).toInt ≤ 1 from ⟨by omega, by omega⟩), trivial⟩
      · have l_0 := il_0
        exact wq_s ⟨(show 0 ≤ (0 : Int32).toInt ∧ (0 : Int32).toInt ≤ 1 from ⟨by omega, by omega⟩), trivial⟩
    · have l_0 := il_0
      exact wq_s ⟨(show 0 ≤ (0 : Int32).toInt ∧ (0 : Int32).toInt ≤ 1 from ⟨by omega, by omega⟩), trivial⟩
set_option maxHeartbeats 4000000 in
theorem tt_fX10_slipsOf_L16 {N : Nat} (hN : 3000000000 ≤ N) (I0 : Nat → Int32) (M0 : Nat → Nat → Int32) (I1 : Nat → Int32) (M1 : Nat → Nat → Int32) (I2 : Nat → Int32) (M2 : Nat → Nat → Int32) (x3 : Int32) (x4 : Int32) (x5 : Int32) (y6_7 : Int32) (g6 : Int32 → Int32 → Option (Int32)) (h_x3 : 0 ≤ x3.toInt ∧ x3.toInt ≤ 5) (h_y6_7 : 0 ≤ y6_7.toInt ∧ y6_7.toInt ≤ 19) (k_I0 : KX10 I0 M0) (k_I2 : KX1 I2 M2) (hr_4 : 0 ≤ (M0 2 x3.toNatClampNeg).toInt) (hg6 : ∀ (q0 : Int32) (q1 : Int32), (0 ≤ q1.toInt ∧ q1.toInt ≤ 20) → (y6_7.toInt < q1.toInt) → wq (g6 q0 q1) (fun r => True)) : ∀ (fu : Nat) (y16_6 : Int32) (y16_8 : Int32), (0 ≤ y16_8.toInt ∧ y16_8.toInt ≤ 21) → (21 - y16_8.toInt) < (fu : Int) → wq (fX10_slipsOf_L16 N I0 M0 I1 M1 I2 M2 x3 x4 x5 y6_7 g6 fu y16_6 y16_8) (fun r => True) := by
  intro fu
  induction fu with
  | zero => intro y16_6 y16_8 h_y16_8 hm; exfalso; omega
  | succ fu ih =>
    intro y16_6 y16_8 h_y16_8 hm
    rw [fX10_slipsOf_L16.eq_2]
    have l_21 := il_21
    refine wq_le (fun hc_14387 => ?_) (fun hc_14388 => ?_)
    · have l_1 := il_1
      have t_14390 := ia_add y6_7 (1 : Int32) (by omega) (by omega)
      refine wq_v (fun v1_q14389 h_v1_q14389 => ?_)
      have t_v1_q14389 := congrArg Int32.toInt h_v1_q14389
      have b_14391 := i32b y16_6
      exact hg6 y16_6 v1_q14389 ⟨by omega, by omega⟩ (by omega)
    · have l_20 := il_20
      have t_14392 := ia_mul (20 : Int32) (20) il_20 x3 (by omega) (by omega)
      have t_14393 := ia_add ((20 : Int32) * x3) y6_7 (by omega) (by omega)
      refine wq_b (tt_fX1_degreeOf hN I2 M2 (((20 : Int32) * x3) + y6_7) y16_8 ⟨by omega, by omega⟩ ⟨by omega, by omega⟩ k_I2) (fun r2_q14394 h_r2_q14394 => ?_)
      obtain ⟨h_r2_q14394_0, h_r2_q14394_1, -⟩ := h_r2_q14394
      refine wq_in (n := 6) ⟨by omega, by omega⟩ ?_
      have t_14395 := KX10.m2 k_I0 x3.toNatClampNeg
      have t_14396 := ia_mul (20 : Int32) (20) il_20 (M0 2 x3.toNatClampNeg) (by omega) (by omega)
      have t_14397 := ia_add ((20 : Int32) * (M0 2 x3.toNatClampNeg)) y6_7 (by omega) (by omega)
      refine wq_b (tt_fX1_degreeOf hN I2 M2 (((20 : Int32) * (M0 2 x3.toNatClampNeg)) + y6_7) y16_8 ⟨by omega, by omega⟩ ⟨by omega, by omega⟩ k_I2) (fun r3_q14398 h_r3_q14398 => ?_)
      obtain ⟨h_r3_q14398_0, h_r3_q14398_1, -⟩ := h_r3_q14398
      have l_m1 := il_m1
      refine wq_eq (fun hc_14399 => ?_) (fun hc_14400 => ?_)
      · have l_1 := il_1
        have t_14402 := ia_add y16_8 (1 : Int32) (by omega) (by omega)
        refine wq_v (fun v4_q14401 h_v4_q14401 => ?_)
        have t_v4_q14401 := congrArg Int32.toInt h_v4_q14401
        have b_14403 := i32b y16_6
        exact ih y16_6 v4_q14401 ⟨by omega, by omega⟩ (by omega)
      · refine wq_eq (fun hc_14404 => ?_) (fun hc_14405 => ?_)
        · have l_1 := il_1
          have t_14407 := ia_add y16_8 (1 : Int32) (by omega) (by omega)
          refine wq_v (fun v5_q14406 h_v5_q14406 => ?_)
          have t_v5_q14406 := congrArg Int32.toInt h_v5_q14406
          have b_14408 := i32b y16_6
          exact ih y16_6 v5_q14406 ⟨by omega, by omega⟩ (by omega)
        · have b_14409 := i32b x4
          have b_14410 := i32b x5
          refine wq_b (tt_fX10_isSlip hN I1 M1 r2_q14394 r3_q14398 x4 x5 ⟨by omega, by omega⟩) (fun r6_q14411 h_r6_q14411 => ?_)
          obtain ⟨h_r6_q14411_0, -⟩ := h_r6_q14411
          have l_0 := il_0
          refine wq_eq (fun hc_14412 => ?_) (fun hc_14413 => ?_)
          · have l_1 := il_1
            have t_14415 := ia_add y16_8 (1 : Int32) (by omega) (by omega)
            refine wq_v (fun v7_q14414 h_v7_q14414 => ?_)
            have t_v7_q14414 := congrArg Int32.toInt h_v7_q14414
            have b_14416 := i32b y16_6
            exact ih y16_6 v7_q14414 ⟨by omega, by omega⟩ (by omega)
          · have b_14418 := i32b y16_6
            have l_1 := il_1
            refine wq_v (fun v8_q14417 h_v8_q14417 => ?_)
            have t_v8_q14417 := congrArg Int32.toInt h_v8_q14417
            have t_14420 := ia_add y16_8 (1 : Int32) (by omega) (by omega)
            refine wq_v (fun v9_q14419 h_v9_q14419 => ?_)
            have t_v9_q14419 := congrArg Int32.toInt h_v9_q14419
            have b_14421 := i32b v8_q14417
            exact ih v8_q14417 v9_q14419 ⟨by omega, by omega⟩ (by omega)
set_option maxHeartbeats 4000000 in
theorem tt_fX10_slipsOf_L6 {N : Nat} (hN : 3000000000 ≤ N) (I0 : Nat → Int32) (M0 : Nat → Nat → Int32) (I1 : Nat → Int32) (M1 : Nat → Nat → Int32) (I2 : Nat → Int32) (M2 : Nat → Nat → Int32) (x3 : Int32) (x4 : Int32) (x5 : Int32) (h_x3 : 0 ≤ x3.toInt ∧ x3.toInt ≤ 5) (k_I0 : KX10 I0 M0) (k_I2 : KX1 I2 M2) (hr_3 : 0 ≤ (M0 2 x3.toNatClampNeg).toInt)  : ∀ (fu : Nat) (y6_6 : Int32) (y6_7 : Int32), (0 ≤ y6_7.toInt ∧ y6_7.toInt ≤ 20) → (20 - y6_7.toInt) < (fu : Int) → wq (fX10_slipsOf_L6 N I0 M0 I1 M1 I2 M2 x3 x4 x5 fu y6_6 y6_7) (fun r => True) := by
  intro fu
  induction fu with
  | zero => intro y6_6 y6_7 h_y6_7 hm; exfalso; omega
  | succ fu ih =>
    intro y6_6 y6_7 h_y6_7 hm
    rw [fX10_slipsOf_L6.eq_2]
    have l_20 := il_20
    refine wq_le (fun hc_14422 => ?_) (fun hc_14423 => ?_)
    · have b_14424 := i32b y6_6
      exact wq_s trivial
    · have b_14425 := i32b x4
      have b_14426 := i32b x5
      have b_14427 := i32b y6_6
      have l_0 := il_0
      exact tt_fX10_slipsOf_L16 hN I0 M0 I1 M1 I2 M2 x3 x4 x5 y6_7 _ ⟨by omega, by omega⟩ ⟨by omega, by omega⟩ k_I0 k_I2 (by omega) (fun q0 q1 hq0 hq1 => ih q0 q1 hq0 (by omega)) N y6_6 (0 : Int32) ⟨by omega, by omega⟩ (by omega)
set_option maxHeartbeats 4000000 in
theorem tt_fX10_slipsOf {N : Nat} (hN : 3000000000 ≤ N) (I0 : Nat → Int32) (M0 : Nat → Nat → Int32) (I1 : Nat → Int32) (M1 : Nat → Nat → Int32) (I2 : Nat → Int32) (M2 : Nat → Nat → Int32) (x3 : Int32) (x4 : Int32) (x5 : Int32) (h_x3 : 0 ≤ x3.toInt ∧ x3.toInt ≤ 5) (k_I0 : KX10 I0 M0) (k_I2 : KX1 I2 M2) (hr_3 : 0 ≤ (M0 2 x3.toNatClampNeg).toInt) : wq (fX10_slipsOf N I0 M0 I1 M1 I2 M2 x3 x4 x5) (fun r => True) := by
  unfold fX10_slipsOf
  have b_14428 := i32b x4
  have b_14429 := i32b x5
  have l_0 := il_0
  exact tt_fX10_slipsOf_L6 hN I0 M0 I1 M1 I2 M2 x3 x4 x5 ⟨by omega, by omega⟩ k_I0 k_I2 (by omega) N (0 : Int32) (0 : Int32) ⟨by omega, by omega⟩ (by omega)
set_option maxHeartbeats 4000000 in
theorem tt_fX10_howManySlips_L6 {N : Nat} (hN : 3000000000 ≤ N) (I0 : Nat → Int32) (M0 : Nat → Nat → Int32) (I1 : Nat → Int32) (M1 : Nat → Nat → Int32) (I2 : Nat → Int32) (M2 : Nat → Nat → Int32) (x3 : Int32) (x4 : Int32) (k_I0 : KX10 I0 M0) (k_I2 : KX1 I2 M2)  : ∀ (fu : Nat) (y6_5 : Int32) (y6_6 : Int32), (0 ≤ y6_6.toInt ∧ y6_6.toInt ≤ 6) → (6 - y6_6.toInt) < (fu : Int) → wq (fX10_howManySlips_L6 N I0 M0 I1 M1 I2 M2 x3 x4 fu y6_5 y6_6) (fun r => True) := by
  intro fu
  induction fu with
  | zero => intro y6_5 y6_6 h_y6_6 hm; exfalso; omega
  | succ fu ih =>
    intro y6_5 y6_6 h_y6_6 hm
    rw [fX10_howManySlips_L6.eq_2]
    have l_6 := il_6
    refine wq_le (fun hc_14644 => ?_) (fun hc_14645 => ?_)
    · have b_14646 := i32b y6_5
      exact wq_s trivial
    · refine wq_in (n := 6) ⟨by omega, by omega⟩ ?_
      have t_14647 := KX10.m2 k_I0 y6_6.toNatClampNeg
      have l_0 := il_0
      refine wq_lt (fun hc_14648 => ?_) (fun hc_14649 => ?_)
      · have l_1 := il_1
        have t_14651 := ia_add y6_6 (1 : Int32) (by omega) (by omega)
        refine wq_v (fun v1_q14650 h_v1_q14650 => ?_)
        have t_v1_q14650 := congrArg Int32.toInt h_v1_q14650
        have b_14652 := i32b y6_5
        exact ih y6_5 v1_q14650 ⟨by omega, by omega⟩ (by omega)
      · have b_14653 := i32b x3
        have b_14654 := i32b x4
        refine wq_b (tt_fX10_slipsOf hN I0 M0 I1 M1 I2 M2 y6_6 x3 x4 ⟨by omega, by omega⟩ k_I0 k_I2 (by omega)) (fun r2_q14655 h_r2_q14655 => ?_)
        obtain ⟨-⟩ := h_r2_q14655
        have b_14657 := i32b y6_5
        have b_14658 := i32b r2_q14655
        refine wq_v (fun v3_q14656 h_v3_q14656 => ?_)
        have t_v3_q14656 := congrArg Int32.toInt h_v3_q14656
        have l_1 := il_1
        have t_14660 := ia_add y6_6 (1 : Int32) (by omega) (by omega)
        refine wq_v (fun v4_q14659 h_v4_q14659 => ?_)
        have t_v4_q14659 := congrArg Int32.toInt h_v4_q14659
        have b_14661 := i32b v3_q14656
        exact ih v3_q14656 v4_q14659 ⟨by omega, by omega⟩ (by omega)
set_option maxHeartbeats 4000000 in
theorem tt_fX10_howManySlips {N : Nat} (hN : 3000000000 ≤ N) (I0 : Nat → Int32) (M0 : Nat → Nat → Int32) (I1 : Nat → Int32) (M1 : Nat → Nat → Int32) (I2 : Nat → Int32) (M2 : Nat → Nat → Int32) (x3 : Int32) (x4 : Int32) (k_I0 : KX10 I0 M0) (k_I2 : KX1 I2 M2) : wq (fX10_howManySlips N I0 M0 I1 M1 I2 M2 x3 x4) (fun r => True) := by
  unfold fX10_howManySlips
  have b_14662 := i32b x3
  have b_14663 := i32b x4
  have l_0 := il_0
  exact tt_fX10_howManySlips_L6 hN I0 M0 I1 M1 I2 M2 x3 x4 k_I0 k_I2 N (0 : Int32) (0 : Int32) ⟨by omega, by omega⟩ (by omega)
set_option maxHeartbeats 4000000 in
theorem tt_fX11_feed {N : Nat} (hN : 3000000000 ≤ N) (I0 : Nat → Int32) (M0 : Nat → Nat → Int32) (x1 : Int32) (x2 : Int32) (x3 : Int32) (x4 : Int32) (x5 : Int32) (k_I0 : KX11 I0 M0) : wq (fX11_feed N I0 M0 x1 x2 x3 x4 x5) (fun r => (-1 ≤ r.1.toInt ∧ r.1.toInt ≤ 600) ∧ KX11 r.2.1 r.2.2 ∧ True) := by
  unfold fX11_feed
  refine wq_b (tt_fX9_hasRoom hN I0 M0 (KX11.s_X9_0_0 k_I0)) (fun r1_q14808 h_r1_q14808 => ?_)
  obtain ⟨h_r1_q14808_0, -⟩ := h_r1_q14808
  have l_0 := il_0
  refine wq_eq (fun hc_14809 => ?_) (fun hc_14810 => ?_)
  · have l_m1 := il_m1
    exact wq_s ⟨(show -1 ≤ (-1 : Int32).toInt ∧ (-1 : Int32).toInt ≤ 600 from ⟨by omega, by omega⟩), k_I0, trivial⟩
  · have b_14811 := i32b x1
    refine wq_b (tt_fX9_put hN I0 M0 x1 (KX11.s_X9_0_0 k_I0)) (fun r2_q14812 h_r2_q14812 => ?_)
    obtain ⟨h_r2_q14812_0, -⟩ := h_r2_q14812
    refine wq_v (fun I0_3_q14813 h_I0_3_q14813 => ?_)
    refine wq_v (fun M0_4_q14814 h_M0_4_q14814 => ?_)
    have k_M0_4_q14814 : KX11 I0_3_q14813 M0_4_q14814 := by rw [h_I0_3_q14813, h_M0_4_q14814]; exact KX11.p_X9_0_0 k_I0 h_r2_q14812_0
    have b_14815 := i32b x2
    refine wq_b (tt_fX9_put hN I0_3_q14813 M0_4_q14814 x2 (KX11.s_X9_0_0 k_M0_4_q14814)) (fun r5_q14816 h_r5_q14816 => ?_)
    obtain ⟨h_r5_q14816_0, -⟩ := h_r5_q14816
    refine wq_v (fun I0_6_q14817 h_I0_6_q14817 => ?_)
    refine wq_v (fun M0_7_q14818 h_M0_7_q14818 => ?_)
    have k_M0_7_q14818 : KX11 I0_6_q14817 M0_7_q14818 := by rw [h_I0_6_q14817, h_M0_7_q14818]; exact KX11.p_X9_0_0 k_M0_4_q14814 h_r5_q14816_0
    have b_14819 := i32b x3
    refine wq_b (tt_fX9_put hN I0_6_q14817 M0_7_q14818 x3 (KX11.s_X9_0_0 k_M0_7_q14818)) (fun r8_q14820 h_r8_q14820 => ?_)
    obtain ⟨h_r8_q14820_0, -⟩ := h_r8_q14820
    refine wq_v (fun I0_9_q14821 h_I0_9_q14821 => ?_)
    refine wq_v (fun M0_10_q14822 h_M0_10_q14822 => ?_)
    have k_M0_10_q14822 : KX11 I0_9_q14821 M0_10_q14822 := by rw [h_I0_9_q14821, h_M0_10_q14822]; exact KX11.p_X9_0_0 k_M0_7_q14818 h_r8_q14820_0
    have b_14823 := i32b x4
    refine wq_b (tt_fX9_put hN I0_9_q14821 M0_10_q14822 x4 (KX11.s_X9_0_0 k_M0_10_q14822)) (fun r11_q14824 h_r11_q14824 => ?_)
    obtain ⟨h_r11_q14824_0, -⟩ := h_r11_q14824
    refine wq_v (fun I0_12_q14825 h_I0_12_q14825 => ?_)
    refine wq_v (fun M0_13_q14826 h_M0_13_q14826 => ?_)
    have k_M0_13_q14826 : KX11 I0_12_q14825 M0_13_q14826 := by rw [h_I0_12_q14825, h_M0_13_q14826]; exact KX11.p_X9_0_0 k_M0_10_q14822 h_r11_q14824_0
    have b_14827 := i32b x5
    refine wq_b (tt_fX9_put hN I0_12_q14825 M0_13_q14826 x5 (KX11.s_X9_0_0 k_M0_13_q14826)) (fun r14_q14828 h_r14_q14828 => ?_)
    obtain ⟨h_r14_q14828_0, -⟩ := h_r14_q14828
    refine wq_v (fun I0_15_q14829 h_I0_15_q14829 => ?_)
    refine wq_v (fun M0_16_q14830 h_M0_16_q14830 => ?_)
    have k_M0_16_q14830 : KX11 I0_15_q14829 M0_16_q14830 := by rw [h_I0_15_q14829, h_M0_16_q14830]; exact KX11.p_X9_0_0 k_M0_13_q14826 h_r14_q14828_0
    have t_14831 := KX11.i0 k_M0_16_q14830
    exact wq_s ⟨(show -1 ≤ (I0_15_q14829 0).toInt ∧ (I0_15_q14829 0).toInt ≤ 600 from ⟨by omega, by omega⟩), k_M0_16_q14830, trivial⟩
set_option maxHeartbeats 4000000 in
theorem tt_fX11_within {N : Nat} (hN : 3000000000 ≤ N) (x0 : Int32) (x1 : Int32) (x2 : Int32)  : wq (fX11_within N x0 x1 x2) (fun r => (r.toInt = 0 ∨ (r.toInt = 1 ∧ x1.toInt ≤ x0.toInt ∧ x0.toInt ≤ x2.toInt)) ∧ (0 ≤ r.toInt ∧ r.toInt ≤ 1) ∧ True) := by
  unfold fX11_within
  have b_14874 := i32b x0
  have b_14875 := i32b x1
  refine wq_lt (fun hc_14876 => ?_) (fun hc_14877 => ?_)
  · have b_14878 := i32b x2
    have l_0 := il_0
    exact wq_s ⟨(show ((0 : Int32).toInt = 0 ∨ ((0 : Int32).toInt = 1 ∧ x1.toInt ≤ x0.toInt ∧ x0.toInt ≤ x2.toInt)) from by omega), (show 0 ≤ (0 : Int32).toInt ∧ (0 : Int32).toInt ≤ 1 from ⟨by omega, by omega⟩), trivial⟩
  · have b_14879 := i32b x2
    refine wq_lt (fun hc_14880 => ?_) (fun hc_14881 => ?_)
    · have l_0 := il_0
      exact wq_s ⟨(show ((0 : Int32).toInt = 0 ∨ ((0 : Int32).toInt = 1 ∧ x1.toInt ≤ x0.toInt ∧ x0.toInt ≤ x2.toInt)) from by omega), (show 0 ≤ (0 : Int32).toInt ∧ (0 : Int32).toInt ≤ 1 from ⟨by omega, by omega⟩), trivial⟩
    · have l_1 := il_1
      exact wq_s ⟨(show ((1 : Int32).toInt = 0 ∨ ((1 : Int32).toInt = 1 ∧ x1.toInt ≤ x0.toInt ∧ x0.toInt ≤ x2.toInt)) from by omega), (show 0 ≤ (1 : Int32).toInt ∧ (1 : Int32).toInt ≤ 1 from ⟨by omega, by omega⟩), trivial⟩
theorem tt_fX11_allow0 (N : Nat) : wq (fX11_allow N (0 : Int32)) (qS 2 (fun _ => False)) := ⟨.inl 2, rfl, Or.inr ⟨rfl, by decide⟩⟩
theorem tt_fX11_allow {N : Nat} (hN : 3000000000 ≤ N) (x0 : Int32)  : wq (fX11_allow N x0) (qS 2 (fun r => x0.toInt ≠ 0 ∧ True)) := by
  unfold fX11_allow
  have l_0 := il_0
  refine wq_eq (fun hc => ?_) (fun hc => ?_)
  · exact wq_s (show qE 2 2 from by unfold qE; omega)
  · exact wq_ok (wq_s ⟨by omega, trivial⟩)
set_option maxHeartbeats 4000000 in
theorem tt_fX11_house {N : Nat} (hN : 3000000000 ≤ N) (I0 : Nat → Int32) (M0 : Nat → Nat → Int32) (x1 : Int32) (k_I0 : KX11 I0 M0) : wq (fX11_house N I0 M0 x1) (qS 2 (fun r => KX11 r.2.1 r.2.2 ∧ True)) := by
  unfold fX11_house
  have b_14984 := i32b x1
  have l_0 := il_0
  have t_14985 := KX11.i0 k_I0
  refine wq_b (tt_fX11_within hN x1 (0 : Int32) (I0 0)) (fun r1_q14986 h_r1_q14986 => ?_)
  obtain ⟨h_r1_q14986_0, h_r1_q14986_1, -⟩ := h_r1_q14986
  refine wq_xb (tt_fX11_allow hN r1_q14986) (by decide) (fun r2_q14987 h_r2_q14987 => ?_)
  obtain ⟨h_r2_q14987_0, -⟩ := h_r2_q14987
  refine wq_ok ?_
  refine wq_b (tt_fX9_begin hN I0 M0 x1 ⟨by omega, by omega⟩ (KX11.s_X9_0_0 k_I0)) (fun r3_q14988 h_r3_q14988 => ?_)
  obtain ⟨h_r3_q14988_0, -⟩ := h_r3_q14988
  refine wq_v (fun I0_4_q14989 h_I0_4_q14989 => ?_)
  refine wq_v (fun M0_5_q14990 h_M0_5_q14990 => ?_)
  have k_M0_5_q14990 : KX11 I0_4_q14989 M0_5_q14990 := by rw [h_I0_4_q14989, h_M0_5_q14990]; exact KX11.p_X9_0_0 k_I0 h_r3_q14988_0
  refine wq_b (tt_fX5_copyFrom hN (wb_sh I0_4_q14989 11) (wb_sh M0_5_q14990 7) (wb_sh I0_4_q14989 9) (wb_sh M0_5_q14990 1) (KX11.s_X5_11_7 k_M0_5_q14990) (KX11.s_X5_9_1 k_M0_5_q14990)) (fun r6_q14991 h_r6_q14991 => ?_)
  obtain ⟨h_r6_q14991_0, -⟩ := h_r6_q14991
  refine wq_v (fun I0_7_q14992 h_I0_7_q14992 => ?_)
  refine wq_v (fun M0_8_q14993 h_M0_8_q14993 => ?_)
  have k_M0_8_q14993 : KX11 I0_7_q14992 M0_8_q14993 := by rw [h_I0_7_q14992, h_M0_8_q14993]; exact KX11.p_X5_11_7 k_M0_5_q14990 h_r6_q14991_0
  refine wq_b (tt_fX5_readLines hN (wb_sh I0_7_q14992 11) (wb_sh M0_8_q14993 7) I0_7_q14992 M0_8_q14993 (KX11.s_X5_11_7 k_M0_8_q14993) (KX11.s_X9_0_0 k_M0_8_q14993)) (fun r9b_q14994 h_r9b_q14994 => ?_)
  obtain ⟨-⟩ := h_r9b_q14994
  have b_14995 := i32b r9b_q14994
  refine wq_eq (fun hc_14996 => ?_) (fun hc_14997 => ?_)
  · exact wq_s ⟨k_M0_8_q14993, trivial⟩
  · refine wq_b (tt_fX5_copyFrom hN (wb_sh I0_7_q14992 9) (wb_sh M0_8_q14993 1) (wb_sh I0_7_q14992 11) (wb_sh M0_8_q14993 7) (KX11.s_X5_9_1 k_M0_8_q14993) (KX11.s_X5_11_7 k_M0_8_q14993)) (fun r10_q14998 h_r10_q14998 => ?_)
    obtain ⟨h_r10_q14998_0, -⟩ := h_r10_q14998
    refine wq_v (fun I0_11_q14999 h_I0_11_q14999 => ?_)
    refine wq_v (fun M0_12_q15000 h_M0_12_q15000 => ?_)
    have k_M0_12_q15000 : KX11 I0_11_q14999 M0_12_q15000 := by rw [h_I0_11_q14999, h_M0_12_q15000]; exact KX11.p_X5_9_1 k_M0_8_q14993 h_r10_q14998_0
    exact wq_s ⟨k_M0_12_q15000, trivial⟩
theorem tt_fX11_need0 (N : Nat) : wq (fX11_need N (0 : Int32)) (qS 1 (fun _ => False)) := ⟨.inl 1, rfl, Or.inl ⟨rfl, by decide⟩⟩
theorem tt_fX11_need {N : Nat} (hN : 3000000000 ≤ N) (x0 : Int32)  : wq (fX11_need N x0) (qS 1 (fun r => x0.toInt ≠ 0 ∧ True)) := by
  unfold fX11_need
  have l_0 := il_0
  refine wq_eq (fun hc => ?_) (fun hc => ?_)
  · exact wq_s (show qE 1 1 from by unfold qE; omega)
  · exact wq_ok (wq_s ⟨by omega, trivial⟩)
set_option maxHeartbeats 4000000 in
theorem tt_fX11_isBook {N : Nat} (hN : 3000000000 ≤ N) (x0 : Int32)  : wq (fX11_isBook N x0) (fun r => (r.toInt = 0 ∨ (r.toInt = 1 ∧ 0 ≤ x0.toInt ∧ x0.toInt ≤ 5)) ∧ (0 ≤ r.toInt ∧ r.toInt ≤ 1) ∧ True) := by
  unfold fX11_isBook
  have b_15013 := i32b x0
  have l_0 := il_0
  have l_5 := il_5
  refine wq_b (tt_fX11_within hN x0 (0 : Int32) (5 : Int32)) (fun r1_q15014 h_r1_q15014 => ?_)
  obtain ⟨h_r1_q15014_0, h_r1_q15014_1, -⟩ := h_r1_q15014
  refine wq_bz (by omega) ?_
  exact wq_s ⟨(show (r1_q15014.toInt = 0 ∨ (r1_q15014.toInt = 1 ∧ 0 ≤ x0.toInt ∧ x0.toInt ≤ 5)) from by omega), (show 0 ≤ r1_q15014.toInt ∧ r1_q15014.toInt ≤ 1 from ⟨by omega, by omega⟩), trivial⟩
set_option maxHeartbeats 4000000 in
theorem tt_fX11_numberOf {N : Nat} (hN : 3000000000 ≤ N) (x0 : Int32) (x1 : Int32)  : wq (fX11_numberOf N x0 x1) (qS 1 (fun r => (r.toInt = 20 * x0.toInt + x1.toInt ∧ 0 ≤ x0.toInt ∧ x0.toInt ≤ 5 ∧ 0 ≤ x1.toInt ∧ x1.toInt ≤ 19) ∧ (0 ≤ r.toInt ∧ r.toInt ≤ 119) ∧ True)) := by
  unfold fX11_numberOf
  have b_15093 := i32b x0
  refine wq_b (tt_fX11_isBook hN x0) (fun r2_q15094 h_r2_q15094 => ?_)
  obtain ⟨h_r2_q15094_0, h_r2_q15094_1, -⟩ := h_r2_q15094
  have l_0 := il_0
  refine wq_eq (fun hc_15095 => ?_) (fun hc_15096 => ?_)
  · unfold fX11_numberOf_J21
    exact wq_xb (tt_fX11_need0 N) (by decide) (fun _ h => absurd h id)
  · have b_15098 := i32b x1
    have l_19 := il_19
    refine wq_b (tt_fX11_within hN x1 (0 : Int32) (19 : Int32)) (fun r3_q15099 h_r3_q15099 => ?_)
    obtain ⟨h_r3_q15099_0, h_r3_q15099_1, -⟩ := h_r3_q15099
    refine wq_eq (fun hc_15100 => ?_) (fun hc_15101 => ?_)
    · unfold fX11_numberOf_J21
      exact wq_xb (tt_fX11_need0 N) (by decide) (fun _ h => absurd h id)
    · have l_1 := il_1
      refine wq_xb (tt_fX11_need hN (1 : Int32)) (by decide) (fun r4_q15103 h_r4_q15103 => ?_)
      obtain ⟨h_r4_q15103_0, -⟩ := h_r4_q15103
      refine wq_ok ?_
      have l_20 := il_20
      have t_15104 := ia_mul (20 : Int32) (20) il_20 x0 (by omega) (by omega)
      have t_15105 := ia_add ((20 : Int32) * x0) x1 (by omega) (by omega)
      exact wq_s ⟨(show ((((20 : Int32) * x0) + x1).toInt = 20 * x0.toInt + x1.toInt ∧ 0 ≤ x0.toInt ∧ x0.toInt ≤ 5 ∧ 0 ≤ x1.toInt ∧ x1.toInt ≤ 19) from by omega), (show 0 ≤ (((20 : Int32) * x0) + x1).toInt ∧ (((20 : Int32) * x0) + x1).toInt ≤ 119 from ⟨by omega, by omega⟩), trivial⟩
set_option maxHeartbeats 4000000 in
theorem tt_fX11_wheel {N : Nat} (hN : 3000000000 ≤ N) (I0 : Nat → Int32) (M0 : Nat → Nat → Int32) (x1 : Int32) (x2 : Int32) (x3 : Int32) (k_I0 : KX11 I0 M0) : wq (fX11_wheel N I0 M0 x1 x2 x3) (qS 3 (fun r => KX11 r.2.1 r.2.2 ∧ True)) := by
  unfold fX11_wheel
  have b_15221 := i32b x1
  have b_15222 := i32b x2
  refine wq_xb (tt_fX11_numberOf hN x1 x2) (by decide) (fun r1_q15220 h_r1_q15220 => ?_)
  obtain ⟨h_r1_q15220_0, h_r1_q15220_1, -⟩ := h_r1_q15220
  have b_15223 := i32b x3
  have l_0 := il_0
  have t_15224 := KX11.i0 k_I0
  refine wq_b (tt_fX11_within hN x3 (0 : Int32) (I0 0)) (fun r2_q15225 h_r2_q15225 => ?_)
  obtain ⟨h_r2_q15225_0, h_r2_q15225_1, -⟩ := h_r2_q15225
  refine wq_xb (tt_fX11_allow hN r2_q15225) (by decide) (fun r3_q15226 h_r3_q15226 => ?_)
  obtain ⟨h_r3_q15226_0, -⟩ := h_r3_q15226
  refine wq_ok ?_
  refine wq_b (tt_fX9_begin hN I0 M0 x3 ⟨by omega, by omega⟩ (KX11.s_X9_0_0 k_I0)) (fun r4_q15227 h_r4_q15227 => ?_)
  obtain ⟨h_r4_q15227_0, -⟩ := h_r4_q15227
  refine wq_v (fun I0_5_q15228 h_I0_5_q15228 => ?_)
  refine wq_v (fun M0_6_q15229 h_M0_6_q15229 => ?_)
  have k_M0_6_q15229 : KX11 I0_5_q15228 M0_6_q15229 := by rw [h_I0_5_q15228, h_M0_6_q15229]; exact KX11.p_X9_0_0 k_I0 h_r4_q15227_0
  refine wq_b (tt_fX1_readEntries hN (wb_sh I0_5_q15228 13) (wb_sh M0_6_q15229 13) I0_5_q15228 M0_6_q15229 (KX11.s_X1_13_13 k_M0_6_q15229) (KX11.s_X9_0_0 k_M0_6_q15229)) (fun r7_q15230 h_r7_q15230 => ?_)
  obtain ⟨h_r7_q15230_0, -⟩ := h_r7_q15230
  refine wq_v (fun I0_8_q15231 h_I0_8_q15231 => ?_)
  refine wq_v (fun M0_9_q15232 h_M0_9_q15232 => ?_)
  have k_M0_9_q15232 : KX11 I0_8_q15231 M0_9_q15232 := by rw [h_I0_8_q15231, h_M0_9_q15232]; exact KX11.p_X1_13_13 k_M0_6_q15229 h_r7_q15230_0
  have b_15233 := i32b r7_q15230.1
  refine wq_eq (fun hc_15234 => ?_) (fun hc_15235 => ?_)
  · exact wq_s ⟨k_M0_9_q15232, trivial⟩
  · refine wq_b (tt_fX1_keepDraft hN (wb_sh I0_8_q15231 13) (wb_sh M0_9_q15232 13) r1_q15220 ⟨by omega, by omega⟩ (KX11.s_X1_13_13 k_M0_9_q15232)) (fun r10_q15236 h_r10_q15236 => ?_)
    obtain ⟨h_r10_q15236_0, -⟩ := h_r10_q15236
    refine wq_v (fun I0_11_q15237 h_I0_11_q15237 => ?_)
    refine wq_v (fun M0_12_q15238 h_M0_12_q15238 => ?_)
    have k_M0_12_q15238 : KX11 I0_11_q15237 M0_12_q15238 := by rw [h_I0_11_q15237, h_M0_12_q15238]; exact KX11.p_X1_13_13 k_M0_9_q15232 h_r10_q15236_0
    exact wq_s ⟨k_M0_12_q15238, trivial⟩
set_option maxHeartbeats 4000000 in
theorem tt_fX11_fault {N : Nat} (hN : 3000000000 ≤ N) (I0 : Nat → Int32) (M0 : Nat → Nat → Int32) (k_I0 : KX11 I0 M0) : wq (fX11_fault N I0 M0) (fun r => True) := by
  unfold fX11_fault
  exact wq_s trivial
set_option maxHeartbeats 4000000 in
theorem tt_fX11_count {N : Nat} (hN : 3000000000 ≤ N) (I0 : Nat → Int32) (M0 : Nat → Nat → Int32) (x1 : Int32) (k_I0 : KX11 I0 M0) : wq (fX11_count N I0 M0 x1) (qS 1 (fun r => KX11 r.2.1 r.2.2 ∧ True)) := by
  unfold fX11_count
  have b_15377 := i32b x1
  have l_0 := il_0
  refine wq_eq (fun hc_15378 => ?_) (fun hc_15379 => ?_)
  · refine wq_ok ?_
    have t_15380 := KX11.i9 k_I0
    exact wq_s ⟨k_I0, trivial⟩
  · have l_1 := il_1
    refine wq_eq (fun hc_15381 => ?_) (fun hc_15382 => ?_)
    · refine wq_ok ?_
      exact wq_s ⟨k_I0, trivial⟩
    · have l_2 := il_2
      refine wq_eq (fun hc_15383 => ?_) (fun hc_15384 => ?_)
      · refine wq_ok ?_
        refine wq_b (tt_fX1_howManyTell hN (wb_sh I0 13) (wb_sh M0 13) (KX11.s_X1_13_13 k_I0)) (fun r1_q15385 h_r1_q15385 => ?_)
        obtain ⟨-⟩ := h_r1_q15385
        have b_15386 := i32b r1_q15385
        exact wq_s ⟨k_I0, trivial⟩
      · have l_3 := il_3
        refine wq_eq (fun hc_15387 => ?_) (fun hc_15388 => ?_)
        · refine wq_ok ?_
          refine wq_b (tt_fX7_howManyLives hN (wb_sh I0 43) (wb_sh M0 28) (KX11.s_X7_43_28 k_I0)) (fun r2_q15389 h_r2_q15389 => ?_)
          obtain ⟨h_r2_q15389_0, h_r2_q15389_1, -⟩ := h_r2_q15389
          refine wq_v (fun I0_3_q15390 h_I0_3_q15390 => ?_)
          refine wq_v (fun M0_4_q15391 h_M0_4_q15391 => ?_)
          have k_M0_4_q15391 : KX11 I0_3_q15390 M0_4_q15391 := by rw [h_I0_3_q15390, h_M0_4_q15391]; exact KX11.p_X7_43_28 k_I0 h_r2_q15389_1
          exact wq_s ⟨k_M0_4_q15391, trivial⟩
        · have l_4 := il_4
          refine wq_eq (fun hc_15392 => ?_) (fun hc_15393 => ?_)
          · refine wq_ok ?_
            have t_15394 := KX11.i0 k_I0
            exact wq_s ⟨k_I0, trivial⟩
          · have l_5 := il_5
            refine wq_eq (fun hc_15395 => ?_) (fun hc_15396 => ?_)
            · refine wq_ok ?_
              refine wq_b (tt_fX7_howManyFates hN (wb_sh I0 43) (wb_sh M0 28) (KX11.s_X7_43_28 k_I0)) (fun r5_q15397 h_r5_q15397 => ?_)
              obtain ⟨h_r5_q15397_0, h_r5_q15397_1, -⟩ := h_r5_q15397
              refine wq_v (fun I0_6_q15398 h_I0_6_q15398 => ?_)
              refine wq_v (fun M0_7_q15399 h_M0_7_q15399 => ?_)
              have k_M0_7_q15399 : KX11 I0_6_q15398 M0_7_q15399 := by rw [h_I0_6_q15398, h_M0_7_q15399]; exact KX11.p_X7_43_28 k_I0 h_r5_q15397_1
              exact wq_s ⟨k_M0_7_q15399, trivial⟩
            · exact wq_s (show qE 1 1 from by unfold qE; omega)

theorem tt_fX5_placeOn {N : Nat} (hN : 3000000000 ≤ N) (I0 : Nat → Int32) (M0 : Nat → Nat → Int32) (x1 : Int32) (x2 : Int32) (x3 : Int32) (h_x1 : 0 ≤ x1.toInt ∧ x1.toInt ≤ 3) (h_x2 : 0 ≤ x2.toInt ∧ x2.toInt ≤ 6) (k_I0 : KX5 I0 M0) : wq (fX5_placeOn N I0 M0 x1 x2 x3) (fun r => True) := by
  unfold fX5_placeOn
  have l_7 := il_7
  have ta := ia_mul (7 : Int32) 7 il_7 x1 (by omega) (by omega)
  have tb := ia_add ((7 : Int32) * x1) x2 (by omega) (by omega)
  refine wq_v (fun v1 e1 => ?_)
  have tv := congrArg Int32.toInt e1
  refine wq_in (n := 28) ⟨by omega, by omega⟩ (wq_v (fun v2 e2 => ?_))
  refine wq_in (n := 28) ⟨by omega, by omega⟩ ?_
  refine wq_b (tt_fX5_swingOn hN I0 M0 v1 x3 ⟨by omega, by omega⟩ k_I0) (fun r3 _ => ?_)
  exact wq_b (tt_fJ9_floorMod_f86c9 hN _ _ (by decide)) (fun r4 _ => wq_s trivial)
set_option maxHeartbeats 4000000 in
theorem tt_fX5_degreeOn {N : Nat} (hN : 3000000000 ≤ N) (I0 : Nat → Int32) (M0 : Nat → Nat → Int32) (x1 : Int32) (x2 : Int32) (x3 : Int32) (h_x1 : 0 ≤ x1.toInt ∧ x1.toInt ≤ 3) (h_x2 : 0 ≤ x2.toInt ∧ x2.toInt ≤ 6) (k_I0 : KX5 I0 M0) : wq (fX5_degreeOn N I0 M0 x1 x2 x3) (fun r => (-35791394 ≤ r.toInt ∧ r.toInt ≤ 35791394) ∧ True) := by
  unfold fX5_degreeOn
  have b_5509 := i32b x3
  refine wq_b (tt_fX5_placeOn hN I0 M0 x1 x2 x3 ⟨by omega, by omega⟩ ⟨by omega, by omega⟩ k_I0) (fun r1_q5510 h_r1_q5510 => ?_)
  obtain ⟨-⟩ := h_r1_q5510
  have b_5511 := i32b r1_q5510
  have l_60 := il_60
  have t_5512 := i32b r1_q5510
  have t_5513 := ia_div2 r1_q5510 (60 : Int32) 60 il_60 (by decide)
  exact wq_s ⟨(show -35791394 ≤ (r1_q5510 / (60 : Int32)).toInt ∧ (r1_q5510 / (60 : Int32)).toInt ≤ 35791394 from ⟨by omega, by omega⟩), trivial⟩
set_option maxHeartbeats 4000000 in
theorem tt_fX3_costOn_L37 {N : Nat} (hN : 3000000000 ≤ N) (I0 : Nat → Int32) (M0 : Nat → Nat → Int32) (I1 : Nat → Int32) (M1 : Nat → Nat → Int32) (x2 : Int32) (x3 : Int32) (x4 : Int32) (x5 : Int32) (h_x2 : 0 ≤ x2.toInt ∧ x2.toInt ≤ 119) (h_x3 : 0 ≤ x3.toInt ∧ x3.toInt ≤ 3) (h_x4 : 0 ≤ x4.toInt ∧ x4.toInt ≤ 1000001) (k_I0 : KX5 I0 M0) (k_I1 : KX1 I1 M1)  : ∀ (fu : Nat) (y37_7 : Int32) (y37_8 : Int32), (0 ≤ y37_8.toInt ∧ y37_8.toInt ≤ 7) → (7 - y37_8.toInt) < (fu : Int) → wq (fX3_costOn_L37 N I0 M0 I1 M1 x2 x3 x4 x5 fu y37_7 y37_8) (fun r => True) := by
  intro fu
  induction fu with
  | zero => intro y37_7 y37_8 h_y37_8 hm; exfalso; omega
  | succ fu ih =>
    intro y37_7 y37_8 h_y37_8 hm
    rw [fX3_costOn_L37.eq_2]
    have l_7 := il_7
    refine wq_le (fun hc_5878 => ?_) (fun hc_5879 => ?_)
    · have b_5880 := i32b y37_7
      exact wq_s trivial
    · have b_5881 := i32b x5
      have b_5882 := i32b y37_7
      refine wq_lt (fun hc_5883 => ?_) (fun hc_5884 => ?_)
      · exact wq_s trivial
      · refine wq_b (tt_fX1_degreeOf hN I1 M1 x2 y37_8 ⟨by omega, by omega⟩ ⟨by omega, by omega⟩ k_I1) (fun r1_q5885 h_r1_q5885 => ?_)
        obtain ⟨h_r1_q5885_0, h_r1_q5885_1, -⟩ := h_r1_q5885
        have l_m1 := il_m1
        refine wq_eq (fun hc_5886 => ?_) (fun hc_5887 => ?_)
        · have l_1 := il_1
          have t_5889 := ia_add y37_8 (1 : Int32) (by omega) (by omega)
          refine wq_v (fun v2_q5888 h_v2_q5888 => ?_)
          have t_v2_q5888 := congrArg Int32.toInt h_v2_q5888
          exact ih y37_7 v2_q5888 ⟨by omega, by omega⟩ (by omega)
        · refine wq_b (tt_fX5_degreeOn hN I0 M0 x3 y37_8 x4 ⟨by omega, by omega⟩ ⟨by omega, by omega⟩ k_I0) (fun r3_q5890 h_r3_q5890 => ?_)
          obtain ⟨h_r3_q5890_0, -⟩ := h_r3_q5890
          refine wq_b (tt_fX4_costBeside hN (wb_sh I0 1) (wb_sh M0 5) r1_q5885 r3_q5890 ⟨by omega, by omega⟩) (fun r4_q5891 h_r4_q5891 => ?_)
          obtain ⟨h_r4_q5891_0, -⟩ := h_r4_q5891
          refine wq_v (fun v5_q5892 h_v5_q5892 => ?_)
          have t_v5_q5892 := congrArg Int32.toInt h_v5_q5892
          have l_1 := il_1
          have t_5894 := ia_add y37_8 (1 : Int32) (by omega) (by omega)
          refine wq_v (fun v6_q5893 h_v6_q5893 => ?_)
          have t_v6_q5893 := congrArg Int32.toInt h_v6_q5893
          have b_5895 := i32b v5_q5892
          exact ih v5_q5892 v6_q5893 ⟨by omega, by omega⟩ (by omega)
set_option maxHeartbeats 4000000 in
theorem tt_fX3_costOn {N : Nat} (hN : 3000000000 ≤ N) (I0 : Nat → Int32) (M0 : Nat → Nat → Int32) (I1 : Nat → Int32) (M1 : Nat → Nat → Int32) (x2 : Int32) (x3 : Int32) (x4 : Int32) (x5 : Int32) (h_x2 : 0 ≤ x2.toInt ∧ x2.toInt ≤ 119) (h_x3 : 0 ≤ x3.toInt ∧ x3.toInt ≤ 3) (h_x4 : 0 ≤ x4.toInt ∧ x4.toInt ≤ 1000001) (k_I0 : KX5 I0 M0) (k_I1 : KX1 I1 M1) : wq (fX3_costOn N I0 M0 I1 M1 x2 x3 x4 x5) (fun r => True) := by
  unfold fX3_costOn
  have l_21 := il_21
  refine wq_b (tt_fX1_degreeOf hN I1 M1 x2 (21 : Int32) ⟨by omega, by omega⟩ ⟨by omega, by omega⟩ k_I1) (fun r7_q5896 h_r7_q5896 => ?_)
  obtain ⟨h_r7_q5896_0, h_r7_q5896_1, -⟩ := h_r7_q5896
  have l_m1 := il_m1
  refine wq_eq (fun hc_5897 => ?_) (fun hc_5898 => ?_)
  · unfold fX3_costOn_J31
    unfold fX3_costOn_J32
    have b_5899 := i32b x5
    have l_0 := il_0
    exact tt_fX3_costOn_L37 hN I0 M0 I1 M1 x2 x3 x4 x5 ⟨by omega, by omega⟩ ⟨by omega, by omega⟩ ⟨by omega, by omega⟩ k_I0 k_I1 N (0 : Int32) (0 : Int32) ⟨by omega, by omega⟩ (by omega)
  · have l_365 := il_365
    have t_5900 := ia_rem x4 (365 : Int32) 365 il_365 (by decide) (by omega)
    refine wq_eq (fun hc_5901 => ?_) (fun hc_5902 => ?_)
    · unfold fX3_costOn_J31
      unfold fX3_costOn_J32
      have b_5903 := i32b x5
      have l_0 := il_0
      exact tt_fX3_costOn_L37 hN I0 M0 I1 M1 x2 x3 x4 x5 ⟨by omega, by omega⟩ ⟨by omega, by omega⟩ ⟨by omega, by omega⟩ k_I0 k_I1 N (0 : Int32) (0 : Int32) ⟨by omega, by omega⟩ (by omega)
    · unfold fX3_costOn_J32
      have b_5904 := i32b x5
      have l_30 := il_30
      have l_0 := il_0
      exact tt_fX3_costOn_L37 hN I0 M0 I1 M1 x2 x3 x4 x5 ⟨by omega, by omega⟩ ⟨by omega, by omega⟩ ⟨by omega, by omega⟩ k_I0 k_I1 N (30 : Int32) (0 : Int32) ⟨by omega, by omega⟩ (by omega)
set_option maxHeartbeats 4000000 in
theorem tt_fX3_setsAt_L6 {N : Nat} (hN : 3000000000 ≤ N) (I0 : Nat → Int32) (M0 : Nat → Nat → Int32) (x1 : Int32) (x2 : Int32) (x3 : Int32) (h_x2 : 0 ≤ x2.toInt ∧ x2.toInt ≤ 6) (k_I0 : KX5 I0 M0)  : ∀ (fu : Nat) (y6_4 : Int32) (y6_5 : Int32), (0 ≤ y6_4.toInt ∧ y6_4.toInt ≤ 255) → (0 ≤ y6_5.toInt ∧ y6_5.toInt ≤ 4) → (4 - y6_5.toInt) < (fu : Int) → wq (fX3_setsAt_L6 N I0 M0 x1 x2 x3 fu y6_4 y6_5) (fun r => (0 ≤ r.toInt ∧ r.toInt ≤ 255) ∧ True) := by
  intro fu
  induction fu with
  | zero => intro y6_4 y6_5 h_y6_4 h_y6_5 hm; exfalso; omega
  | succ fu ih =>
    intro y6_4 y6_5 h_y6_4 h_y6_5 hm
    rw [fX3_setsAt_L6.eq_2]
    have l_4 := il_4
    refine wq_le (fun hc_6055 => ?_) (fun hc_6056 => ?_)
    · exact wq_s ⟨(show 0 ≤ y6_4.toInt ∧ y6_4.toInt ≤ 255 from ⟨by omega, by omega⟩), trivial⟩
    · have b_6057 := i32b x3
      refine wq_b (tt_fX5_degreeOn hN I0 M0 y6_5 x2 x3 ⟨by omega, by omega⟩ ⟨by omega, by omega⟩ k_I0) (fun r1_q6058 h_r1_q6058 => ?_)
      obtain ⟨h_r1_q6058_0, -⟩ := h_r1_q6058
      have b_6059 := i32b x1
      refine wq_eq (fun hc_6060 => ?_) (fun hc_6061 => ?_)
      · have t_6063 := or_sh y6_4 y6_5 ⟨by omega, by omega⟩ ⟨by omega, by omega⟩
        refine wq_v (fun v3_q6062 h_v3_q6062 => ?_)
        have t_v3_q6062 := congrArg Int32.toInt h_v3_q6062
        have l_1 := il_1
        have t_6065 := ia_add y6_5 (1 : Int32) (by omega) (by omega)
        refine wq_v (fun v4_q6064 h_v4_q6064 => ?_)
        have t_v4_q6064 := congrArg Int32.toInt h_v4_q6064
        exact ih v3_q6062 v4_q6064 ⟨by omega, by omega⟩ ⟨by omega, by omega⟩ (by omega)
      · have l_1 := il_1
        have t_6067 := ia_add y6_5 (1 : Int32) (by omega) (by omega)
        refine wq_v (fun v2_q6066 h_v2_q6066 => ?_)
        have t_v2_q6066 := congrArg Int32.toInt h_v2_q6066
        exact ih y6_4 v2_q6066 ⟨by omega, by omega⟩ ⟨by omega, by omega⟩ (by omega)
set_option maxHeartbeats 4000000 in
theorem tt_fX3_setsAt {N : Nat} (hN : 3000000000 ≤ N) (I0 : Nat → Int32) (M0 : Nat → Nat → Int32) (x1 : Int32) (x2 : Int32) (x3 : Int32) (h_x2 : 0 ≤ x2.toInt ∧ x2.toInt ≤ 6) (k_I0 : KX5 I0 M0) : wq (fX3_setsAt N I0 M0 x1 x2 x3) (fun r => (0 ≤ r.toInt ∧ r.toInt ≤ 255) ∧ True) := by
  unfold fX3_setsAt
  have b_6068 := i32b x1
  have b_6069 := i32b x3
  have l_0 := il_0
  exact tt_fX3_setsAt_L6 hN I0 M0 x1 x2 x3 ⟨by omega, by omega⟩ k_I0 N (0 : Int32) (0 : Int32) ⟨by omega, by omega⟩ ⟨by omega, by omega⟩ (by omega)
set_option maxHeartbeats 4000000 in
theorem tt_fX3_isMixed_L7 {N : Nat} (hN : 3000000000 ≤ N) (I0 : Nat → Int32) (M0 : Nat → Nat → Int32) (I1 : Nat → Int32) (M1 : Nat → Nat → Int32) (x2 : Int32) (x3 : Int32) (h_x2 : 0 ≤ x2.toInt ∧ x2.toInt ≤ 119) (k_I0 : KX5 I0 M0) (k_I1 : KX1 I1 M1)  : ∀ (fu : Nat) (y7_4 : Int32) (y7_5 : Int32), (0 ≤ y7_5.toInt ∧ y7_5.toInt ≤ 7) → (7 - y7_5.toInt) < (fu : Int) → wq (fX3_isMixed_L7 N I0 M0 I1 M1 x2 x3 fu y7_4 y7_5) (fun r => (0 ≤ r.toInt ∧ r.toInt ≤ 1) ∧ True) := by
  intro fu
  induction fu with
  | zero => intro y7_4 y7_5 h_y7_5 hm; exfalso; omega
  | succ fu ih =>
    intro y7_4 y7_5 h_y7_5 hm
    rw [fX3_isMixed_L7.eq_2]
    have l_7 := il_7
    refine wq_le (fun hc_6274 => ?_) (fun hc_6275 => ?_)
    · have b_6276 := i32b y7_4
      have l_0 := il_0
      refine wq_eq (fun hc_6277 => ?_) (fun hc_6278 => ?_)
      · have l_1 := il_1
        exact wq_s ⟨(show 0 ≤ (1 : Int32).toInt ∧ (1 : Int32).toInt ≤ 1 from ⟨by omega, by omega⟩), trivial⟩
      · exact wq_s ⟨(show 0 ≤ (0 : Int32).toInt ∧ (0 : Int32).toInt ≤ 1 from ⟨by omega, by omega⟩), trivial⟩
    · refine wq_b (tt_fX1_degreeOf hN I1 M1 x2 y7_5 ⟨by omega, by omega⟩ ⟨by omega, by omega⟩ k_I1) (fun r1_q6279 h_r1_q6279 => ?_)
      obtain ⟨h_r1_q6279_0, h_r1_q6279_1, -⟩ := h_r1_q6279
      have l_m1 := il_m1
      refine wq_eq (fun hc_6280 => ?_) (fun hc_6281 => ?_)
      · have l_1 := il_1
        have t_6283 := ia_add y7_5 (1 : Int32) (by omega) (by omega)
        refine wq_v (fun v2_q6282 h_v2_q6282 => ?_)
        have t_v2_q6282 := congrArg Int32.toInt h_v2_q6282
        have b_6284 := i32b y7_4
        exact ih y7_4 v2_q6282 ⟨by omega, by omega⟩ (by omega)
      · have b_6285 := i32b x3
        refine wq_b (tt_fX3_setsAt hN I0 M0 r1_q6279 y7_5 x3 ⟨by omega, by omega⟩ k_I0) (fun r3_q6286 h_r3_q6286 => ?_)
        obtain ⟨h_r3_q6286_0, -⟩ := h_r3_q6286
        have l_0 := il_0
        refine wq_eq (fun hc_6287 => ?_) (fun hc_6288 => ?_)
        · exact wq_s ⟨(show 0 ≤ (0 : Int32).toInt ∧ (0 : Int32).toInt ≤ 1 from ⟨by omega, by omega⟩), trivial⟩
        · refine wq_v (fun v4_q6289 h_v4_q6289 => ?_)
          have t_v4_q6289 := congrArg Int32.toInt h_v4_q6289
          have l_1 := il_1
          have t_6291 := ia_add y7_5 (1 : Int32) (by omega) (by omega)
          refine wq_v (fun v5_q6290 h_v5_q6290 => ?_)
          have t_v5_q6290 := congrArg Int32.toInt h_v5_q6290
          have b_6292 := i32b v4_q6289
          exact ih v4_q6289 v5_q6290 ⟨by omega, by omega⟩ (by omega)
set_option maxHeartbeats 4000000 in
theorem tt_fX3_isMixed {N : Nat} (hN : 3000000000 ≤ N) (I0 : Nat → Int32) (M0 : Nat → Nat → Int32) (I1 : Nat → Int32) (M1 : Nat → Nat → Int32) (x2 : Int32) (x3 : Int32) (h_x2 : 0 ≤ x2.toInt ∧ x2.toInt ≤ 119) (k_I0 : KX5 I0 M0) (k_I1 : KX1 I1 M1) : wq (fX3_isMixed N I0 M0 I1 M1 x2 x3) (fun r => (0 ≤ r.toInt ∧ r.toInt ≤ 1) ∧ True) := by
  unfold fX3_isMixed
  have b_6293 := i32b x3
  have l_15 := il_15
  have l_0 := il_0
  exact tt_fX3_isMixed_L7 hN I0 M0 I1 M1 x2 x3 ⟨by omega, by omega⟩ k_I0 k_I1 N (15 : Int32) (0 : Int32) ⟨by omega, by omega⟩ (by omega)
set_option maxHeartbeats 4000000 in
theorem tt_fX3_setSharers_L3 {N : Nat} (hN : 3000000000 ≤ N) (I1 : Nat → Int32) (M1 : Nat → Nat → Int32) (I2 : Nat → Int32) (M2 : Nat → Nat → Int32) (x3 : Int32) (x4 : Int32) (h_x3 : 0 ≤ x3.toInt ∧ x3.toInt ≤ 119) (k_I1 : KX5 I1 M1) (k_I2 : KX1 I2 M2)  : ∀ (fu : Nat) (I0_l3 : (Nat → Int32)) (M0_l3 : (Nat → Nat → Int32)) (y3_5 : Int32), (0 ≤ y3_5.toInt ∧ y3_5.toInt ≤ 7) → (7 - y3_5.toInt) < (fu : Int) → wq (fX3_setSharers_L3 N I1 M1 I2 M2 x3 x4 fu I0_l3 M0_l3 y3_5) (fun r => True) := by
  intro fu
  induction fu with
  | zero => intro I0_l3 M0_l3 y3_5 h_y3_5 hm; exfalso; omega
  | succ fu ih =>
    intro I0_l3 M0_l3 y3_5 h_y3_5 hm
    rw [fX3_setSharers_L3.eq_2]
    have l_7 := il_7
    refine wq_le (fun hc_6534 => ?_) (fun hc_6535 => ?_)
    · exact wq_s trivial
    · refine wq_b (tt_fX1_degreeOf hN I2 M2 x3 y3_5 ⟨by omega, by omega⟩ ⟨by omega, by omega⟩ k_I2) (fun r5_q6536 h_r5_q6536 => ?_)
      obtain ⟨h_r5_q6536_0, h_r5_q6536_1, -⟩ := h_r5_q6536
      have l_m1 := il_m1
      refine wq_eq (fun hc_6537 => ?_) (fun hc_6538 => ?_)
      · unfold fX3_setSharers_J39
        have l_1 := il_1
        refine wq_eq (fun hc_6539 => ?_) (fun hc_6540 => ?_)
        · refine wq_in (n := 7) ⟨by omega, by omega⟩ ?_
          refine wq_v (fun M0_3_q6541 h_M0_3_q6541 => ?_)
          have t_6543 := ia_add y3_5 (1 : Int32) (by omega) (by omega)
          refine wq_v (fun v4_q6542 h_v4_q6542 => ?_)
          have t_v4_q6542 := congrArg Int32.toInt h_v4_q6542
          exact ih I0_l3 M0_3_q6541 v4_q6542 ⟨by omega, by omega⟩ (by omega)
        · refine wq_in (n := 7) ⟨by omega, by omega⟩ ?_
          refine wq_v (fun M0_1_q6544 h_M0_1_q6544 => ?_)
          have t_6546 := ia_add y3_5 (1 : Int32) (by omega) (by omega)
          refine wq_v (fun v2_q6545 h_v2_q6545 => ?_)
          have t_v2_q6545 := congrArg Int32.toInt h_v2_q6545
          exact ih I0_l3 M0_1_q6544 v2_q6545 ⟨by omega, by omega⟩ (by omega)
      · have b_6547 := i32b x4
        refine wq_b (tt_fX3_setsAt hN I1 M1 r5_q6536 y3_5 x4 ⟨by omega, by omega⟩ k_I1) (fun r6_q6548 h_r6_q6548 => ?_)
        obtain ⟨h_r6_q6548_0, -⟩ := h_r6_q6548
        unfold fX3_setSharers_J39
        have l_1 := il_1
        refine wq_eq (fun hc_6549 => ?_) (fun hc_6550 => ?_)
        · refine wq_in (n := 7) ⟨by omega, by omega⟩ ?_
          refine wq_v (fun M0_3_q6551 h_M0_3_q6551 => ?_)
          have t_6553 := ia_add y3_5 (1 : Int32) (by omega) (by omega)
          refine wq_v (fun v4_q6552 h_v4_q6552 => ?_)
          have t_v4_q6552 := congrArg Int32.toInt h_v4_q6552
          exact ih I0_l3 M0_3_q6551 v4_q6552 ⟨by omega, by omega⟩ (by omega)
        · refine wq_in (n := 7) ⟨by omega, by omega⟩ ?_
          refine wq_v (fun M0_1_q6554 h_M0_1_q6554 => ?_)
          have t_6556 := ia_add y3_5 (1 : Int32) (by omega) (by omega)
          refine wq_v (fun v2_q6555 h_v2_q6555 => ?_)
          have t_v2_q6555 := congrArg Int32.toInt h_v2_q6555
          exact ih I0_l3 M0_1_q6554 v2_q6555 ⟨by omega, by omega⟩ (by omega)
set_option maxHeartbeats 4000000 in
theorem tt_fX3_setSharers {N : Nat} (hN : 3000000000 ≤ N) (I0 : Nat → Int32) (M0 : Nat → Nat → Int32) (I1 : Nat → Int32) (M1 : Nat → Nat → Int32) (I2 : Nat → Int32) (M2 : Nat → Nat → Int32) (x3 : Int32) (x4 : Int32) (h_x3 : 0 ≤ x3.toInt ∧ x3.toInt ≤ 119) (k_I1 : KX5 I1 M1) (k_I2 : KX1 I2 M2) : wq (fX3_setSharers N I0 M0 I1 M1 I2 M2 x3 x4) (fun r => True) := by
  unfold fX3_setSharers
  have b_6557 := i32b x4
  have l_0 := il_0
  exact tt_fX3_setSharers_L3 hN I1 M1 I2 M2 x3 x4 ⟨by omega, by omega⟩ k_I1 k_I2 N I0 M0 (0 : Int32) ⟨by omega, by omega⟩ (by omega)
set_option maxHeartbeats 4000000 in
theorem tt_fX3_isShared {N : Nat} (hN : 3000000000 ≤ N) (I0 : Nat → Int32) (M0 : Nat → Nat → Int32) (x1 : Int32) (x2 : Int32) (h_x1 : 0 ≤ x1.toInt ∧ x1.toInt ≤ 6) : wq (fX3_isShared N I0 M0 x1 x2) (fun r => (0 ≤ r.toInt ∧ r.toInt ≤ 1) ∧ True) := by
  unfold fX3_isShared
  refine wq_in (n := 7) ⟨by omega, by omega⟩ ?_
  have l_m1 := il_m1
  refine wq_eq (fun hc_6582 => ?_) (fun hc_6583 => ?_)
  · have l_0 := il_0
    exact wq_s ⟨(show 0 ≤ (0 : Int32).toInt ∧ (0 : Int32).toInt ≤ 1 from ⟨by omega, by omega⟩), trivial⟩
  · refine wq_in (n := 7) ⟨by omega, by omega⟩ ?_
    have l_1 := il_1
    refine wq_eq (fun hc_6584 => ?_) (fun hc_6585 => ?_)
    · exact wq_s ⟨(show 0 ≤ (1 : Int32).toInt ∧ (1 : Int32).toInt ≤ 1 from ⟨by omega, by omega⟩), trivial⟩
    · have l_0 := il_0
      exact wq_s ⟨(show 0 ≤ (0 : Int32).toInt ∧ (0 : Int32).toInt ≤ 1 from ⟨by omega, by omega⟩), trivial⟩
set_option maxHeartbeats 4000000 in
theorem tt_fX3_howManyErrors_L4 {N : Nat} (hN : 3000000000 ≤ N) (I0 : Nat → Int32) (M0 : Nat → Nat → Int32)   : ∀ (fu : Nat) (y4_1 : Int32) (y4_2 : Int32), (0 ≤ y4_2.toInt ∧ y4_2.toInt ≤ 7) → (7 - y4_2.toInt) < (fu : Int) → wq (fX3_howManyErrors_L4 N I0 M0 fu y4_1 y4_2) (fun r => True) := by
  intro fu
  induction fu with
  | zero => intro y4_1 y4_2 h_y4_2 hm; exfalso; omega
  | succ fu ih =>
    intro y4_1 y4_2 h_y4_2 hm
    rw [fX3_howManyErrors_L4.eq_2]
    have l_7 := il_7
    refine wq_le (fun hc_6747 => ?_) (fun hc_6748 => ?_)
    · have b_6749 := i32b y4_1
      exact wq_s trivial
    · refine wq_in (n := 7) ⟨by omega, by omega⟩ ?_
      have l_m1 := il_m1
      refine wq_eq (fun hc_6750 => ?_) (fun hc_6751 => ?_)
      · have l_1 := il_1
        have t_6753 := ia_add y4_2 (1 : Int32) (by omega) (by omega)
        refine wq_v (fun v1_q6752 h_v1_q6752 => ?_)
        have t_v1_q6752 := congrArg Int32.toInt h_v1_q6752
        have b_6754 := i32b y4_1
        exact ih y4_1 v1_q6752 ⟨by omega, by omega⟩ (by omega)
      · have b_6756 := i32b y4_1
        have l_1 := il_1
        refine wq_v (fun v2_q6755 h_v2_q6755 => ?_)
        have t_v2_q6755 := congrArg Int32.toInt h_v2_q6755
        have t_6758 := ia_add y4_2 (1 : Int32) (by omega) (by omega)
        refine wq_v (fun v3_q6757 h_v3_q6757 => ?_)
        have t_v3_q6757 := congrArg Int32.toInt h_v3_q6757
        have b_6759 := i32b v2_q6755
        exact ih v2_q6755 v3_q6757 ⟨by omega, by omega⟩ (by omega)
set_option maxHeartbeats 4000000 in
theorem tt_fX3_howManyErrors {N : Nat} (hN : 3000000000 ≤ N) (I0 : Nat → Int32) (M0 : Nat → Nat → Int32)  : wq (fX3_howManyErrors N I0 M0) (fun r => True) := by
  unfold fX3_howManyErrors
  have l_0 := il_0
  exact tt_fX3_howManyErrors_L4 hN I0 M0 N (0 : Int32) (0 : Int32) ⟨by omega, by omega⟩ (by omega)
set_option maxHeartbeats 4000000 in
theorem tt_fX3_howManyShared_L4 {N : Nat} (hN : 3000000000 ≤ N) (I0 : Nat → Int32) (M0 : Nat → Nat → Int32) (x1 : Int32)   : ∀ (fu : Nat) (y4_2 : Int32) (y4_3 : Int32), (0 ≤ y4_3.toInt ∧ y4_3.toInt ≤ 7) → (7 - y4_3.toInt) < (fu : Int) → wq (fX3_howManyShared_L4 N I0 M0 x1 fu y4_2 y4_3) (fun r => True) := by
  intro fu
  induction fu with
  | zero => intro y4_2 y4_3 h_y4_3 hm; exfalso; omega
  | succ fu ih =>
    intro y4_2 y4_3 h_y4_3 hm
    rw [fX3_howManyShared_L4.eq_2]
    have l_7 := il_7
    refine wq_le (fun hc_6963 => ?_) (fun hc_6964 => ?_)
    · have b_6965 := i32b y4_2
      exact wq_s trivial
    · have b_6966 := i32b x1
      refine wq_b (tt_fX3_isShared hN I0 M0 y4_3 x1 ⟨by omega, by omega⟩) (fun r1_q6967 h_r1_q6967 => ?_)
      obtain ⟨h_r1_q6967_0, -⟩ := h_r1_q6967
      have l_0 := il_0
      refine wq_eq (fun hc_6968 => ?_) (fun hc_6969 => ?_)
      · have l_1 := il_1
        have t_6971 := ia_add y4_3 (1 : Int32) (by omega) (by omega)
        refine wq_v (fun v2_q6970 h_v2_q6970 => ?_)
        have t_v2_q6970 := congrArg Int32.toInt h_v2_q6970
        have b_6972 := i32b y4_2
        exact ih y4_2 v2_q6970 ⟨by omega, by omega⟩ (by omega)
      · have b_6974 := i32b y4_2
        have l_1 := il_1
        refine wq_v (fun v3_q6973 h_v3_q6973 => ?_)
        have t_v3_q6973 := congrArg Int32.toInt h_v3_q6973
        have t_6976 := ia_add y4_3 (1 : Int32) (by omega) (by omega)
        refine wq_v (fun v4_q6975 h_v4_q6975 => ?_)
        have t_v4_q6975 := congrArg Int32.toInt h_v4_q6975
        have b_6977 := i32b v3_q6973
        exact ih v3_q6973 v4_q6975 ⟨by omega, by omega⟩ (by omega)
set_option maxHeartbeats 4000000 in
theorem tt_fX3_howManyShared {N : Nat} (hN : 3000000000 ≤ N) (I0 : Nat → Int32) (M0 : Nat → Nat → Int32) (x1 : Int32)  : wq (fX3_howManyShared N I0 M0 x1) (fun r => True) := by
  unfold fX3_howManyShared
  have b_6978 := i32b x1
  have l_0 := il_0
  exact tt_fX3_howManyShared_L4 hN I0 M0 x1 N (0 : Int32) (0 : Int32) ⟨by omega, by omega⟩ (by omega)
set_option maxHeartbeats 4000000 in
theorem tt_fX3_howManyAlone_L4 {N : Nat} (hN : 3000000000 ≤ N) (I0 : Nat → Int32) (M0 : Nat → Nat → Int32) (x1 : Int32)   : ∀ (fu : Nat) (y4_2 : Int32) (y4_3 : Int32), (0 ≤ y4_3.toInt ∧ y4_3.toInt ≤ 7) → (7 - y4_3.toInt) < (fu : Int) → wq (fX3_howManyAlone_L4 N I0 M0 x1 fu y4_2 y4_3) (fun r => True) := by
  intro fu
  induction fu with
  | zero => intro y4_2 y4_3 h_y4_3 hm; exfalso; omega
  | succ fu ih =>
    intro y4_2 y4_3 h_y4_3 hm
    rw [fX3_howManyAlone_L4.eq_2]
    have l_7 := il_7
    refine wq_le (fun hc_7168 => ?_) (fun hc_7169 => ?_)
    · have b_7170 := i32b y4_2
      exact wq_s trivial
    · refine wq_in (n := 7) ⟨by omega, by omega⟩ ?_
      have b_7171 := i32b x1
      refine wq_eq (fun hc_7172 => ?_) (fun hc_7173 => ?_)
      · have b_7175 := i32b y4_2
        have l_1 := il_1
        refine wq_v (fun v2_q7174 h_v2_q7174 => ?_)
        have t_v2_q7174 := congrArg Int32.toInt h_v2_q7174
        have t_7177 := ia_add y4_3 (1 : Int32) (by omega) (by omega)
        refine wq_v (fun v3_q7176 h_v3_q7176 => ?_)
        have t_v3_q7176 := congrArg Int32.toInt h_v3_q7176
        have b_7178 := i32b v2_q7174
        exact ih v2_q7174 v3_q7176 ⟨by omega, by omega⟩ (by omega)
      · have l_1 := il_1
        have t_7180 := ia_add y4_3 (1 : Int32) (by omega) (by omega)
        refine wq_v (fun v1_q7179 h_v1_q7179 => ?_)
        have t_v1_q7179 := congrArg Int32.toInt h_v1_q7179
        have b_7181 := i32b y4_2
        exact ih y4_2 v1_q7179 ⟨by omega, by omega⟩ (by omega)
set_option maxHeartbeats 4000000 in
theorem tt_fX3_howManyAlone {N : Nat} (hN : 3000000000 ≤ N) (I0 : Nat → Int32) (M0 : Nat → Nat → Int32) (x1 : Int32)  : wq (fX3_howManyAlone N I0 M0 x1) (fun r => True) := by
  unfold fX3_howManyAlone
  have b_7182 := i32b x1
  have l_0 := il_0
  exact tt_fX3_howManyAlone_L4 hN I0 M0 x1 N (0 : Int32) (0 : Int32) ⟨by omega, by omega⟩ (by omega)
def bc_ok (n : Nat) : Bool := match fJ6_bitCount_0f7a4 0 (nI n) with
  | some r => decide (0 ≤ r.toInt ∧ r.toInt ≤ 7)
  | none => false
theorem bc_all : ∀ n : Nat, n < 255 → bc_ok n = true := by decide +kernel
theorem tt_fJ6_bitCount_0f7a4 {N : Nat} (hN : 3000000000 ≤ N) (x0 : Int32)  : wq (fJ6_bitCount_0f7a4 N x0) (fun r => ((0 ≤ r.toInt ∧ r.toInt ≤ 7) ∨ x0.toInt < 0 ∨ 254 < x0.toInt) ∧ True) := by
  obtain ⟨r, hr⟩ : ∃ r, fJ6_bitCount_0f7a4 N x0 = some r := ⟨_, rfl⟩
  refine ⟨r, hr, ?_, trivial⟩
  by_cases h : 0 ≤ x0.toInt ∧ x0.toInt ≤ 254
  · left
    have h2 := bc_all x0.toInt.toNat (by omega)
    unfold bc_ok at h2
    rw [← nI_back x0 h.1, show fJ6_bitCount_0f7a4 0 x0 = some r from hr] at h2
    exact of_decide_eq_true h2
  · omega
set_option maxHeartbeats 4000000 in
theorem tt_fX3_weightOf_L4 {N : Nat} (hN : 3000000000 ≤ N) (I0 : Nat → Int32) (M0 : Nat → Nat → Int32) (x1 : Int32)   : ∀ (fu : Nat) (y4_2 : Int32) (y4_3 : Int32), (0 ≤ y4_3.toInt ∧ y4_3.toInt ≤ 7) → (7 - y4_3.toInt) < (fu : Int) → wq (fX3_weightOf_L4 N I0 M0 x1 fu y4_2 y4_3) (fun r => True) := by
  intro fu
  induction fu with
  | zero => intro y4_2 y4_3 h_y4_3 hm; exfalso; omega
  | succ fu ih =>
    intro y4_2 y4_3 h_y4_3 hm
    rw [fX3_weightOf_L4.eq_2]
    have l_7 := il_7
    refine wq_le (fun hc_7451 => ?_) (fun hc_7452 => ?_)
    · have b_7453 := i32b y4_2
      exact wq_s trivial
    · refine wq_in (n := 7) ⟨by omega, by omega⟩ ?_
      refine wq_b (tt_fJ6_bitCount_0f7a4 hN (M0 0 y4_3.toNatClampNeg)) (fun r1_q7454 h_r1_q7454 => ?_)
      obtain ⟨h_r1_q7454_0, -⟩ := h_r1_q7454
      have b_7455 := i32b x1
      refine wq_b (tt_fX3_isShared hN I0 M0 y4_3 x1 ⟨by omega, by omega⟩) (fun r2_q7456 h_r2_q7456 => ?_)
      obtain ⟨h_r2_q7456_0, -⟩ := h_r2_q7456
      have l_0 := il_0
      refine wq_eq (fun hc_7457 => ?_) (fun hc_7458 => ?_)
      · have l_1 := il_1
        have t_7460 := ia_add y4_3 (1 : Int32) (by omega) (by omega)
        refine wq_v (fun v3_q7459 h_v3_q7459 => ?_)
        have t_v3_q7459 := congrArg Int32.toInt h_v3_q7459
        have b_7461 := i32b y4_2
        exact ih y4_2 v3_q7459 ⟨by omega, by omega⟩ (by omega)
      · have b_7462 := i32b r1_q7454
        refine wq_le (fun hc_7463 => ?_) (fun hc_7464 => ?_)
        · have l_1 := il_1
          have t_7466 := ia_add y4_3 (1 : Int32) (by omega) (by omega)
          refine wq_v (fun v4_q7465 h_v4_q7465 => ?_)
          have t_v4_q7465 := congrArg Int32.toInt h_v4_q7465
          have b_7467 := i32b y4_2
          exact ih y4_2 v4_q7465 ⟨by omega, by omega⟩ (by omega)
        · refine wq_nz (by omega) ?_
          have b_7469 := i32b y4_2
          refine wq_v (fun v5_q7468 h_v5_q7468 => ?_)
          have t_v5_q7468 := congrArg Int32.toInt h_v5_q7468
          have l_1 := il_1
          have t_7471 := ia_add y4_3 (1 : Int32) (by omega) (by omega)
          refine wq_v (fun v6_q7470 h_v6_q7470 => ?_)
          have t_v6_q7470 := congrArg Int32.toInt h_v6_q7470
          have b_7472 := i32b v5_q7468
          exact ih v5_q7468 v6_q7470 ⟨by omega, by omega⟩ (by omega)
set_option maxHeartbeats 4000000 in
theorem tt_fX3_weightOf {N : Nat} (hN : 3000000000 ≤ N) (I0 : Nat → Int32) (M0 : Nat → Nat → Int32) (x1 : Int32)  : wq (fX3_weightOf N I0 M0 x1) (fun r => True) := by
  unfold fX3_weightOf
  have b_7473 := i32b x1
  have l_0 := il_0
  exact tt_fX3_weightOf_L4 hN I0 M0 x1 N (0 : Int32) (0 : Int32) ⟨by omega, by omega⟩ (by omega)
set_option maxHeartbeats 4000000 in
theorem tt_fX3_setFollowed_L6 {N : Nat} (hN : 3000000000 ≤ N) (I0 : Nat → Int32) (M0 : Nat → Nat → Int32)   : ∀ (fu : Nat) (y6_1 : Int32) (y6_2 : Int32) (y6_3 : Int32), (0 ≤ y6_1.toInt ∧ y6_1.toInt ≤ 2147483647) → (-1 ≤ y6_2.toInt ∧ y6_2.toInt ≤ 3) → (1 ≤ y6_3.toInt ∧ y6_3.toInt ≤ 4) → (4 - y6_3.toInt) < (fu : Int) → wq (fX3_setFollowed_L6 N I0 M0 fu y6_1 y6_2 y6_3) (fun r => (-1 ≤ r.toInt ∧ r.toInt ≤ 3) ∧ True) := by
  intro fu
  induction fu with
  | zero => intro y6_1 y6_2 y6_3 h_y6_1 h_y6_2 h_y6_3 hm; exfalso; omega
  | succ fu ih =>
    intro y6_1 y6_2 y6_3 h_y6_1 h_y6_2 h_y6_3 hm
    rw [fX3_setFollowed_L6.eq_2]
    have l_4 := il_4
    refine wq_le (fun hc_7572 => ?_) (fun hc_7573 => ?_)
    · exact wq_s ⟨(show -1 ≤ y6_2.toInt ∧ y6_2.toInt ≤ 3 from ⟨by omega, by omega⟩), trivial⟩
    · refine wq_b (tt_fX3_weightOf hN I0 M0 y6_3) (fun r1_q7574 h_r1_q7574 => ?_)
      obtain ⟨-⟩ := h_r1_q7574
      have b_7575 := i32b r1_q7574
      have b_7576 := i32b y6_1
      refine wq_le (fun hc_7577 => ?_) (fun hc_7578 => ?_)
      · have l_1 := il_1
        have t_7580 := ia_add y6_3 (1 : Int32) (by omega) (by omega)
        refine wq_v (fun v2_q7579 h_v2_q7579 => ?_)
        have t_v2_q7579 := congrArg Int32.toInt h_v2_q7579
        exact ih y6_1 y6_2 v2_q7579 ⟨by omega, by omega⟩ ⟨by omega, by omega⟩ ⟨by omega, by omega⟩ (by omega)
      · have l_1 := il_1
        have t_7582 := ia_add y6_3 (1 : Int32) (by omega) (by omega)
        refine wq_v (fun v3_q7581 h_v3_q7581 => ?_)
        have t_v3_q7581 := congrArg Int32.toInt h_v3_q7581
        exact ih r1_q7574 y6_3 v3_q7581 ⟨by omega, by omega⟩ ⟨by omega, by omega⟩ ⟨by omega, by omega⟩ (by omega)
set_option maxHeartbeats 4000000 in
theorem tt_fX3_setFollowed {N : Nat} (hN : 3000000000 ≤ N) (I0 : Nat → Int32) (M0 : Nat → Nat → Int32)  : wq (fX3_setFollowed N I0 M0) (fun r => (-1 ≤ r.toInt ∧ r.toInt ≤ 3) ∧ True) := by
  unfold fX3_setFollowed
  have l_0 := il_0
  have l_m1 := il_m1
  have l_1 := il_1
  exact tt_fX3_setFollowed_L6 hN I0 M0 N (0 : Int32) ((-1) : Int32) (1 : Int32) ⟨by omega, by omega⟩ ⟨by omega, by omega⟩ ⟨by omega, by omega⟩ (by omega)
set_option maxHeartbeats 4000000 in
theorem tt_fX4_copyFrom {N : Nat} (hN : 3000000000 ≤ N) (I0 : Nat → Int32) (M0 : Nat → Nat → Int32) (I1 : Nat → Int32) (M1 : Nat → Nat → Int32)  : wq (fX4_copyFrom N I0 M0 I1 M1) (fun r => True) := by
  unfold fX4_copyFrom
  refine wq_n (by decide) ?_
  refine wq_v (fun M0_1_q7593 h_M0_1_q7593 => ?_)
  refine wq_v (fun I0_2_q7594 h_I0_2_q7594 => ?_)
  exact wq_s trivial
set_option maxHeartbeats 4000000 in
theorem tt_fX5_copyFrom {N : Nat} (hN : 3000000000 ≤ N) (I0 : Nat → Int32) (M0 : Nat → Nat → Int32) (I1 : Nat → Int32) (M1 : Nat → Nat → Int32) (k_I0 : KX5 I0 M0) (k_I1 : KX5 I1 M1) : wq (fX5_copyFrom N I0 M0 I1 M1) (fun r => KX5 r.1 r.2 ∧ True) := by
  unfold fX5_copyFrom
  refine wq_n (by decide) ?_
  refine wq_v (fun M0_1_q7645 h_M0_1_q7645 => ?_)
  have k_M0_1_q7645 : KX5 I0 M0_1_q7645 := by rw [h_M0_1_q7645]; exact KX5.sf0 k_I0
  refine wq_n (by decide) ?_
  refine wq_v (fun M0_2_q7646 h_M0_2_q7646 => ?_)
  have k_M0_2_q7646 : KX5 I0 M0_2_q7646 := by rw [h_M0_2_q7646]; exact KX5.sf1 k_M0_1_q7645
  refine wq_n (by decide) ?_
  refine wq_v (fun M0_3_q7647 h_M0_3_q7647 => ?_)
  have k_M0_3_q7647 : KX5 I0 M0_3_q7647 := by rw [h_M0_3_q7647]; exact KX5.sf2 k_M0_2_q7646
  refine wq_n (by decide) ?_
  refine wq_v (fun M0_4_q7648 h_M0_4_q7648 => ?_)
  have k_M0_4_q7648 : KX5 I0 M0_4_q7648 := by rw [h_M0_4_q7648]; exact KX5.sf3 k_M0_3_q7647
  refine wq_b (tt_fX2_copyFrom hN I0 (wb_sh M0_4_q7648 4) I1 (wb_sh M1 4) (KX5.s_X2_0_4 k_M0_4_q7648) (KX5.s_X2_0_4 k_I1)) (fun r5_q7649 h_r5_q7649 => ?_)
  obtain ⟨h_r5_q7649_0, -⟩ := h_r5_q7649
  refine wq_v (fun I0_6_q7650 h_I0_6_q7650 => ?_)
  refine wq_v (fun M0_7_q7651 h_M0_7_q7651 => ?_)
  have k_M0_7_q7651 : KX5 I0_6_q7650 M0_7_q7651 := by rw [h_I0_6_q7650, h_M0_7_q7651]; exact KX5.p_X2_0_4 k_M0_4_q7648 h_r5_q7649_0
  refine wq_b (tt_fX4_copyFrom hN (wb_sh I0_6_q7650 1) (wb_sh M0_7_q7651 5) (wb_sh I1 1) (wb_sh M1 5)) (fun r8_q7652 h_r8_q7652 => ?_)
  obtain ⟨-⟩ := h_r8_q7652
  refine wq_v (fun I0_9_q7653 h_I0_9_q7653 => ?_)
  refine wq_v (fun M0_10_q7654 h_M0_10_q7654 => ?_)
  have k_M0_10_q7654 : KX5 I0_9_q7653 M0_10_q7654 := by rw [h_I0_9_q7653, h_M0_10_q7654]; exact KX5.p_X4_1_5 k_M0_7_q7651
  exact wq_s ⟨k_M0_10_q7654, trivial⟩
set_option maxHeartbeats 4000000 in
theorem tt_fX5_readLines {N : Nat} (hN : 3000000000 ≤ N) (I0 : Nat → Int32) (M0 : Nat → Nat → Int32) (I1 : Nat → Int32) (M1 : Nat → Nat → Int32) (k_I0 : KX5 I0 M0) (k_I1 : KX9 I1 M1) : wq (fX5_readLines N I0 M0 I1 M1) (fun r => True) := by sorry
set_option maxHeartbeats 4000000 in
theorem tt_fX6_placeOf_L2 {N : Nat} (hN : 3000000000 ≤ N) (I0 : Nat → Int32) (M0 : Nat → Nat → Int32) (x1 : Int32) (x2 : Int32) (h_x1 : 0 ≤ x1.toInt ∧ x1.toInt ≤ 5) (k_I0 : KX6 I0 M0)  : ∀ (fu : Nat) (y2_3 : Int32), (0 ≤ y2_3.toInt ∧ y2_3.toInt ≤ 20) → (20 - y2_3.toInt) < (fu : Int) → wq (fX6_placeOf_L2 N I0 M0 x1 x2 fu y2_3) (fun r => (-1 ≤ r.toInt ∧ r.toInt ≤ 19) ∧ True) := by
  intro fu
  induction fu with
  | zero => intro y2_3 h_y2_3 hm; exfalso; omega
  | succ fu ih =>
    intro y2_3 h_y2_3 hm
    rw [fX6_placeOf_L2.eq_2]
    refine wq_in (n := 6) ⟨by omega, by omega⟩ ?_
    have t_7817 := KX6.m1 k_I0 x1.toNatClampNeg
    refine wq_le (fun hc_7818 => ?_) (fun hc_7819 => ?_)
    · have l_m1 := il_m1
      exact wq_s ⟨(show -1 ≤ (-1 : Int32).toInt ∧ (-1 : Int32).toInt ≤ 19 from ⟨by omega, by omega⟩), trivial⟩
    · have l_20 := il_20
      have t_7820 := ia_mul (20 : Int32) (20) il_20 x1 (by omega) (by omega)
      have t_7821 := ia_add ((20 : Int32) * x1) y2_3 (by omega) (by omega)
      refine wq_in (n := 120) ⟨by omega, by omega⟩ ?_
      have b_7822 := i32b x2
      refine wq_eq (fun hc_7823 => ?_) (fun hc_7824 => ?_)
      · exact wq_s ⟨(show -1 ≤ y2_3.toInt ∧ y2_3.toInt ≤ 19 from ⟨by omega, by omega⟩), trivial⟩
      · have l_1 := il_1
        have t_7826 := ia_add y2_3 (1 : Int32) (by omega) (by omega)
        refine wq_v (fun v1_q7825 h_v1_q7825 => ?_)
        have t_v1_q7825 := congrArg Int32.toInt h_v1_q7825
        exact ih v1_q7825 ⟨by omega, by omega⟩ (by omega)
set_option maxHeartbeats 4000000 in
theorem tt_fX6_placeOf {N : Nat} (hN : 3000000000 ≤ N) (I0 : Nat → Int32) (M0 : Nat → Nat → Int32) (x1 : Int32) (x2 : Int32) (h_x1 : 0 ≤ x1.toInt ∧ x1.toInt ≤ 5) (k_I0 : KX6 I0 M0) : wq (fX6_placeOf N I0 M0 x1 x2) (fun r => (-1 ≤ r.toInt ∧ r.toInt ≤ 19) ∧ True) := by
  unfold fX6_placeOf
  have b_7827 := i32b x2
  have l_0 := il_0
  exact tt_fX6_placeOf_L2 hN I0 M0 x1 x2 ⟨by omega, by omega⟩ k_I0 N (0 : Int32) ⟨by omega, by omega⟩ (by omega)
set_option maxHeartbeats 4000000 in
theorem tt_fX6_addTo {N : Nat} (hN : 3000000000 ≤ N) (I0 : Nat → Int32) (M0 : Nat → Nat → Int32) (x1 : Int32) (x2 : Int32) (h_x1 : 0 ≤ x1.toInt ∧ x1.toInt ≤ 5) (k_I0 : KX6 I0 M0) : wq (fX6_addTo N I0 M0 x1 x2) (fun r => (-1 ≤ r.1.toInt ∧ r.1.toInt ≤ 20) ∧ KX6 r.2.1 r.2.2 ∧ True) := by
  unfold fX6_addTo
  have b_7912 := i32b x2
  refine wq_b (tt_fX6_placeOf hN I0 M0 x1 x2 ⟨by omega, by omega⟩ k_I0) (fun r1_q7913 h_r1_q7913 => ?_)
  obtain ⟨h_r1_q7913_0, -⟩ := h_r1_q7913
  have l_m1 := il_m1
  refine wq_eq (fun hc_7914 => ?_) (fun hc_7915 => ?_)
  · refine wq_in (n := 6) ⟨by omega, by omega⟩ ?_
    have t_7916 := KX6.m1 k_I0 x1.toNatClampNeg
    have l_20 := il_20
    refine wq_lt (fun hc_7917 => ?_) (fun hc_7918 => ?_)
    · refine wq_in (n := 6) ⟨by omega, by omega⟩ ?_
      have t_7919 := ia_mul (20 : Int32) (20) il_20 x1 (by omega) (by omega)
      have t_7920 := ia_add ((20 : Int32) * x1) (M0 1 x1.toNatClampNeg) (by omega) (by omega)
      refine wq_in (n := 120) ⟨by omega, by omega⟩ ?_
      refine wq_v (fun M0_2_q7921 h_M0_2_q7921 => ?_)
      have k_M0_2_q7921 : KX6 I0 M0_2_q7921 := by rw [h_M0_2_q7921]; exact KX6.sm0 k_I0
      refine wq_in (n := 6) ⟨by omega, by omega⟩ ?_
      refine wq_in (n := 6) ⟨by omega, by omega⟩ ?_
      refine wq_v (fun M0_3_q7922 h_M0_3_q7922 => ?_)
      have t_7923 : (M0_2_q7921 1 x1.toNatClampNeg).toInt = (M0 1 x1.toNatClampNeg).toInt := by rw [h_M0_2_q7921]; rfl
      have l_1 := il_1
      have t_7924 := ia_add (M0_2_q7921 1 x1.toNatClampNeg) (1 : Int32) (by omega) (by omega)
      have k_M0_3_q7922 : KX6 I0 M0_3_q7922 := by rw [h_M0_3_q7922]; exact KX6.sm1 k_M0_2_q7921 ⟨by omega, by omega⟩
      refine wq_in (n := 6) ⟨by omega, by omega⟩ ?_
      have t_7925 := KX6.m1 k_M0_3_q7922 x1.toNatClampNeg
      exact wq_s ⟨(show -1 ≤ (M0_3_q7922 1 x1.toNatClampNeg).toInt ∧ (M0_3_q7922 1 x1.toNatClampNeg).toInt ≤ 20 from ⟨by omega, by omega⟩), k_M0_3_q7922, trivial⟩
    · exact wq_s ⟨(show -1 ≤ (-1 : Int32).toInt ∧ (-1 : Int32).toInt ≤ 20 from ⟨by omega, by omega⟩), k_I0, trivial⟩
  · exact wq_s ⟨(show -1 ≤ (-1 : Int32).toInt ∧ (-1 : Int32).toInt ≤ 20 from ⟨by omega, by omega⟩), k_I0, trivial⟩
set_option maxHeartbeats 4000000 in
theorem tt_fX6_setPlaces_L5 {N : Nat} (hN : 3000000000 ≤ N) (x1 : Int32) (x2 : Int32) (h_x1 : 0 ≤ x1.toInt ∧ x1.toInt ≤ 5) (h_x2 : 0 ≤ x2.toInt ∧ x2.toInt ≤ 5)  : ∀ (fu : Nat) (I0_l5 : (Nat → Int32)) (M0_l5 : (Nat → Nat → Int32)) (y5_3 : Int32) (y5_4 : Int32), (0 ≤ y5_3.toInt ∧ y5_3.toInt ≤ 20) → (0 ≤ y5_4.toInt ∧ y5_4.toInt ≤ 20) → (KX6 I0_l5 M0_l5) → (y5_3.toInt ≤ y5_4.toInt) → (20 - y5_4.toInt) < (fu : Int) → wq (fX6_setPlaces_L5 N x1 x2 fu I0_l5 M0_l5 y5_3 y5_4) (fun r => (0 ≤ r.1.toInt ∧ r.1.toInt ≤ 20) ∧ KX6 r.2.1 r.2.2 ∧ True) := by
  intro fu
  induction fu with
  | zero => intro I0_l5 M0_l5 y5_3 y5_4 h_y5_3 h_y5_4 k_I0_l5 hl_3 hm; exfalso; omega
  | succ fu ih =>
    intro I0_l5 M0_l5 y5_3 y5_4 h_y5_3 h_y5_4 k_I0_l5 hl_3 hm
    rw [fX6_setPlaces_L5.eq_2]
    refine wq_in (n := 6) ⟨by omega, by omega⟩ ?_
    have t_8106 := KX6.m1 k_I0_l5 x1.toNatClampNeg
    refine wq_le (fun hc_8107 => ?_) (fun hc_8108 => ?_)
    · exact wq_s ⟨(show 0 ≤ y5_3.toInt ∧ y5_3.toInt ≤ 20 from ⟨by omega, by omega⟩), k_I0_l5, trivial⟩
    · have l_20 := il_20
      have t_8109 := ia_mul (20 : Int32) (20) il_20 x1 (by omega) (by omega)
      have t_8110 := ia_add ((20 : Int32) * x1) y5_4 (by omega) (by omega)
      refine wq_in (n := 120) ⟨by omega, by omega⟩ ?_
      refine wq_b (tt_fX6_placeOf hN I0_l5 M0_l5 x2 (M0_l5 0 (((20 : Int32) * x1) + y5_4).toNatClampNeg) ⟨by omega, by omega⟩ k_I0_l5) (fun r1_q8111 h_r1_q8111 => ?_)
      obtain ⟨h_r1_q8111_0, -⟩ := h_r1_q8111
      have l_m1 := il_m1
      refine wq_eq (fun hc_8112 => ?_) (fun hc_8113 => ?_)
      · have l_1 := il_1
        have t_8115 := ia_add y5_4 (1 : Int32) (by omega) (by omega)
        refine wq_v (fun v2_q8114 h_v2_q8114 => ?_)
        have t_v2_q8114 := congrArg Int32.toInt h_v2_q8114
        exact ih I0_l5 M0_l5 y5_3 v2_q8114 ⟨by omega, by omega⟩ ⟨by omega, by omega⟩ k_I0_l5 (by omega) (by omega)
      · refine wq_in (n := 20) ⟨by omega, by omega⟩ ?_
        refine wq_v (fun M0_3_q8116 h_M0_3_q8116 => ?_)
        have k_M0_3_q8116 : KX6 I0_l5 M0_3_q8116 := by rw [h_M0_3_q8116]; exact KX6.sm2 k_I0_l5
        have l_1 := il_1
        have t_8118 := ia_add y5_3 (1 : Int32) (by omega) (by omega)
        refine wq_v (fun v4_q8117 h_v4_q8117 => ?_)
        have t_v4_q8117 := congrArg Int32.toInt h_v4_q8117
        have t_8120 := ia_add y5_4 (1 : Int32) (by omega) (by omega)
        refine wq_v (fun v5_q8119 h_v5_q8119 => ?_)
        have t_v5_q8119 := congrArg Int32.toInt h_v5_q8119
        exact ih I0_l5 M0_3_q8116 v4_q8117 v5_q8119 ⟨by omega, by omega⟩ ⟨by omega, by omega⟩ k_M0_3_q8116 (by omega) (by omega)
set_option maxHeartbeats 4000000 in
theorem tt_fX6_setPlaces {N : Nat} (hN : 3000000000 ≤ N) (I0 : Nat → Int32) (M0 : Nat → Nat → Int32) (x1 : Int32) (x2 : Int32) (h_x1 : 0 ≤ x1.toInt ∧ x1.toInt ≤ 5) (h_x2 : 0 ≤ x2.toInt ∧ x2.toInt ≤ 5) (k_I0 : KX6 I0 M0) : wq (fX6_setPlaces N I0 M0 x1 x2) (fun r => (0 ≤ r.1.toInt ∧ r.1.toInt ≤ 20) ∧ KX6 r.2.1 r.2.2 ∧ True) := by
  unfold fX6_setPlaces
  have l_0 := il_0
  exact tt_fX6_setPlaces_L5 hN x1 x2 ⟨by omega, by omega⟩ ⟨by omega, by omega⟩ N I0 M0 (0 : Int32) (0 : Int32) ⟨by omega, by omega⟩ ⟨by omega, by omega⟩ k_I0 (by omega) (by omega)
set_option maxHeartbeats 4000000 in
theorem tt_fX6_howManyInOrder_L30 {N : Nat} (hN : 3000000000 ≤ N) (x1 : Int32) (x2 : Int32) (v2 : Int32) (y13_4 : Int32) (y13_5 : Int32) (g13 : (Nat → Int32) → (Nat → Nat → Int32) → Int32 → Int32 → Option (Int32 × (Nat → Int32) × (Nat → Nat → Int32))) (h_x1 : 0 ≤ x1.toInt ∧ x1.toInt ≤ 5) (h_x2 : 0 ≤ x2.toInt ∧ x2.toInt ≤ 5) (h_v2 : 1 ≤ v2.toInt ∧ v2.toInt ≤ 20) (h_y13_5 : 0 ≤ y13_5.toInt ∧ y13_5.toInt ≤ 19) (hg13 : ∀ (q0 : (Nat → Int32)) (q1 : (Nat → Nat → Int32)) (q2 : Int32) (q3 : Int32), (0 ≤ q3.toInt ∧ q3.toInt ≤ 20) → (KX6 q0 q1) → (y13_5.toInt < q3.toInt) → wq (g13 q0 q1 q2 q3) (fun r => KX6 r.2.1 r.2.2 ∧ True)) : ∀ (fu : Nat) (I0_l30 : (Nat → Int32)) (M0_l30 : (Nat → Nat → Int32)) (y30_6 : Int32), (0 ≤ y30_6.toInt ∧ y30_6.toInt ≤ 19) → (KX6 I0_l30 M0_l30) → (19 - y30_6.toInt) < (fu : Int) → wq (fX6_howManyInOrder_L30 N x1 x2 v2 y13_4 y13_5 g13 fu I0_l30 M0_l30 y30_6) (fun r => KX6 r.2.1 r.2.2 ∧ True) := by
  intro fu
  induction fu with
  | zero => intro I0_l30 M0_l30 y30_6 h_y30_6 k_I0_l30 hm; exfalso; omega
  | succ fu ih =>
    intro I0_l30 M0_l30 y30_6 h_y30_6 k_I0_l30 hm
    rw [fX6_howManyInOrder_L30.eq_2]
    refine wq_le (fun hc_8412 => ?_) (fun hc_8413 => ?_)
    · refine wq_in (n := 20) ⟨by omega, by omega⟩ ?_
      refine wq_v (fun v4_q8414 h_v4_q8414 => ?_)
      have t_v4_q8414 := congrArg Int32.toInt h_v4_q8414
      have l_1 := il_1
      have t_8416 := ia_add y13_5 (1 : Int32) (by omega) (by omega)
      refine wq_v (fun v5_q8415 h_v5_q8415 => ?_)
      have t_v5_q8415 := congrArg Int32.toInt h_v5_q8415
      have b_8417 := i32b v4_q8414
      exact hg13 I0_l30 M0_l30 v4_q8414 v5_q8415 ⟨by omega, by omega⟩ k_I0_l30 (by omega)
    · refine wq_in (n := 20) ⟨by omega, by omega⟩ ?_
      refine wq_in (n := 20) ⟨by omega, by omega⟩ ?_
      refine wq_le (fun hc_8418 => ?_) (fun hc_8419 => ?_)
      · have l_1 := il_1
        have t_8421 := ia_add y30_6 (1 : Int32) (by omega) (by omega)
        refine wq_v (fun v6_q8420 h_v6_q8420 => ?_)
        have t_v6_q8420 := congrArg Int32.toInt h_v6_q8420
        exact ih I0_l30 M0_l30 v6_q8420 ⟨by omega, by omega⟩ k_I0_l30 (by omega)
      · refine wq_in (n := 20) ⟨by omega, by omega⟩ ?_
        refine wq_in (n := 20) ⟨by omega, by omega⟩ ?_
        refine wq_in (n := 20) ⟨by omega, by omega⟩ ?_
        refine wq_v (fun M0_7_q8422 h_M0_7_q8422 => ?_)
        have k_M0_7_q8422 : KX6 I0_l30 M0_7_q8422 := by rw [h_M0_7_q8422]; exact KX6.sm3 k_I0_l30
        have l_1 := il_1
        have t_8424 := ia_add y30_6 (1 : Int32) (by omega) (by omega)
        refine wq_v (fun v8_q8423 h_v8_q8423 => ?_)
        have t_v8_q8423 := congrArg Int32.toInt h_v8_q8423
        exact ih I0_l30 M0_7_q8422 v8_q8423 ⟨by omega, by omega⟩ k_M0_7_q8422 (by omega)
set_option maxHeartbeats 4000000 in
theorem tt_fX6_howManyInOrder_L13 {N : Nat} (hN : 3000000000 ≤ N) (x1 : Int32) (x2 : Int32) (v2 : Int32) (h_x1 : 0 ≤ x1.toInt ∧ x1.toInt ≤ 5) (h_x2 : 0 ≤ x2.toInt ∧ x2.toInt ≤ 5) (h_v2 : 0 ≤ v2.toInt ∧ v2.toInt ≤ 20)  : ∀ (fu : Nat) (I0_l13 : (Nat → Int32)) (M0_l13 : (Nat → Nat → Int32)) (y13_4 : Int32) (y13_5 : Int32), (0 ≤ y13_5.toInt ∧ y13_5.toInt ≤ 20) → (KX6 I0_l13 M0_l13) → (20 - y13_5.toInt) < (fu : Int) → wq (fX6_howManyInOrder_L13 N x1 x2 v2 fu I0_l13 M0_l13 y13_4 y13_5) (fun r => KX6 r.2.1 r.2.2 ∧ True) := by
  intro fu
  induction fu with
  | zero => intro I0_l13 M0_l13 y13_4 y13_5 h_y13_5 k_I0_l13 hm; exfalso; omega
  | succ fu ih =>
    intro I0_l13 M0_l13 y13_4 y13_5 h_y13_5 k_I0_l13 hm
    rw [fX6_howManyInOrder_L13.eq_2]
    refine wq_le (fun hc_8425 => ?_) (fun hc_8426 => ?_)
    · have b_8427 := i32b y13_4
      exact wq_s ⟨k_I0_l13, trivial⟩
    · refine wq_in (n := 20) ⟨by omega, by omega⟩ ?_
      refine wq_v (fun M0_3_q8428 h_M0_3_q8428 => ?_)
      have k_M0_3_q8428 : KX6 I0_l13 M0_3_q8428 := by rw [h_M0_3_q8428]; exact KX6.sm3 k_I0_l13
      have b_8429 := i32b y13_4
      have l_0 := il_0
      exact tt_fX6_howManyInOrder_L30 hN x1 x2 v2 y13_4 y13_5 _ ⟨by omega, by omega⟩ ⟨by omega, by omega⟩ ⟨by omega, by omega⟩ ⟨by omega, by omega⟩ (fun q0 q1 q2 q3 hq0 hq1 hq2 => ih q0 q1 q2 q3 hq0 hq1 (by omega)) N I0_l13 M0_3_q8428 (0 : Int32) ⟨by omega, by omega⟩ k_M0_3_q8428 (by omega)
set_option maxHeartbeats 4000000 in
theorem tt_fX6_howManyInOrder {N : Nat} (hN : 3000000000 ≤ N) (I0 : Nat → Int32) (M0 : Nat → Nat → Int32) (x1 : Int32) (x2 : Int32) (h_x1 : 0 ≤ x1.toInt ∧ x1.toInt ≤ 5) (h_x2 : 0 ≤ x2.toInt ∧ x2.toInt ≤ 5) (k_I0 : KX6 I0 M0) : wq (fX6_howManyInOrder N I0 M0 x1 x2) (fun r => KX6 r.2.1 r.2.2 ∧ True) := by
  unfold fX6_howManyInOrder
  refine wq_b (tt_fX6_setPlaces hN I0 M0 x1 x2 ⟨by omega, by omega⟩ ⟨by omega, by omega⟩ k_I0) (fun r1_q8430 h_r1_q8430 => ?_)
  obtain ⟨h_r1_q8430_0, h_r1_q8430_1, -⟩ := h_r1_q8430
  refine wq_v (fun v2_q8431 h_v2_q8431 => ?_)
  have t_v2_q8431 := congrArg Int32.toInt h_v2_q8431
  have l_0 := il_0
  exact tt_fX6_howManyInOrder_L13 hN x1 x2 v2_q8431 ⟨by omega, by omega⟩ ⟨by omega, by omega⟩ ⟨by omega, by omega⟩ N r1_q8430.2.1 r1_q8430.2.2 (0 : Int32) (0 : Int32) ⟨by omega, by omega⟩ h_r1_q8430_1 (by omega)
set_option maxHeartbeats 4000000 in
theorem tt_fX6_howManyTurned_L22 {N : Nat} (hN : 3000000000 ≤ N) (x1 : Int32) (x2 : Int32) (v2 : Int32) (y13_5 : Int32) (g13 : (Nat → Int32) → (Nat → Nat → Int32) → Int32 → Int32 → Option (Int32 × (Nat → Int32) × (Nat → Nat → Int32))) (h_x1 : 0 ≤ x1.toInt ∧ x1.toInt ≤ 5) (h_x2 : 0 ≤ x2.toInt ∧ x2.toInt ≤ 5) (h_v2 : 1 ≤ v2.toInt ∧ v2.toInt ≤ 20) (h_y13_5 : 0 ≤ y13_5.toInt ∧ y13_5.toInt ≤ 19) (hg13 : ∀ (q0 : (Nat → Int32)) (q1 : (Nat → Nat → Int32)) (q2 : Int32) (q3 : Int32), (0 ≤ q3.toInt ∧ q3.toInt ≤ 20) → (KX6 q0 q1) → (y13_5.toInt < q3.toInt) → wq (g13 q0 q1 q2 q3) (fun r => KX6 r.2.1 r.2.2 ∧ True)) : ∀ (fu : Nat) (I0_l22 : (Nat → Int32)) (M0_l22 : (Nat → Nat → Int32)) (y22_4 : Int32) (y22_6 : Int32), (0 ≤ y22_6.toInt ∧ y22_6.toInt ≤ 19) → (KX6 I0_l22 M0_l22) → (19 - y22_6.toInt) < (fu : Int) → wq (fX6_howManyTurned_L22 N x1 x2 v2 y13_5 g13 fu I0_l22 M0_l22 y22_4 y22_6) (fun r => KX6 r.2.1 r.2.2 ∧ True) := by
  intro fu
  induction fu with
  | zero => intro I0_l22 M0_l22 y22_4 y22_6 h_y22_6 k_I0_l22 hm; exfalso; omega
  | succ fu ih =>
    intro I0_l22 M0_l22 y22_4 y22_6 h_y22_6 k_I0_l22 hm
    rw [fX6_howManyTurned_L22.eq_2]
    refine wq_le (fun hc_8718 => ?_) (fun hc_8719 => ?_)
    · have l_1 := il_1
      have t_8721 := ia_add y13_5 (1 : Int32) (by omega) (by omega)
      refine wq_v (fun v3_q8720 h_v3_q8720 => ?_)
      have t_v3_q8720 := congrArg Int32.toInt h_v3_q8720
      have b_8722 := i32b y22_4
      exact hg13 I0_l22 M0_l22 y22_4 v3_q8720 ⟨by omega, by omega⟩ k_I0_l22 (by omega)
    · refine wq_in (n := 20) ⟨by omega, by omega⟩ ?_
      refine wq_in (n := 20) ⟨by omega, by omega⟩ ?_
      refine wq_le (fun hc_8723 => ?_) (fun hc_8724 => ?_)
      · have l_1 := il_1
        have t_8726 := ia_add y22_6 (1 : Int32) (by omega) (by omega)
        refine wq_v (fun v4_q8725 h_v4_q8725 => ?_)
        have t_v4_q8725 := congrArg Int32.toInt h_v4_q8725
        have b_8727 := i32b y22_4
        exact ih I0_l22 M0_l22 y22_4 v4_q8725 ⟨by omega, by omega⟩ k_I0_l22 (by omega)
      · have b_8729 := i32b y22_4
        have l_1 := il_1
        refine wq_v (fun v5_q8728 h_v5_q8728 => ?_)
        have t_v5_q8728 := congrArg Int32.toInt h_v5_q8728
        have t_8731 := ia_add y22_6 (1 : Int32) (by omega) (by omega)
        refine wq_v (fun v6_q8730 h_v6_q8730 => ?_)
        have t_v6_q8730 := congrArg Int32.toInt h_v6_q8730
        have b_8732 := i32b v5_q8728
        exact ih I0_l22 M0_l22 v5_q8728 v6_q8730 ⟨by omega, by omega⟩ k_I0_l22 (by omega)
set_option maxHeartbeats 4000000 in
theorem tt_fX6_howManyTurned_L13 {N : Nat} (hN : 3000000000 ≤ N) (x1 : Int32) (x2 : Int32) (v2 : Int32) (h_x1 : 0 ≤ x1.toInt ∧ x1.toInt ≤ 5) (h_x2 : 0 ≤ x2.toInt ∧ x2.toInt ≤ 5) (h_v2 : 0 ≤ v2.toInt ∧ v2.toInt ≤ 20)  : ∀ (fu : Nat) (I0_l13 : (Nat → Int32)) (M0_l13 : (Nat → Nat → Int32)) (y13_4 : Int32) (y13_5 : Int32), (0 ≤ y13_5.toInt ∧ y13_5.toInt ≤ 20) → (KX6 I0_l13 M0_l13) → (20 - y13_5.toInt) < (fu : Int) → wq (fX6_howManyTurned_L13 N x1 x2 v2 fu I0_l13 M0_l13 y13_4 y13_5) (fun r => KX6 r.2.1 r.2.2 ∧ True) := by
  intro fu
  induction fu with
  | zero => intro I0_l13 M0_l13 y13_4 y13_5 h_y13_5 k_I0_l13 hm; exfalso; omega
  | succ fu ih =>
    intro I0_l13 M0_l13 y13_4 y13_5 h_y13_5 k_I0_l13 hm
    rw [fX6_howManyTurned_L13.eq_2]
    refine wq_le (fun hc_8733 => ?_) (fun hc_8734 => ?_)
    · have b_8735 := i32b y13_4
      exact wq_s ⟨k_I0_l13, trivial⟩
    · have b_8736 := i32b y13_4
      have l_0 := il_0
      exact tt_fX6_howManyTurned_L22 hN x1 x2 v2 y13_5 _ ⟨by omega, by omega⟩ ⟨by omega, by omega⟩ ⟨by omega, by omega⟩ ⟨by omega, by omega⟩ (fun q0 q1 q2 q3 hq0 hq1 hq2 => ih q0 q1 q2 q3 hq0 hq1 (by omega)) N I0_l13 M0_l13 y13_4 (0 : Int32) ⟨by omega, by omega⟩ k_I0_l13 (by omega)
set_option maxHeartbeats 4000000 in
theorem tt_fX6_howManyTurned {N : Nat} (hN : 3000000000 ≤ N) (I0 : Nat → Int32) (M0 : Nat → Nat → Int32) (x1 : Int32) (x2 : Int32) (h_x1 : 0 ≤ x1.toInt ∧ x1.toInt ≤ 5) (h_x2 : 0 ≤ x2.toInt ∧ x2.toInt ≤ 5) (k_I0 : KX6 I0 M0) : wq (fX6_howManyTurned N I0 M0 x1 x2) (fun r => KX6 r.2.1 r.2.2 ∧ True) := by
  unfold fX6_howManyTurned
  refine wq_b (tt_fX6_setPlaces hN I0 M0 x1 x2 ⟨by omega, by omega⟩ ⟨by omega, by omega⟩ k_I0) (fun r1_q8737 h_r1_q8737 => ?_)
  obtain ⟨h_r1_q8737_0, h_r1_q8737_1, -⟩ := h_r1_q8737
  refine wq_v (fun v2_q8738 h_v2_q8738 => ?_)
  have t_v2_q8738 := congrArg Int32.toInt h_v2_q8738
  have l_0 := il_0
  exact tt_fX6_howManyTurned_L13 hN x1 x2 v2_q8738 ⟨by omega, by omega⟩ ⟨by omega, by omega⟩ ⟨by omega, by omega⟩ N r1_q8737.2.1 r1_q8737.2.2 (0 : Int32) (0 : Int32) ⟨by omega, by omega⟩ h_r1_q8737_1 (by omega)
set_option maxHeartbeats 4000000 in
theorem tt_fX7_tellLife {N : Nat} (hN : 3000000000 ≤ N) (I0 : Nat → Int32) (M0 : Nat → Nat → Int32) (x1 : Int32) (x2 : Int32) (x3 : Int32) (h_x1 : 0 ≤ x1.toInt ∧ x1.toInt ≤ 19) (k_I0 : KX7 I0 M0) : wq (fX7_tellLife N I0 M0 x1 x2 x3) (fun r => KX7 r.1 r.2 ∧ True) := by
  unfold fX7_tellLife
  refine wq_in (n := 20) ⟨by omega, by omega⟩ ?_
  refine wq_v (fun M0_1_q8749 h_M0_1_q8749 => ?_)
  have k_M0_1_q8749 : KX7 I0 M0_1_q8749 := by rw [h_M0_1_q8749]; exact KX7.sm0 k_I0
  refine wq_in (n := 20) ⟨by omega, by omega⟩ ?_
  refine wq_v (fun M0_2_q8750 h_M0_2_q8750 => ?_)
  have k_M0_2_q8750 : KX7 I0 M0_2_q8750 := by rw [h_M0_2_q8750]; exact KX7.sm1 k_M0_1_q8749
  exact wq_s ⟨k_M0_2_q8750, trivial⟩
set_option maxHeartbeats 4000000 in
theorem tt_fX7_tellFate {N : Nat} (hN : 3000000000 ≤ N) (I0 : Nat → Int32) (M0 : Nat → Nat → Int32) (x1 : Int32) (x2 : Int32) (h_x1 : 0 ≤ x1.toInt ∧ x1.toInt ≤ 19) (k_I0 : KX7 I0 M0) : wq (fX7_tellFate N I0 M0 x1 x2) (fun r => KX7 r.1 r.2 ∧ True) := by
  unfold fX7_tellFate
  refine wq_in (n := 20) ⟨by omega, by omega⟩ ?_
  refine wq_v (fun M0_1_q8756 h_M0_1_q8756 => ?_)
  have k_M0_1_q8756 : KX7 I0 M0_1_q8756 := by rw [h_M0_1_q8756]; exact KX7.sm2 k_I0
  exact wq_s ⟨k_M0_1_q8756, trivial⟩
set_option maxHeartbeats 4000000 in
theorem tt_fX7_setRows_11_L4 {N : Nat} (hN : 3000000000 ≤ N)    : ∀ (fu : Nat) (I0_l4 : (Nat → Int32)) (M0_l4 : (Nat → Nat → Int32)) (y4_2 : Int32) (y4_3 : Int32), (0 ≤ y4_2.toInt ∧ y4_2.toInt ≤ 20) → (0 ≤ y4_3.toInt ∧ y4_3.toInt ≤ 20) → (KX7 I0_l4 M0_l4) → (y4_2.toInt ≤ y4_3.toInt) → (20 - y4_3.toInt) < (fu : Int) → wq (fX7_setRows_11_L4 N fu I0_l4 M0_l4 y4_2 y4_3) (fun r => (0 ≤ r.1.toInt ∧ r.1.toInt ≤ 20) ∧ KX7 r.2.1 r.2.2 ∧ True) := by
  intro fu
  induction fu with
  | zero => intro I0_l4 M0_l4 y4_2 y4_3 h_y4_2 h_y4_3 k_I0_l4 hl_3 hm; exfalso; omega
  | succ fu ih =>
    intro I0_l4 M0_l4 y4_2 y4_3 h_y4_2 h_y4_3 k_I0_l4 hl_3 hm
    rw [fX7_setRows_11_L4.eq_2]
    have l_20 := il_20
    refine wq_le (fun hc_8878 => ?_) (fun hc_8879 => ?_)
    · exact wq_s ⟨(show 0 ≤ y4_2.toInt ∧ y4_2.toInt ≤ 20 from ⟨by omega, by omega⟩), k_I0_l4, trivial⟩
    · refine wq_in (n := 20) ⟨by omega, by omega⟩ ?_
      have l_m1 := il_m1
      refine wq_eq (fun hc_8880 => ?_) (fun hc_8881 => ?_)
      · have l_1 := il_1
        have t_8883 := ia_add y4_3 (1 : Int32) (by omega) (by omega)
        refine wq_v (fun v1_q8882 h_v1_q8882 => ?_)
        have t_v1_q8882 := congrArg Int32.toInt h_v1_q8882
        exact ih I0_l4 M0_l4 y4_2 v1_q8882 ⟨by omega, by omega⟩ ⟨by omega, by omega⟩ k_I0_l4 (by omega) (by omega)
      · refine wq_in (n := 20) ⟨by omega, by omega⟩ ?_
        refine wq_v (fun M0_2_q8884 h_M0_2_q8884 => ?_)
        have k_M0_2_q8884 : KX7 I0_l4 M0_2_q8884 := by rw [h_M0_2_q8884]; exact KX7.sm3 k_I0_l4 ⟨by omega, by omega⟩
        have l_1 := il_1
        have t_8886 := ia_add y4_2 (1 : Int32) (by omega) (by omega)
        refine wq_v (fun v3_q8885 h_v3_q8885 => ?_)
        have t_v3_q8885 := congrArg Int32.toInt h_v3_q8885
        have t_8888 := ia_add y4_3 (1 : Int32) (by omega) (by omega)
        refine wq_v (fun v4_q8887 h_v4_q8887 => ?_)
        have t_v4_q8887 := congrArg Int32.toInt h_v4_q8887
        exact ih I0_l4 M0_2_q8884 v3_q8885 v4_q8887 ⟨by omega, by omega⟩ ⟨by omega, by omega⟩ k_M0_2_q8884 (by omega) (by omega)
set_option maxHeartbeats 4000000 in
theorem tt_fX7_setRows_11 {N : Nat} (hN : 3000000000 ≤ N) (I0 : Nat → Int32) (M0 : Nat → Nat → Int32) (k_I0 : KX7 I0 M0) : wq (fX7_setRows_11 N I0 M0) (fun r => (0 ≤ r.1.toInt ∧ r.1.toInt ≤ 20) ∧ KX7 r.2.1 r.2.2 ∧ True) := by
  unfold fX7_setRows_11
  have l_0 := il_0
  exact tt_fX7_setRows_11_L4 hN N I0 M0 (0 : Int32) (0 : Int32) ⟨by omega, by omega⟩ ⟨by omega, by omega⟩ k_I0 (by omega) (by omega)
set_option maxHeartbeats 4000000 in
theorem tt_fX7_howManyLives {N : Nat} (hN : 3000000000 ≤ N) (I0 : Nat → Int32) (M0 : Nat → Nat → Int32) (k_I0 : KX7 I0 M0) : wq (fX7_howManyLives N I0 M0) (fun r => (0 ≤ r.1.toInt ∧ r.1.toInt ≤ 20) ∧ KX7 r.2.1 r.2.2 ∧ True) := by
  unfold fX7_howManyLives
  refine wq_b (tt_fX7_setRows_11 hN I0 M0 k_I0) (fun r1_q8895 h_r1_q8895 => ?_)
  obtain ⟨h_r1_q8895_0, h_r1_q8895_1, -⟩ := h_r1_q8895
  exact wq_s ⟨(show 0 ≤ r1_q8895.1.toInt ∧ r1_q8895.1.toInt ≤ 20 from ⟨by omega, by omega⟩), h_r1_q8895_1, trivial⟩
set_option maxHeartbeats 4000000 in
theorem tt_fX7_setRows_13_L4 {N : Nat} (hN : 3000000000 ≤ N)    : ∀ (fu : Nat) (I0_l4 : (Nat → Int32)) (M0_l4 : (Nat → Nat → Int32)) (y4_2 : Int32) (y4_3 : Int32), (0 ≤ y4_2.toInt ∧ y4_2.toInt ≤ 20) → (0 ≤ y4_3.toInt ∧ y4_3.toInt ≤ 20) → (KX7 I0_l4 M0_l4) → (y4_2.toInt ≤ y4_3.toInt) → (20 - y4_3.toInt) < (fu : Int) → wq (fX7_setRows_13_L4 N fu I0_l4 M0_l4 y4_2 y4_3) (fun r => (0 ≤ r.1.toInt ∧ r.1.toInt ≤ 20) ∧ KX7 r.2.1 r.2.2 ∧ True) := by
  intro fu
  induction fu with
  | zero => intro I0_l4 M0_l4 y4_2 y4_3 h_y4_2 h_y4_3 k_I0_l4 hl_3 hm; exfalso; omega
  | succ fu ih =>
    intro I0_l4 M0_l4 y4_2 y4_3 h_y4_2 h_y4_3 k_I0_l4 hl_3 hm
    rw [fX7_setRows_13_L4.eq_2]
    have l_20 := il_20
    refine wq_le (fun hc_9017 => ?_) (fun hc_9018 => ?_)
    · exact wq_s ⟨(show 0 ≤ y4_2.toInt ∧ y4_2.toInt ≤ 20 from ⟨by omega, by omega⟩), k_I0_l4, trivial⟩
    · refine wq_in (n := 20) ⟨by omega, by omega⟩ ?_
      have l_m1 := il_m1
      refine wq_eq (fun hc_9019 => ?_) (fun hc_9020 => ?_)
      · have l_1 := il_1
        have t_9022 := ia_add y4_3 (1 : Int32) (by omega) (by omega)
        refine wq_v (fun v1_q9021 h_v1_q9021 => ?_)
        have t_v1_q9021 := congrArg Int32.toInt h_v1_q9021
        exact ih I0_l4 M0_l4 y4_2 v1_q9021 ⟨by omega, by omega⟩ ⟨by omega, by omega⟩ k_I0_l4 (by omega) (by omega)
      · refine wq_in (n := 20) ⟨by omega, by omega⟩ ?_
        refine wq_v (fun M0_2_q9023 h_M0_2_q9023 => ?_)
        have k_M0_2_q9023 : KX7 I0_l4 M0_2_q9023 := by rw [h_M0_2_q9023]; exact KX7.sm3 k_I0_l4 ⟨by omega, by omega⟩
        have l_1 := il_1
        have t_9025 := ia_add y4_2 (1 : Int32) (by omega) (by omega)
        refine wq_v (fun v3_q9024 h_v3_q9024 => ?_)
        have t_v3_q9024 := congrArg Int32.toInt h_v3_q9024
        have t_9027 := ia_add y4_3 (1 : Int32) (by omega) (by omega)
        refine wq_v (fun v4_q9026 h_v4_q9026 => ?_)
        have t_v4_q9026 := congrArg Int32.toInt h_v4_q9026
        exact ih I0_l4 M0_2_q9023 v3_q9024 v4_q9026 ⟨by omega, by omega⟩ ⟨by omega, by omega⟩ k_M0_2_q9023 (by omega) (by omega)
set_option maxHeartbeats 4000000 in
theorem tt_fX7_setRows_13 {N : Nat} (hN : 3000000000 ≤ N) (I0 : Nat → Int32) (M0 : Nat → Nat → Int32) (k_I0 : KX7 I0 M0) : wq (fX7_setRows_13 N I0 M0) (fun r => (0 ≤ r.1.toInt ∧ r.1.toInt ≤ 20) ∧ KX7 r.2.1 r.2.2 ∧ True) := by
  unfold fX7_setRows_13
  have l_0 := il_0
  exact tt_fX7_setRows_13_L4 hN N I0 M0 (0 : Int32) (0 : Int32) ⟨by omega, by omega⟩ ⟨by omega, by omega⟩ k_I0 (by omega) (by omega)
set_option maxHeartbeats 4000000 in
theorem tt_fX7_howManyFates {N : Nat} (hN : 3000000000 ≤ N) (I0 : Nat → Int32) (M0 : Nat → Nat → Int32) (k_I0 : KX7 I0 M0) : wq (fX7_howManyFates N I0 M0) (fun r => (0 ≤ r.1.toInt ∧ r.1.toInt ≤ 20) ∧ KX7 r.2.1 r.2.2 ∧ True) := by
  unfold fX7_howManyFates
  refine wq_b (tt_fX7_setRows_13 hN I0 M0 k_I0) (fun r1_q9034 h_r1_q9034 => ?_)
  obtain ⟨h_r1_q9034_0, h_r1_q9034_1, -⟩ := h_r1_q9034
  exact wq_s ⟨(show 0 ≤ r1_q9034.1.toInt ∧ r1_q9034.1.toInt ≤ 20 from ⟨by omega, by omega⟩), h_r1_q9034_1, trivial⟩
set_option maxHeartbeats 4000000 in
theorem tt_fX7_isHit {N : Nat} (hN : 3000000000 ≤ N) (I0 : Nat → Int32) (M0 : Nat → Nat → Int32) (x1 : Int32) (x2 : Int32) (x3 : Int32) (h_x1 : 0 ≤ x1.toInt ∧ x1.toInt ≤ 19) (k_I0 : KX7 I0 M0) : wq (fX7_isHit N I0 M0 x1 x2 x3) (fun r => (0 ≤ r.toInt ∧ r.toInt ≤ 1) ∧ True) := by
  unfold fX7_isHit
  refine wq_in (n := 20) ⟨by omega, by omega⟩ ?_
  have b_9053 := i32b x3
  refine wq_lt (fun hc_9054 => ?_) (fun hc_9055 => ?_)
  · have l_0 := il_0
    exact wq_s ⟨(show 0 ≤ (0 : Int32).toInt ∧ (0 : Int32).toInt ≤ 1 from ⟨by omega, by omega⟩), trivial⟩
  · have l_1 := il_1
    exact wq_s ⟨(show 0 ≤ (1 : Int32).toInt ∧ (1 : Int32).toInt ≤ 1 from ⟨by omega, by omega⟩), trivial⟩
set_option maxHeartbeats 4000000 in
theorem tt_fX7_howManyHits_L14 {N : Nat} (hN : 3000000000 ≤ N) (x1 : Int32) (v2 : Int32) (h_v2 : 0 ≤ v2.toInt ∧ v2.toInt ≤ 20)  : ∀ (fu : Nat) (I0_l14 : (Nat → Int32)) (M0_l14 : (Nat → Nat → Int32)) (y14_3 : Int32) (y14_4 : Int32), (0 ≤ y14_3.toInt ∧ y14_3.toInt ≤ 20) → (0 ≤ y14_4.toInt ∧ y14_4.toInt ≤ 20) → (KX7 I0_l14 M0_l14) → (y14_3.toInt ≤ y14_4.toInt) → (20 - y14_4.toInt) < (fu : Int) → wq (fX7_howManyHits_L14 N x1 v2 fu I0_l14 M0_l14 y14_3 y14_4) (fun r => (0 ≤ r.1.toInt ∧ r.1.toInt ≤ 20) ∧ KX7 r.2.1 r.2.2 ∧ True) := by
  intro fu
  induction fu with
  | zero => intro I0_l14 M0_l14 y14_3 y14_4 h_y14_3 h_y14_4 k_I0_l14 hl_3 hm; exfalso; omega
  | succ fu ih =>
    intro I0_l14 M0_l14 y14_3 y14_4 h_y14_3 h_y14_4 k_I0_l14 hl_3 hm
    rw [fX7_howManyHits_L14.eq_2]
    refine wq_le (fun hc_9200 => ?_) (fun hc_9201 => ?_)
    · exact wq_s ⟨(show 0 ≤ y14_3.toInt ∧ y14_3.toInt ≤ 20 from ⟨by omega, by omega⟩), k_I0_l14, trivial⟩
    · refine wq_in (n := 20) ⟨by omega, by omega⟩ ?_
      refine wq_in (n := 20) ⟨by omega, by omega⟩ ?_
      have t_9202 := KX7.m3 k_I0_l14 y14_4.toNatClampNeg
      refine wq_in (n := 20) ⟨by omega, by omega⟩ ?_
      have b_9203 := i32b x1
      refine wq_b (tt_fX7_isHit hN I0_l14 M0_l14 (M0_l14 3 y14_4.toNatClampNeg) (M0_l14 1 (M0_l14 3 y14_4.toNatClampNeg).toNatClampNeg) x1 ⟨by omega, by omega⟩ k_I0_l14) (fun r3_q9204 h_r3_q9204 => ?_)
      obtain ⟨h_r3_q9204_0, -⟩ := h_r3_q9204
      have l_0 := il_0
      refine wq_eq (fun hc_9205 => ?_) (fun hc_9206 => ?_)
      · have l_1 := il_1
        have t_9208 := ia_add y14_4 (1 : Int32) (by omega) (by omega)
        refine wq_v (fun v4_q9207 h_v4_q9207 => ?_)
        have t_v4_q9207 := congrArg Int32.toInt h_v4_q9207
        exact ih I0_l14 M0_l14 y14_3 v4_q9207 ⟨by omega, by omega⟩ ⟨by omega, by omega⟩ k_I0_l14 (by omega) (by omega)
      · have l_1 := il_1
        have t_9210 := ia_add y14_3 (1 : Int32) (by omega) (by omega)
        refine wq_v (fun v5_q9209 h_v5_q9209 => ?_)
        have t_v5_q9209 := congrArg Int32.toInt h_v5_q9209
        have t_9212 := ia_add y14_4 (1 : Int32) (by omega) (by omega)
        refine wq_v (fun v6_q9211 h_v6_q9211 => ?_)
        have t_v6_q9211 := congrArg Int32.toInt h_v6_q9211
        exact ih I0_l14 M0_l14 v5_q9209 v6_q9211 ⟨by omega, by omega⟩ ⟨by omega, by omega⟩ k_I0_l14 (by omega) (by omega)
set_option maxHeartbeats 4000000 in
theorem tt_fX7_howManyHits {N : Nat} (hN : 3000000000 ≤ N) (I0 : Nat → Int32) (M0 : Nat → Nat → Int32) (x1 : Int32) (k_I0 : KX7 I0 M0) : wq (fX7_howManyHits N I0 M0 x1) (fun r => (0 ≤ r.1.toInt ∧ r.1.toInt ≤ 20) ∧ KX7 r.2.1 r.2.2 ∧ True) := by
  unfold fX7_howManyHits
  refine wq_b (tt_fX7_setRows_11 hN I0 M0 k_I0) (fun r1_q9213 h_r1_q9213 => ?_)
  obtain ⟨h_r1_q9213_0, h_r1_q9213_1, -⟩ := h_r1_q9213
  refine wq_v (fun v2_q9214 h_v2_q9214 => ?_)
  have t_v2_q9214 := congrArg Int32.toInt h_v2_q9214
  have b_9215 := i32b x1
  have l_0 := il_0
  exact tt_fX7_howManyHits_L14 hN x1 v2_q9214 ⟨by omega, by omega⟩ N r1_q9213.2.1 r1_q9213.2.2 (0 : Int32) (0 : Int32) ⟨by omega, by omega⟩ ⟨by omega, by omega⟩ h_r1_q9213_1 (by omega) (by omega)
set_option maxHeartbeats 4000000 in
theorem tt_fX7_layNext_L56 {N : Nat} (hN : 3000000000 ≤ N) (x1 : Int32) (x2 : Int32) (r1 : Int32) (v2 : Int32) (y43_4 : Int32) (z43_0 : Int32) (g8 : (Nat → Int32) → (Nat → Nat → Int32) → Int32 → Option ((Nat → Int32) × (Nat → Nat → Int32))) (h_x1 : 0 ≤ x1.toInt ∧ x1.toInt ≤ 254) (h_x2 : 1 ≤ x2.toInt ∧ x2.toInt ≤ 8) (h_r1 : 0 ≤ r1.toInt ∧ r1.toInt ≤ 7) (h_v2 : 0 ≤ v2.toInt ∧ v2.toInt ≤ 255) (h_y43_4 : 0 ≤ y43_4.toInt ∧ y43_4.toInt ≤ 7) (h_z43_0 : 0 ≤ z43_0.toInt ∧ z43_0.toInt ≤ 1) (hg8 : ∀ (q0 : (Nat → Int32)) (q1 : (Nat → Nat → Int32)) (q2 : Int32), (0 ≤ q2.toInt ∧ q2.toInt ≤ 8) → (KX7 q0 q1) → (y43_4.toInt < q2.toInt) → wq (g8 q0 q1 q2) (fun r => KX7 r.1 r.2 ∧ True)) : ∀ (fu : Nat) (I0_l56 : (Nat → Int32)) (M0_l56 : (Nat → Nat → Int32)) (y56_7 : Int32), (0 ≤ y56_7.toInt ∧ y56_7.toInt ≤ 8) → (KX7 I0_l56 M0_l56) → (8 - y56_7.toInt) < (fu : Int) → wq (fX7_layNext_L56 N x1 x2 r1 v2 y43_4 z43_0 g8 fu I0_l56 M0_l56 y56_7) (fun r => KX7 r.1 r.2 ∧ True) := by
  intro fu
  induction fu with
  | zero => intro I0_l56 M0_l56 y56_7 h_y56_7 k_I0_l56 hm; exfalso; omega
  | succ fu ih =>
    intro I0_l56 M0_l56 y56_7 h_y56_7 k_I0_l56 hm
    rw [fX7_layNext_L56.eq_2]
    refine wq_lt (fun hc_9484 => ?_) (fun hc_9485 => ?_)
    · have l_1 := il_1
      have t_9487 := ia_add y43_4 (1 : Int32) (by omega) (by omega)
      refine wq_v (fun v3_q9486 h_v3_q9486 => ?_)
      have t_v3_q9486 := congrArg Int32.toInt h_v3_q9486
      exact hg8 I0_l56 M0_l56 v3_q9486 ⟨by omega, by omega⟩ k_I0_l56 (by omega)
    · have l_9 := il_9
      have t_9488 := ia_mul (9 : Int32) (9) il_9 v2 (by omega) (by omega)
      have t_9489 := ia_add ((9 : Int32) * v2) y56_7 (by omega) (by omega)
      have t_9490 := ia_add (((9 : Int32) * v2) + y56_7) z43_0 (by omega) (by omega)
      refine wq_in (n := 2304) ⟨by omega, by omega⟩ ?_
      have t_9491 := ia_mul (9 : Int32) (9) il_9 x1 (by omega) (by omega)
      have t_9492 := ia_add ((9 : Int32) * x1) y56_7 (by omega) (by omega)
      refine wq_in (n := 2304) ⟨by omega, by omega⟩ ?_
      refine wq_in (n := 2304) ⟨by omega, by omega⟩ ?_
      refine wq_v (fun M0_4_q9493 h_M0_4_q9493 => ?_)
      have k_M0_4_q9493 : KX7 I0_l56 M0_4_q9493 := by rw [h_M0_4_q9493]; exact KX7.sm5 k_I0_l56
      have l_1 := il_1
      have t_9495 := ia_add y56_7 (1 : Int32) (by omega) (by omega)
      refine wq_v (fun v5_q9494 h_v5_q9494 => ?_)
      have t_v5_q9494 := congrArg Int32.toInt h_v5_q9494
      exact ih I0_l56 M0_4_q9493 v5_q9494 ⟨by omega, by omega⟩ k_M0_4_q9493 (by omega)
set_option maxHeartbeats 4000000 in
theorem tt_fX7_layNext_L8 {N : Nat} (hN : 3000000000 ≤ N) (x1 : Int32) (x2 : Int32) (r1 : Int32) (h_x1 : 0 ≤ x1.toInt ∧ x1.toInt ≤ 254) (h_x2 : 0 ≤ x2.toInt ∧ x2.toInt ≤ 8) (h_r1 : 0 ≤ r1.toInt ∧ r1.toInt ≤ 7)  : ∀ (fu : Nat) (I0_l8 : (Nat → Int32)) (M0_l8 : (Nat → Nat → Int32)) (y8_4 : Int32), (0 ≤ y8_4.toInt ∧ y8_4.toInt ≤ 8) → (KX7 I0_l8 M0_l8) → (8 - y8_4.toInt) < (fu : Int) → wq (fX7_layNext_L8 N x1 x2 r1 fu I0_l8 M0_l8 y8_4) (fun r => KX7 r.1 r.2 ∧ True) := by
  intro fu
  induction fu with
  | zero => intro I0_l8 M0_l8 y8_4 h_y8_4 k_I0_l8 hm; exfalso; omega
  | succ fu ih =>
    intro I0_l8 M0_l8 y8_4 h_y8_4 k_I0_l8 hm
    rw [fX7_layNext_L8.eq_2]
    refine wq_le (fun hc_9496 => ?_) (fun hc_9497 => ?_)
    · exact wq_s ⟨k_I0_l8, trivial⟩
    · have l_0 := il_0
      refine wq_eq (fun hc_9498 => ?_) (fun hc_9499 => ?_)
      · have l_8 := il_8
        have t_9500 := ia_mul (8 : Int32) (8) il_8 r1 (by omega) (by omega)
        have t_9501 := ia_add ((8 : Int32) * r1) y8_4 (by omega) (by omega)
        refine wq_in (n := 64) ⟨by omega, by omega⟩ ?_
        refine wq_eq (fun hc_9502 => ?_) (fun hc_9503 => ?_)
        · unfold fX7_layNext_J43
          have t_9505 := or_sh x1 y8_4 ⟨by omega, by omega⟩ ⟨by omega, by omega⟩
          refine wq_v (fun v2_q9504 h_v2_q9504 => ?_)
          have t_v2_q9504 := congrArg Int32.toInt h_v2_q9504
          exact tt_fX7_layNext_L56 hN x1 x2 r1 v2_q9504 y8_4 (0 : Int32) _ ⟨by omega, by omega⟩ ⟨by omega, by omega⟩ ⟨by omega, by omega⟩ ⟨by omega, by omega⟩ ⟨by omega, by omega⟩ ⟨by omega, by omega⟩ (fun q0 q1 q2 hq0 hq1 hq2 => ih q0 q1 q2 hq0 hq1 (by omega)) N I0_l8 M0_l8 (0 : Int32) ⟨by omega, by omega⟩ k_I0_l8 (by omega)
        · unfold fX7_layNext_J43
          have t_9507 := or_sh x1 y8_4 ⟨by omega, by omega⟩ ⟨by omega, by omega⟩
          refine wq_v (fun v2_q9506 h_v2_q9506 => ?_)
          have t_v2_q9506 := congrArg Int32.toInt h_v2_q9506
          have l_1 := il_1
          exact tt_fX7_layNext_L56 hN x1 x2 r1 v2_q9506 y8_4 (1 : Int32) _ ⟨by omega, by omega⟩ ⟨by omega, by omega⟩ ⟨by omega, by omega⟩ ⟨by omega, by omega⟩ ⟨by omega, by omega⟩ ⟨by omega, by omega⟩ (fun q0 q1 q2 hq0 hq1 hq2 => ih q0 q1 q2 hq0 hq1 (by omega)) N I0_l8 M0_l8 (0 : Int32) ⟨by omega, by omega⟩ k_I0_l8 (by omega)
      · have l_1 := il_1
        have t_9509 := ia_add y8_4 (1 : Int32) (by omega) (by omega)
        refine wq_v (fun v6_q9508 h_v6_q9508 => ?_)
        have t_v6_q9508 := congrArg Int32.toInt h_v6_q9508
        exact ih I0_l8 M0_l8 v6_q9508 ⟨by omega, by omega⟩ k_I0_l8 (by omega)
set_option maxHeartbeats 4000000 in
theorem tt_fX7_layNext {N : Nat} (hN : 3000000000 ≤ N) (I0 : Nat → Int32) (M0 : Nat → Nat → Int32) (x1 : Int32) (x2 : Int32) (h_x1 : 0 ≤ x1.toInt ∧ x1.toInt ≤ 254) (h_x2 : 0 ≤ x2.toInt ∧ x2.toInt ≤ 8) (k_I0 : KX7 I0 M0) : wq (fX7_layNext N I0 M0 x1 x2) (fun r => KX7 r.1 r.2 ∧ True) := by
  unfold fX7_layNext
  refine wq_b (tt_fJ6_bitCount_0f7a4 hN x1) (fun r1_q9510 h_r1_q9510 => ?_)
  obtain ⟨h_r1_q9510_0, -⟩ := h_r1_q9510
  have l_0 := il_0
  exact tt_fX7_layNext_L8 hN x1 x2 r1_q9510 ⟨by omega, by omega⟩ ⟨by omega, by omega⟩ ⟨by omega, by omega⟩ N I0 M0 (0 : Int32) ⟨by omega, by omega⟩ k_I0 (by omega)
set_option maxHeartbeats 4000000 in
theorem tt_fX7_waysToHit_L49 {N : Nat} (hN : 3000000000 ≤ N) (x1 : Int32) (x2 : Int32) (v1 : Int32) (g24 : (Nat → Int32) → (Nat → Nat → Int32) → Int32 → Option (Int32 × (Nat → Int32) × (Nat → Nat → Int32))) (h_x1 : 0 ≤ x1.toInt ∧ x1.toInt ≤ 8) (h_x2 : 0 ≤ x2.toInt ∧ x2.toInt ≤ 2147483647) (h_v1 : 0 ≤ v1.toInt ∧ v1.toInt ≤ 255)  : ∀ (fu : Nat) (I0_l49 : (Nat → Int32)) (M0_l49 : (Nat → Nat → Int32)) (y49_4 : Int32) (y49_5 : Int32), (0 ≤ y49_5.toInt ∧ y49_5.toInt ≤ 2147483647) → (KX7 I0_l49 M0_l49) → (2147483647 - y49_5.toInt) < (fu : Int) → wq (fX7_waysToHit_L49 N x1 x2 v1 g24 fu I0_l49 M0_l49 y49_4 y49_5) (fun r => KX7 r.2.1 r.2.2 ∧ True) := by
  intro fu
  induction fu with
  | zero => intro I0_l49 M0_l49 y49_4 y49_5 h_y49_5 k_I0_l49 hm; exfalso; omega
  | succ fu ih =>
    intro I0_l49 M0_l49 y49_4 y49_5 h_y49_5 k_I0_l49 hm
    rw [fX7_waysToHit_L49.eq_2]
    have b_9819 := i32b y49_5
    refine wq_lt (fun hc_9820 => ?_) (fun hc_9821 => ?_)
    · have b_9822 := i32b y49_4
      exact wq_s ⟨k_I0_l49, trivial⟩
    · have l_9 := il_9
      have t_9823 := ia_mul (9 : Int32) (9) il_9 v1 (by omega) (by omega)
      have t_9824 := ia_add ((9 : Int32) * v1) y49_5 (by omega) (by omega)
      refine wq_in (n := 2304) ⟨by omega, by omega⟩ ?_
      have b_9826 := i32b y49_4
      refine wq_v (fun v5_q9825 h_v5_q9825 => ?_)
      have t_v5_q9825 := congrArg Int32.toInt h_v5_q9825
      have l_1 := il_1
      have t_9828 := ia_add y49_5 (1 : Int32) (by omega) (by omega)
      refine wq_v (fun v6_q9827 h_v6_q9827 => ?_)
      have t_v6_q9827 := congrArg Int32.toInt h_v6_q9827
      have b_9829 := i32b v5_q9825
      exact ih I0_l49 M0_l49 v5_q9825 v6_q9827 ⟨by omega, by omega⟩ k_I0_l49 (by omega)
set_option maxHeartbeats 4000000 in
theorem tt_fX7_waysToHit_L24 {N : Nat} (hN : 3000000000 ≤ N) (x1 : Int32) (x2 : Int32) (v1 : Int32) (h_x1 : 0 ≤ x1.toInt ∧ x1.toInt ≤ 8) (h_x2 : 0 ≤ x2.toInt ∧ x2.toInt ≤ 2147483647) (h_v1 : 0 ≤ v1.toInt ∧ v1.toInt ≤ 255)  : ∀ (fu : Nat) (I0_l24 : (Nat → Int32)) (M0_l24 : (Nat → Nat → Int32)) (y24_4 : Int32), (0 ≤ y24_4.toInt ∧ y24_4.toInt ≤ 255) → (KX7 I0_l24 M0_l24) → (255 - y24_4.toInt) < (fu : Int) → wq (fX7_waysToHit_L24 N x1 x2 v1 fu I0_l24 M0_l24 y24_4) (fun r => KX7 r.2.1 r.2.2 ∧ True) := by
  intro fu
  induction fu with
  | zero => intro I0_l24 M0_l24 y24_4 h_y24_4 k_I0_l24 hm; exfalso; omega
  | succ fu ih =>
    intro I0_l24 M0_l24 y24_4 h_y24_4 k_I0_l24 hm
    rw [fX7_waysToHit_L24.eq_2]
    refine wq_le (fun hc_9830 => ?_) (fun hc_9831 => ?_)
    · have b_9832 := i32b x2
      have l_0 := il_0
      exact tt_fX7_waysToHit_L49 hN x1 x2 v1 _ ⟨by omega, by omega⟩ ⟨by omega, by omega⟩ ⟨by omega, by omega⟩ N I0_l24 M0_l24 (0 : Int32) x2 ⟨by omega, by omega⟩ k_I0_l24 (by omega)
    · refine wq_b (tt_fX7_layNext hN I0_l24 M0_l24 y24_4 x1 ⟨by omega, by omega⟩ ⟨by omega, by omega⟩ k_I0_l24) (fun r7_q9833 h_r7_q9833 => ?_)
      obtain ⟨h_r7_q9833_0, -⟩ := h_r7_q9833
      have l_1 := il_1
      have t_9835 := ia_add y24_4 (1 : Int32) (by omega) (by omega)
      refine wq_v (fun v8_q9834 h_v8_q9834 => ?_)
      have t_v8_q9834 := congrArg Int32.toInt h_v8_q9834
      exact ih r7_q9833.1 r7_q9833.2 v8_q9834 ⟨by omega, by omega⟩ h_r7_q9833_0 (by omega)
set_option maxHeartbeats 4000000 in
theorem tt_fX7_waysToHit {N : Nat} (hN : 3000000000 ≤ N) (I0 : Nat → Int32) (M0 : Nat → Nat → Int32) (x1 : Int32) (x2 : Int32) (h_x1 : 0 ≤ x1.toInt ∧ x1.toInt ≤ 8) (h_x2 : 0 ≤ x2.toInt ∧ x2.toInt ≤ 2147483647) (k_I0 : KX7 I0 M0) : wq (fX7_waysToHit N I0 M0 x1 x2) (fun r => KX7 r.2.1 r.2.2 ∧ True) := by
  unfold fX7_waysToHit
  have t_9837 := sh_1 x1 ⟨by omega, by omega⟩
  have l_1 := il_1
  have t_9838 := ia_sub ((1 : Int32) <<< (x1 &&& 31)) (1 : Int32) (by omega) (by omega)
  refine wq_v (fun v1_q9836 h_v1_q9836 => ?_)
  have t_v1_q9836 := congrArg Int32.toInt h_v1_q9836
  have l_0 := il_0
  refine wq_b (tt_fJ7_fill_53178 hN 2304 (M0 5) (0 : Int32) (by omega)) (fun r2_q9839 h_r2_q9839 => ?_)
  obtain ⟨-⟩ := h_r2_q9839
  refine wq_v (fun M0_3_q9840 h_M0_3_q9840 => ?_)
  have k_M0_3_q9840 : KX7 I0 M0_3_q9840 := by rw [h_M0_3_q9840]; exact KX7.sf5 k_I0
  refine wq_in (n := 2304) ⟨by omega, by omega⟩ ?_
  refine wq_v (fun M0_4_q9841 h_M0_4_q9841 => ?_)
  have k_M0_4_q9841 : KX7 I0 M0_4_q9841 := by rw [h_M0_4_q9841]; exact KX7.sm5 k_M0_3_q9840
  have b_9842 := i32b x2
  exact tt_fX7_waysToHit_L24 hN x1 x2 v1_q9836 ⟨by omega, by omega⟩ ⟨by omega, by omega⟩ ⟨by omega, by omega⟩ N I0 M0_4_q9841 (0 : Int32) ⟨by omega, by omega⟩ k_M0_4_q9841 (by omega)
set_option maxHeartbeats 4000000 in
theorem tt_fX7_chanceOfLives_L27 {N : Nat} (hN : 3000000000 ≤ N) (x1 : Int32) (v2 : Int32) (y19_3 : Int32) (g19 : (Nat → Int32) → (Nat → Nat → Int32) → Int32 → Option (Int32 × (Nat → Int32) × (Nat → Nat → Int32))) (h_v2 : 1 ≤ v2.toInt ∧ v2.toInt ≤ 8) (h_y19_3 : 0 ≤ y19_3.toInt ∧ y19_3.toInt ≤ 7) (hg19 : ∀ (q0 : (Nat → Int32)) (q1 : (Nat → Nat → Int32)) (q2 : Int32), (0 ≤ q2.toInt ∧ q2.toInt ≤ 8) → (KX7 q0 q1) → (y19_3.toInt < q2.toInt) → wq (g19 q0 q1 q2) (fun r => KX7 r.2.1 r.2.2 ∧ True)) : ∀ (fu : Nat) (I0_l27 : (Nat → Int32)) (M0_l27 : (Nat → Nat → Int32)) (y27_4 : Int32), (0 ≤ y27_4.toInt ∧ y27_4.toInt ≤ 8) → (KX7 I0_l27 M0_l27) → (8 - y27_4.toInt) < (fu : Int) → wq (fX7_chanceOfLives_L27 N x1 v2 y19_3 g19 fu I0_l27 M0_l27 y27_4) (fun r => KX7 r.2.1 r.2.2 ∧ True) := by
  intro fu
  induction fu with
  | zero => intro I0_l27 M0_l27 y27_4 h_y27_4 k_I0_l27 hm; exfalso; omega
  | succ fu ih =>
    intro I0_l27 M0_l27 y27_4 h_y27_4 k_I0_l27 hm
    rw [fX7_chanceOfLives_L27.eq_2]
    refine wq_le (fun hc_10091 => ?_) (fun hc_10092 => ?_)
    · have l_1 := il_1
      have t_10094 := ia_add y19_3 (1 : Int32) (by omega) (by omega)
      refine wq_v (fun v5_q10093 h_v5_q10093 => ?_)
      have t_v5_q10093 := congrArg Int32.toInt h_v5_q10093
      exact hg19 I0_l27 M0_l27 v5_q10093 ⟨by omega, by omega⟩ k_I0_l27 (by omega)
    · refine wq_in (n := 20) ⟨by omega, by omega⟩ ?_
      refine wq_in (n := 20) ⟨by omega, by omega⟩ ?_
      have t_10095 := KX7.m3 k_I0_l27 y27_4.toNatClampNeg
      refine wq_in (n := 20) ⟨by omega, by omega⟩ ?_
      have t_10096 := KX7.m3 k_I0_l27 y19_3.toNatClampNeg
      have b_10097 := i32b x1
      refine wq_b (tt_fX7_isHit hN I0_l27 M0_l27 (M0_l27 3 y19_3.toNatClampNeg) (M0_l27 1 (M0_l27 3 y27_4.toNatClampNeg).toNatClampNeg) x1 ⟨by omega, by omega⟩ k_I0_l27) (fun r6_q10098 h_r6_q10098 => ?_)
      obtain ⟨h_r6_q10098_0, -⟩ := h_r6_q10098
      have l_8 := il_8
      have t_10099 := ia_mul (8 : Int32) (8) il_8 y19_3 (by omega) (by omega)
      have t_10100 := ia_add ((8 : Int32) * y19_3) y27_4 (by omega) (by omega)
      refine wq_in (n := 64) ⟨by omega, by omega⟩ ?_
      refine wq_v (fun M0_7_q10101 h_M0_7_q10101 => ?_)
      have k_M0_7_q10101 : KX7 I0_l27 M0_7_q10101 := by rw [h_M0_7_q10101]; exact KX7.sm4 k_I0_l27
      have l_1 := il_1
      have t_10103 := ia_add y27_4 (1 : Int32) (by omega) (by omega)
      refine wq_v (fun v8_q10102 h_v8_q10102 => ?_)
      have t_v8_q10102 := congrArg Int32.toInt h_v8_q10102
      exact ih I0_l27 M0_7_q10101 v8_q10102 ⟨by omega, by omega⟩ k_M0_7_q10101 (by omega)
set_option maxHeartbeats 4000000 in
theorem tt_fX7_chanceOfLives_L19 {N : Nat} (hN : 3000000000 ≤ N) (x1 : Int32) (v2 : Int32) (h_v2 : 0 ≤ v2.toInt ∧ v2.toInt ≤ 8)  : ∀ (fu : Nat) (I0_l19 : (Nat → Int32)) (M0_l19 : (Nat → Nat → Int32)) (y19_3 : Int32), (0 ≤ y19_3.toInt ∧ y19_3.toInt ≤ 8) → (KX7 I0_l19 M0_l19) → (8 - y19_3.toInt) < (fu : Int) → wq (fX7_chanceOfLives_L19 N x1 v2 fu I0_l19 M0_l19 y19_3) (fun r => KX7 r.2.1 r.2.2 ∧ True) := by
  intro fu
  induction fu with
  | zero => intro I0_l19 M0_l19 y19_3 h_y19_3 k_I0_l19 hm; exfalso; omega
  | succ fu ih =>
    intro I0_l19 M0_l19 y19_3 h_y19_3 k_I0_l19 hm
    rw [fX7_chanceOfLives_L19.eq_2]
    refine wq_le (fun hc_10104 => ?_) (fun hc_10105 => ?_)
    · have b_10106 := i32b x1
      refine wq_b (tt_fX7_howManyHits hN I0_l19 M0_l19 x1 k_I0_l19) (fun r3_q10107 h_r3_q10107 => ?_)
      obtain ⟨h_r3_q10107_0, h_r3_q10107_1, -⟩ := h_r3_q10107
      refine wq_b (tt_fX7_waysToHit hN r3_q10107.2.1 r3_q10107.2.2 v2 r3_q10107.1 ⟨by omega, by omega⟩ ⟨by omega, by omega⟩ h_r3_q10107_1) (fun r4_q10108 h_r4_q10108 => ?_)
      obtain ⟨h_r4_q10108_0, -⟩ := h_r4_q10108
      have b_10109 := i32b r4_q10108.1
      exact wq_s ⟨h_r4_q10108_0, trivial⟩
    · have b_10110 := i32b x1
      have l_0 := il_0
      exact tt_fX7_chanceOfLives_L27 hN x1 v2 y19_3 _ ⟨by omega, by omega⟩ ⟨by omega, by omega⟩ (fun q0 q1 q2 hq0 hq1 hq2 => ih q0 q1 q2 hq0 hq1 (by omega)) N I0_l19 M0_l19 (0 : Int32) ⟨by omega, by omega⟩ k_I0_l19 (by omega)
set_option maxHeartbeats 4000000 in
theorem tt_fX7_chanceOfLives {N : Nat} (hN : 3000000000 ≤ N) (I0 : Nat → Int32) (M0 : Nat → Nat → Int32) (x1 : Int32) (k_I0 : KX7 I0 M0) : wq (fX7_chanceOfLives N I0 M0 x1) (fun r => KX7 r.2.1 r.2.2 ∧ True) := by
  unfold fX7_chanceOfLives
  refine wq_b (tt_fX7_setRows_11 hN I0 M0 k_I0) (fun r1_q10111 h_r1_q10111 => ?_)
  obtain ⟨h_r1_q10111_0, h_r1_q10111_1, -⟩ := h_r1_q10111
  refine wq_v (fun v2_q10112 h_v2_q10112 => ?_)
  have t_v2_q10112 := congrArg Int32.toInt h_v2_q10112
  have l_8 := il_8
  refine wq_le (fun hc_10113 => ?_) (fun hc_10114 => ?_)
  · have b_10115 := i32b x1
    have l_0 := il_0
    exact tt_fX7_chanceOfLives_L19 hN x1 v2_q10112 ⟨by omega, by omega⟩ N r1_q10111.2.1 r1_q10111.2.2 (0 : Int32) ⟨by omega, by omega⟩ h_r1_q10111_1 (by omega)
  · have l_m1 := il_m1
    exact wq_s ⟨h_r1_q10111_1, trivial⟩
set_option maxHeartbeats 4000000 in
theorem tt_fX7_isToldByLot {N : Nat} (hN : 3000000000 ≤ N) (I0 : Nat → Int32) (M0 : Nat → Nat → Int32) (x1 : Int32) (x2 : Int32) (h_x1 : 0 ≤ x1.toInt ∧ x1.toInt ≤ 119) (k_I0 : KX1 I0 M0) : wq (fX7_isToldByLot N I0 M0 x1 x2) (fun r => (0 ≤ r.toInt ∧ r.toInt ≤ 1) ∧ True) := by
  unfold fX7_isToldByLot
  have l_8 := il_8
  refine wq_b (tt_fX1_degreeOf hN I0 M0 x1 (8 : Int32) ⟨by omega, by omega⟩ ⟨by omega, by omega⟩ k_I0) (fun r1_q10188 h_r1_q10188 => ?_)
  obtain ⟨h_r1_q10188_0, h_r1_q10188_1, -⟩ := h_r1_q10188
  have l_7 := il_7
  refine wq_b (tt_fX1_degreeOf hN I0 M0 x1 (7 : Int32) ⟨by omega, by omega⟩ ⟨by omega, by omega⟩ k_I0) (fun r2_q10189 h_r2_q10189 => ?_)
  obtain ⟨h_r2_q10189_0, h_r2_q10189_1, -⟩ := h_r2_q10189
  have l_m1 := il_m1
  refine wq_eq (fun hc_10190 => ?_) (fun hc_10191 => ?_)
  · have l_0 := il_0
    exact wq_s ⟨(show 0 ≤ (0 : Int32).toInt ∧ (0 : Int32).toInt ≤ 1 from ⟨by omega, by omega⟩), trivial⟩
  · refine wq_eq (fun hc_10192 => ?_) (fun hc_10193 => ?_)
    · have l_0 := il_0
      exact wq_s ⟨(show 0 ≤ (0 : Int32).toInt ∧ (0 : Int32).toInt ≤ 1 from ⟨by omega, by omega⟩), trivial⟩
    · have l_30 := il_30
      have t_10194 := ia_div r1_q10188 (30 : Int32) 30 il_30 (by decide) (by omega)
      have t_10195 := ia_div r2_q10189 (30 : Int32) 30 il_30 (by decide) (by omega)
      have b_10196 := i32b x2
      have l_1 := il_1
      have l_12 := il_12
      have t_10197 := ia_rem2 (((r2_q10189 / (30 : Int32)) + x2) - (1 : Int32)) (12 : Int32) 12 il_12 (by decide)
      refine wq_eq (fun hc_10198 => ?_) (fun hc_10199 => ?_)
      · exact wq_s ⟨(show 0 ≤ (1 : Int32).toInt ∧ (1 : Int32).toInt ≤ 1 from ⟨by omega, by omega⟩), trivial⟩
      · have l_0 := il_0
        exact wq_s ⟨(show 0 ≤ (0 : Int32).toInt ∧ (0 : Int32).toInt ≤ 1 from ⟨by omega, by omega⟩), trivial⟩
set_option maxHeartbeats 4000000 in
theorem tt_fX7_howManyToldByLot_L14 {N : Nat} (hN : 3000000000 ≤ N) (I1 : Nat → Int32) (M1 : Nat → Nat → Int32) (v2 : Int32) (h_v2 : 0 ≤ v2.toInt ∧ v2.toInt ≤ 20) (k_I1 : KX1 I1 M1)  : ∀ (fu : Nat) (I0_l14 : (Nat → Int32)) (M0_l14 : (Nat → Nat → Int32)) (y14_3 : Int32) (y14_4 : Int32), (0 ≤ y14_3.toInt ∧ y14_3.toInt ≤ 20) → (0 ≤ y14_4.toInt ∧ y14_4.toInt ≤ 20) → (KX7 I0_l14 M0_l14) → (y14_3.toInt ≤ y14_4.toInt) → (20 - y14_4.toInt) < (fu : Int) → wq (fX7_howManyToldByLot_L14 N I1 M1 v2 fu I0_l14 M0_l14 y14_3 y14_4) (fun r => (0 ≤ r.1.toInt ∧ r.1.toInt ≤ 20) ∧ KX7 r.2.1 r.2.2 ∧ True) := by
  intro fu
  induction fu with
  | zero => intro I0_l14 M0_l14 y14_3 y14_4 h_y14_3 h_y14_4 k_I0_l14 hl_3 hm; exfalso; omega
  | succ fu ih =>
    intro I0_l14 M0_l14 y14_3 y14_4 h_y14_3 h_y14_4 k_I0_l14 hl_3 hm
    rw [fX7_howManyToldByLot_L14.eq_2]
    refine wq_le (fun hc_10326 => ?_) (fun hc_10327 => ?_)
    · exact wq_s ⟨(show 0 ≤ y14_3.toInt ∧ y14_3.toInt ≤ 20 from ⟨by omega, by omega⟩), k_I0_l14, trivial⟩
    · refine wq_in (n := 20) ⟨by omega, by omega⟩ ?_
      refine wq_in (n := 20) ⟨by omega, by omega⟩ ?_
      have t_10328 := KX7.m3 k_I0_l14 y14_4.toNatClampNeg
      refine wq_in (n := 20) ⟨by omega, by omega⟩ ?_
      refine wq_b (tt_fX7_isToldByLot hN I1 M1 (M0_l14 3 y14_4.toNatClampNeg) (M0_l14 2 (M0_l14 3 y14_4.toNatClampNeg).toNatClampNeg) ⟨by omega, by omega⟩ k_I1) (fun r3_q10329 h_r3_q10329 => ?_)
      obtain ⟨h_r3_q10329_0, -⟩ := h_r3_q10329
      have l_0 := il_0
      refine wq_eq (fun hc_10330 => ?_) (fun hc_10331 => ?_)
      · have l_1 := il_1
        have t_10333 := ia_add y14_4 (1 : Int32) (by omega) (by omega)
        refine wq_v (fun v4_q10332 h_v4_q10332 => ?_)
        have t_v4_q10332 := congrArg Int32.toInt h_v4_q10332
        exact ih I0_l14 M0_l14 y14_3 v4_q10332 ⟨by omega, by omega⟩ ⟨by omega, by omega⟩ k_I0_l14 (by omega) (by omega)
      · have l_1 := il_1
        have t_10335 := ia_add y14_3 (1 : Int32) (by omega) (by omega)
        refine wq_v (fun v5_q10334 h_v5_q10334 => ?_)
        have t_v5_q10334 := congrArg Int32.toInt h_v5_q10334
        have t_10337 := ia_add y14_4 (1 : Int32) (by omega) (by omega)
        refine wq_v (fun v6_q10336 h_v6_q10336 => ?_)
        have t_v6_q10336 := congrArg Int32.toInt h_v6_q10336
        exact ih I0_l14 M0_l14 v5_q10334 v6_q10336 ⟨by omega, by omega⟩ ⟨by omega, by omega⟩ k_I0_l14 (by omega) (by omega)
set_option maxHeartbeats 4000000 in
theorem tt_fX7_howManyToldByLot {N : Nat} (hN : 3000000000 ≤ N) (I0 : Nat → Int32) (M0 : Nat → Nat → Int32) (I1 : Nat → Int32) (M1 : Nat → Nat → Int32) (k_I0 : KX7 I0 M0) (k_I1 : KX1 I1 M1) : wq (fX7_howManyToldByLot N I0 M0 I1 M1) (fun r => (0 ≤ r.1.toInt ∧ r.1.toInt ≤ 20) ∧ KX7 r.2.1 r.2.2 ∧ True) := by
  unfold fX7_howManyToldByLot
  refine wq_b (tt_fX7_setRows_13 hN I0 M0 k_I0) (fun r1_q10338 h_r1_q10338 => ?_)
  obtain ⟨h_r1_q10338_0, h_r1_q10338_1, -⟩ := h_r1_q10338
  refine wq_v (fun v2_q10339 h_v2_q10339 => ?_)
  have t_v2_q10339 := congrArg Int32.toInt h_v2_q10339
  have l_0 := il_0
  exact tt_fX7_howManyToldByLot_L14 hN I1 M1 v2_q10339 ⟨by omega, by omega⟩ k_I1 N r1_q10338.2.1 r1_q10338.2.2 (0 : Int32) (0 : Int32) ⟨by omega, by omega⟩ ⟨by omega, by omega⟩ h_r1_q10338_1 (by omega) (by omega)
set_option maxHeartbeats 4000000 in
theorem tt_fX7_chanceOfFates_L27 {N : Nat} (hN : 3000000000 ≤ N) (I1 : Nat → Int32) (M1 : Nat → Nat → Int32) (v2 : Int32) (y19_3 : Int32) (g19 : (Nat → Int32) → (Nat → Nat → Int32) → Int32 → Option (Int32 × (Nat → Int32) × (Nat → Nat → Int32))) (h_v2 : 1 ≤ v2.toInt ∧ v2.toInt ≤ 8) (h_y19_3 : 0 ≤ y19_3.toInt ∧ y19_3.toInt ≤ 7) (k_I1 : KX1 I1 M1) (hg19 : ∀ (q0 : (Nat → Int32)) (q1 : (Nat → Nat → Int32)) (q2 : Int32), (0 ≤ q2.toInt ∧ q2.toInt ≤ 8) → (KX7 q0 q1) → (y19_3.toInt < q2.toInt) → wq (g19 q0 q1 q2) (fun r => KX7 r.2.1 r.2.2 ∧ True)) : ∀ (fu : Nat) (I0_l27 : (Nat → Int32)) (M0_l27 : (Nat → Nat → Int32)) (y27_4 : Int32), (0 ≤ y27_4.toInt ∧ y27_4.toInt ≤ 8) → (KX7 I0_l27 M0_l27) → (8 - y27_4.toInt) < (fu : Int) → wq (fX7_chanceOfFates_L27 N I1 M1 v2 y19_3 g19 fu I0_l27 M0_l27 y27_4) (fun r => KX7 r.2.1 r.2.2 ∧ True) := by
  intro fu
  induction fu with
  | zero => intro I0_l27 M0_l27 y27_4 h_y27_4 k_I0_l27 hm; exfalso; omega
  | succ fu ih =>
    intro I0_l27 M0_l27 y27_4 h_y27_4 k_I0_l27 hm
    rw [fX7_chanceOfFates_L27.eq_2]
    refine wq_le (fun hc_10548 => ?_) (fun hc_10549 => ?_)
    · have l_1 := il_1
      have t_10551 := ia_add y19_3 (1 : Int32) (by omega) (by omega)
      refine wq_v (fun v5_q10550 h_v5_q10550 => ?_)
      have t_v5_q10550 := congrArg Int32.toInt h_v5_q10550
      exact hg19 I0_l27 M0_l27 v5_q10550 ⟨by omega, by omega⟩ k_I0_l27 (by omega)
    · refine wq_in (n := 20) ⟨by omega, by omega⟩ ?_
      refine wq_in (n := 20) ⟨by omega, by omega⟩ ?_
      have t_10552 := KX7.m3 k_I0_l27 y27_4.toNatClampNeg
      refine wq_in (n := 20) ⟨by omega, by omega⟩ ?_
      have t_10553 := KX7.m3 k_I0_l27 y19_3.toNatClampNeg
      refine wq_b (tt_fX7_isToldByLot hN I1 M1 (M0_l27 3 y19_3.toNatClampNeg) (M0_l27 2 (M0_l27 3 y27_4.toNatClampNeg).toNatClampNeg) ⟨by omega, by omega⟩ k_I1) (fun r6_q10554 h_r6_q10554 => ?_)
      obtain ⟨h_r6_q10554_0, -⟩ := h_r6_q10554
      have l_8 := il_8
      have t_10555 := ia_mul (8 : Int32) (8) il_8 y19_3 (by omega) (by omega)
      have t_10556 := ia_add ((8 : Int32) * y19_3) y27_4 (by omega) (by omega)
      refine wq_in (n := 64) ⟨by omega, by omega⟩ ?_
      refine wq_v (fun M0_7_q10557 h_M0_7_q10557 => ?_)
      have k_M0_7_q10557 : KX7 I0_l27 M0_7_q10557 := by rw [h_M0_7_q10557]; exact KX7.sm4 k_I0_l27
      have l_1 := il_1
      have t_10559 := ia_add y27_4 (1 : Int32) (by omega) (by omega)
      refine wq_v (fun v8_q10558 h_v8_q10558 => ?_)
      have t_v8_q10558 := congrArg Int32.toInt h_v8_q10558
      exact ih I0_l27 M0_7_q10557 v8_q10558 ⟨by omega, by omega⟩ k_M0_7_q10557 (by omega)
set_option maxHeartbeats 4000000 in
theorem tt_fX7_chanceOfFates_L19 {N : Nat} (hN : 3000000000 ≤ N) (I1 : Nat → Int32) (M1 : Nat → Nat → Int32) (v2 : Int32) (h_v2 : 0 ≤ v2.toInt ∧ v2.toInt ≤ 8) (k_I1 : KX1 I1 M1)  : ∀ (fu : Nat) (I0_l19 : (Nat → Int32)) (M0_l19 : (Nat → Nat → Int32)) (y19_3 : Int32), (0 ≤ y19_3.toInt ∧ y19_3.toInt ≤ 8) → (KX7 I0_l19 M0_l19) → (8 - y19_3.toInt) < (fu : Int) → wq (fX7_chanceOfFates_L19 N I1 M1 v2 fu I0_l19 M0_l19 y19_3) (fun r => KX7 r.2.1 r.2.2 ∧ True) := by
  intro fu
  induction fu with
  | zero => intro I0_l19 M0_l19 y19_3 h_y19_3 k_I0_l19 hm; exfalso; omega
  | succ fu ih =>
    intro I0_l19 M0_l19 y19_3 h_y19_3 k_I0_l19 hm
    rw [fX7_chanceOfFates_L19.eq_2]
    refine wq_le (fun hc_10560 => ?_) (fun hc_10561 => ?_)
    · refine wq_b (tt_fX7_howManyToldByLot hN I0_l19 M0_l19 I1 M1 k_I0_l19 k_I1) (fun r3_q10562 h_r3_q10562 => ?_)
      obtain ⟨h_r3_q10562_0, h_r3_q10562_1, -⟩ := h_r3_q10562
      refine wq_b (tt_fX7_waysToHit hN r3_q10562.2.1 r3_q10562.2.2 v2 r3_q10562.1 ⟨by omega, by omega⟩ ⟨by omega, by omega⟩ h_r3_q10562_1) (fun r4_q10563 h_r4_q10563 => ?_)
      obtain ⟨h_r4_q10563_0, -⟩ := h_r4_q10563
      have b_10564 := i32b r4_q10563.1
      exact wq_s ⟨h_r4_q10563_0, trivial⟩
    · have l_0 := il_0
      exact tt_fX7_chanceOfFates_L27 hN I1 M1 v2 y19_3 _ ⟨by omega, by omega⟩ ⟨by omega, by omega⟩ k_I1 (fun q0 q1 q2 hq0 hq1 hq2 => ih q0 q1 q2 hq0 hq1 (by omega)) N I0_l19 M0_l19 (0 : Int32) ⟨by omega, by omega⟩ k_I0_l19 (by omega)
set_option maxHeartbeats 4000000 in
theorem tt_fX7_chanceOfFates {N : Nat} (hN : 3000000000 ≤ N) (I0 : Nat → Int32) (M0 : Nat → Nat → Int32) (I1 : Nat → Int32) (M1 : Nat → Nat → Int32) (k_I0 : KX7 I0 M0) (k_I1 : KX1 I1 M1) : wq (fX7_chanceOfFates N I0 M0 I1 M1) (fun r => KX7 r.2.1 r.2.2 ∧ True) := by
  unfold fX7_chanceOfFates
  refine wq_b (tt_fX7_setRows_13 hN I0 M0 k_I0) (fun r1_q10565 h_r1_q10565 => ?_)
  obtain ⟨h_r1_q10565_0, h_r1_q10565_1, -⟩ := h_r1_q10565
  refine wq_v (fun v2_q10566 h_v2_q10566 => ?_)
  have t_v2_q10566 := congrArg Int32.toInt h_v2_q10566
  have l_8 := il_8
  refine wq_le (fun hc_10567 => ?_) (fun hc_10568 => ?_)
  · have l_0 := il_0
    exact tt_fX7_chanceOfFates_L19 hN I1 M1 v2_q10566 ⟨by omega, by omega⟩ k_I1 N r1_q10565.2.1 r1_q10565.2.2 (0 : Int32) ⟨by omega, by omega⟩ h_r1_q10565_1 (by omega)
  · have l_m1 := il_m1
    exact wq_s ⟨h_r1_q10565_1, trivial⟩
theorem tt_fX8_begin {N : Nat} (hN : 3000000000 ≤ N) (I0 : Nat → Int32) (M0 : Nat → Nat → Int32) (x1 : Int32) (x2 : Int32) (x3 : Int32) (h_x1 : 0 ≤ x1.toInt ∧ x1.toInt ≤ 119) (h_x2 : 0 ≤ x2.toInt ∧ x2.toInt ≤ 3) (h_x3 : 0 ≤ x3.toInt ∧ x3.toInt ≤ 1000000) (k_I0 : KX8 I0 M0) : wq (fX8_begin N I0 M0 x1 x2 x3) (fun r => KX8 r.1 r.2 ∧ True) := by
  refine ⟨_, rfl, ?_, trivial⟩
  refine ⟨by decide, h_x1, h_x2, ⟨h_x3.1, ?_⟩, by decide, ?_, trivial⟩
  · show x3.toInt ≤ 1000001
    omega
  · show (0 : Int32).toInt ≤ x3.toInt
    rw [il_0]; exact h_x3.1
theorem tt_fX8_copyFrom {N : Nat} (hN : 3000000000 ≤ N) (I0 : Nat → Int32) (M0 : Nat → Nat → Int32) (I1 : Nat → Int32) (M1 : Nat → Nat → Int32) (k_I0 : KX8 I0 M0) (k_I1 : KX8 I1 M1) : wq (fX8_copyFrom N I0 M0 I1 M1) (fun r => KX8 r.1 r.2 ∧ True) := by
  unfold fX8_copyFrom
  refine wq_nb (k_I1.i0) ?_
  refine ⟨_, rfl, ?_, trivial⟩
  exact ⟨k_I1.i0, k_I1.i1, k_I1.i2, k_I1.i3, k_I1.i5, k_I1.emn, trivial⟩

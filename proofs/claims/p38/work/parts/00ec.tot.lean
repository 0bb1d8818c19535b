theorem tt_fX5_swingOn {N : Nat} (hN : 3000000000 ≤ N) (I0 : Nat → Int32) (M0 : Nat → Nat → Int32) (x1 : Int32) (x2 : Int32) (h_x1 : 0 ≤ x1.toInt ∧ x1.toInt ≤ 27) (k_I0 : KX5 I0 M0) : wq (fX5_swingOn N I0 M0 x1 x2) (fun r => True) := by
  unfold fX5_swingOn
  have l_0 := il_0
  have l_1 := il_1
  refine wq_in (n := 28) ⟨by omega, by omega⟩ (wq_v (fun v1 e1 => ?_))
  refine wq_in (n := 28) ⟨by omega, by omega⟩ ?_
  refine wq_i (fun _ => wq_s trivial) (fun _ => ?_)
  refine wq_le (fun hc => ?_) (fun hc => wq_s trivial)
  refine wq_nz (by omega) (wq_v (fun v2 e2 => wq_v (fun v3 e3 => ?_)))
  refine wq_in (n := 28) ⟨by omega, by omega⟩ ?_
  exact wq_b (tt_fJ9_floorDiv_f86c9 hN _ _ (i64nz (by omega))) (fun r4 _ => wq_s trivial)
theorem tt_fJ9_floorMod_f86c9 {N : Nat} (hN : 3000000000 ≤ N) (x0 : Int64) (x1 : Int64) (hr_0 : x1 ≠ 0) : wq (fJ9_floorMod_f86c9 N x0 x1) (fun r => True) := by
  unfold fJ9_floorMod_f86c9
  refine wq_n hr_0 (wq_v (fun v1 e1 => ?_))
  refine wq_i (fun _ => wq_s trivial) (fun _ => wq_i (fun _ => wq_s trivial) (fun _ => wq_s trivial))
theorem tt_fX5_placeOn {N : Nat} (hN : 3000000000 ≤ N) (I0 : Nat → Int32) (M0 : Nat → Nat → Int32) (x1 : Int32) (x2 : Int32) (x3 : Int32) (h_x1 : 0 ≤ x1.toInt ∧ x1.toInt ≤ 3) (h_x2 : 0 ≤ x2.toInt ∧ x2.toInt ≤ 6) (k_I0 : KX5 I0 M0) : wq (fX5_placeOn N I0 M0 x1 x2 x3) (fun r => True) := by
  unfold fX5_placeOn
  have l_7 := il_7
  have ta := ia_mul (7 : Int32) 7 il_7 x1 (by omega) (by omega)
  have tb := ia_add ((7 : Int32) * x1) x2 (by omega) (by omega)
  refine wq_v (fun v1 e1 => ?_)
  have tv := congrArg Int32.toInt e1
  refine wq_in (n := 28) ⟨by omega, by omega⟩ (wq_v (fun v2 e2 => ?_))
  refine wq_in (n := 28) ⟨by omega, by omega⟩ ?_
  refine wq_b (tt_fX5_swingOn hN I0 M0 v1 x3 ⟨by omega, by omega⟩ k_I0) (fun r3 _ => ?_)
  exact wq_b (tt_fJ9_floorMod_f86c9 hN _ _ (by decide)) (fun r4 _ => wq_s trivial)
set_option maxHeartbeats 4000000 in
theorem tt_fX5_degreeOn {N : Nat} (hN : 3000000000 ≤ N) (I0 : Nat → Int32) (M0 : Nat → Nat → Int32) (x1 : Int32) (x2 : Int32) (x3 : Int32) (h_x1 : 0 ≤ x1.toInt ∧ x1.toInt ≤ 3) (h_x2 : 0 ≤ x2.toInt ∧ x2.toInt ≤ 6) (k_I0 : KX5 I0 M0) : wq (fX5_degreeOn N I0 M0 x1 x2 x3) (fun r => (-35791394 ≤ r.toInt ∧ r.toInt ≤ 35791394) ∧ True) := by
  unfold fX5_degreeOn
  have b_5520 := i32b x3
  refine wq_b (tt_fX5_placeOn hN I0 M0 x1 x2 x3 ⟨by omega, by omega⟩ ⟨by omega, by omega⟩ k_I0) (fun r1_q5521 h_r1_q5521 => ?_)
  obtain ⟨-⟩ := h_r1_q5521
  have b_5522 := i32b r1_q5521
  have l_60 := il_60
  have t_5523 := i32b r1_q5521
  have t_5524 := ia_div2 r1_q5521 (60 : Int32) 60 il_60 (by decide)
  exact wq_s ⟨(show -35791394 ≤ (r1_q5521 / (60 : Int32)).toInt ∧ (r1_q5521 / (60 : Int32)).toInt ≤ 35791394 from ⟨by omega, by omega⟩), trivial⟩
set_option maxHeartbeats 4000000 in
theorem tt_fX3_costOn_L37 {N : Nat} (hN : 3000000000 ≤ N) (I0 : Nat → Int32) (M0 : Nat → Nat → Int32) (I1 : Nat → Int32) (M1 : Nat → Nat → Int32) (x2 : Int32) (x3 : Int32) (x4 : Int32) (x5 : Int32) (h_x2 : 0 ≤ x2.toInt ∧ x2.toInt ≤ 119) (h_x3 : 0 ≤ x3.toInt ∧ x3.toInt ≤ 3) (h_x4 : 0 ≤ x4.toInt ∧ x4.toInt ≤ 1000001) (k_I0 : KX5 I0 M0) (k_I1 : KX1 I1 M1)  : ∀ (fu : Nat) (y37_7 : Int32) (y37_8 : Int32), (0 ≤ y37_8.toInt ∧ y37_8.toInt ≤ 7) → (7 - y37_8.toInt) < (fu : Int) → wq (fX3_costOn_L37 N I0 M0 I1 M1 x2 x3 x4 x5 fu y37_7 y37_8) (fun r => True) := by
  intro fu
  induction fu with
  | zero => intro y37_7 y37_8 h_y37_8 hm; exfalso; omega
  | succ fu ih =>
    intro y37_7 y37_8 h_y37_8 hm
    rw [fX3_costOn_L37.eq_2]
    have l_7 := il_7
    refine wq_le (fun hc_5889 => ?_) (fun hc_5890 => ?_)
    · have b_5891 := i32b y37_7
      exact wq_s trivial
    · have b_5892 := i32b x5
      have b_5893 := i32b y37_7
      refine wq_lt (fun hc_5894 => ?_) (fun hc_5895 => ?_)
      · exact wq_s trivial
      · refine wq_b (tt_fX1_degreeOf hN I1 M1 x2 y37_8 ⟨by omega, by omega⟩ ⟨by omega, by omega⟩ k_I1) (fun r1_q5896 h_r1_q5896 => ?_)
        obtain ⟨h_r1_q5896_0, h_r1_q5896_1, -⟩ := h_r1_q5896
        have l_m1 := il_m1
        refine wq_eq (fun hc_5897 => ?_) (fun hc_5898 => ?_)
        · have l_1 := il_1
          have t_5900 := ia_add y37_8 (1 : Int32) (by omega) (by omega)
          refine wq_v (fun v2_q5899 h_v2_q5899 => ?_)
          have t_v2_q5899 := congrArg Int32.toInt h_v2_q5899
          exact ih y37_7 v2_q5899 ⟨by omega, by omega⟩ (by omega)
        · refine wq_b (tt_fX5_degreeOn hN I0 M0 x3 y37_8 x4 ⟨by omega, by omega⟩ ⟨by omega, by omega⟩ k_I0) (fun r3_q5901 h_r3_q5901 => ?_)
          obtain ⟨h_r3_q5901_0, -⟩ := h_r3_q5901
          refine wq_b (tt_fX4_costBeside hN (wb_sh I0 1) (wb_sh M0 5) r1_q5896 r3_q5901 ⟨by omega, by omega⟩) (fun r4_q5902 h_r4_q5902 => ?_)
          obtain ⟨h_r4_q5902_0, -⟩ := h_r4_q5902
          refine wq_v (fun v5_q5903 h_v5_q5903 => ?_)
          have t_v5_q5903 := congrArg Int32.toInt h_v5_q5903
          have l_1 := il_1
          have t_5905 := ia_add y37_8 (1 : Int32) (by omega) (by omega)
          refine wq_v (fun v6_q5904 h_v6_q5904 => ?_)
          have t_v6_q5904 := congrArg Int32.toInt h_v6_q5904
          have b_5906 := i32b v5_q5903
          exact ih v5_q5903 v6_q5904 ⟨by omega, by omega⟩ (by omega)
set_option maxHeartbeats 4000000 in
theorem tt_fX3_costOn {N : Nat} (hN : 3000000000 ≤ N) (I0 : Nat → Int32) (M0 : Nat → Nat → Int32) (I1 : Nat → Int32) (M1 : Nat → Nat → Int32) (x2 : Int32) (x3 : Int32) (x4 : Int32) (x5 : Int32) (h_x2 : 0 ≤ x2.toInt ∧ x2.toInt ≤ 119) (h_x3 : 0 ≤ x3.toInt ∧ x3.toInt ≤ 3) (h_x4 : 0 ≤ x4.toInt ∧ x4.toInt ≤ 1000001) (k_I0 : KX5 I0 M0) (k_I1 : KX1 I1 M1) : wq (fX3_costOn N I0 M0 I1 M1 x2 x3 x4 x5) (fun r => True) := by
  unfold fX3_costOn
  have l_21 := il_21
  refine wq_b (tt_fX1_degreeOf hN I1 M1 x2 (21 : Int32) ⟨by omega, by omega⟩ ⟨by omega, by omega⟩ k_I1) (fun r7_q5907 h_r7_q5907 => ?_)
  obtain ⟨h_r7_q5907_0, h_r7_q5907_1, -⟩ := h_r7_q5907
  have l_m1 := il_m1
  refine wq_eq (fun hc_5908 => ?_) (fun hc_5909 => ?_)
  · unfold fX3_costOn_J31
    unfold fX3_costOn_J32
    have b_5910 := i32b x5
    have l_0 := il_0
    exact tt_fX3_costOn_L37 hN I0 M0 I1 M1 x2 x3 x4 x5 ⟨by omega, by omega⟩ ⟨by omega, by omega⟩ ⟨by omega, by omega⟩ k_I0 k_I1 N (0 : Int32) (0 : Int32) ⟨by omega, by omega⟩ (by omega)
  · have l_365 := il_365
    have t_5911 := ia_rem x4 (365 : Int32) 365 il_365 (by decide) (by omega)
    refine wq_eq (fun hc_5912 => ?_) (fun hc_5913 => ?_)
    · unfold fX3_costOn_J31
      unfold fX3_costOn_J32
      have b_5914 := i32b x5
      have l_0 := il_0
      exact tt_fX3_costOn_L37 hN I0 M0 I1 M1 x2 x3 x4 x5 ⟨by omega, by omega⟩ ⟨by omega, by omega⟩ ⟨by omega, by omega⟩ k_I0 k_I1 N (0 : Int32) (0 : Int32) ⟨by omega, by omega⟩ (by omega)
    · unfold fX3_costOn_J32
      have b_5915 := i32b x5
      have l_30 := il_30
      have l_0 := il_0
      exact tt_fX3_costOn_L37 hN I0 M0 I1 M1 x2 x3 x4 x5 ⟨by omega, by omega⟩ ⟨by omega, by omega⟩ ⟨by omega, by omega⟩ k_I0 k_I1 N (30 : Int32) (0 : Int32) ⟨by omega, by omega⟩ (by omega)
set_option maxHeartbeats 4000000 in
theorem tt_fX3_setsAt_L6 {N : Nat} (hN : 3000000000 ≤ N) (I0 : Nat → Int32) (M0 : Nat → Nat → Int32) (x1 : Int32) (x2 : Int32) (x3 : Int32) (h_x2 : 0 ≤ x2.toInt ∧ x2.toInt ≤ 6) (k_I0 : KX5 I0 M0)  : ∀ (fu : Nat) (y6_4 : Int32) (y6_5 : Int32), (0 ≤ y6_4.toInt ∧ y6_4.toInt ≤ 255) → (0 ≤ y6_5.toInt ∧ y6_5.toInt ≤ 4) → (4 - y6_5.toInt) < (fu : Int) → wq (fX3_setsAt_L6 N I0 M0 x1 x2 x3 fu y6_4 y6_5) (fun r => (0 ≤ r.toInt ∧ r.toInt ≤ 255) ∧ True) := by
  intro fu
  induction fu with
  | zero => intro y6_4 y6_5 h_y6_4 h_y6_5 hm; exfalso; omega
  | succ fu ih =>
    intro y6_4 y6_5 h_y6_4 h_y6_5 hm
    rw [fX3_setsAt_L6.eq_2]
    have l_4 := il_4
    refine wq_le (fun hc_6066 => ?_) (fun hc_6067 => ?_)
    · exact wq_s ⟨(show 0 ≤ y6_4.toInt ∧ y6_4.toInt ≤ 255 from ⟨by omega, by omega⟩), trivial⟩
    · have b_6068 := i32b x3
      refine wq_b (tt_fX5_degreeOn hN I0 M0 y6_5 x2 x3 ⟨by omega, by omega⟩ ⟨by omega, by omega⟩ k_I0) (fun r1_q6069 h_r1_q6069 => ?_)
      obtain ⟨h_r1_q6069_0, -⟩ := h_r1_q6069
      have b_6070 := i32b x1
      refine wq_eq (fun hc_6071 => ?_) (fun hc_6072 => ?_)
      · have t_6074 := or_sh y6_4 y6_5 ⟨by omega, by omega⟩ ⟨by omega, by omega⟩
        refine wq_v (fun v3_q6073 h_v3_q6073 => ?_)
        have t_v3_q6073 := congrArg Int32.toInt h_v3_q6073
        have l_1 := il_1
        have t_6076 := ia_add y6_5 (1 : Int32) (by omega) (by omega)
        refine wq_v (fun v4_q6075 h_v4_q6075 => ?_)
        have t_v4_q6075 := congrArg Int32.toInt h_v4_q6075
        exact ih v3_q6073 v4_q6075 ⟨by omega, by omega⟩ ⟨by omega, by omega⟩ (by omega)
      · have l_1 := il_1
        have t_6078 := ia_add y6_5 (1 : Int32) (by omega) (by omega)
        refine wq_v (fun v2_q6077 h_v2_q6077 => ?_)
        have t_v2_q6077 := congrArg Int32.toInt h_v2_q6077
        exact ih y6_4 v2_q6077 ⟨by omega, by omega⟩ ⟨by omega, by omega⟩ (by omega)
set_option maxHeartbeats 4000000 in
theorem tt_fX3_setsAt {N : Nat} (hN : 3000000000 ≤ N) (I0 : Nat → Int32) (M0 : Nat → Nat → Int32) (x1 : Int32) (x2 : Int32) (x3 : Int32) (h_x2 : 0 ≤ x2.toInt ∧ x2.toInt ≤ 6) (k_I0 : KX5 I0 M0) : wq (fX3_setsAt N I0 M0 x1 x2 x3) (fun r => (0 ≤ r.toInt ∧ r.toInt ≤ 255) ∧ True) := by
  unfold fX3_setsAt
  have b_6079 := i32b x1
  have b_6080 := i32b x3
  have l_0 := il_0
  exact tt_fX3_setsAt_L6 hN I0 M0 x1 x2 x3 ⟨by omega, by omega⟩ k_I0 N (0 : Int32) (0 : Int32) ⟨by omega, by omega⟩ ⟨by omega, by omega⟩ (by omega)
set_option maxHeartbeats 4000000 in
theorem tt_fX3_isMixed_L7 {N : Nat} (hN : 3000000000 ≤ N) (I0 : Nat → Int32) (M0 : Nat → Nat → Int32) (I1 : Nat → Int32) (M1 : Nat → Nat → Int32) (x2 : Int32) (x3 : Int32) (h_x2 : 0 ≤ x2.toInt ∧ x2.toInt ≤ 119) (k_I0 : KX5 I0 M0) (k_I1 : KX1 I1 M1)  : ∀ (fu : Nat) (y7_4 : Int32) (y7_5 : Int32), (0 ≤ y7_5.toInt ∧ y7_5.toInt ≤ 7) → (7 - y7_5.toInt) < (fu : Int) → wq (fX3_isMixed_L7 N I0 M0 I1 M1 x2 x3 fu y7_4 y7_5) (fun r => (0 ≤ r.toInt ∧ r.toInt ≤ 1) ∧ True) := by
  intro fu
  induction fu with
  | zero => intro y7_4 y7_5 h_y7_5 hm; exfalso; omega
  | succ fu ih =>
    intro y7_4 y7_5 h_y7_5 hm
    rw [fX3_isMixed_L7.eq_2]
    have l_7 := il_7
    refine wq_le (fun hc_6285 => ?_) (fun hc_6286 => ?_)
    · have b_6287 := i32b y7_4
      have l_0 := il_0
      refine wq_eq (fun hc_6288 => ?_) (fun hc_6289 => ?_)
      · have l_1 := il_1
        exact wq_s ⟨(show 0 ≤ (1 : Int32).toInt ∧ (1 : Int32).toInt ≤ 1 from ⟨by omega, by omega⟩), trivial⟩
      · exact wq_s ⟨(show 0 ≤ (0 : Int32).toInt ∧ (0 : Int32).toInt ≤ 1 from ⟨by omega, by omega⟩), trivial⟩
    · refine wq_b (tt_fX1_degreeOf hN I1 M1 x2 y7_5 ⟨by omega, by omega⟩ ⟨by omega, by omega⟩ k_I1) (fun r1_q6290 h_r1_q6290 => ?_)
      obtain ⟨h_r1_q6290_0, h_r1_q6290_1, -⟩ := h_r1_q6290
      have l_m1 := il_m1
      refine wq_eq (fun hc_6291 => ?_) (fun hc_6292 => ?_)
      · have l_1 := il_1
        have t_6294 := ia_add y7_5 (1 : Int32) (by omega) (by omega)
        refine wq_v (fun v2_q6293 h_v2_q6293 => ?_)
        have t_v2_q6293 := congrArg Int32.toInt h_v2_q6293
        have b_6295 := i32b y7_4
        exact ih y7_4 v2_q6293 ⟨by omega, by omega⟩ (by omega)
      · have b_6296 := i32b x3
        refine wq_b (tt_fX3_setsAt hN I0 M0 r1_q6290 y7_5 x3 ⟨by omega, by omega⟩ k_I0) (fun r3_q6297 h_r3_q6297 => ?_)
        obtain ⟨h_r3_q6297_0, -⟩ := h_r3_q6297
        have l_0 := il_0
        refine wq_eq (fun hc_6298 => ?_) (fun hc_6299 => ?_)
        · exact wq_s ⟨(show 0 ≤ (0 : Int32).toInt ∧ (0 : Int32).toInt ≤ 1 from ⟨by omega, by omega⟩), trivial⟩
        · refine wq_v (fun v4_q6300 h_v4_q6300 => ?_)
          have t_v4_q6300 := congrArg Int32.toInt h_v4_q6300
          have l_1 := il_1
          have t_6302 := ia_add y7_5 (1 : Int32) (by omega) (by omega)
          refine wq_v (fun v5_q6301 h_v5_q6301 => ?_)
          have t_v5_q6301 := congrArg Int32.toInt h_v5_q6301
          have b_6303 := i32b v4_q6300
          exact ih v4_q6300 v5_q6301 ⟨by omega, by omega⟩ (by omega)
set_option maxHeartbeats 4000000 in
theorem tt_fX3_isMixed {N : Nat} (hN : 3000000000 ≤ N) (I0 : Nat → Int32) (M0 : Nat → Nat → Int32) (I1 : Nat → Int32) (M1 : Nat → Nat → Int32) (x2 : Int32) (x3 : Int32) (h_x2 : 0 ≤ x2.toInt ∧ x2.toInt ≤ 119) (k_I0 : KX5 I0 M0) (k_I1 : KX1 I1 M1) : wq (fX3_isMixed N I0 M0 I1 M1 x2 x3) (fun r => (0 ≤ r.toInt ∧ r.toInt ≤ 1) ∧ True) := by
  unfold fX3_isMixed
  have b_6304 := i32b x3
  have l_15 := il_15
  have l_0 := il_0
  exact tt_fX3_isMixed_L7 hN I0 M0 I1 M1 x2 x3 ⟨by omega, by omega⟩ k_I0 k_I1 N (15 : Int32) (0 : Int32) ⟨by omega, by omega⟩ (by omega)
set_option maxHeartbeats 4000000 in
theorem tt_fX3_setSharers_L3 {N : Nat} (hN : 3000000000 ≤ N) (I1 : Nat → Int32) (M1 : Nat → Nat → Int32) (I2 : Nat → Int32) (M2 : Nat → Nat → Int32) (x3 : Int32) (x4 : Int32) (h_x3 : 0 ≤ x3.toInt ∧ x3.toInt ≤ 119) (k_I1 : KX5 I1 M1) (k_I2 : KX1 I2 M2)  : ∀ (fu : Nat) (I0_l3 : (Nat → Int32)) (M0_l3 : (Nat → Nat → Int32)) (y3_5 : Int32), (0 ≤ y3_5.toInt ∧ y3_5.toInt ≤ 7) → (7 - y3_5.toInt) < (fu : Int) → wq (fX3_setSharers_L3 N I1 M1 I2 M2 x3 x4 fu I0_l3 M0_l3 y3_5) (fun r => True) := by
  intro fu
  induction fu with
  | zero => intro I0_l3 M0_l3 y3_5 h_y3_5 hm; exfalso; omega
  | succ fu ih =>
    intro I0_l3 M0_l3 y3_5 h_y3_5 hm
    rw [fX3_setSharers_L3.eq_2]
    have l_7 := il_7
    refine wq_le (fun hc_6545 => ?_) (fun hc_6546 => ?_)
    · exact wq_s trivial
    · refine wq_b (tt_fX1_degreeOf hN I2 M2 x3 y3_5 ⟨by omega, by omega⟩ ⟨by omega, by omega⟩ k_I2) (fun r5_q6547 h_r5_q6547 => ?_)
      obtain ⟨h_r5_q6547_0, h_r5_q6547_1, -⟩ := h_r5_q6547
      have l_m1 := il_m1
      refine wq_eq (fun hc_6548 => ?_) (fun hc_6549 => ?_)
      · unfold fX3_setSharers_J39
        have l_1 := il_1
        refine wq_eq (fun hc_6550 => ?_) (fun hc_6551 => ?_)
        · refine wq_in (n := 7) ⟨by omega, by omega⟩ ?_
          refine wq_v (fun M0_3_q6552 h_M0_3_q6552 => ?_)
          have t_6554 := ia_add y3_5 (1 : Int32) (by omega) (by omega)
          refine wq_v (fun v4_q6553 h_v4_q6553 => ?_)
          have t_v4_q6553 := congrArg Int32.toInt h_v4_q6553
          exact ih I0_l3 M0_3_q6552 v4_q6553 ⟨by omega, by omega⟩ (by omega)
        · refine wq_in (n := 7) ⟨by omega, by omega⟩ ?_
          refine wq_v (fun M0_1_q6555 h_M0_1_q6555 => ?_)
          have t_6557 := ia_add y3_5 (1 : Int32) (by omega) (by omega)
          refine wq_v (fun v2_q6556 h_v2_q6556 => ?_)
          have t_v2_q6556 := congrArg Int32.toInt h_v2_q6556
          exact ih I0_l3 M0_1_q6555 v2_q6556 ⟨by omega, by omega⟩ (by omega)
      · have b_6558 := i32b x4
        refine wq_b (tt_fX3_setsAt hN I1 M1 r5_q6547 y3_5 x4 ⟨by omega, by omega⟩ k_I1) (fun r6_q6559 h_r6_q6559 => ?_)
        obtain ⟨h_r6_q6559_0, -⟩ := h_r6_q6559
        unfold fX3_setSharers_J39
        have l_1 := il_1
        refine wq_eq (fun hc_6560 => ?_) (fun hc_6561 => ?_)
        · refine wq_in (n := 7) ⟨by omega, by omega⟩ ?_
          refine wq_v (fun M0_3_q6562 h_M0_3_q6562 => ?_)
          have t_6564 := ia_add y3_5 (1 : Int32) (by omega) (by omega)
          refine wq_v (fun v4_q6563 h_v4_q6563 => ?_)
          have t_v4_q6563 := congrArg Int32.toInt h_v4_q6563
          exact ih I0_l3 M0_3_q6562 v4_q6563 ⟨by omega, by omega⟩ (by omega)
        · refine wq_in (n := 7) ⟨by omega, by omega⟩ ?_
          refine wq_v (fun M0_1_q6565 h_M0_1_q6565 => ?_)
          have t_6567 := ia_add y3_5 (1 : Int32) (by omega) (by omega)
          refine wq_v (fun v2_q6566 h_v2_q6566 => ?_)
          have t_v2_q6566 := congrArg Int32.toInt h_v2_q6566
          exact ih I0_l3 M0_1_q6565 v2_q6566 ⟨by omega, by omega⟩ (by omega)
set_option maxHeartbeats 4000000 in
theorem tt_fX3_setSharers {N : Nat} (hN : 3000000000 ≤ N) (I0 : Nat → Int32) (M0 : Nat → Nat → Int32) (I1 : Nat → Int32) (M1 : Nat → Nat → Int32) (I2 : Nat → Int32) (M2 : Nat → Nat → Int32) (x3 : Int32) (x4 : Int32) (h_x3 : 0 ≤ x3.toInt ∧ x3.toInt ≤ 119) (k_I1 : KX5 I1 M1) (k_I2 : KX1 I2 M2) : wq (fX3_setSharers N I0 M0 I1 M1 I2 M2 x3 x4) (fun r => True) := by
  unfold fX3_setSharers
  have b_6568 := i32b x4
  have l_0 := il_0
  exact tt_fX3_setSharers_L3 hN I1 M1 I2 M2 x3 x4 ⟨by omega, by omega⟩ k_I1 k_I2 N I0 M0 (0 : Int32) ⟨by omega, by omega⟩ (by omega)
set_option maxHeartbeats 4000000 in
theorem tt_fX3_isShared {N : Nat} (hN : 3000000000 ≤ N) (I0 : Nat → Int32) (M0 : Nat → Nat → Int32) (x1 : Int32) (x2 : Int32) (h_x1 : 0 ≤ x1.toInt ∧ x1.toInt ≤ 6) : wq (fX3_isShared N I0 M0 x1 x2) (fun r => (0 ≤ r.toInt ∧ r.toInt ≤ 1) ∧ True) := by
  unfold fX3_isShared
  refine wq_in (n := 7) ⟨by omega, by omega⟩ ?_
  have l_m1 := il_m1
  refine wq_eq (fun hc_6593 => ?_) (fun hc_6594 => ?_)
  · have l_0 := il_0
    exact wq_s ⟨(show 0 ≤ (0 : Int32).toInt ∧ (0 : Int32).toInt ≤ 1 from ⟨by omega, by omega⟩), trivial⟩
  · refine wq_in (n := 7) ⟨by omega, by omega⟩ ?_
    have l_1 := il_1
    refine wq_eq (fun hc_6595 => ?_) (fun hc_6596 => ?_)
    · exact wq_s ⟨(show 0 ≤ (1 : Int32).toInt ∧ (1 : Int32).toInt ≤ 1 from ⟨by omega, by omega⟩), trivial⟩
    · have l_0 := il_0
      exact wq_s ⟨(show 0 ≤ (0 : Int32).toInt ∧ (0 : Int32).toInt ≤ 1 from ⟨by omega, by omega⟩), trivial⟩
set_option maxHeartbeats 4000000 in
theorem tt_fX3_howManyErrors_L4 {N : Nat} (hN : 3000000000 ≤ N) (I0 : Nat → Int32) (M0 : Nat → Nat → Int32)   : ∀ (fu : Nat) (y4_1 : Int32) (y4_2 : Int32), (0 ≤ y4_2.toInt ∧ y4_2.toInt ≤ 7) → (7 - y4_2.toInt) < (fu : Int) → wq (fX3_howManyErrors_L4 N I0 M0 fu y4_1 y4_2) (fun r => True) := by
  intro fu
  induction fu with
  | zero => intro y4_1 y4_2 h_y4_2 hm; exfalso; omega
  | succ fu ih =>
    intro y4_1 y4_2 h_y4_2 hm
    rw [fX3_howManyErrors_L4.eq_2]
    have l_7 := il_7
    refine wq_le (fun hc_6758 => ?_) (fun hc_6759 => ?_)
    · have b_6760 := i32b y4_1
      exact wq_s trivial
    · refine wq_in (n := 7) ⟨by omega, by omega⟩ ?_
      have l_m1 := il_m1
      refine wq_eq (fun hc_6761 => ?_) (fun hc_6762 => ?_)
      · have l_1 := il_1
        have t_6764 := ia_add y4_2 (1 : Int32) (by omega) (by omega)
        refine wq_v (fun v1_q6763 h_v1_q6763 => ?_)
        have t_v1_q6763 := congrArg Int32.toInt h_v1_q6763
        have b_6765 := i32b y4_1
        exact ih y4_1 v1_q6763 ⟨by omega, by omega⟩ (by omega)
      · have b_6767 := i32b y4_1
        have l_1 := il_1
        refine wq_v (fun v2_q6766 h_v2_q6766 => ?_)
        have t_v2_q6766 := congrArg Int32.toInt h_v2_q6766
        have t_6769 := ia_add y4_2 (1 : Int32) (by omega) (by omega)
        refine wq_v (fun v3_q6768 h_v3_q6768 => ?_)
        have t_v3_q6768 := congrArg Int32.toInt h_v3_q6768
        have b_6770 := i32b v2_q6766
        exact ih v2_q6766 v3_q6768 ⟨by omega, by omega⟩ (by omega)
set_option maxHeartbeats 4000000 in
theorem tt_fX3_howManyErrors {N : Nat} (hN : 3000000000 ≤ N) (I0 : Nat → Int32) (M0 : Nat → Nat → Int32)  : wq (fX3_howManyErrors N I0 M0) (fun r => True) := by
  unfold fX3_howManyErrors
  have l_0 := il_0
  exact tt_fX3_howManyErrors_L4 hN I0 M0 N (0 : Int32) (0 : Int32) ⟨by omega, by omega⟩ (by omega)
set_option maxHeartbeats 4000000 in
theorem tt_fX3_howManyShared_L4 {N : Nat} (hN : 3000000000 ≤ N) (I0 : Nat → Int32) (M0 : Nat → Nat → Int32) (x1 : Int32)   : ∀ (fu : Nat) (y4_2 : Int32) (y4_3 : Int32), (0 ≤ y4_3.toInt ∧ y4_3.toInt ≤ 7) → (7 - y4_3.toInt) < (fu : Int) → wq (fX3_howManyShared_L4 N I0 M0 x1 fu y4_2 y4_3) (fun r => True) := by
  intro fu
  induction fu with
  | zero => intro y4_2 y4_3 h_y4_3 hm; exfalso; omega
  | succ fu ih =>
    intro y4_2 y4_3 h_y4_3 hm
    rw [fX3_howManyShared_L4.eq_2]
    have l_7 := il_7
    refine wq_le (fun hc_6974 => ?_) (fun hc_6975 => ?_)
    · have b_6976 := i32b y4_2
      exact wq_s trivial
    · have b_6977 := i32b x1
      refine wq_b (tt_fX3_isShared hN I0 M0 y4_3 x1 ⟨by omega, by omega⟩) (fun r1_q6978 h_r1_q6978 => ?_)
      obtain ⟨h_r1_q6978_0, -⟩ := h_r1_q6978
      have l_0 := il_0
      refine wq_eq (fun hc_6979 => ?_) (fun hc_6980 => ?_)
      · have l_1 := il_1
        have t_6982 := ia_add y4_3 (1 : Int32) (by omega) (by omega)
        refine wq_v (fun v2_q6981 h_v2_q6981 => ?_)
        have t_v2_q6981 := congrArg Int32.toInt h_v2_q6981
        have b_6983 := i32b y4_2
        exact ih y4_2 v2_q6981 ⟨by omega, by omega⟩ (by omega)
      · have b_6985 := i32b y4_2
        have l_1 := il_1
        refine wq_v (fun v3_q6984 h_v3_q6984 => ?_)
        have t_v3_q6984 := congrArg Int32.toInt h_v3_q6984
        have t_6987 := ia_add y4_3 (1 : Int32) (by omega) (by omega)
        refine wq_v (fun v4_q6986 h_v4_q6986 => ?_)
        have t_v4_q6986 := congrArg Int32.toInt h_v4_q6986
        have b_6988 := i32b v3_q6984
        exact ih v3_q6984 v4_q6986 ⟨by omega, by omega⟩ (by omega)
set_option maxHeartbeats 4000000 in
theorem tt_fX3_howManyShared {N : Nat} (hN : 3000000000 ≤ N) (I0 : Nat → Int32) (M0 : Nat → Nat → Int32) (x1 : Int32)  : wq (fX3_howManyShared N I0 M0 x1) (fun r => True) := by
  unfold fX3_howManyShared
  have b_6989 := i32b x1
  have l_0 := il_0
  exact tt_fX3_howManyShared_L4 hN I0 M0 x1 N (0 : Int32) (0 : Int32) ⟨by omega, by omega⟩ (by omega)
set_option maxHeartbeats 4000000 in
theorem tt_fX3_howManyAlone_L4 {N : Nat} (hN : 3000000000 ≤ N) (I0 : Nat → Int32) (M0 : Nat → Nat → Int32) (x1 : Int32)   : ∀ (fu : Nat) (y4_2 : Int32) (y4_3 : Int32), (0 ≤ y4_3.toInt ∧ y4_3.toInt ≤ 7) → (7 - y4_3.toInt) < (fu : Int) → wq (fX3_howManyAlone_L4 N I0 M0 x1 fu y4_2 y4_3) (fun r => True) := by
  intro fu
  induction fu with
  | zero => intro y4_2 y4_3 h_y4_3 hm; exfalso; omega
  | succ fu ih =>
    intro y4_2 y4_3 h_y4_3 hm
    rw [fX3_howManyAlone_L4.eq_2]
    have l_7 := il_7
    refine wq_le (fun hc_7179 => ?_) (fun hc_7180 => ?_)
    · have b_7181 := i32b y4_2
      exact wq_s trivial
    · refine wq_in (n := 7) ⟨by omega, by omega⟩ ?_
      have b_7182 := i32b x1
      refine wq_eq (fun hc_7183 => ?_) (fun hc_7184 => ?_)
      · have b_7186 := i32b y4_2
        have l_1 := il_1
        refine wq_v (fun v2_q7185 h_v2_q7185 => ?_)
        have t_v2_q7185 := congrArg Int32.toInt h_v2_q7185
        have t_7188 := ia_add y4_3 (1 : Int32) (by omega) (by omega)
        refine wq_v (fun v3_q7187 h_v3_q7187 => ?_)
        have t_v3_q7187 := congrArg Int32.toInt h_v3_q7187
        have b_7189 := i32b v2_q7185
        exact ih v2_q7185 v3_q7187 ⟨by omega, by omega⟩ (by omega)
      · have l_1 := il_1
        have t_7191 := ia_add y4_3 (1 : Int32) (by omega) (by omega)
        refine wq_v (fun v1_q7190 h_v1_q7190 => ?_)
        have t_v1_q7190 := congrArg Int32.toInt h_v1_q7190
        have b_7192 := i32b y4_2
        exact ih y4_2 v1_q7190 ⟨by omega, by omega⟩ (by omega)
set_option maxHeartbeats 4000000 in
theorem tt_fX3_howManyAlone {N : Nat} (hN : 3000000000 ≤ N) (I0 : Nat → Int32) (M0 : Nat → Nat → Int32) (x1 : Int32)  : wq (fX3_howManyAlone N I0 M0 x1) (fun r => True) := by
  unfold fX3_howManyAlone
  have b_7193 := i32b x1
  have l_0 := il_0
  exact tt_fX3_howManyAlone_L4 hN I0 M0 x1 N (0 : Int32) (0 : Int32) ⟨by omega, by omega⟩ (by omega)
def bc_ok (n : Nat) : Bool := match fJ6_bitCount_0f7a4 0 (nI n) with
  | some r => decide (0 ≤ r.toInt ∧ r.toInt ≤ 7)
  | none => false
theorem bc_all : ∀ n : Nat, n < 255 → bc_ok n = true := by decide +kernel
theorem tt_fJ6_bitCount_0f7a4 {N : Nat} (hN : 3000000000 ≤ N) (x0 : Int32)  : wq (fJ6_bitCount_0f7a4 N x0) (fun r => ((0 ≤ r.toInt ∧ r.toInt ≤ 7) ∨ x0.toInt < 0 ∨ 254 < x0.toInt) ∧ True) := by
  obtain ⟨r, hr⟩ : ∃ r, fJ6_bitCount_0f7a4 N x0 = some r := ⟨_, rfl⟩
  refine ⟨r, hr, ?_, trivial⟩
  by_cases h : 0 ≤ x0.toInt ∧ x0.toInt ≤ 254
  · left
    have h2 := bc_all x0.toInt.toNat (by omega)
    unfold bc_ok at h2
    rw [← nI_back x0 h.1, show fJ6_bitCount_0f7a4 0 x0 = some r from hr] at h2
    exact of_decide_eq_true h2
  · omega
set_option maxHeartbeats 4000000 in
theorem tt_fX3_weightOf_L4 {N : Nat} (hN : 3000000000 ≤ N) (I0 : Nat → Int32) (M0 : Nat → Nat → Int32) (x1 : Int32)   : ∀ (fu : Nat) (y4_2 : Int32) (y4_3 : Int32), (0 ≤ y4_3.toInt ∧ y4_3.toInt ≤ 7) → (7 - y4_3.toInt) < (fu : Int) → wq (fX3_weightOf_L4 N I0 M0 x1 fu y4_2 y4_3) (fun r => True) := by
  intro fu
  induction fu with
  | zero => intro y4_2 y4_3 h_y4_3 hm; exfalso; omega
  | succ fu ih =>
    intro y4_2 y4_3 h_y4_3 hm
    rw [fX3_weightOf_L4.eq_2]
    have l_7 := il_7
    refine wq_le (fun hc_7462 => ?_) (fun hc_7463 => ?_)
    · have b_7464 := i32b y4_2
      exact wq_s trivial
    · refine wq_in (n := 7) ⟨by omega, by omega⟩ ?_
      refine wq_b (tt_fJ6_bitCount_0f7a4 hN (M0 0 y4_3.toNatClampNeg)) (fun r1_q7465 h_r1_q7465 => ?_)
      obtain ⟨h_r1_q7465_0, -⟩ := h_r1_q7465
      have b_7466 := i32b x1
      refine wq_b (tt_fX3_isShared hN I0 M0 y4_3 x1 ⟨by omega, by omega⟩) (fun r2_q7467 h_r2_q7467 => ?_)
      obtain ⟨h_r2_q7467_0, -⟩ := h_r2_q7467
      have l_0 := il_0
      refine wq_eq (fun hc_7468 => ?_) (fun hc_7469 => ?_)
      · have l_1 := il_1
        have t_7471 := ia_add y4_3 (1 : Int32) (by omega) (by omega)
        refine wq_v (fun v3_q7470 h_v3_q7470 => ?_)
        have t_v3_q7470 := congrArg Int32.toInt h_v3_q7470
        have b_7472 := i32b y4_2
        exact ih y4_2 v3_q7470 ⟨by omega, by omega⟩ (by omega)
      · have b_7473 := i32b r1_q7465
        refine wq_le (fun hc_7474 => ?_) (fun hc_7475 => ?_)
        · have l_1 := il_1
          have t_7477 := ia_add y4_3 (1 : Int32) (by omega) (by omega)
          refine wq_v (fun v4_q7476 h_v4_q7476 => ?_)
          have t_v4_q7476 := congrArg Int32.toInt h_v4_q7476
          have b_7478 := i32b y4_2
          exact ih y4_2 v4_q7476 ⟨by omega, by omega⟩ (by omega)
        · refine wq_nz (by omega) ?_
          have b_7480 := i32b y4_2
          refine wq_v (fun v5_q7479 h_v5_q7479 => ?_)
          have t_v5_q7479 := congrArg Int32.toInt h_v5_q7479
          have l_1 := il_1
          have t_7482 := ia_add y4_3 (1 : Int32) (by omega) (by omega)
          refine wq_v (fun v6_q7481 h_v6_q7481 => ?_)
          have t_v6_q7481 := congrArg Int32.toInt h_v6_q7481
          have b_7483 := i32b v5_q7479
          exact ih v5_q7479 v6_q7481 ⟨by omega, by omega⟩ (by omega)
set_option maxHeartbeats 4000000 in
theorem tt_fX3_weightOf {N : Nat} (hN : 3000000000 ≤ N) (I0 : Nat → Int32) (M0 : Nat → Nat → Int32) (x1 : Int32)  : wq (fX3_weightOf N I0 M0 x1) (fun r => True) := by
  unfold fX3_weightOf
  have b_7484 := i32b x1
  have l_0 := il_0
  exact tt_fX3_weightOf_L4 hN I0 M0 x1 N (0 : Int32) (0 : Int32) ⟨by omega, by omega⟩ (by omega)
set_option maxHeartbeats 4000000 in
theorem tt_fX3_setFollowed_L6 {N : Nat} (hN : 3000000000 ≤ N) (I0 : Nat → Int32) (M0 : Nat → Nat → Int32)   : ∀ (fu : Nat) (y6_1 : Int32) (y6_2 : Int32) (y6_3 : Int32), (0 ≤ y6_1.toInt ∧ y6_1.toInt ≤ 2147483647) → (-1 ≤ y6_2.toInt ∧ y6_2.toInt ≤ 3) → (1 ≤ y6_3.toInt ∧ y6_3.toInt ≤ 4) → (4 - y6_3.toInt) < (fu : Int) → wq (fX3_setFollowed_L6 N I0 M0 fu y6_1 y6_2 y6_3) (fun r => (-1 ≤ r.toInt ∧ r.toInt ≤ 3) ∧ True) := by
  intro fu
  induction fu with
  | zero => intro y6_1 y6_2 y6_3 h_y6_1 h_y6_2 h_y6_3 hm; exfalso; omega
  | succ fu ih =>
    intro y6_1 y6_2 y6_3 h_y6_1 h_y6_2 h_y6_3 hm
    rw [fX3_setFollowed_L6.eq_2]
    have l_4 := il_4
    refine wq_le (fun hc_7583 => ?_) (fun hc_7584 => ?_)
    · exact wq_s ⟨(show -1 ≤ y6_2.toInt ∧ y6_2.toInt ≤ 3 from ⟨by omega, by omega⟩), trivial⟩
    · refine wq_b (tt_fX3_weightOf hN I0 M0 y6_3) (fun r1_q7585 h_r1_q7585 => ?_)
      obtain ⟨-⟩ := h_r1_q7585
      have b_7586 := i32b r1_q7585
      have b_7587 := i32b y6_1
      refine wq_le (fun hc_7588 => ?_) (fun hc_7589 => ?_)
      · have l_1 := il_1
        have t_7591 := ia_add y6_3 (1 : Int32) (by omega) (by omega)
        refine wq_v (fun v2_q7590 h_v2_q7590 => ?_)
        have t_v2_q7590 := congrArg Int32.toInt h_v2_q7590
        exact ih y6_1 y6_2 v2_q7590 ⟨by omega, by omega⟩ ⟨by omega, by omega⟩ ⟨by omega, by omega⟩ (by omega)
      · have l_1 := il_1
        have t_7593 := ia_add y6_3 (1 : Int32) (by omega) (by omega)
        refine wq_v (fun v3_q7592 h_v3_q7592 => ?_)
        have t_v3_q7592 := congrArg Int32.toInt h_v3_q7592
        exact ih r1_q7585 y6_3 v3_q7592 ⟨by omega, by omega⟩ ⟨by omega, by omega⟩ ⟨by omega, by omega⟩ (by omega)
set_option maxHeartbeats 4000000 in
theorem tt_fX3_setFollowed {N : Nat} (hN : 3000000000 ≤ N) (I0 : Nat → Int32) (M0 : Nat → Nat → Int32)  : wq (fX3_setFollowed N I0 M0) (fun r => (-1 ≤ r.toInt ∧ r.toInt ≤ 3) ∧ True) := by
  unfold fX3_setFollowed
  have l_0 := il_0
  have l_m1 := il_m1
  have l_1 := il_1
  exact tt_fX3_setFollowed_L6 hN I0 M0 N (0 : Int32) ((-1) : Int32) (1 : Int32) ⟨by omega, by omega⟩ ⟨by omega, by omega⟩ ⟨by omega, by omega⟩ (by omega)
set_option maxHeartbeats 4000000 in
theorem tt_fX4_copyFrom {N : Nat} (hN : 3000000000 ≤ N) (I0 : Nat → Int32) (M0 : Nat → Nat → Int32) (I1 : Nat → Int32) (M1 : Nat → Nat → Int32)  : wq (fX4_copyFrom N I0 M0 I1 M1) (fun r => True) := by
  unfold fX4_copyFrom
  refine wq_n (by decide) ?_
  refine wq_v (fun M0_1_q7604 h_M0_1_q7604 => ?_)
  refine wq_v (fun I0_2_q7605 h_I0_2_q7605 => ?_)
  exact wq_s trivial
set_option maxHeartbeats 4000000 in
theorem tt_fX5_copyFrom {N : Nat} (hN : 3000000000 ≤ N) (I0 : Nat → Int32) (M0 : Nat → Nat → Int32) (I1 : Nat → Int32) (M1 : Nat → Nat → Int32) (k_I0 : KX5 I0 M0) (k_I1 : KX5 I1 M1) : wq (fX5_copyFrom N I0 M0 I1 M1) (fun r => KX5 r.1 r.2 ∧ True) := by
  unfold fX5_copyFrom
  refine wq_n (by decide) ?_
  refine wq_v (fun M0_1_q7656 h_M0_1_q7656 => ?_)
  have k_M0_1_q7656 : KX5 I0 M0_1_q7656 := by rw [h_M0_1_q7656]; exact KX5.sf0 k_I0
  refine wq_n (by decide) ?_
  refine wq_v (fun M0_2_q7657 h_M0_2_q7657 => ?_)
  have k_M0_2_q7657 : KX5 I0 M0_2_q7657 := by rw [h_M0_2_q7657]; exact KX5.sf1 k_M0_1_q7656
  refine wq_n (by decide) ?_
  refine wq_v (fun M0_3_q7658 h_M0_3_q7658 => ?_)
  have k_M0_3_q7658 : KX5 I0 M0_3_q7658 := by rw [h_M0_3_q7658]; exact KX5.sf2 k_M0_2_q7657
  refine wq_n (by decide) ?_
  refine wq_v (fun M0_4_q7659 h_M0_4_q7659 => ?_)
  have k_M0_4_q7659 : KX5 I0 M0_4_q7659 := by rw [h_M0_4_q7659]; exact KX5.sf3 k_M0_3_q7658
  refine wq_b (tt_fX2_copyFrom hN I0 (wb_sh M0_4_q7659 4) I1 (wb_sh M1 4) (KX5.s_X2_0_4 k_M0_4_q7659) (KX5.s_X2_0_4 k_I1)) (fun r5_q7660 h_r5_q7660 => ?_)
  obtain ⟨h_r5_q7660_0, -⟩ := h_r5_q7660
  refine wq_v (fun I0_6_q7661 h_I0_6_q7661 => ?_)
  refine wq_v (fun M0_7_q7662 h_M0_7_q7662 => ?_)
  have k_M0_7_q7662 : KX5 I0_6_q7661 M0_7_q7662 := by rw [h_I0_6_q7661, h_M0_7_q7662]; exact KX5.p_X2_0_4 k_M0_4_q7659 h_r5_q7660_0
  refine wq_b (tt_fX4_copyFrom hN (wb_sh I0_6_q7661 1) (wb_sh M0_7_q7662 5) (wb_sh I1 1) (wb_sh M1 5)) (fun r8_q7663 h_r8_q7663 => ?_)
  obtain ⟨-⟩ := h_r8_q7663
  refine wq_v (fun I0_9_q7664 h_I0_9_q7664 => ?_)
  refine wq_v (fun M0_10_q7665 h_M0_10_q7665 => ?_)
  have k_M0_10_q7665 : KX5 I0_9_q7664 M0_10_q7665 := by rw [h_I0_9_q7664, h_M0_10_q7665]; exact KX5.p_X4_1_5 k_M0_7_q7662
  exact wq_s ⟨k_M0_10_q7665, trivial⟩
set_option maxHeartbeats 4000000 in
theorem tt_fX5_readLines {N : Nat} (hN : 3000000000 ≤ N) (I0 : Nat → Int32) (M0 : Nat → Nat → Int32) (I1 : Nat → Int32) (M1 : Nat → Nat → Int32) (k_I0 : KX5 I0 M0) (k_I1 : KX9 I1 M1) : wq (fX5_readLines N I0 M0 I1 M1) (fun r => True) := by sorry
set_option maxHeartbeats 4000000 in
theorem tt_fX6_placeOf_L2 {N : Nat} (hN : 3000000000 ≤ N) (I0 : Nat → Int32) (M0 : Nat → Nat → Int32) (x1 : Int32) (x2 : Int32) (h_x1 : 0 ≤ x1.toInt ∧ x1.toInt ≤ 5) (k_I0 : KX6 I0 M0)  : ∀ (fu : Nat) (y2_3 : Int32), (0 ≤ y2_3.toInt ∧ y2_3.toInt ≤ 20) → (20 - y2_3.toInt) < (fu : Int) → wq (fX6_placeOf_L2 N I0 M0 x1 x2 fu y2_3) (fun r => (-1 ≤ r.toInt ∧ r.toInt ≤ 19) ∧ True) := by
  intro fu
  induction fu with
  | zero => intro y2_3 h_y2_3 hm; exfalso; omega
  | succ fu ih =>
    intro y2_3 h_y2_3 hm
    rw [fX6_placeOf_L2.eq_2]
    refine wq_in (n := 6) ⟨by omega, by omega⟩ ?_
    have t_7828 := KX6.m1 k_I0 x1.toNatClampNeg
    refine wq_le (fun hc_7829 => ?_) (fun hc_7830 => ?_)
    · have l_m1 := il_m1
      exact wq_s ⟨(show -1 ≤ (-1 : Int32).toInt ∧ (-1 : Int32).toInt ≤ 19 from ⟨by omega, by omega⟩), trivial⟩
    · have l_20 := il_20
      have t_7831 := ia_mul (20 : Int32) (20) il_20 x1 (by omega) (by omega)
      have t_7832 := ia_add ((20 : Int32) * x1) y2_3 (by omega) (by omega)
      refine wq_in (n := 120) ⟨by omega, by omega⟩ ?_
      have b_7833 := i32b x2
      refine wq_eq (fun hc_7834 => ?_) (fun hc_7835 => ?_)
      · exact wq_s ⟨(show -1 ≤ y2_3.toInt ∧ y2_3.toInt ≤ 19 from ⟨by omega, by omega⟩), trivial⟩
      · have l_1 := il_1
        have t_7837 := ia_add y2_3 (1 : Int32) (by omega) (by omega)
        refine wq_v (fun v1_q7836 h_v1_q7836 => ?_)
        have t_v1_q7836 := congrArg Int32.toInt h_v1_q7836
        exact ih v1_q7836 ⟨by omega, by omega⟩ (by omega)
set_option maxHeartbeats 4000000 in
theorem tt_fX6_placeOf {N : Nat} (hN : 3000000000 ≤ N) (I0 : Nat → Int32) (M0 : Nat → Nat → Int32) (x1 : Int32) (x2 : Int32) (h_x1 : 0 ≤ x1.toInt ∧ x1.toInt ≤ 5) (k_I0 : KX6 I0 M0) : wq (fX6_placeOf N I0 M0 x1 x2) (fun r => (-1 ≤ r.toInt ∧ r.toInt ≤ 19) ∧ True) := by
  unfold fX6_placeOf
  have b_7838 := i32b x2
  have l_0 := il_0
  exact tt_fX6_placeOf_L2 hN I0 M0 x1 x2 ⟨by omega, by omega⟩ k_I0 N (0 : Int32) ⟨by omega, by omega⟩ (by omega)
set_option maxHeartbeats 4000000 in
theorem tt_fX6_addTo {N : Nat} (hN : 3000000000 ≤ N) (I0 : Nat → Int32) (M0 : Nat → Nat → Int32) (x1 : Int32) (x2 : Int32) (h_x1 : 0 ≤ x1.toInt ∧ x1.toInt ≤ 5) (k_I0 : KX6 I0 M0) : wq (fX6_addTo N I0 M0 x1 x2) (fun r => (-1 ≤ r.1.toInt ∧ r.1.toInt ≤ 20) ∧ KX6 r.2.1 r.2.2 ∧ True) := by
  unfold fX6_addTo
  have b_7923 := i32b x2
  refine wq_b (tt_fX6_placeOf hN I0 M0 x1 x2 ⟨by omega, by omega⟩ k_I0) (fun r1_q7924 h_r1_q7924 => ?_)
  obtain ⟨h_r1_q7924_0, -⟩ := h_r1_q7924
  have l_m1 := il_m1
  refine wq_eq (fun hc_7925 => ?_) (fun hc_7926 => ?_)
  · refine wq_in (n := 6) ⟨by omega, by omega⟩ ?_
    have t_7927 := KX6.m1 k_I0 x1.toNatClampNeg
    have l_20 := il_20
    refine wq_lt (fun hc_7928 => ?_) (fun hc_7929 => ?_)
    · refine wq_in (n := 6) ⟨by omega, by omega⟩ ?_
      have t_7930 := ia_mul (20 : Int32) (20) il_20 x1 (by omega) (by omega)
      have t_7931 := ia_add ((20 : Int32) * x1) (M0 1 x1.toNatClampNeg) (by omega) (by omega)
      refine wq_in (n := 120) ⟨by omega, by omega⟩ ?_
      refine wq_v (fun M0_2_q7932 h_M0_2_q7932 => ?_)
      have k_M0_2_q7932 : KX6 I0 M0_2_q7932 := by rw [h_M0_2_q7932]; exact KX6.sm0 k_I0
      refine wq_in (n := 6) ⟨by omega, by omega⟩ ?_
      refine wq_in (n := 6) ⟨by omega, by omega⟩ ?_
      refine wq_v (fun M0_3_q7933 h_M0_3_q7933 => ?_)
      have t_7934 : (M0_2_q7932 1 x1.toNatClampNeg).toInt = (M0 1 x1.toNatClampNeg).toInt := congrArg (fun z : Nat → Int32 => (z x1.toNatClampNeg).toInt) (show M0_2_q7932 1 = M0 1 from by rw [h_M0_2_q7932]; rfl)
      have l_1 := il_1
      have t_7935 := ia_add (M0_2_q7932 1 x1.toNatClampNeg) (1 : Int32) (by omega) (by omega)
      have k_M0_3_q7933 : KX6 I0 M0_3_q7933 := by rw [h_M0_3_q7933]; exact KX6.sm1 k_M0_2_q7932 ⟨by omega, by omega⟩
      refine wq_in (n := 6) ⟨by omega, by omega⟩ ?_
      have t_7936 := KX6.m1 k_M0_3_q7933 x1.toNatClampNeg
      exact wq_s ⟨(show -1 ≤ (M0_3_q7933 1 x1.toNatClampNeg).toInt ∧ (M0_3_q7933 1 x1.toNatClampNeg).toInt ≤ 20 from ⟨by omega, by omega⟩), k_M0_3_q7933, trivial⟩
    · exact wq_s ⟨(show -1 ≤ (-1 : Int32).toInt ∧ (-1 : Int32).toInt ≤ 20 from ⟨by omega, by omega⟩), k_I0, trivial⟩
  · exact wq_s ⟨(show -1 ≤ (-1 : Int32).toInt ∧ (-1 : Int32).toInt ≤ 20 from ⟨by omega, by omega⟩), k_I0, trivial⟩
set_option maxHeartbeats 4000000 in
theorem tt_fX6_setPlaces_L5 {N : Nat} (hN : 3000000000 ≤ N) (x1 : Int32) (x2 : Int32) (h_x1 : 0 ≤ x1.toInt ∧ x1.toInt ≤ 5) (h_x2 : 0 ≤ x2.toInt ∧ x2.toInt ≤ 5)  : ∀ (fu : Nat) (I0_l5 : (Nat → Int32)) (M0_l5 : (Nat → Nat → Int32)) (y5_3 : Int32) (y5_4 : Int32), (0 ≤ y5_3.toInt ∧ y5_3.toInt ≤ 20) → (0 ≤ y5_4.toInt ∧ y5_4.toInt ≤ 20) → (KX6 I0_l5 M0_l5) → (y5_3.toInt ≤ y5_4.toInt) → (20 - y5_4.toInt) < (fu : Int) → wq (fX6_setPlaces_L5 N x1 x2 fu I0_l5 M0_l5 y5_3 y5_4) (fun r => (0 ≤ r.1.toInt ∧ r.1.toInt ≤ 20) ∧ KX6 r.2.1 r.2.2 ∧ True) := by
  intro fu
  induction fu with
  | zero => intro I0_l5 M0_l5 y5_3 y5_4 h_y5_3 h_y5_4 k_I0_l5 hl_3 hm; exfalso; omega
  | succ fu ih =>
    intro I0_l5 M0_l5 y5_3 y5_4 h_y5_3 h_y5_4 k_I0_l5 hl_3 hm
    rw [fX6_setPlaces_L5.eq_2]
    refine wq_in (n := 6) ⟨by omega, by omega⟩ ?_
    have t_8117 := KX6.m1 k_I0_l5 x1.toNatClampNeg
    refine wq_le (fun hc_8118 => ?_) (fun hc_8119 => ?_)
    · exact wq_s ⟨(show 0 ≤ y5_3.toInt ∧ y5_3.toInt ≤ 20 from ⟨by omega, by omega⟩), k_I0_l5, trivial⟩
    · have l_20 := il_20
      have t_8120 := ia_mul (20 : Int32) (20) il_20 x1 (by omega) (by omega)
      have t_8121 := ia_add ((20 : Int32) * x1) y5_4 (by omega) (by omega)
      refine wq_in (n := 120) ⟨by omega, by omega⟩ ?_
      refine wq_b (tt_fX6_placeOf hN I0_l5 M0_l5 x2 (M0_l5 0 (((20 : Int32) * x1) + y5_4).toNatClampNeg) ⟨by omega, by omega⟩ k_I0_l5) (fun r1_q8122 h_r1_q8122 => ?_)
      obtain ⟨h_r1_q8122_0, -⟩ := h_r1_q8122
      have l_m1 := il_m1
      refine wq_eq (fun hc_8123 => ?_) (fun hc_8124 => ?_)
      · have l_1 := il_1
        have t_8126 := ia_add y5_4 (1 : Int32) (by omega) (by omega)
        refine wq_v (fun v2_q8125 h_v2_q8125 => ?_)
        have t_v2_q8125 := congrArg Int32.toInt h_v2_q8125
        exact ih I0_l5 M0_l5 y5_3 v2_q8125 ⟨by omega, by omega⟩ ⟨by omega, by omega⟩ k_I0_l5 (by omega) (by omega)
      · refine wq_in (n := 20) ⟨by omega, by omega⟩ ?_
        refine wq_v (fun M0_3_q8127 h_M0_3_q8127 => ?_)
        have k_M0_3_q8127 : KX6 I0_l5 M0_3_q8127 := by rw [h_M0_3_q8127]; exact KX6.sm2 k_I0_l5
        have l_1 := il_1
        have t_8129 := ia_add y5_3 (1 : Int32) (by omega) (by omega)
        refine wq_v (fun v4_q8128 h_v4_q8128 => ?_)
        have t_v4_q8128 := congrArg Int32.toInt h_v4_q8128
        have t_8131 := ia_add y5_4 (1 : Int32) (by omega) (by omega)
        refine wq_v (fun v5_q8130 h_v5_q8130 => ?_)
        have t_v5_q8130 := congrArg Int32.toInt h_v5_q8130
        exact ih I0_l5 M0_3_q8127 v4_q8128 v5_q8130 ⟨by omega, by omega⟩ ⟨by omega, by omega⟩ k_M0_3_q8127 (by omega) (by omega)
set_option maxHeartbeats 4000000 in
theorem tt_fX6_setPlaces {N : Nat} (hN : 3000000000 ≤ N) (I0 : Nat → Int32) (M0 : Nat → Nat → Int32) (x1 : Int32) (x2 : Int32) (h_x1 : 0 ≤ x1.toInt ∧ x1.toInt ≤ 5) (h_x2 : 0 ≤ x2.toInt ∧ x2.toInt ≤ 5) (k_I0 : KX6 I0 M0) : wq (fX6_setPlaces N I0 M0 x1 x2) (fun r => (0 ≤ r.1.toInt ∧ r.1.toInt ≤ 20) ∧ KX6 r.2.1 r.2.2 ∧ True) := by
  unfold fX6_setPlaces
  have l_0 := il_0
  exact tt_fX6_setPlaces_L5 hN x1 x2 ⟨by omega, by omega⟩ ⟨by omega, by omega⟩ N I0 M0 (0 : Int32) (0 : Int32) ⟨by omega, by omega⟩ ⟨by omega, by omega⟩ k_I0 (by omega) (by omega)

set_option maxHeartbeats 4000000 in
theorem tt_fX6_howManyInOrder_L30 {N : Nat} (hN : 3000000000 ≤ N) (x1 : Int32) (x2 : Int32) (v2 : Int32) (y13_4 : Int32) (y13_5 : Int32) (g13 : (Nat → Int32) → (Nat → Nat → Int32) → Int32 → Int32 → Option (Int32 × (Nat → Int32) × (Nat → Nat → Int32))) (h_x1 : 0 ≤ x1.toInt ∧ x1.toInt ≤ 5) (h_x2 : 0 ≤ x2.toInt ∧ x2.toInt ≤ 5) (h_v2 : 1 ≤ v2.toInt ∧ v2.toInt ≤ 20) (h_y13_4 : 0 ≤ y13_4.toInt ∧ y13_4.toInt ≤ 2147483647) (h_y13_5 : 0 ≤ y13_5.toInt ∧ y13_5.toInt ≤ 19) (hg13 : ∀ (q0 : (Nat → Int32)) (q1 : (Nat → Nat → Int32)) (q2 : Int32) (q3 : Int32), (0 ≤ q2.toInt ∧ q2.toInt ≤ 2147483647) → (0 ≤ q3.toInt ∧ q3.toInt ≤ 20) → (KX6 q0 q1) → (y13_5.toInt < q3.toInt) → wq (g13 q0 q1 q2 q3) (fun r => (0 ≤ r.1.toInt ∧ r.1.toInt ≤ 2147483647) ∧ KX6 r.2.1 r.2.2 ∧ True)) : ∀ (fu : Nat) (I0_l30 : (Nat → Int32)) (M0_l30 : (Nat → Nat → Int32)) (y30_6 : Int32), (0 ≤ y30_6.toInt ∧ y30_6.toInt ≤ 19) → (KX6 I0_l30 M0_l30) → (19 - y30_6.toInt) < (fu : Int) → wq (fX6_howManyInOrder_L30 N x1 x2 v2 y13_4 y13_5 g13 fu I0_l30 M0_l30 y30_6) (fun r => (0 ≤ r.1.toInt ∧ r.1.toInt ≤ 2147483647) ∧ KX6 r.2.1 r.2.2 ∧ True) := by
  intro fu
  induction fu with
  | zero => intro I0_l30 M0_l30 y30_6 h_y30_6 k_I0_l30 hm; exfalso; omega
  | succ fu ih =>
    intro I0_l30 M0_l30 y30_6 h_y30_6 k_I0_l30 hm
    rw [fX6_howManyInOrder_L30.eq_2]
    refine wq_le (fun hc_8452 => ?_) (fun hc_8453 => ?_)
    · refine wq_in (n := 20) ⟨by omega, by omega⟩ ?_
      have b_8455 := i32b y13_4
      have t_8456 := ite_lt y13_4 (M0_l30 3 y13_5.toNatClampNeg) (M0_l30 3 y13_5.toNatClampNeg) y13_4
      refine wq_v (fun v4_q8454 h_v4_q8454 => ?_)
      have t_v4_q8454 := congrArg Int32.toInt h_v4_q8454
      have l_1 := il_1
      have t_8458 := ia_add y13_5 (1 : Int32) (by omega) (by omega)
      refine wq_v (fun v5_q8457 h_v5_q8457 => ?_)
      have t_v5_q8457 := congrArg Int32.toInt h_v5_q8457
      have b_8459 := i32b v4_q8454
      exact hg13 I0_l30 M0_l30 v4_q8454 v5_q8457 ⟨by omega, by omega⟩ ⟨by omega, by omega⟩ k_I0_l30 (by omega)
    · refine wq_in (n := 20) ⟨by omega, by omega⟩ ?_
      refine wq_in (n := 20) ⟨by omega, by omega⟩ ?_
      refine wq_le (fun hc_8460 => ?_) (fun hc_8461 => ?_)
      · have l_1 := il_1
        have t_8463 := ia_add y30_6 (1 : Int32) (by omega) (by omega)
        refine wq_v (fun v6_q8462 h_v6_q8462 => ?_)
        have t_v6_q8462 := congrArg Int32.toInt h_v6_q8462
        exact ih I0_l30 M0_l30 v6_q8462 ⟨by omega, by omega⟩ k_I0_l30 (by omega)
      · refine wq_in (n := 20) ⟨by omega, by omega⟩ ?_
        refine wq_in (n := 20) ⟨by omega, by omega⟩ ?_
        refine wq_in (n := 20) ⟨by omega, by omega⟩ ?_
        refine wq_v (fun M0_7_q8464 h_M0_7_q8464 => ?_)
        have k_M0_7_q8464 : KX6 I0_l30 M0_7_q8464 := by rw [h_M0_7_q8464]; exact KX6.sm3 k_I0_l30
        have l_1 := il_1
        have t_8466 := ia_add y30_6 (1 : Int32) (by omega) (by omega)
        refine wq_v (fun v8_q8465 h_v8_q8465 => ?_)
        have t_v8_q8465 := congrArg Int32.toInt h_v8_q8465
        exact ih I0_l30 M0_7_q8464 v8_q8465 ⟨by omega, by omega⟩ k_M0_7_q8464 (by omega)
set_option maxHeartbeats 4000000 in
theorem tt_fX6_howManyInOrder_L13 {N : Nat} (hN : 3000000000 ≤ N) (x1 : Int32) (x2 : Int32) (v2 : Int32) (h_x1 : 0 ≤ x1.toInt ∧ x1.toInt ≤ 5) (h_x2 : 0 ≤ x2.toInt ∧ x2.toInt ≤ 5) (h_v2 : 0 ≤ v2.toInt ∧ v2.toInt ≤ 20)  : ∀ (fu : Nat) (I0_l13 : (Nat → Int32)) (M0_l13 : (Nat → Nat → Int32)) (y13_4 : Int32) (y13_5 : Int32), (0 ≤ y13_4.toInt ∧ y13_4.toInt ≤ 2147483647) → (0 ≤ y13_5.toInt ∧ y13_5.toInt ≤ 20) → (KX6 I0_l13 M0_l13) → (20 - y13_5.toInt) < (fu : Int) → wq (fX6_howManyInOrder_L13 N x1 x2 v2 fu I0_l13 M0_l13 y13_4 y13_5) (fun r => (0 ≤ r.1.toInt ∧ r.1.toInt ≤ 2147483647) ∧ KX6 r.2.1 r.2.2 ∧ True) := by
  intro fu
  induction fu with
  | zero => intro I0_l13 M0_l13 y13_4 y13_5 h_y13_4 h_y13_5 k_I0_l13 hm; exfalso; omega
  | succ fu ih =>
    intro I0_l13 M0_l13 y13_4 y13_5 h_y13_4 h_y13_5 k_I0_l13 hm
    rw [fX6_howManyInOrder_L13.eq_2]
    refine wq_le (fun hc_8467 => ?_) (fun hc_8468 => ?_)
    · have b_8469 := i32b y13_4
      exact wq_s ⟨(show 0 ≤ y13_4.toInt ∧ y13_4.toInt ≤ 2147483647 from ⟨by omega, by omega⟩), k_I0_l13, trivial⟩
    · refine wq_in (n := 20) ⟨by omega, by omega⟩ ?_
      refine wq_v (fun M0_3_q8470 h_M0_3_q8470 => ?_)
      have k_M0_3_q8470 : KX6 I0_l13 M0_3_q8470 := by rw [h_M0_3_q8470]; exact KX6.sm3 k_I0_l13
      have b_8471 := i32b y13_4
      have l_0 := il_0
      exact tt_fX6_howManyInOrder_L30 hN x1 x2 v2 y13_4 y13_5 _ ⟨by omega, by omega⟩ ⟨by omega, by omega⟩ ⟨by omega, by omega⟩ ⟨by omega, by omega⟩ ⟨by omega, by omega⟩ (fun q0 q1 q2 q3 hq0 hq1 hq2 hq3 => ih q0 q1 q2 q3 hq0 hq1 hq2 (by omega)) N I0_l13 M0_3_q8470 (0 : Int32) ⟨by omega, by omega⟩ k_M0_3_q8470 (by omega)
set_option maxHeartbeats 4000000 in
theorem tt_fX6_howManyInOrder {N : Nat} (hN : 3000000000 ≤ N) (I0 : Nat → Int32) (M0 : Nat → Nat → Int32) (x1 : Int32) (x2 : Int32) (h_x1 : 0 ≤ x1.toInt ∧ x1.toInt ≤ 5) (h_x2 : 0 ≤ x2.toInt ∧ x2.toInt ≤ 5) (k_I0 : KX6 I0 M0) : wq (fX6_howManyInOrder N I0 M0 x1 x2) (fun r => (0 ≤ r.1.toInt ∧ r.1.toInt ≤ 2147483647) ∧ KX6 r.2.1 r.2.2 ∧ True) := by
  unfold fX6_howManyInOrder
  refine wq_b (tt_fX6_setPlaces hN I0 M0 x1 x2 ⟨by omega, by omega⟩ ⟨by omega, by omega⟩ k_I0) (fun r1_q8472 h_r1_q8472 => ?_)
  obtain ⟨h_r1_q8472_0, h_r1_q8472_1, -⟩ := h_r1_q8472
  refine wq_v (fun v2_q8473 h_v2_q8473 => ?_)
  have t_v2_q8473 := congrArg Int32.toInt h_v2_q8473
  have l_0 := il_0
  exact tt_fX6_howManyInOrder_L13 hN x1 x2 v2_q8473 ⟨by omega, by omega⟩ ⟨by omega, by omega⟩ ⟨by omega, by omega⟩ N r1_q8472.2.1 r1_q8472.2.2 (0 : Int32) (0 : Int32) ⟨by omega, by omega⟩ ⟨by omega, by omega⟩ h_r1_q8472_1 (by omega)
set_option maxHeartbeats 4000000 in
theorem tt_fX6_howManyTurned_L22 {N : Nat} (hN : 3000000000 ≤ N) (x1 : Int32) (x2 : Int32) (v2 : Int32) (y13_5 : Int32) (g13 : (Nat → Int32) → (Nat → Nat → Int32) → Int32 → Int32 → Option (Int32 × (Nat → Int32) × (Nat → Nat → Int32))) (h_x1 : 0 ≤ x1.toInt ∧ x1.toInt ≤ 5) (h_x2 : 0 ≤ x2.toInt ∧ x2.toInt ≤ 5) (h_v2 : 1 ≤ v2.toInt ∧ v2.toInt ≤ 20) (h_y13_5 : 0 ≤ y13_5.toInt ∧ y13_5.toInt ≤ 19) (hg13 : ∀ (q0 : (Nat → Int32)) (q1 : (Nat → Nat → Int32)) (q2 : Int32) (q3 : Int32), (0 ≤ q3.toInt ∧ q3.toInt ≤ 20) → (KX6 q0 q1) → (y13_5.toInt < q3.toInt) → wq (g13 q0 q1 q2 q3) (fun r => KX6 r.2.1 r.2.2 ∧ True)) : ∀ (fu : Nat) (I0_l22 : (Nat → Int32)) (M0_l22 : (Nat → Nat → Int32)) (y22_4 : Int32) (y22_6 : Int32), (0 ≤ y22_6.toInt ∧ y22_6.toInt ≤ 19) → (KX6 I0_l22 M0_l22) → (19 - y22_6.toInt) < (fu : Int) → wq (fX6_howManyTurned_L22 N x1 x2 v2 y13_5 g13 fu I0_l22 M0_l22 y22_4 y22_6) (fun r => KX6 r.2.1 r.2.2 ∧ True) := by
  intro fu
  induction fu with
  | zero => intro I0_l22 M0_l22 y22_4 y22_6 h_y22_6 k_I0_l22 hm; exfalso; omega
  | succ fu ih =>
    intro I0_l22 M0_l22 y22_4 y22_6 h_y22_6 k_I0_l22 hm
    rw [fX6_howManyTurned_L22.eq_2]
    refine wq_le (fun hc_8760 => ?_) (fun hc_8761 => ?_)
    · have l_1 := il_1
      have t_8763 := ia_add y13_5 (1 : Int32) (by omega) (by omega)
      refine wq_v (fun v3_q8762 h_v3_q8762 => ?_)
      have t_v3_q8762 := congrArg Int32.toInt h_v3_q8762
      have b_8764 := i32b y22_4
      exact hg13 I0_l22 M0_l22 y22_4 v3_q8762 ⟨by omega, by omega⟩ k_I0_l22 (by omega)
    · refine wq_in (n := 20) ⟨by omega, by omega⟩ ?_
      refine wq_in (n := 20) ⟨by omega, by omega⟩ ?_
      refine wq_le (fun hc_8765 => ?_) (fun hc_8766 => ?_)
      · have l_1 := il_1
        have t_8768 := ia_add y22_6 (1 : Int32) (by omega) (by omega)
        refine wq_v (fun v4_q8767 h_v4_q8767 => ?_)
        have t_v4_q8767 := congrArg Int32.toInt h_v4_q8767
        have b_8769 := i32b y22_4
        exact ih I0_l22 M0_l22 y22_4 v4_q8767 ⟨by omega, by omega⟩ k_I0_l22 (by omega)
      · have b_8771 := i32b y22_4
        have l_1 := il_1
        refine wq_v (fun v5_q8770 h_v5_q8770 => ?_)
        have t_v5_q8770 := congrArg Int32.toInt h_v5_q8770
        have t_8773 := ia_add y22_6 (1 : Int32) (by omega) (by omega)
        refine wq_v (fun v6_q8772 h_v6_q8772 => ?_)
        have t_v6_q8772 := congrArg Int32.toInt h_v6_q8772
        have b_8774 := i32b v5_q8770
        exact ih I0_l22 M0_l22 v5_q8770 v6_q8772 ⟨by omega, by omega⟩ k_I0_l22 (by omega)
set_option maxHeartbeats 4000000 in
theorem tt_fX6_howManyTurned_L13 {N : Nat} (hN : 3000000000 ≤ N) (x1 : Int32) (x2 : Int32) (v2 : Int32) (h_x1 : 0 ≤ x1.toInt ∧ x1.toInt ≤ 5) (h_x2 : 0 ≤ x2.toInt ∧ x2.toInt ≤ 5) (h_v2 : 0 ≤ v2.toInt ∧ v2.toInt ≤ 20)  : ∀ (fu : Nat) (I0_l13 : (Nat → Int32)) (M0_l13 : (Nat → Nat → Int32)) (y13_4 : Int32) (y13_5 : Int32), (0 ≤ y13_5.toInt ∧ y13_5.toInt ≤ 20) → (KX6 I0_l13 M0_l13) → (20 - y13_5.toInt) < (fu : Int) → wq (fX6_howManyTurned_L13 N x1 x2 v2 fu I0_l13 M0_l13 y13_4 y13_5) (fun r => KX6 r.2.1 r.2.2 ∧ True) := by
  intro fu
  induction fu with
  | zero => intro I0_l13 M0_l13 y13_4 y13_5 h_y13_5 k_I0_l13 hm; exfalso; omega
  | succ fu ih =>
    intro I0_l13 M0_l13 y13_4 y13_5 h_y13_5 k_I0_l13 hm
    rw [fX6_howManyTurned_L13.eq_2]
    refine wq_le (fun hc_8775 => ?_) (fun hc_8776 => ?_)
    · have b_8777 := i32b y13_4
      exact wq_s ⟨k_I0_l13, trivial⟩
    · have b_8778 := i32b y13_4
      have l_0 := il_0
      exact tt_fX6_howManyTurned_L22 hN x1 x2 v2 y13_5 _ ⟨by omega, by omega⟩ ⟨by omega, by omega⟩ ⟨by omega, by omega⟩ ⟨by omega, by omega⟩ (fun q0 q1 q2 q3 hq0 hq1 hq2 => ih q0 q1 q2 q3 hq0 hq1 (by omega)) N I0_l13 M0_l13 y13_4 (0 : Int32) ⟨by omega, by omega⟩ k_I0_l13 (by omega)
set_option maxHeartbeats 4000000 in
theorem tt_fX6_howManyTurned {N : Nat} (hN : 3000000000 ≤ N) (I0 : Nat → Int32) (M0 : Nat → Nat → Int32) (x1 : Int32) (x2 : Int32) (h_x1 : 0 ≤ x1.toInt ∧ x1.toInt ≤ 5) (h_x2 : 0 ≤ x2.toInt ∧ x2.toInt ≤ 5) (k_I0 : KX6 I0 M0) : wq (fX6_howManyTurned N I0 M0 x1 x2) (fun r => KX6 r.2.1 r.2.2 ∧ True) := by
  unfold fX6_howManyTurned
  refine wq_b (tt_fX6_setPlaces hN I0 M0 x1 x2 ⟨by omega, by omega⟩ ⟨by omega, by omega⟩ k_I0) (fun r1_q8779 h_r1_q8779 => ?_)
  obtain ⟨h_r1_q8779_0, h_r1_q8779_1, -⟩ := h_r1_q8779
  refine wq_v (fun v2_q8780 h_v2_q8780 => ?_)
  have t_v2_q8780 := congrArg Int32.toInt h_v2_q8780
  have l_0 := il_0
  exact tt_fX6_howManyTurned_L13 hN x1 x2 v2_q8780 ⟨by omega, by omega⟩ ⟨by omega, by omega⟩ ⟨by omega, by omega⟩ N r1_q8779.2.1 r1_q8779.2.2 (0 : Int32) (0 : Int32) ⟨by omega, by omega⟩ h_r1_q8779_1 (by omega)
set_option maxHeartbeats 4000000 in
theorem tt_fX7_tellLife {N : Nat} (hN : 3000000000 ≤ N) (I0 : Nat → Int32) (M0 : Nat → Nat → Int32) (x1 : Int32) (x2 : Int32) (x3 : Int32) (h_x1 : 0 ≤ x1.toInt ∧ x1.toInt ≤ 19) (k_I0 : KX7 I0 M0) : wq (fX7_tellLife N I0 M0 x1 x2 x3) (fun r => KX7 r.1 r.2 ∧ True) := by
  unfold fX7_tellLife
  refine wq_in (n := 20) ⟨by omega, by omega⟩ ?_
  refine wq_v (fun M0_1_q8791 h_M0_1_q8791 => ?_)
  have k_M0_1_q8791 : KX7 I0 M0_1_q8791 := by rw [h_M0_1_q8791]; exact KX7.sm0 k_I0
  refine wq_in (n := 20) ⟨by omega, by omega⟩ ?_
  refine wq_v (fun M0_2_q8792 h_M0_2_q8792 => ?_)
  have k_M0_2_q8792 : KX7 I0 M0_2_q8792 := by rw [h_M0_2_q8792]; exact KX7.sm1 k_M0_1_q8791
  exact wq_s ⟨k_M0_2_q8792, trivial⟩
set_option maxHeartbeats 4000000 in
theorem tt_fX7_tellFate {N : Nat} (hN : 3000000000 ≤ N) (I0 : Nat → Int32) (M0 : Nat → Nat → Int32) (x1 : Int32) (x2 : Int32) (h_x1 : 0 ≤ x1.toInt ∧ x1.toInt ≤ 19) (k_I0 : KX7 I0 M0) : wq (fX7_tellFate N I0 M0 x1 x2) (fun r => KX7 r.1 r.2 ∧ True) := by
  unfold fX7_tellFate
  refine wq_in (n := 20) ⟨by omega, by omega⟩ ?_
  refine wq_v (fun M0_1_q8798 h_M0_1_q8798 => ?_)
  have k_M0_1_q8798 : KX7 I0 M0_1_q8798 := by rw [h_M0_1_q8798]; exact KX7.sm2 k_I0
  exact wq_s ⟨k_M0_1_q8798, trivial⟩
set_option maxHeartbeats 4000000 in
theorem tt_fX7_setRows_11_L4 {N : Nat} (hN : 3000000000 ≤ N)    : ∀ (fu : Nat) (I0_l4 : (Nat → Int32)) (M0_l4 : (Nat → Nat → Int32)) (y4_2 : Int32) (y4_3 : Int32), (0 ≤ y4_2.toInt ∧ y4_2.toInt ≤ 20) → (0 ≤ y4_3.toInt ∧ y4_3.toInt ≤ 20) → (KX7 I0_l4 M0_l4) → (y4_2.toInt ≤ y4_3.toInt) → (20 - y4_3.toInt) < (fu : Int) → wq (fX7_setRows_11_L4 N fu I0_l4 M0_l4 y4_2 y4_3) (fun r => (0 ≤ r.1.toInt ∧ r.1.toInt ≤ 20) ∧ KX7 r.2.1 r.2.2 ∧ True) := by
  intro fu
  induction fu with
  | zero => intro I0_l4 M0_l4 y4_2 y4_3 h_y4_2 h_y4_3 k_I0_l4 hl_3 hm; exfalso; omega
  | succ fu ih =>
    intro I0_l4 M0_l4 y4_2 y4_3 h_y4_2 h_y4_3 k_I0_l4 hl_3 hm
    rw [fX7_setRows_11_L4.eq_2]
    have l_20 := il_20
    refine wq_le (fun hc_8920 => ?_) (fun hc_8921 => ?_)
    · exact wq_s ⟨(show 0 ≤ y4_2.toInt ∧ y4_2.toInt ≤ 20 from ⟨by omega, by omega⟩), k_I0_l4, trivial⟩
    · refine wq_in (n := 20) ⟨by omega, by omega⟩ ?_
      have l_m1 := il_m1
      refine wq_eq (fun hc_8922 => ?_) (fun hc_8923 => ?_)
      · have l_1 := il_1
        have t_8925 := ia_add y4_3 (1 : Int32) (by omega) (by omega)
        refine wq_v (fun v1_q8924 h_v1_q8924 => ?_)
        have t_v1_q8924 := congrArg Int32.toInt h_v1_q8924
        exact ih I0_l4 M0_l4 y4_2 v1_q8924 ⟨by omega, by omega⟩ ⟨by omega, by omega⟩ k_I0_l4 (by omega) (by omega)
      · refine wq_in (n := 20) ⟨by omega, by omega⟩ ?_
        refine wq_v (fun M0_2_q8926 h_M0_2_q8926 => ?_)
        have k_M0_2_q8926 : KX7 I0_l4 M0_2_q8926 := by rw [h_M0_2_q8926]; exact KX7.sm3 k_I0_l4 ⟨by omega, by omega⟩
        have l_1 := il_1
        have t_8928 := ia_add y4_2 (1 : Int32) (by omega) (by omega)
        refine wq_v (fun v3_q8927 h_v3_q8927 => ?_)
        have t_v3_q8927 := congrArg Int32.toInt h_v3_q8927
        have t_8930 := ia_add y4_3 (1 : Int32) (by omega) (by omega)
        refine wq_v (fun v4_q8929 h_v4_q8929 => ?_)
        have t_v4_q8929 := congrArg Int32.toInt h_v4_q8929
        exact ih I0_l4 M0_2_q8926 v3_q8927 v4_q8929 ⟨by omega, by omega⟩ ⟨by omega, by omega⟩ k_M0_2_q8926 (by omega) (by omega)
set_option maxHeartbeats 4000000 in
theorem tt_fX7_setRows_11 {N : Nat} (hN : 3000000000 ≤ N) (I0 : Nat → Int32) (M0 : Nat → Nat → Int32) (k_I0 : KX7 I0 M0) : wq (fX7_setRows_11 N I0 M0) (fun r => (0 ≤ r.1.toInt ∧ r.1.toInt ≤ 20) ∧ KX7 r.2.1 r.2.2 ∧ True) := by
  unfold fX7_setRows_11
  have l_0 := il_0
  exact tt_fX7_setRows_11_L4 hN N I0 M0 (0 : Int32) (0 : Int32) ⟨by omega, by omega⟩ ⟨by omega, by omega⟩ k_I0 (by omega) (by omega)
set_option maxHeartbeats 4000000 in
theorem tt_fX7_howManyLives {N : Nat} (hN : 3000000000 ≤ N) (I0 : Nat → Int32) (M0 : Nat → Nat → Int32) (k_I0 : KX7 I0 M0) : wq (fX7_howManyLives N I0 M0) (fun r => (0 ≤ r.1.toInt ∧ r.1.toInt ≤ 20) ∧ KX7 r.2.1 r.2.2 ∧ True) := by
  unfold fX7_howManyLives
  refine wq_b (tt_fX7_setRows_11 hN I0 M0 k_I0) (fun r1_q8937 h_r1_q8937 => ?_)
  obtain ⟨h_r1_q8937_0, h_r1_q8937_1, -⟩ := h_r1_q8937
  exact wq_s ⟨(show 0 ≤ r1_q8937.1.toInt ∧ r1_q8937.1.toInt ≤ 20 from ⟨by omega, by omega⟩), h_r1_q8937_1, trivial⟩
set_option maxHeartbeats 4000000 in
theorem tt_fX7_setRows_13_L4 {N : Nat} (hN : 3000000000 ≤ N)    : ∀ (fu : Nat) (I0_l4 : (Nat → Int32)) (M0_l4 : (Nat → Nat → Int32)) (y4_2 : Int32) (y4_3 : Int32), (0 ≤ y4_2.toInt ∧ y4_2.toInt ≤ 20) → (0 ≤ y4_3.toInt ∧ y4_3.toInt ≤ 20) → (KX7 I0_l4 M0_l4) → (y4_2.toInt ≤ y4_3.toInt) → (20 - y4_3.toInt) < (fu : Int) → wq (fX7_setRows_13_L4 N fu I0_l4 M0_l4 y4_2 y4_3) (fun r => (0 ≤ r.1.toInt ∧ r.1.toInt ≤ 20) ∧ KX7 r.2.1 r.2.2 ∧ True) := by
  intro fu
  induction fu with
  | zero => intro I0_l4 M0_l4 y4_2 y4_3 h_y4_2 h_y4_3 k_I0_l4 hl_3 hm; exfalso; omega
  | succ fu ih =>
    intro I0_l4 M0_l4 y4_2 y4_3 h_y4_2 h_y4_3 k_I0_l4 hl_3 hm
    rw [fX7_setRows_13_L4.eq_2]
    have l_20 := il_20
    refine wq_le (fun hc_9059 => ?_) (fun hc_9060 => ?_)
    · exact wq_s ⟨(show 0 ≤ y4_2.toInt ∧ y4_2.toInt ≤ 20 from ⟨by omega, by omega⟩), k_I0_l4, trivial⟩
    · refine wq_in (n := 20) ⟨by omega, by omega⟩ ?_
      have l_m1 := il_m1
      refine wq_eq (fun hc_9061 => ?_) (fun hc_9062 => ?_)
      · have l_1 := il_1
        have t_9064 := ia_add y4_3 (1 : Int32) (by omega) (by omega)
        refine wq_v (fun v1_q9063 h_v1_q9063 => ?_)
        have t_v1_q9063 := congrArg Int32.toInt h_v1_q9063
        exact ih I0_l4 M0_l4 y4_2 v1_q9063 ⟨by omega, by omega⟩ ⟨by omega, by omega⟩ k_I0_l4 (by omega) (by omega)
      · refine wq_in (n := 20) ⟨by omega, by omega⟩ ?_
        refine wq_v (fun M0_2_q9065 h_M0_2_q9065 => ?_)
        have k_M0_2_q9065 : KX7 I0_l4 M0_2_q9065 := by rw [h_M0_2_q9065]; exact KX7.sm3 k_I0_l4 ⟨by omega, by omega⟩
        have l_1 := il_1
        have t_9067 := ia_add y4_2 (1 : Int32) (by omega) (by omega)
        refine wq_v (fun v3_q9066 h_v3_q9066 => ?_)
        have t_v3_q9066 := congrArg Int32.toInt h_v3_q9066
        have t_9069 := ia_add y4_3 (1 : Int32) (by omega) (by omega)
        refine wq_v (fun v4_q9068 h_v4_q9068 => ?_)
        have t_v4_q9068 := congrArg Int32.toInt h_v4_q9068
        exact ih I0_l4 M0_2_q9065 v3_q9066 v4_q9068 ⟨by omega, by omega⟩ ⟨by omega, by omega⟩ k_M0_2_q9065 (by omega) (by omega)
set_option maxHeartbeats 4000000 in
theorem tt_fX7_setRows_13 {N : Nat} (hN : 3000000000 ≤ N) (I0 : Nat → Int32) (M0 : Nat → Nat → Int32) (k_I0 : KX7 I0 M0) : wq (fX7_setRows_13 N I0 M0) (fun r => (0 ≤ r.1.toInt ∧ r.1.toInt ≤ 20) ∧ KX7 r.2.1 r.2.2 ∧ True) := by
  unfold fX7_setRows_13
  have l_0 := il_0
  exact tt_fX7_setRows_13_L4 hN N I0 M0 (0 : Int32) (0 : Int32) ⟨by omega, by omega⟩ ⟨by omega, by omega⟩ k_I0 (by omega) (by omega)
set_option maxHeartbeats 4000000 in
theorem tt_fX7_howManyFates {N : Nat} (hN : 3000000000 ≤ N) (I0 : Nat → Int32) (M0 : Nat → Nat → Int32) (k_I0 : KX7 I0 M0) : wq (fX7_howManyFates N I0 M0) (fun r => (0 ≤ r.1.toInt ∧ r.1.toInt ≤ 20) ∧ KX7 r.2.1 r.2.2 ∧ True) := by
  unfold fX7_howManyFates
  refine wq_b (tt_fX7_setRows_13 hN I0 M0 k_I0) (fun r1_q9076 h_r1_q9076 => ?_)
  obtain ⟨h_r1_q9076_0, h_r1_q9076_1, -⟩ := h_r1_q9076
  exact wq_s ⟨(show 0 ≤ r1_q9076.1.toInt ∧ r1_q9076.1.toInt ≤ 20 from ⟨by omega, by omega⟩), h_r1_q9076_1, trivial⟩
set_option maxHeartbeats 4000000 in
theorem tt_fX7_isHit {N : Nat} (hN : 3000000000 ≤ N) (I0 : Nat → Int32) (M0 : Nat → Nat → Int32) (x1 : Int32) (x2 : Int32) (x3 : Int32) (h_x1 : 0 ≤ x1.toInt ∧ x1.toInt ≤ 19) (k_I0 : KX7 I0 M0) : wq (fX7_isHit N I0 M0 x1 x2 x3) (fun r => (0 ≤ r.toInt ∧ r.toInt ≤ 1) ∧ True) := by
  unfold fX7_isHit
  refine wq_in (n := 20) ⟨by omega, by omega⟩ ?_
  have b_9107 := i32b x3
  have l_0 := il_0
  have b_9108 := i32b x2
  have t_9109 := ite_le (0 : Int32) ((M0 0 x1.toNatClampNeg) - x2) ((M0 0 x1.toNatClampNeg) - x2) (0 - ((M0 0 x1.toNatClampNeg) - x2))
  refine wq_lt (fun hc_9110 => ?_) (fun hc_9111 => ?_)
  · exact wq_s ⟨(show 0 ≤ (0 : Int32).toInt ∧ (0 : Int32).toInt ≤ 1 from ⟨by omega, by omega⟩), trivial⟩
  · have l_1 := il_1
    exact wq_s ⟨(show 0 ≤ (1 : Int32).toInt ∧ (1 : Int32).toInt ≤ 1 from ⟨by omega, by omega⟩), trivial⟩
set_option maxHeartbeats 4000000 in
theorem tt_fX7_howManyHits_L14 {N : Nat} (hN : 3000000000 ≤ N) (x1 : Int32) (v2 : Int32) (h_v2 : 0 ≤ v2.toInt ∧ v2.toInt ≤ 20)  : ∀ (fu : Nat) (I0_l14 : (Nat → Int32)) (M0_l14 : (Nat → Nat → Int32)) (y14_3 : Int32) (y14_4 : Int32), (0 ≤ y14_3.toInt ∧ y14_3.toInt ≤ 20) → (0 ≤ y14_4.toInt ∧ y14_4.toInt ≤ 20) → (KX7 I0_l14 M0_l14) → (y14_3.toInt ≤ y14_4.toInt) → (20 - y14_4.toInt) < (fu : Int) → wq (fX7_howManyHits_L14 N x1 v2 fu I0_l14 M0_l14 y14_3 y14_4) (fun r => (0 ≤ r.1.toInt ∧ r.1.toInt ≤ 20) ∧ KX7 r.2.1 r.2.2 ∧ True) := by
  intro fu
  induction fu with
  | zero => intro I0_l14 M0_l14 y14_3 y14_4 h_y14_3 h_y14_4 k_I0_l14 hl_3 hm; exfalso; omega
  | succ fu ih =>
    intro I0_l14 M0_l14 y14_3 y14_4 h_y14_3 h_y14_4 k_I0_l14 hl_3 hm
    rw [fX7_howManyHits_L14.eq_2]
    refine wq_le (fun hc_9256 => ?_) (fun hc_9257 => ?_)
    · exact wq_s ⟨(show 0 ≤ y14_3.toInt ∧ y14_3.toInt ≤ 20 from ⟨by omega, by omega⟩), k_I0_l14, trivial⟩
    · refine wq_in (n := 20) ⟨by omega, by omega⟩ ?_
      refine wq_in (n := 20) ⟨by omega, by omega⟩ ?_
      have t_9258 := KX7.m3 k_I0_l14 y14_4.toNatClampNeg
      refine wq_in (n := 20) ⟨by omega, by omega⟩ ?_
      have b_9259 := i32b x1
      refine wq_b (tt_fX7_isHit hN I0_l14 M0_l14 (M0_l14 3 y14_4.toNatClampNeg) (M0_l14 1 (M0_l14 3 y14_4.toNatClampNeg).toNatClampNeg) x1 ⟨by omega, by omega⟩ k_I0_l14) (fun r3_q9260 h_r3_q9260 => ?_)
      obtain ⟨h_r3_q9260_0, -⟩ := h_r3_q9260
      have l_0 := il_0
      refine wq_eq (fun hc_9261 => ?_) (fun hc_9262 => ?_)
      · have l_1 := il_1
        have t_9264 := ia_add y14_4 (1 : Int32) (by omega) (by omega)
        refine wq_v (fun v4_q9263 h_v4_q9263 => ?_)
        have t_v4_q9263 := congrArg Int32.toInt h_v4_q9263
        exact ih I0_l14 M0_l14 y14_3 v4_q9263 ⟨by omega, by omega⟩ ⟨by omega, by omega⟩ k_I0_l14 (by omega) (by omega)
      · have l_1 := il_1
        have t_9266 := ia_add y14_3 (1 : Int32) (by omega) (by omega)
        refine wq_v (fun v5_q9265 h_v5_q9265 => ?_)
        have t_v5_q9265 := congrArg Int32.toInt h_v5_q9265
        have t_9268 := ia_add y14_4 (1 : Int32) (by omega) (by omega)
        refine wq_v (fun v6_q9267 h_v6_q9267 => ?_)
        have t_v6_q9267 := congrArg Int32.toInt h_v6_q9267
        exact ih I0_l14 M0_l14 v5_q9265 v6_q9267 ⟨by omega, by omega⟩ ⟨by omega, by omega⟩ k_I0_l14 (by omega) (by omega)
set_option maxHeartbeats 4000000 in
theorem tt_fX7_howManyHits {N : Nat} (hN : 3000000000 ≤ N) (I0 : Nat → Int32) (M0 : Nat → Nat → Int32) (x1 : Int32) (k_I0 : KX7 I0 M0) : wq (fX7_howManyHits N I0 M0 x1) (fun r => (0 ≤ r.1.toInt ∧ r.1.toInt ≤ 20) ∧ KX7 r.2.1 r.2.2 ∧ True) := by
  unfold fX7_howManyHits
  refine wq_b (tt_fX7_setRows_11 hN I0 M0 k_I0) (fun r1_q9269 h_r1_q9269 => ?_)
  obtain ⟨h_r1_q9269_0, h_r1_q9269_1, -⟩ := h_r1_q9269
  refine wq_v (fun v2_q9270 h_v2_q9270 => ?_)
  have t_v2_q9270 := congrArg Int32.toInt h_v2_q9270
  have b_9271 := i32b x1
  have l_0 := il_0
  exact tt_fX7_howManyHits_L14 hN x1 v2_q9270 ⟨by omega, by omega⟩ N r1_q9269.2.1 r1_q9269.2.2 (0 : Int32) (0 : Int32) ⟨by omega, by omega⟩ ⟨by omega, by omega⟩ h_r1_q9269_1 (by omega) (by omega)
set_option maxHeartbeats 4000000 in
theorem tt_fX7_layNext_L56 {N : Nat} (hN : 3000000000 ≤ N) (x1 : Int32) (x2 : Int32) (r1 : Int32) (v2 : Int32) (y43_4 : Int32) (z43_0 : Int32) (g8 : (Nat → Int32) → (Nat → Nat → Int32) → Int32 → Option ((Nat → Int32) × (Nat → Nat → Int32))) (h_x1 : 0 ≤ x1.toInt ∧ x1.toInt ≤ 254) (h_x2 : 1 ≤ x2.toInt ∧ x2.toInt ≤ 8) (h_r1 : 0 ≤ r1.toInt ∧ r1.toInt ≤ 7) (h_v2 : 0 ≤ v2.toInt ∧ v2.toInt ≤ 255) (h_y43_4 : 0 ≤ y43_4.toInt ∧ y43_4.toInt ≤ 7) (h_z43_0 : 0 ≤ z43_0.toInt ∧ z43_0.toInt ≤ 1) (hg8 : ∀ (q0 : (Nat → Int32)) (q1 : (Nat → Nat → Int32)) (q2 : Int32), (0 ≤ q2.toInt ∧ q2.toInt ≤ 8) → (KX7 q0 q1) → (y43_4.toInt < q2.toInt) → wq (g8 q0 q1 q2) (fun r => KX7 r.1 r.2 ∧ True)) : ∀ (fu : Nat) (I0_l56 : (Nat → Int32)) (M0_l56 : (Nat → Nat → Int32)) (y56_7 : Int32), (0 ≤ y56_7.toInt ∧ y56_7.toInt ≤ 8) → (KX7 I0_l56 M0_l56) → (8 - y56_7.toInt) < (fu : Int) → wq (fX7_layNext_L56 N x1 x2 r1 v2 y43_4 z43_0 g8 fu I0_l56 M0_l56 y56_7) (fun r => KX7 r.1 r.2 ∧ True) := by
  intro fu
  induction fu with
  | zero => intro I0_l56 M0_l56 y56_7 h_y56_7 k_I0_l56 hm; exfalso; omega
  | succ fu ih =>
    intro I0_l56 M0_l56 y56_7 h_y56_7 k_I0_l56 hm
    rw [fX7_layNext_L56.eq_2]
    refine wq_lt (fun hc_9540 => ?_) (fun hc_9541 => ?_)
    · have l_1 := il_1
      have t_9543 := ia_add y43_4 (1 : Int32) (by omega) (by omega)
      refine wq_v (fun v3_q9542 h_v3_q9542 => ?_)
      have t_v3_q9542 := congrArg Int32.toInt h_v3_q9542
      exact hg8 I0_l56 M0_l56 v3_q9542 ⟨by omega, by omega⟩ k_I0_l56 (by omega)
    · have l_9 := il_9
      have t_9544 := ia_mul (9 : Int32) (9) il_9 v2 (by omega) (by omega)
      have t_9545 := ia_add ((9 : Int32) * v2) y56_7 (by omega) (by omega)
      have t_9546 := ia_add (((9 : Int32) * v2) + y56_7) z43_0 (by omega) (by omega)
      refine wq_in (n := 2304) ⟨by omega, by omega⟩ ?_
      have t_9547 := ia_mul (9 : Int32) (9) il_9 x1 (by omega) (by omega)
      have t_9548 := ia_add ((9 : Int32) * x1) y56_7 (by omega) (by omega)
      refine wq_in (n := 2304) ⟨by omega, by omega⟩ ?_
      refine wq_in (n := 2304) ⟨by omega, by omega⟩ ?_
      refine wq_v (fun M0_4_q9549 h_M0_4_q9549 => ?_)
      have k_M0_4_q9549 : KX7 I0_l56 M0_4_q9549 := by rw [h_M0_4_q9549]; exact KX7.sm5 k_I0_l56
      have l_1 := il_1
      have t_9551 := ia_add y56_7 (1 : Int32) (by omega) (by omega)
      refine wq_v (fun v5_q9550 h_v5_q9550 => ?_)
      have t_v5_q9550 := congrArg Int32.toInt h_v5_q9550
      exact ih I0_l56 M0_4_q9549 v5_q9550 ⟨by omega, by omega⟩ k_M0_4_q9549 (by omega)
set_option maxHeartbeats 4000000 in
theorem tt_fX7_layNext_L8 {N : Nat} (hN : 3000000000 ≤ N) (x1 : Int32) (x2 : Int32) (r1 : Int32) (h_x1 : 0 ≤ x1.toInt ∧ x1.toInt ≤ 254) (h_x2 : 0 ≤ x2.toInt ∧ x2.toInt ≤ 8) (h_r1 : 0 ≤ r1.toInt ∧ r1.toInt ≤ 7)  : ∀ (fu : Nat) (I0_l8 : (Nat → Int32)) (M0_l8 : (Nat → Nat → Int32)) (y8_4 : Int32), (0 ≤ y8_4.toInt ∧ y8_4.toInt ≤ 8) → (KX7 I0_l8 M0_l8) → (8 - y8_4.toInt) < (fu : Int) → wq (fX7_layNext_L8 N x1 x2 r1 fu I0_l8 M0_l8 y8_4) (fun r => KX7 r.1 r.2 ∧ True) := by
  intro fu
  induction fu with
  | zero => intro I0_l8 M0_l8 y8_4 h_y8_4 k_I0_l8 hm; exfalso; omega
  | succ fu ih =>
    intro I0_l8 M0_l8 y8_4 h_y8_4 k_I0_l8 hm
    rw [fX7_layNext_L8.eq_2]
    refine wq_le (fun hc_9552 => ?_) (fun hc_9553 => ?_)
    · exact wq_s ⟨k_I0_l8, trivial⟩
    · have l_0 := il_0
      refine wq_eq (fun hc_9554 => ?_) (fun hc_9555 => ?_)
      · have l_8 := il_8
        have t_9556 := ia_mul (8 : Int32) (8) il_8 r1 (by omega) (by omega)
        have t_9557 := ia_add ((8 : Int32) * r1) y8_4 (by omega) (by omega)
        refine wq_in (n := 64) ⟨by omega, by omega⟩ ?_
        refine wq_eq (fun hc_9558 => ?_) (fun hc_9559 => ?_)
        · unfold fX7_layNext_J43
          have t_9561 := or_sh x1 y8_4 ⟨by omega, by omega⟩ ⟨by omega, by omega⟩
          refine wq_v (fun v2_q9560 h_v2_q9560 => ?_)
          have t_v2_q9560 := congrArg Int32.toInt h_v2_q9560
          exact tt_fX7_layNext_L56 hN x1 x2 r1 v2_q9560 y8_4 (0 : Int32) _ ⟨by omega, by omega⟩ ⟨by omega, by omega⟩ ⟨by omega, by omega⟩ ⟨by omega, by omega⟩ ⟨by omega, by omega⟩ ⟨by omega, by omega⟩ (fun q0 q1 q2 hq0 hq1 hq2 => ih q0 q1 q2 hq0 hq1 (by omega)) N I0_l8 M0_l8 (0 : Int32) ⟨by omega, by omega⟩ k_I0_l8 (by omega)
        · unfold fX7_layNext_J43
          have t_9563 := or_sh x1 y8_4 ⟨by omega, by omega⟩ ⟨by omega, by omega⟩
          refine wq_v (fun v2_q9562 h_v2_q9562 => ?_)
          have t_v2_q9562 := congrArg Int32.toInt h_v2_q9562
          have l_1 := il_1
          exact tt_fX7_layNext_L56 hN x1 x2 r1 v2_q9562 y8_4 (1 : Int32) _ ⟨by omega, by omega⟩ ⟨by omega, by omega⟩ ⟨by omega, by omega⟩ ⟨by omega, by omega⟩ ⟨by omega, by omega⟩ ⟨by omega, by omega⟩ (fun q0 q1 q2 hq0 hq1 hq2 => ih q0 q1 q2 hq0 hq1 (by omega)) N I0_l8 M0_l8 (0 : Int32) ⟨by omega, by omega⟩ k_I0_l8 (by omega)
      · have l_1 := il_1
        have t_9565 := ia_add y8_4 (1 : Int32) (by omega) (by omega)
        refine wq_v (fun v6_q9564 h_v6_q9564 => ?_)
        have t_v6_q9564 := congrArg Int32.toInt h_v6_q9564
        exact ih I0_l8 M0_l8 v6_q9564 ⟨by omega, by omega⟩ k_I0_l8 (by omega)
set_option maxHeartbeats 4000000 in
theorem tt_fX7_layNext {N : Nat} (hN : 3000000000 ≤ N) (I0 : Nat → Int32) (M0 : Nat → Nat → Int32) (x1 : Int32) (x2 : Int32) (h_x1 : 0 ≤ x1.toInt ∧ x1.toInt ≤ 254) (h_x2 : 0 ≤ x2.toInt ∧ x2.toInt ≤ 8) (k_I0 : KX7 I0 M0) : wq (fX7_layNext N I0 M0 x1 x2) (fun r => KX7 r.1 r.2 ∧ True) := by
  unfold fX7_layNext
  refine wq_b (tt_fJ6_bitCount_0f7a4 hN x1) (fun r1_q9566 h_r1_q9566 => ?_)
  obtain ⟨h_r1_q9566_0, -⟩ := h_r1_q9566
  have l_0 := il_0
  exact tt_fX7_layNext_L8 hN x1 x2 r1_q9566 ⟨by omega, by omega⟩ ⟨by omega, by omega⟩ ⟨by omega, by omega⟩ N I0 M0 (0 : Int32) ⟨by omega, by omega⟩ k_I0 (by omega)
set_option maxHeartbeats 4000000 in
theorem tt_fX7_waysToHit_L49 {N : Nat} (hN : 3000000000 ≤ N) (x1 : Int32) (x2 : Int32) (v1 : Int32) (g24 : (Nat → Int32) → (Nat → Nat → Int32) → Int32 → Option (Int32 × (Nat → Int32) × (Nat → Nat → Int32))) (h_x1 : 0 ≤ x1.toInt ∧ x1.toInt ≤ 8) (h_x2 : 0 ≤ x2.toInt ∧ x2.toInt ≤ 2147483647) (h_v1 : 0 ≤ v1.toInt ∧ v1.toInt ≤ 255)  : ∀ (fu : Nat) (I0_l49 : (Nat → Int32)) (M0_l49 : (Nat → Nat → Int32)) (y49_4 : Int32) (y49_5 : Int32), (0 ≤ y49_5.toInt ∧ y49_5.toInt ≤ 2147483647) → (KX7 I0_l49 M0_l49) → (2147483647 - y49_5.toInt) < (fu : Int) → wq (fX7_waysToHit_L49 N x1 x2 v1 g24 fu I0_l49 M0_l49 y49_4 y49_5) (fun r => KX7 r.2.1 r.2.2 ∧ True) := by
  intro fu
  induction fu with
  | zero => intro I0_l49 M0_l49 y49_4 y49_5 h_y49_5 k_I0_l49 hm; exfalso; omega
  | succ fu ih =>
    intro I0_l49 M0_l49 y49_4 y49_5 h_y49_5 k_I0_l49 hm
    rw [fX7_waysToHit_L49.eq_2]
    have b_9875 := i32b y49_5
    refine wq_lt (fun hc_9876 => ?_) (fun hc_9877 => ?_)
    · have b_9878 := i32b y49_4
      exact wq_s ⟨k_I0_l49, trivial⟩
    · have l_9 := il_9
      have t_9879 := ia_mul (9 : Int32) (9) il_9 v1 (by omega) (by omega)
      have t_9880 := ia_add ((9 : Int32) * v1) y49_5 (by omega) (by omega)
      refine wq_in (n := 2304) ⟨by omega, by omega⟩ ?_
      have b_9882 := i32b y49_4
      refine wq_v (fun v5_q9881 h_v5_q9881 => ?_)
      have t_v5_q9881 := congrArg Int32.toInt h_v5_q9881
      have l_1 := il_1
      have t_9884 := ia_add y49_5 (1 : Int32) (by omega) (by omega)
      refine wq_v (fun v6_q9883 h_v6_q9883 => ?_)
      have t_v6_q9883 := congrArg Int32.toInt h_v6_q9883
      have b_9885 := i32b v5_q9881
      exact ih I0_l49 M0_l49 v5_q9881 v6_q9883 ⟨by omega, by omega⟩ k_I0_l49 (by omega)
set_option maxHeartbeats 4000000 in
theorem tt_fX7_waysToHit_L24 {N : Nat} (hN : 3000000000 ≤ N) (x1 : Int32) (x2 : Int32) (v1 : Int32) (h_x1 : 0 ≤ x1.toInt ∧ x1.toInt ≤ 8) (h_x2 : 0 ≤ x2.toInt ∧ x2.toInt ≤ 2147483647) (h_v1 : 0 ≤ v1.toInt ∧ v1.toInt ≤ 255)  : ∀ (fu : Nat) (I0_l24 : (Nat → Int32)) (M0_l24 : (Nat → Nat → Int32)) (y24_4 : Int32), (0 ≤ y24_4.toInt ∧ y24_4.toInt ≤ 255) → (KX7 I0_l24 M0_l24) → (255 - y24_4.toInt) < (fu : Int) → wq (fX7_waysToHit_L24 N x1 x2 v1 fu I0_l24 M0_l24 y24_4) (fun r => KX7 r.2.1 r.2.2 ∧ True) := by
  intro fu
  induction fu with
  | zero => intro I0_l24 M0_l24 y24_4 h_y24_4 k_I0_l24 hm; exfalso; omega
  | succ fu ih =>
    intro I0_l24 M0_l24 y24_4 h_y24_4 k_I0_l24 hm
    rw [fX7_waysToHit_L24.eq_2]
    refine wq_le (fun hc_9886 => ?_) (fun hc_9887 => ?_)
    · have b_9888 := i32b x2
      have l_0 := il_0
      exact tt_fX7_waysToHit_L49 hN x1 x2 v1 _ ⟨by omega, by omega⟩ ⟨by omega, by omega⟩ ⟨by omega, by omega⟩ N I0_l24 M0_l24 (0 : Int32) x2 ⟨by omega, by omega⟩ k_I0_l24 (by omega)
    · refine wq_b (tt_fX7_layNext hN I0_l24 M0_l24 y24_4 x1 ⟨by omega, by omega⟩ ⟨by omega, by omega⟩ k_I0_l24) (fun r7_q9889 h_r7_q9889 => ?_)
      obtain ⟨h_r7_q9889_0, -⟩ := h_r7_q9889
      have l_1 := il_1
      have t_9891 := ia_add y24_4 (1 : Int32) (by omega) (by omega)
      refine wq_v (fun v8_q9890 h_v8_q9890 => ?_)
      have t_v8_q9890 := congrArg Int32.toInt h_v8_q9890
      exact ih r7_q9889.1 r7_q9889.2 v8_q9890 ⟨by omega, by omega⟩ h_r7_q9889_0 (by omega)
set_option maxHeartbeats 4000000 in
theorem tt_fX7_waysToHit {N : Nat} (hN : 3000000000 ≤ N) (I0 : Nat → Int32) (M0 : Nat → Nat → Int32) (x1 : Int32) (x2 : Int32) (h_x1 : 0 ≤ x1.toInt ∧ x1.toInt ≤ 8) (h_x2 : 0 ≤ x2.toInt ∧ x2.toInt ≤ 2147483647) (k_I0 : KX7 I0 M0) : wq (fX7_waysToHit N I0 M0 x1 x2) (fun r => KX7 r.2.1 r.2.2 ∧ True) := by
  unfold fX7_waysToHit
  have t_9893 := sh_1 x1 ⟨by omega, by omega⟩
  have l_1 := il_1
  have t_9894 := ia_sub ((1 : Int32) <<< (x1 &&& 31)) (1 : Int32) (by omega) (by omega)
  refine wq_v (fun v1_q9892 h_v1_q9892 => ?_)
  have t_v1_q9892 := congrArg Int32.toInt h_v1_q9892
  have l_0 := il_0
  refine wq_b (tt_fJ7_fill_53178 hN 2304 (M0 5) (0 : Int32) (by omega)) (fun r2_q9895 h_r2_q9895 => ?_)
  obtain ⟨-⟩ := h_r2_q9895
  refine wq_v (fun M0_3_q9896 h_M0_3_q9896 => ?_)
  have k_M0_3_q9896 : KX7 I0 M0_3_q9896 := by rw [h_M0_3_q9896]; exact KX7.sf5 k_I0
  refine wq_in (n := 2304) ⟨by omega, by omega⟩ ?_
  refine wq_v (fun M0_4_q9897 h_M0_4_q9897 => ?_)
  have k_M0_4_q9897 : KX7 I0 M0_4_q9897 := by rw [h_M0_4_q9897]; exact KX7.sm5 k_M0_3_q9896
  have b_9898 := i32b x2
  exact tt_fX7_waysToHit_L24 hN x1 x2 v1_q9892 ⟨by omega, by omega⟩ ⟨by omega, by omega⟩ ⟨by omega, by omega⟩ N I0 M0_4_q9897 (0 : Int32) ⟨by omega, by omega⟩ k_M0_4_q9897 (by omega)
set_option maxHeartbeats 4000000 in
theorem tt_fX7_chanceOfLives_L27 {N : Nat} (hN : 3000000000 ≤ N) (x1 : Int32) (v2 : Int32) (y19_3 : Int32) (g19 : (Nat → Int32) → (Nat → Nat → Int32) → Int32 → Option (Int32 × (Nat → Int32) × (Nat → Nat → Int32))) (h_v2 : 1 ≤ v2.toInt ∧ v2.toInt ≤ 8) (h_y19_3 : 0 ≤ y19_3.toInt ∧ y19_3.toInt ≤ 7) (hg19 : ∀ (q0 : (Nat → Int32)) (q1 : (Nat → Nat → Int32)) (q2 : Int32), (0 ≤ q2.toInt ∧ q2.toInt ≤ 8) → (KX7 q0 q1) → (y19_3.toInt < q2.toInt) → wq (g19 q0 q1 q2) (fun r => KX7 r.2.1 r.2.2 ∧ True)) : ∀ (fu : Nat) (I0_l27 : (Nat → Int32)) (M0_l27 : (Nat → Nat → Int32)) (y27_4 : Int32), (0 ≤ y27_4.toInt ∧ y27_4.toInt ≤ 8) → (KX7 I0_l27 M0_l27) → (8 - y27_4.toInt) < (fu : Int) → wq (fX7_chanceOfLives_L27 N x1 v2 y19_3 g19 fu I0_l27 M0_l27 y27_4) (fun r => KX7 r.2.1 r.2.2 ∧ True) := by
  intro fu
  induction fu with
  | zero => intro I0_l27 M0_l27 y27_4 h_y27_4 k_I0_l27 hm; exfalso; omega
  | succ fu ih =>
    intro I0_l27 M0_l27 y27_4 h_y27_4 k_I0_l27 hm
    rw [fX7_chanceOfLives_L27.eq_2]
    refine wq_le (fun hc_10147 => ?_) (fun hc_10148 => ?_)
    · have l_1 := il_1
      have t_10150 := ia_add y19_3 (1 : Int32) (by omega) (by omega)
      refine wq_v (fun v5_q10149 h_v5_q10149 => ?_)
      have t_v5_q10149 := congrArg Int32.toInt h_v5_q10149
      exact hg19 I0_l27 M0_l27 v5_q10149 ⟨by omega, by omega⟩ k_I0_l27 (by omega)
    · refine wq_in (n := 20) ⟨by omega, by omega⟩ ?_
      refine wq_in (n := 20) ⟨by omega, by omega⟩ ?_
      have t_10151 := KX7.m3 k_I0_l27 y27_4.toNatClampNeg
      refine wq_in (n := 20) ⟨by omega, by omega⟩ ?_
      have t_10152 := KX7.m3 k_I0_l27 y19_3.toNatClampNeg
      have b_10153 := i32b x1
      refine wq_b (tt_fX7_isHit hN I0_l27 M0_l27 (M0_l27 3 y19_3.toNatClampNeg) (M0_l27 1 (M0_l27 3 y27_4.toNatClampNeg).toNatClampNeg) x1 ⟨by omega, by omega⟩ k_I0_l27) (fun r6_q10154 h_r6_q10154 => ?_)
      obtain ⟨h_r6_q10154_0, -⟩ := h_r6_q10154
      have l_8 := il_8
      have t_10155 := ia_mul (8 : Int32) (8) il_8 y19_3 (by omega) (by omega)
      have t_10156 := ia_add ((8 : Int32) * y19_3) y27_4 (by omega) (by omega)
      refine wq_in (n := 64) ⟨by omega, by omega⟩ ?_
      refine wq_v (fun M0_7_q10157 h_M0_7_q10157 => ?_)
      have k_M0_7_q10157 : KX7 I0_l27 M0_7_q10157 := by rw [h_M0_7_q10157]; exact KX7.sm4 k_I0_l27
      have l_1 := il_1
      have t_10159 := ia_add y27_4 (1 : Int32) (by omega) (by omega)
      refine wq_v (fun v8_q10158 h_v8_q10158 => ?_)
      have t_v8_q10158 := congrArg Int32.toInt h_v8_q10158
      exact ih I0_l27 M0_7_q10157 v8_q10158 ⟨by omega, by omega⟩ k_M0_7_q10157 (by omega)
set_option maxHeartbeats 4000000 in
theorem tt_fX7_chanceOfLives_L19 {N : Nat} (hN : 3000000000 ≤ N) (x1 : Int32) (v2 : Int32) (h_v2 : 0 ≤ v2.toInt ∧ v2.toInt ≤ 8)  : ∀ (fu : Nat) (I0_l19 : (Nat → Int32)) (M0_l19 : (Nat → Nat → Int32)) (y19_3 : Int32), (0 ≤ y19_3.toInt ∧ y19_3.toInt ≤ 8) → (KX7 I0_l19 M0_l19) → (8 - y19_3.toInt) < (fu : Int) → wq (fX7_chanceOfLives_L19 N x1 v2 fu I0_l19 M0_l19 y19_3) (fun r => KX7 r.2.1 r.2.2 ∧ True) := by
  intro fu
  induction fu with
  | zero => intro I0_l19 M0_l19 y19_3 h_y19_3 k_I0_l19 hm; exfalso; omega
  | succ fu ih =>
    intro I0_l19 M0_l19 y19_3 h_y19_3 k_I0_l19 hm
    rw [fX7_chanceOfLives_L19.eq_2]
    refine wq_le (fun hc_10160 => ?_) (fun hc_10161 => ?_)
    · have b_10162 := i32b x1
      refine wq_b (tt_fX7_howManyHits hN I0_l19 M0_l19 x1 k_I0_l19) (fun r3_q10163 h_r3_q10163 => ?_)
      obtain ⟨h_r3_q10163_0, h_r3_q10163_1, -⟩ := h_r3_q10163
      refine wq_b (tt_fX7_waysToHit hN r3_q10163.2.1 r3_q10163.2.2 v2 r3_q10163.1 ⟨by omega, by omega⟩ ⟨by omega, by omega⟩ h_r3_q10163_1) (fun r4_q10164 h_r4_q10164 => ?_)
      obtain ⟨h_r4_q10164_0, -⟩ := h_r4_q10164
      have b_10165 := i32b r4_q10164.1
      exact wq_s ⟨h_r4_q10164_0, trivial⟩
    · have b_10166 := i32b x1
      have l_0 := il_0
      exact tt_fX7_chanceOfLives_L27 hN x1 v2 y19_3 _ ⟨by omega, by omega⟩ ⟨by omega, by omega⟩ (fun q0 q1 q2 hq0 hq1 hq2 => ih q0 q1 q2 hq0 hq1 (by omega)) N I0_l19 M0_l19 (0 : Int32) ⟨by omega, by omega⟩ k_I0_l19 (by omega)
set_option maxHeartbeats 4000000 in
theorem tt_fX7_chanceOfLives {N : Nat} (hN : 3000000000 ≤ N) (I0 : Nat → Int32) (M0 : Nat → Nat → Int32) (x1 : Int32) (k_I0 : KX7 I0 M0) : wq (fX7_chanceOfLives N I0 M0 x1) (fun r => KX7 r.2.1 r.2.2 ∧ True) := by
  unfold fX7_chanceOfLives
  refine wq_b (tt_fX7_setRows_11 hN I0 M0 k_I0) (fun r1_q10167 h_r1_q10167 => ?_)
  obtain ⟨h_r1_q10167_0, h_r1_q10167_1, -⟩ := h_r1_q10167
  refine wq_v (fun v2_q10168 h_v2_q10168 => ?_)
  have t_v2_q10168 := congrArg Int32.toInt h_v2_q10168
  have l_8 := il_8
  refine wq_le (fun hc_10169 => ?_) (fun hc_10170 => ?_)
  · have b_10171 := i32b x1
    have l_0 := il_0
    exact tt_fX7_chanceOfLives_L19 hN x1 v2_q10168 ⟨by omega, by omega⟩ N r1_q10167.2.1 r1_q10167.2.2 (0 : Int32) ⟨by omega, by omega⟩ h_r1_q10167_1 (by omega)
  · have l_m1 := il_m1
    exact wq_s ⟨h_r1_q10167_1, trivial⟩
set_option maxHeartbeats 4000000 in
theorem tt_fX7_isToldByLot {N : Nat} (hN : 3000000000 ≤ N) (I0 : Nat → Int32) (M0 : Nat → Nat → Int32) (x1 : Int32) (x2 : Int32) (h_x1 : 0 ≤ x1.toInt ∧ x1.toInt ≤ 119) (k_I0 : KX1 I0 M0) : wq (fX7_isToldByLot N I0 M0 x1 x2) (fun r => (0 ≤ r.toInt ∧ r.toInt ≤ 1) ∧ True) := by
  unfold fX7_isToldByLot
  have l_8 := il_8
  refine wq_b (tt_fX1_degreeOf hN I0 M0 x1 (8 : Int32) ⟨by omega, by omega⟩ ⟨by omega, by omega⟩ k_I0) (fun r1_q10244 h_r1_q10244 => ?_)
  obtain ⟨h_r1_q10244_0, h_r1_q10244_1, -⟩ := h_r1_q10244
  have l_7 := il_7
  refine wq_b (tt_fX1_degreeOf hN I0 M0 x1 (7 : Int32) ⟨by omega, by omega⟩ ⟨by omega, by omega⟩ k_I0) (fun r2_q10245 h_r2_q10245 => ?_)
  obtain ⟨h_r2_q10245_0, h_r2_q10245_1, -⟩ := h_r2_q10245
  have l_m1 := il_m1
  refine wq_eq (fun hc_10246 => ?_) (fun hc_10247 => ?_)
  · have l_0 := il_0
    exact wq_s ⟨(show 0 ≤ (0 : Int32).toInt ∧ (0 : Int32).toInt ≤ 1 from ⟨by omega, by omega⟩), trivial⟩
  · refine wq_eq (fun hc_10248 => ?_) (fun hc_10249 => ?_)
    · have l_0 := il_0
      exact wq_s ⟨(show 0 ≤ (0 : Int32).toInt ∧ (0 : Int32).toInt ≤ 1 from ⟨by omega, by omega⟩), trivial⟩
    · have l_30 := il_30
      have t_10250 := ia_div r1_q10244 (30 : Int32) 30 il_30 (by decide) (by omega)
      have t_10251 := ia_div r2_q10245 (30 : Int32) 30 il_30 (by decide) (by omega)
      have b_10252 := i32b x2
      have l_1 := il_1
      have l_12 := il_12
      have t_10253 := ia_rem2 (((r2_q10245 / (30 : Int32)) + x2) - (1 : Int32)) (12 : Int32) 12 il_12 (by decide)
      refine wq_eq (fun hc_10254 => ?_) (fun hc_10255 => ?_)
      · exact wq_s ⟨(show 0 ≤ (1 : Int32).toInt ∧ (1 : Int32).toInt ≤ 1 from ⟨by omega, by omega⟩), trivial⟩
      · have l_0 := il_0
        exact wq_s ⟨(show 0 ≤ (0 : Int32).toInt ∧ (0 : Int32).toInt ≤ 1 from ⟨by omega, by omega⟩), trivial⟩
set_option maxHeartbeats 4000000 in
theorem tt_fX7_howManyToldByLot_L14 {N : Nat} (hN : 3000000000 ≤ N) (I1 : Nat → Int32) (M1 : Nat → Nat → Int32) (v2 : Int32) (h_v2 : 0 ≤ v2.toInt ∧ v2.toInt ≤ 20) (k_I1 : KX1 I1 M1)  : ∀ (fu : Nat) (I0_l14 : (Nat → Int32)) (M0_l14 : (Nat → Nat → Int32)) (y14_3 : Int32) (y14_4 : Int32), (0 ≤ y14_3.toInt ∧ y14_3.toInt ≤ 20) → (0 ≤ y14_4.toInt ∧ y14_4.toInt ≤ 20) → (KX7 I0_l14 M0_l14) → (y14_3.toInt ≤ y14_4.toInt) → (20 - y14_4.toInt) < (fu : Int) → wq (fX7_howManyToldByLot_L14 N I1 M1 v2 fu I0_l14 M0_l14 y14_3 y14_4) (fun r => (0 ≤ r.1.toInt ∧ r.1.toInt ≤ 20) ∧ KX7 r.2.1 r.2.2 ∧ True) := by
  intro fu
  induction fu with
  | zero => intro I0_l14 M0_l14 y14_3 y14_4 h_y14_3 h_y14_4 k_I0_l14 hl_3 hm; exfalso; omega
  | succ fu ih =>
    intro I0_l14 M0_l14 y14_3 y14_4 h_y14_3 h_y14_4 k_I0_l14 hl_3 hm
    rw [fX7_howManyToldByLot_L14.eq_2]
    refine wq_le (fun hc_10382 => ?_) (fun hc_10383 => ?_)
    · exact wq_s ⟨(show 0 ≤ y14_3.toInt ∧ y14_3.toInt ≤ 20 from ⟨by omega, by omega⟩), k_I0_l14, trivial⟩
    · refine wq_in (n := 20) ⟨by omega, by omega⟩ ?_
      refine wq_in (n := 20) ⟨by omega, by omega⟩ ?_
      have t_10384 := KX7.m3 k_I0_l14 y14_4.toNatClampNeg
      refine wq_in (n := 20) ⟨by omega, by omega⟩ ?_
      refine wq_b (tt_fX7_isToldByLot hN I1 M1 (M0_l14 3 y14_4.toNatClampNeg) (M0_l14 2 (M0_l14 3 y14_4.toNatClampNeg).toNatClampNeg) ⟨by omega, by omega⟩ k_I1) (fun r3_q10385 h_r3_q10385 => ?_)
      obtain ⟨h_r3_q10385_0, -⟩ := h_r3_q10385
      have l_0 := il_0
      refine wq_eq (fun hc_10386 => ?_) (fun hc_10387 => ?_)
      · have l_1 := il_1
        have t_10389 := ia_add y14_4 (1 : Int32) (by omega) (by omega)
        refine wq_v (fun v4_q10388 h_v4_q10388 => ?_)
        have t_v4_q10388 := congrArg Int32.toInt h_v4_q10388
        exact ih I0_l14 M0_l14 y14_3 v4_q10388 ⟨by omega, by omega⟩ ⟨by omega, by omega⟩ k_I0_l14 (by omega) (by omega)
      · have l_1 := il_1
        have t_10391 := ia_add y14_3 (1 : Int32) (by omega) (by omega)
        refine wq_v (fun v5_q10390 h_v5_q10390 => ?_)
        have t_v5_q10390 := congrArg Int32.toInt h_v5_q10390
        have t_10393 := ia_add y14_4 (1 : Int32) (by omega) (by omega)
        refine wq_v (fun v6_q10392 h_v6_q10392 => ?_)
        have t_v6_q10392 := congrArg Int32.toInt h_v6_q10392
        exact ih I0_l14 M0_l14 v5_q10390 v6_q10392 ⟨by omega, by omega⟩ ⟨by omega, by omega⟩ k_I0_l14 (by omega) (by omega)
set_option maxHeartbeats 4000000 in
theorem tt_fX7_howManyToldByLot {N : Nat} (hN : 3000000000 ≤ N) (I0 : Nat → Int32) (M0 : Nat → Nat → Int32) (I1 : Nat → Int32) (M1 : Nat → Nat → Int32) (k_I0 : KX7 I0 M0) (k_I1 : KX1 I1 M1) : wq (fX7_howManyToldByLot N I0 M0 I1 M1) (fun r => (0 ≤ r.1.toInt ∧ r.1.toInt ≤ 20) ∧ KX7 r.2.1 r.2.2 ∧ True) := by
  unfold fX7_howManyToldByLot
  refine wq_b (tt_fX7_setRows_13 hN I0 M0 k_I0) (fun r1_q10394 h_r1_q10394 => ?_)
  obtain ⟨h_r1_q10394_0, h_r1_q10394_1, -⟩ := h_r1_q10394
  refine wq_v (fun v2_q10395 h_v2_q10395 => ?_)
  have t_v2_q10395 := congrArg Int32.toInt h_v2_q10395
  have l_0 := il_0
  exact tt_fX7_howManyToldByLot_L14 hN I1 M1 v2_q10395 ⟨by omega, by omega⟩ k_I1 N r1_q10394.2.1 r1_q10394.2.2 (0 : Int32) (0 : Int32) ⟨by omega, by omega⟩ ⟨by omega, by omega⟩ h_r1_q10394_1 (by omega) (by omega)
set_option maxHeartbeats 4000000 in
theorem tt_fX7_chanceOfFates_L27 {N : Nat} (hN : 3000000000 ≤ N) (I1 : Nat → Int32) (M1 : Nat → Nat → Int32) (v2 : Int32) (y19_3 : Int32) (g19 : (Nat → Int32) → (Nat → Nat → Int32) → Int32 → Option (Int32 × (Nat → Int32) × (Nat → Nat → Int32))) (h_v2 : 1 ≤ v2.toInt ∧ v2.toInt ≤ 8) (h_y19_3 : 0 ≤ y19_3.toInt ∧ y19_3.toInt ≤ 7) (k_I1 : KX1 I1 M1) (hg19 : ∀ (q0 : (Nat → Int32)) (q1 : (Nat → Nat → Int32)) (q2 : Int32), (0 ≤ q2.toInt ∧ q2.toInt ≤ 8) → (KX7 q0 q1) → (y19_3.toInt < q2.toInt) → wq (g19 q0 q1 q2) (fun r => KX7 r.2.1 r.2.2 ∧ True)) : ∀ (fu : Nat) (I0_l27 : (Nat → Int32)) (M0_l27 : (Nat → Nat → Int32)) (y27_4 : Int32), (0 ≤ y27_4.toInt ∧ y27_4.toInt ≤ 8) → (KX7 I0_l27 M0_l27) → (8 - y27_4.toInt) < (fu : Int) → wq (fX7_chanceOfFates_L27 N I1 M1 v2 y19_3 g19 fu I0_l27 M0_l27 y27_4) (fun r => KX7 r.2.1 r.2.2 ∧ True) := by
  intro fu
  induction fu with
  | zero => intro I0_l27 M0_l27 y27_4 h_y27_4 k_I0_l27 hm; exfalso; omega
  | succ fu ih =>
    intro I0_l27 M0_l27 y27_4 h_y27_4 k_I0_l27 hm
    rw [fX7_chanceOfFates_L27.eq_2]
    refine wq_le (fun hc_10604 => ?_) (fun hc_10605 => ?_)
    · have l_1 := il_1
      have t_10607 := ia_add y19_3 (1 : Int32) (by omega) (by omega)
      refine wq_v (fun v5_q10606 h_v5_q10606 => ?_)
      have t_v5_q10606 := congrArg Int32.toInt h_v5_q10606
      exact hg19 I0_l27 M0_l27 v5_q10606 ⟨by omega, by omega⟩ k_I0_l27 (by omega)
    · refine wq_in (n := 20) ⟨by omega, by omega⟩ ?_
      refine wq_in (n := 20) ⟨by omega, by omega⟩ ?_
      have t_10608 := KX7.m3 k_I0_l27 y27_4.toNatClampNeg
      refine wq_in (n := 20) ⟨by omega, by omega⟩ ?_
      have t_10609 := KX7.m3 k_I0_l27 y19_3.toNatClampNeg
      refine wq_b (tt_fX7_isToldByLot hN I1 M1 (M0_l27 3 y19_3.toNatClampNeg) (M0_l27 2 (M0_l27 3 y27_4.toNatClampNeg).toNatClampNeg) ⟨by omega, by omega⟩ k_I1) (fun r6_q10610 h_r6_q10610 => ?_)
      obtain ⟨h_r6_q10610_0, -⟩ := h_r6_q10610
      have l_8 := il_8
      have t_10611 := ia_mul (8 : Int32) (8) il_8 y19_3 (by omega) (by omega)
      have t_10612 := ia_add ((8 : Int32) * y19_3) y27_4 (by omega) (by omega)
      refine wq_in (n := 64) ⟨by omega, by omega⟩ ?_
      refine wq_v (fun M0_7_q10613 h_M0_7_q10613 => ?_)
      have k_M0_7_q10613 : KX7 I0_l27 M0_7_q10613 := by rw [h_M0_7_q10613]; exact KX7.sm4 k_I0_l27
      have l_1 := il_1
      have t_10615 := ia_add y27_4 (1 : Int32) (by omega) (by omega)
      refine wq_v (fun v8_q10614 h_v8_q10614 => ?_)
      have t_v8_q10614 := congrArg Int32.toInt h_v8_q10614
      exact ih I0_l27 M0_7_q10613 v8_q10614 ⟨by omega, by omega⟩ k_M0_7_q10613 (by omega)
set_option maxHeartbeats 4000000 in
theorem tt_fX7_chanceOfFates_L19 {N : Nat} (hN : 3000000000 ≤ N) (I1 : Nat → Int32) (M1 : Nat → Nat → Int32) (v2 : Int32) (h_v2 : 0 ≤ v2.toInt ∧ v2.toInt ≤ 8) (k_I1 : KX1 I1 M1)  : ∀ (fu : Nat) (I0_l19 : (Nat → Int32)) (M0_l19 : (Nat → Nat → Int32)) (y19_3 : Int32), (0 ≤ y19_3.toInt ∧ y19_3.toInt ≤ 8) → (KX7 I0_l19 M0_l19) → (8 - y19_3.toInt) < (fu : Int) → wq (fX7_chanceOfFates_L19 N I1 M1 v2 fu I0_l19 M0_l19 y19_3) (fun r => KX7 r.2.1 r.2.2 ∧ True) := by
  intro fu
  induction fu with
  | zero => intro I0_l19 M0_l19 y19_3 h_y19_3 k_I0_l19 hm; exfalso; omega
  | succ fu ih =>
    intro I0_l19 M0_l19 y19_3 h_y19_3 k_I0_l19 hm
    rw [fX7_chanceOfFates_L19.eq_2]
    refine wq_le (fun hc_10616 => ?_) (fun hc_10617 => ?_)
    · refine wq_b (tt_fX7_howManyToldByLot hN I0_l19 M0_l19 I1 M1 k_I0_l19 k_I1) (fun r3_q10618 h_r3_q10618 => ?_)
      obtain ⟨h_r3_q10618_0, h_r3_q10618_1, -⟩ := h_r3_q10618
      refine wq_b (tt_fX7_waysToHit hN r3_q10618.2.1 r3_q10618.2.2 v2 r3_q10618.1 ⟨by omega, by omega⟩ ⟨by omega, by omega⟩ h_r3_q10618_1) (fun r4_q10619 h_r4_q10619 => ?_)
      obtain ⟨h_r4_q10619_0, -⟩ := h_r4_q10619
      have b_10620 := i32b r4_q10619.1
      exact wq_s ⟨h_r4_q10619_0, trivial⟩
    · have l_0 := il_0
      exact tt_fX7_chanceOfFates_L27 hN I1 M1 v2 y19_3 _ ⟨by omega, by omega⟩ ⟨by omega, by omega⟩ k_I1 (fun q0 q1 q2 hq0 hq1 hq2 => ih q0 q1 q2 hq0 hq1 (by omega)) N I0_l19 M0_l19 (0 : Int32) ⟨by omega, by omega⟩ k_I0_l19 (by omega)
set_option maxHeartbeats 4000000 in
theorem tt_fX7_chanceOfFates {N : Nat} (hN : 3000000000 ≤ N) (I0 : Nat → Int32) (M0 : Nat → Nat → Int32) (I1 : Nat → Int32) (M1 : Nat → Nat → Int32) (k_I0 : KX7 I0 M0) (k_I1 : KX1 I1 M1) : wq (fX7_chanceOfFates N I0 M0 I1 M1) (fun r => KX7 r.2.1 r.2.2 ∧ True) := by
  unfold fX7_chanceOfFates
  refine wq_b (tt_fX7_setRows_13 hN I0 M0 k_I0) (fun r1_q10621 h_r1_q10621 => ?_)
  obtain ⟨h_r1_q10621_0, h_r1_q10621_1, -⟩ := h_r1_q10621
  refine wq_v (fun v2_q10622 h_v2_q10622 => ?_)
  have t_v2_q10622 := congrArg Int32.toInt h_v2_q10622
  have l_8 := il_8
  refine wq_le (fun hc_10623 => ?_) (fun hc_10624 => ?_)
  · have l_0 := il_0
    exact tt_fX7_chanceOfFates_L19 hN I1 M1 v2_q10622 ⟨by omega, by omega⟩ k_I1 N r1_q10621.2.1 r1_q10621.2.2 (0 : Int32) ⟨by omega, by omega⟩ h_r1_q10621_1 (by omega)
  · have l_m1 := il_m1
    exact wq_s ⟨h_r1_q10621_1, trivial⟩

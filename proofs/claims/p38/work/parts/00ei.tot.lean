set_option maxHeartbeats 4000000 in
theorem tt_fX12_agrees {N : Nat} (hN : 3000000000 ≤ N) (I0 : Nat → Int32) (L0 : Int64) (M0 : Nat → Nat → Int32) (x1 : Int32) (x2 : Int32) (x3 : Int32) (h_x1 : 0 ≤ x1.toInt ∧ x1.toInt ≤ 119) (k_I0 : KX12 I0 M0) (hr_2 : ((0 ≤ x2.toInt ∧ x2.toInt ≤ 1) ∨ (0 ≤ x3.toInt ∧ x3.toInt < (I0 1).toInt))) : wq (fX12_agrees N I0 L0 M0 x1 x2 x3) (fun r => True) := by
  unfold fX12_agrees
  have b_43134 := i32b x2
  have b_43135 := i32b x3
  have l_0 := il_0
  have l_1 := il_1
  have t_43136 := KX12.i1 k_I0
  exact tt_fX12_agrees_L6 hN I0 L0 M0 x1 x2 x3 ⟨by omega, by omega⟩ k_I0 (by omega) N (0 : Int32) (1 : Int32) ⟨by omega, by omega⟩ (by omega)
set_option maxHeartbeats 4000000 in
theorem tt_fX12_housesTold_L4 {N : Nat} (hN : 3000000000 ≤ N) (I0 : Nat → Int32) (L0 : Int64) (M0 : Nat → Nat → Int32) (x1 : Int32) (h_x1 : 0 ≤ x1.toInt ∧ x1.toInt ≤ 119) (k_I0 : KX12 I0 M0)  : ∀ (fu : Nat) (y4_2 : Int32) (y4_3 : Int32), (1 ≤ y4_3.toInt ∧ y4_3.toInt ≤ 13) → (13 - y4_3.toInt) < (fu : Int) → wq (fX12_housesTold_L4 N I0 L0 M0 x1 fu y4_2 y4_3) (fun r => True) := by
  intro fu
  induction fu with
  | zero => intro y4_2 y4_3 h_y4_3 hm; exfalso; omega
  | succ fu ih =>
    intro y4_2 y4_3 h_y4_3 hm
    rw [fX12_housesTold_L4.eq_2]
    have l_12 := il_12
    refine wq_lt (fun hc_43450 => ?_) (fun hc_43451 => ?_)
    · have b_43452 := i32b y4_2
      exact wq_s trivial
    · have l_9 := il_9
      have t_43453 := ia_add (9 : Int32) y4_3 (by omega) (by omega)
      have l_1 := il_1
      have t_43454 := ia_sub ((9 : Int32) + y4_3) (1 : Int32) (by omega) (by omega)
      refine wq_b (tt_fX12_at hN I0 L0 M0 x1 (((9 : Int32) + y4_3) - (1 : Int32)) ⟨by omega, by omega⟩ ⟨by omega, by omega⟩ k_I0) (fun r1_q43455 h_r1_q43455 => ?_)
      obtain ⟨h_r1_q43455_0, h_r1_q43455_1, h_r1_q43455_2, -⟩ := h_r1_q43455
      have l_m1 := il_m1
      refine wq_eq (fun hc_43456 => ?_) (fun hc_43457 => ?_)
      · have b_43459 := i32b y4_2
        have l_0 := il_0
        have t_43460 := ia_add y4_2 (0 : Int32) (by omega) (by omega)
        refine wq_v (fun v2_q43458 h_v2_q43458 => ?_)
        have t_v2_q43458 := congrArg Int32.toInt h_v2_q43458
        have t_43462 := ia_add y4_3 (1 : Int32) (by omega) (by omega)
        refine wq_v (fun v3_q43461 h_v3_q43461 => ?_)
        have t_v3_q43461 := congrArg Int32.toInt h_v3_q43461
        have b_43463 := i32b v2_q43458
        exact ih v2_q43458 v3_q43461 ⟨by omega, by omega⟩ (by omega)
      · have b_43465 := i32b y4_2
        refine wq_v (fun v4_q43464 h_v4_q43464 => ?_)
        have t_v4_q43464 := congrArg Int32.toInt h_v4_q43464
        have t_43467 := ia_add y4_3 (1 : Int32) (by omega) (by omega)
        refine wq_v (fun v5_q43466 h_v5_q43466 => ?_)
        have t_v5_q43466 := congrArg Int32.toInt h_v5_q43466
        have b_43468 := i32b v4_q43464
        exact ih v4_q43464 v5_q43466 ⟨by omega, by omega⟩ (by omega)
set_option maxHeartbeats 4000000 in
theorem tt_fX12_housesTold {N : Nat} (hN : 3000000000 ≤ N) (I0 : Nat → Int32) (L0 : Int64) (M0 : Nat → Nat → Int32) (x1 : Int32) (h_x1 : 0 ≤ x1.toInt ∧ x1.toInt ≤ 119) (k_I0 : KX12 I0 M0) : wq (fX12_housesTold N I0 L0 M0 x1) (fun r => True) := by
  unfold fX12_housesTold
  have l_0 := il_0
  have l_1 := il_1
  exact tt_fX12_housesTold_L4 hN I0 L0 M0 x1 ⟨by omega, by omega⟩ k_I0 N (0 : Int32) (1 : Int32) ⟨by omega, by omega⟩ (by omega)
set_option maxHeartbeats 4000000 in
theorem tt_fX12_agree {N : Nat} (hN : 3000000000 ≤ N) (I0 : Nat → Int32) (L0 : Int64) (M0 : Nat → Nat → Int32) (x1 : Int32) (x2 : Int32) (x3 : Int32) (x4 : Int32) (k_I0 : KX12 I0 M0) : wq (fX12_agree N I0 L0 M0 x1 x2 x3 x4) (fun r => KX12 r.2.1 r.2.2.2 ∧ True) := by
  unfold fX12_agree
  have b_43589 := i32b x1
  have b_43590 := i32b x2
  refine wq_b (tt_fX12_isWheel hN I0 L0 M0 x1 x2 k_I0) (fun r1_q43591 h_r1_q43591 => ?_)
  obtain ⟨h_r1_q43591_0, h_r1_q43591_1, h_r1_q43591_2, h_r1_q43591_3, -⟩ := h_r1_q43591
  have t_43592 := KX12.i1 h_r1_q43591_3
  have t_43593 := KX12.i1 k_I0
  have l_0 := il_0
  refine wq_eq (fun hc_43594 => ?_) (fun hc_43595 => ?_)
  · exact wq_s ⟨h_r1_q43591_3, trivial⟩
  · have b_43596 := i32b x3
    have b_43597 := i32b x4
    refine wq_b (tt_fX12_isWay hN r1_q43591.2.1 r1_q43591.2.2.1 r1_q43591.2.2.2 x3 x4 h_r1_q43591_3) (fun r2_q43598 h_r2_q43598 => ?_)
    obtain ⟨h_r2_q43598_0, h_r2_q43598_1, h_r2_q43598_2, h_r2_q43598_3, -⟩ := h_r2_q43598
    have t_43599 := KX12.i1 h_r2_q43598_3
    refine wq_eq (fun hc_43600 => ?_) (fun hc_43601 => ?_)
    · exact wq_s ⟨h_r2_q43598_3, trivial⟩
    · have l_20 := il_20
      have t_43602 := ia_mul (20 : Int32) (20) il_20 x1 (by omega) (by omega)
      have t_43603 := ia_add ((20 : Int32) * x1) x2 (by omega) (by omega)
      have l_7 := il_7
      refine wq_b (tt_fX12_at hN r2_q43598.2.1 r2_q43598.2.2.1 r2_q43598.2.2.2 (((20 : Int32) * x1) + x2) (7 : Int32) ⟨by omega, by omega⟩ ⟨by omega, by omega⟩ h_r2_q43598_3) (fun r3_q43604 h_r3_q43604 => ?_)
      obtain ⟨h_r3_q43604_0, h_r3_q43604_1, h_r3_q43604_2, -⟩ := h_r3_q43604
      have l_m1 := il_m1
      refine wq_eq (fun hc_43605 => ?_) (fun hc_43606 => ?_)
      · exact wq_s ⟨h_r2_q43598_3, trivial⟩
      · refine wq_b (tt_fX12_agrees hN r2_q43598.2.1 r2_q43598.2.2.1 r2_q43598.2.2.2 (((20 : Int32) * x1) + x2) x3 x4 ⟨by omega, by omega⟩ h_r2_q43598_3 (by omega)) (fun r4_q43607 h_r4_q43607 => ?_)
        obtain ⟨-⟩ := h_r4_q43607
        have b_43608 := i32b r4_q43607
        exact wq_s ⟨h_r2_q43598_3, trivial⟩
set_option maxHeartbeats 4000000 in
theorem tt_fX12_possible_L164 {N : Nat} (hN : 3000000000 ≤ N) (x1 : Int32) (x2 : Int32) (x3 : Int32) (r1 : Int32) (v6 : Int32) (y126_7 : Int32) (y126_8 : Int32) (y71_4 : Int32) (g88 : (Nat → Int32) → Int64 → (Nat → Nat → Int32) → Int32 → Int32 → Option (Int32 × (Nat → Int32) × Int64 × (Nat → Nat → Int32))) (g126 : (Nat → Int32) → Int64 → (Nat → Nat → Int32) → Int32 → Int32 → Int32 → Option (Int32 × (Nat → Int32) × Int64 × (Nat → Nat → Int32))) (h_x1 : 0 ≤ x1.toInt ∧ x1.toInt ≤ 5) (h_x2 : 0 ≤ x2.toInt ∧ x2.toInt ≤ 19) (h_y126_8 : 0 ≤ y126_8.toInt ∧ y126_8.toInt ≤ 6) (h_y71_4 : 0 ≤ y71_4.toInt ∧ y71_4.toInt ≤ 119) (hg126 : ∀ (q0 : (Nat → Int32)) (q1 : Int64) (q2 : (Nat → Nat → Int32)) (q3 : Int32) (q4 : Int32) (q5 : Int32), (0 ≤ q5.toInt ∧ q5.toInt ≤ 7) → (KX12 q0 q2) → (y126_8.toInt < q5.toInt) → wq (g126 q0 q1 q2 q3 q4 q5) (fun r => KX12 r.2.1 r.2.2.2 ∧ True)) : ∀ (fu : Nat) (I0_l164 : (Nat → Int32)) (L0_l164 : Int64) (M0_l164 : (Nat → Nat → Int32)) (y164_9 : Int32) (y164_10 : Int32), (0 ≤ y164_9.toInt ∧ y164_9.toInt ≤ 1) → (0 ≤ y164_10.toInt ∧ y164_10.toInt ≤ 360) → (KX12 I0_l164 M0_l164) → (360 - y164_10.toInt) < (fu : Int) → wq (fX12_possible_L164 N x1 x2 x3 r1 v6 y126_7 y126_8 y71_4 g88 g126 fu I0_l164 L0_l164 M0_l164 y164_9 y164_10) (fun r => KX12 r.2.1 r.2.2.2 ∧ True) := by
  intro fu
  induction fu with
  | zero => intro I0_l164 L0_l164 M0_l164 y164_9 y164_10 h_y164_9 h_y164_10 k_I0_l164 hm; exfalso; omega
  | succ fu ih =>
    intro I0_l164 L0_l164 M0_l164 y164_9 y164_10 h_y164_9 h_y164_10 k_I0_l164 hm
    rw [fX12_possible_L164.eq_2]
    have l_360 := il_360
    refine wq_le (fun hc_46063 => ?_) (fun hc_46064 => ?_)
    · unfold fX12_possible_J208
      have l_0 := il_0
      refine wq_eq (fun hc_46065 => ?_) (fun hc_46066 => ?_)
      · have l_1 := il_1
        have t_46068 := ia_add y126_8 (1 : Int32) (by omega) (by omega)
        refine wq_v (fun v2_q46067 h_v2_q46067 => ?_)
        have t_v2_q46067 := congrArg Int32.toInt h_v2_q46067
        have b_46069 := i32b v6
        have b_46070 := i32b y126_7
        exact hg126 I0_l164 L0_l164 M0_l164 v6 y126_7 v2_q46067 ⟨by omega, by omega⟩ k_I0_l164 (by omega)
      · have b_46072 := i32b y126_7
        refine wq_v (fun v3_q46071 h_v3_q46071 => ?_)
        have t_v3_q46071 := congrArg Int32.toInt h_v3_q46071
        have l_1 := il_1
        have t_46074 := ia_add y126_8 (1 : Int32) (by omega) (by omega)
        refine wq_v (fun v4_q46073 h_v4_q46073 => ?_)
        have t_v4_q46073 := congrArg Int32.toInt h_v4_q46073
        have b_46075 := i32b v6
        have b_46076 := i32b v3_q46071
        exact hg126 I0_l164 L0_l164 M0_l164 v6 v3_q46071 v4_q46073 ⟨by omega, by omega⟩ k_I0_l164 (by omega)
    · have b_46077 := i32b x3
      have l_1 := il_1
      refine wq_eq (fun hc_46078 => ?_) (fun hc_46079 => ?_)
      · have l_0 := il_0
        refine wq_eq (fun hc_46080 => ?_) (fun hc_46081 => ?_)
        · have t_46082 := KX12.i1 k_I0_l164
          refine wq_b (tt_fX12_isHour hN I0_l164 L0_l164 M0_l164 y71_4 y126_8 y164_10 ⟨by omega, by omega⟩ ⟨by omega, by omega⟩ ⟨by omega, by omega⟩ k_I0_l164 (by omega)) (fun r8_q46083 h_r8_q46083 => ?_)
          obtain ⟨h_r8_q46083_0, -⟩ := h_r8_q46083
          refine wq_eq (fun hc_46084 => ?_) (fun hc_46085 => ?_)
          · have t_46087 := ia_add y164_10 (1 : Int32) (by omega) (by omega)
            refine wq_v (fun v9_q46086 h_v9_q46086 => ?_)
            have t_v9_q46086 := congrArg Int32.toInt h_v9_q46086
            exact ih I0_l164 L0_l164 M0_l164 (0 : Int32) v9_q46086 ⟨by omega, by omega⟩ ⟨by omega, by omega⟩ k_I0_l164 (by omega)
          · have t_46089 := ia_add y164_10 (1 : Int32) (by omega) (by omega)
            refine wq_v (fun v10_q46088 h_v10_q46088 => ?_)
            have t_v10_q46088 := congrArg Int32.toInt h_v10_q46088
            exact ih I0_l164 L0_l164 M0_l164 (1 : Int32) v10_q46088 ⟨by omega, by omega⟩ ⟨by omega, by omega⟩ k_I0_l164 (by omega)
        · have t_46091 := ia_add y164_10 (1 : Int32) (by omega) (by omega)
          refine wq_v (fun v7_q46090 h_v7_q46090 => ?_)
          have t_v7_q46090 := congrArg Int32.toInt h_v7_q46090
          exact ih I0_l164 L0_l164 M0_l164 (1 : Int32) v7_q46090 ⟨by omega, by omega⟩ ⟨by omega, by omega⟩ k_I0_l164 (by omega)
      · unfold fX12_possible_J208
        have l_0 := il_0
        refine wq_eq (fun hc_46092 => ?_) (fun hc_46093 => ?_)
        · have t_46095 := ia_add y126_8 (1 : Int32) (by omega) (by omega)
          refine wq_v (fun v2_q46094 h_v2_q46094 => ?_)
          have t_v2_q46094 := congrArg Int32.toInt h_v2_q46094
          have b_46096 := i32b v6
          have b_46097 := i32b y126_7
          exact hg126 I0_l164 L0_l164 M0_l164 v6 y126_7 v2_q46094 ⟨by omega, by omega⟩ k_I0_l164 (by omega)
        · have b_46099 := i32b y126_7
          refine wq_v (fun v3_q46098 h_v3_q46098 => ?_)
          have t_v3_q46098 := congrArg Int32.toInt h_v3_q46098
          have t_46101 := ia_add y126_8 (1 : Int32) (by omega) (by omega)
          refine wq_v (fun v4_q46100 h_v4_q46100 => ?_)
          have t_v4_q46100 := congrArg Int32.toInt h_v4_q46100
          have b_46102 := i32b v6
          have b_46103 := i32b v3_q46098
          exact hg126 I0_l164 L0_l164 M0_l164 v6 v3_q46098 v4_q46100 ⟨by omega, by omega⟩ k_I0_l164 (by omega)
set_option maxHeartbeats 4000000 in
theorem tt_fX12_possible_L126 {N : Nat} (hN : 3000000000 ≤ N) (x1 : Int32) (x2 : Int32) (x3 : Int32) (r1 : Int32) (y71_4 : Int32) (g88 : (Nat → Int32) → Int64 → (Nat → Nat → Int32) → Int32 → Int32 → Option (Int32 × (Nat → Int32) × Int64 × (Nat → Nat → Int32))) (h_x1 : 0 ≤ x1.toInt ∧ x1.toInt ≤ 5) (h_x2 : 0 ≤ x2.toInt ∧ x2.toInt ≤ 19) (h_y71_4 : 0 ≤ y71_4.toInt ∧ y71_4.toInt ≤ 119)  : ∀ (fu : Nat) (I0_l126 : (Nat → Int32)) (L0_l126 : Int64) (M0_l126 : (Nat → Nat → Int32)) (y126_6 : Int32) (y126_7 : Int32) (y126_8 : Int32), (0 ≤ y126_8.toInt ∧ y126_8.toInt ≤ 7) → (KX12 I0_l126 M0_l126) → (7 - y126_8.toInt) < (fu : Int) → wq (fX12_possible_L126 N x1 x2 x3 r1 y71_4 g88 fu I0_l126 L0_l126 M0_l126 y126_6 y126_7 y126_8) (fun r => KX12 r.2.1 r.2.2.2 ∧ True) := by
  intro fu
  induction fu with
  | zero => intro I0_l126 L0_l126 M0_l126 y126_6 y126_7 y126_8 h_y126_8 k_I0_l126 hm; exfalso; omega
  | succ fu ih =>
    intro I0_l126 L0_l126 M0_l126 y126_6 y126_7 y126_8 h_y126_8 k_I0_l126 hm
    rw [fX12_possible_L126.eq_2]
    have t_46104 := KX12.i1 k_I0_l126
    refine wq_le (fun hc_46105 => ?_) (fun hc_46106 => ?_)
    · have b_46107 := i32b x3
      have l_0 := il_0
      refine wq_eq (fun hc_46108 => ?_) (fun hc_46109 => ?_)
      · have b_46110 := i32b y126_6
        exact wq_s ⟨k_I0_l126, trivial⟩
      · have b_46111 := i32b y126_7
        exact wq_s ⟨k_I0_l126, trivial⟩
    · have l_2 := il_2
      refine wq_b (tt_fX12_agrees hN I0_l126 L0_l126 M0_l126 y71_4 (2 : Int32) y126_8 ⟨by omega, by omega⟩ k_I0_l126 (by omega)) (fun r5_q46112 h_r5_q46112 => ?_)
      obtain ⟨-⟩ := h_r5_q46112
      have b_46113 := i32b r5_q46112
      have b_46114 := i32b r1
      refine wq_eq (fun hc_46115 => ?_) (fun hc_46116 => ?_)
      · refine wq_v (fun v6_q46117 h_v6_q46117 => ?_)
        have t_v6_q46117 := congrArg Int32.toInt h_v6_q46117
        have b_46118 := i32b x3
        have b_46119 := i32b v6_q46117
        have b_46120 := i32b y126_7
        have l_0 := il_0
        exact tt_fX12_possible_L164 hN x1 x2 x3 r1 v6_q46117 y126_7 y126_8 y71_4 g88 _ ⟨by omega, by omega⟩ ⟨by omega, by omega⟩ ⟨by omega, by omega⟩ ⟨by omega, by omega⟩ (fun q0 q1 q2 q3 q4 q5 hq0 hq1 hq2 => ih q0 q1 q2 q3 q4 q5 hq0 hq1 (by omega)) N I0_l126 L0_l126 M0_l126 (0 : Int32) (0 : Int32) ⟨by omega, by omega⟩ ⟨by omega, by omega⟩ k_I0_l126 (by omega)
      · have l_1 := il_1
        have t_46122 := ia_add y126_8 (1 : Int32) (by omega) (by omega)
        refine wq_v (fun v11_q46121 h_v11_q46121 => ?_)
        have t_v11_q46121 := congrArg Int32.toInt h_v11_q46121
        have b_46123 := i32b y126_6
        have b_46124 := i32b y126_7
        exact ih I0_l126 L0_l126 M0_l126 y126_6 y126_7 v11_q46121 ⟨by omega, by omega⟩ k_I0_l126 (by omega)
set_option maxHeartbeats 4000000 in
theorem tt_fX12_possible_L88 {N : Nat} (hN : 3000000000 ≤ N) (x1 : Int32) (x2 : Int32) (x3 : Int32) (r1 : Int32) (y71_4 : Int32) (h_x1 : 0 ≤ x1.toInt ∧ x1.toInt ≤ 5) (h_x2 : 0 ≤ x2.toInt ∧ x2.toInt ≤ 19) (h_y71_4 : 0 ≤ y71_4.toInt ∧ y71_4.toInt ≤ 119)  : ∀ (fu : Nat) (I0_l88 : (Nat → Int32)) (L0_l88 : Int64) (M0_l88 : (Nat → Nat → Int32)) (y88_6 : Int32) (y88_8 : Int32), (0 ≤ y88_6.toInt ∧ y88_6.toInt ≤ 255) → (0 ≤ y88_8.toInt ∧ y88_8.toInt ≤ 2) → (KX12 I0_l88 M0_l88) → (2 - y88_8.toInt) < (fu : Int) → wq (fX12_possible_L88 N x1 x2 x3 r1 y71_4 fu I0_l88 L0_l88 M0_l88 y88_6 y88_8) (fun r => KX12 r.2.1 r.2.2.2 ∧ True) := by
  intro fu
  induction fu with
  | zero => intro I0_l88 L0_l88 M0_l88 y88_6 y88_8 h_y88_6 h_y88_8 k_I0_l88 hm; exfalso; omega
  | succ fu ih =>
    intro I0_l88 L0_l88 M0_l88 y88_6 y88_8 h_y88_6 h_y88_8 k_I0_l88 hm
    rw [fX12_possible_L88.eq_2]
    have l_2 := il_2
    refine wq_le (fun hc_46125 => ?_) (fun hc_46126 => ?_)
    · have b_46127 := i32b x3
      have b_46128 := i32b r1
      have l_0 := il_0
      exact tt_fX12_possible_L126 hN x1 x2 x3 r1 y71_4 _ ⟨by omega, by omega⟩ ⟨by omega, by omega⟩ ⟨by omega, by omega⟩ N I0_l88 L0_l88 M0_l88 y88_6 (0 : Int32) (0 : Int32) ⟨by omega, by omega⟩ k_I0_l88 (by omega)
    · have l_0 := il_0
      have t_46129 := KX12.i1 k_I0_l88
      refine wq_b (tt_fX12_agrees hN I0_l88 L0_l88 M0_l88 y71_4 y88_8 (0 : Int32) ⟨by omega, by omega⟩ k_I0_l88 (by omega)) (fun r12_q46130 h_r12_q46130 => ?_)
      obtain ⟨-⟩ := h_r12_q46130
      have b_46131 := i32b r12_q46130
      have b_46132 := i32b r1
      refine wq_eq (fun hc_46133 => ?_) (fun hc_46134 => ?_)
      · have t_46136 := or_sh y88_6 y88_8 ⟨by omega, by omega⟩ ⟨by omega, by omega⟩
        refine wq_v (fun v14_q46135 h_v14_q46135 => ?_)
        have t_v14_q46135 := congrArg Int32.toInt h_v14_q46135
        have l_1 := il_1
        have t_46138 := ia_add y88_8 (1 : Int32) (by omega) (by omega)
        refine wq_v (fun v15_q46137 h_v15_q46137 => ?_)
        have t_v15_q46137 := congrArg Int32.toInt h_v15_q46137
        exact ih I0_l88 L0_l88 M0_l88 v14_q46135 v15_q46137 ⟨by omega, by omega⟩ ⟨by omega, by omega⟩ k_I0_l88 (by omega)
      · have l_1 := il_1
        have t_46140 := ia_add y88_8 (1 : Int32) (by omega) (by omega)
        refine wq_v (fun v13_q46139 h_v13_q46139 => ?_)
        have t_v13_q46139 := congrArg Int32.toInt h_v13_q46139
        exact ih I0_l88 L0_l88 M0_l88 y88_6 v13_q46139 ⟨by omega, by omega⟩ ⟨by omega, by omega⟩ k_I0_l88 (by omega)
set_option maxHeartbeats 4000000 in
theorem tt_fX12_possible {N : Nat} (hN : 3000000000 ≤ N) (I0 : Nat → Int32) (L0 : Int64) (M0 : Nat → Nat → Int32) (x1 : Int32) (x2 : Int32) (x3 : Int32) (k_I0 : KX12 I0 M0) : wq (fX12_possible N I0 L0 M0 x1 x2 x3) (fun r => KX12 r.2.1 r.2.2.2 ∧ True) := by
  unfold fX12_possible
  have b_46141 := i32b x1
  have b_46142 := i32b x2
  refine wq_b (tt_fX12_isWheel hN I0 L0 M0 x1 x2 k_I0) (fun r20_q46143 h_r20_q46143 => ?_)
  obtain ⟨h_r20_q46143_0, h_r20_q46143_1, h_r20_q46143_2, h_r20_q46143_3, -⟩ := h_r20_q46143
  have t_46144 := KX12.i1 h_r20_q46143_3
  have t_46145 := KX12.i1 k_I0
  have l_0 := il_0
  refine wq_eq (fun hc_46146 => ?_) (fun hc_46147 => ?_)
  · exact wq_s ⟨h_r20_q46143_3, trivial⟩
  · have b_46148 := i32b x3
    refine wq_eq (fun hc_46149 => ?_) (fun hc_46150 => ?_)
    · unfold fX12_possible_J19
      unfold fX12_possible_J24
      have l_1 := il_1
      refine wq_b (tt_fX12_right hN r20_q46143.2.1 r20_q46143.2.2.1 r20_q46143.2.2.2 (1 : Int32) (1 : Int32) ⟨by omega, by omega⟩ h_r20_q46143_3) (fun r16_q46151 h_r16_q46151 => ?_)
      obtain ⟨h_r16_q46151_0, h_r16_q46151_1, h_r16_q46151_2, h_r16_q46151_3, -⟩ := h_r16_q46151
      have t_46152 := KX12.i1 h_r16_q46151_3
      refine wq_eq (fun hc_46153 => ?_) (fun hc_46154 => ?_)
      · exact wq_s ⟨h_r16_q46151_3, trivial⟩
      · have l_20 := il_20
        have t_46156 := ia_mul (20 : Int32) (20) il_20 x1 (by omega) (by omega)
        have t_46157 := ia_add ((20 : Int32) * x1) x2 (by omega) (by omega)
        refine wq_v (fun v17_q46155 h_v17_q46155 => ?_)
        have t_v17_q46155 := congrArg Int32.toInt h_v17_q46155
        have l_7 := il_7
        refine wq_b (tt_fX12_at hN r16_q46151.2.1 r16_q46151.2.2.1 r16_q46151.2.2.2 v17_q46155 (7 : Int32) ⟨by omega, by omega⟩ ⟨by omega, by omega⟩ h_r16_q46151_3) (fun r18_q46158 h_r18_q46158 => ?_)
        obtain ⟨h_r18_q46158_0, h_r18_q46158_1, h_r18_q46158_2, -⟩ := h_r18_q46158
        have l_m1 := il_m1
        refine wq_eq (fun hc_46159 => ?_) (fun hc_46160 => ?_)
        · exact wq_s ⟨h_r16_q46151_3, trivial⟩
        · refine wq_eq (fun hc_46161 => ?_) (fun hc_46162 => ?_)
          · exfalso; omega
          · unfold fX12_possible_J71
            refine wq_b (tt_fX12_housesTold hN r16_q46151.2.1 r16_q46151.2.2.1 r16_q46151.2.2.2 v17_q46155 ⟨by omega, by omega⟩ h_r16_q46151_3) (fun r1_q46163 h_r1_q46163 => ?_)
            obtain ⟨-⟩ := h_r1_q46163
            have b_46164 := i32b r1_q46163
            exact tt_fX12_possible_L88 hN x1 x2 x3 r1_q46163 v17_q46155 ⟨by omega, by omega⟩ ⟨by omega, by omega⟩ ⟨by omega, by omega⟩ N r16_q46151.2.1 r16_q46151.2.2.1 r16_q46151.2.2.2 (0 : Int32) (0 : Int32) ⟨by omega, by omega⟩ ⟨by omega, by omega⟩ h_r16_q46151_3 (by omega)
    · have l_1 := il_1
      refine wq_eq (fun hc_46165 => ?_) (fun hc_46166 => ?_)
      · unfold fX12_possible_J19
        unfold fX12_possible_J24
        refine wq_b (tt_fX12_right hN r20_q46143.2.1 r20_q46143.2.2.1 r20_q46143.2.2.2 (1 : Int32) (1 : Int32) ⟨by omega, by omega⟩ h_r20_q46143_3) (fun r16_q46167 h_r16_q46167 => ?_)
        obtain ⟨h_r16_q46167_0, h_r16_q46167_1, h_r16_q46167_2, h_r16_q46167_3, -⟩ := h_r16_q46167
        have t_46168 := KX12.i1 h_r16_q46167_3
        refine wq_eq (fun hc_46169 => ?_) (fun hc_46170 => ?_)
        · exact wq_s ⟨h_r16_q46167_3, trivial⟩
        · have l_20 := il_20
          have t_46172 := ia_mul (20 : Int32) (20) il_20 x1 (by omega) (by omega)
          have t_46173 := ia_add ((20 : Int32) * x1) x2 (by omega) (by omega)
          refine wq_v (fun v17_q46171 h_v17_q46171 => ?_)
          have t_v17_q46171 := congrArg Int32.toInt h_v17_q46171
          have l_7 := il_7
          refine wq_b (tt_fX12_at hN r16_q46167.2.1 r16_q46167.2.2.1 r16_q46167.2.2.2 v17_q46171 (7 : Int32) ⟨by omega, by omega⟩ ⟨by omega, by omega⟩ h_r16_q46167_3) (fun r18_q46174 h_r18_q46174 => ?_)
          obtain ⟨h_r18_q46174_0, h_r18_q46174_1, h_r18_q46174_2, -⟩ := h_r18_q46174
          have l_m1 := il_m1
          refine wq_eq (fun hc_46175 => ?_) (fun hc_46176 => ?_)
          · exact wq_s ⟨h_r16_q46167_3, trivial⟩
          · refine wq_eq (fun hc_46177 => ?_) (fun hc_46178 => ?_)
            · refine wq_b (tt_fX12_at hN r16_q46167.2.1 r16_q46167.2.2.1 r16_q46167.2.2.2 v17_q46171 (0 : Int32) ⟨by omega, by omega⟩ ⟨by omega, by omega⟩ h_r16_q46167_3) (fun r19_q46179 h_r19_q46179 => ?_)
              obtain ⟨h_r19_q46179_0, h_r19_q46179_1, h_r19_q46179_2, -⟩ := h_r19_q46179
              refine wq_eq (fun hc_46180 => ?_) (fun hc_46181 => ?_)
              · exact wq_s ⟨h_r16_q46167_3, trivial⟩
              · unfold fX12_possible_J71
                refine wq_b (tt_fX12_housesTold hN r16_q46167.2.1 r16_q46167.2.2.1 r16_q46167.2.2.2 v17_q46171 ⟨by omega, by omega⟩ h_r16_q46167_3) (fun r1_q46182 h_r1_q46182 => ?_)
                obtain ⟨-⟩ := h_r1_q46182
                have b_46183 := i32b r1_q46182
                exact tt_fX12_possible_L88 hN x1 x2 x3 r1_q46182 v17_q46171 ⟨by omega, by omega⟩ ⟨by omega, by omega⟩ ⟨by omega, by omega⟩ N r16_q46167.2.1 r16_q46167.2.2.1 r16_q46167.2.2.2 (0 : Int32) (0 : Int32) ⟨by omega, by omega⟩ ⟨by omega, by omega⟩ h_r16_q46167_3 (by omega)
            · exfalso; omega
      · unfold fX12_possible_J24
        refine wq_b (tt_fX12_right hN r20_q46143.2.1 r20_q46143.2.2.1 r20_q46143.2.2.2 (0 : Int32) (1 : Int32) ⟨by omega, by omega⟩ h_r20_q46143_3) (fun r16_q46184 h_r16_q46184 => ?_)
        obtain ⟨h_r16_q46184_0, h_r16_q46184_1, h_r16_q46184_2, h_r16_q46184_3, -⟩ := h_r16_q46184
        have t_46185 := KX12.i1 h_r16_q46184_3
        refine wq_eq (fun hc_46186 => ?_) (fun hc_46187 => ?_)
        · exact wq_s ⟨h_r16_q46184_3, trivial⟩
        · have l_20 := il_20
          have t_46189 := ia_mul (20 : Int32) (20) il_20 x1 (by omega) (by omega)
          have t_46190 := ia_add ((20 : Int32) * x1) x2 (by omega) (by omega)
          refine wq_v (fun v17_q46188 h_v17_q46188 => ?_)
          have t_v17_q46188 := congrArg Int32.toInt h_v17_q46188
          have l_7 := il_7
          refine wq_b (tt_fX12_at hN r16_q46184.2.1 r16_q46184.2.2.1 r16_q46184.2.2.2 v17_q46188 (7 : Int32) ⟨by omega, by omega⟩ ⟨by omega, by omega⟩ h_r16_q46184_3) (fun r18_q46191 h_r18_q46191 => ?_)
          obtain ⟨h_r18_q46191_0, h_r18_q46191_1, h_r18_q46191_2, -⟩ := h_r18_q46191
          have l_m1 := il_m1
          refine wq_eq (fun hc_46192 => ?_) (fun hc_46193 => ?_)
          · exact wq_s ⟨h_r16_q46184_3, trivial⟩
          · refine wq_eq (fun hc_46194 => ?_) (fun hc_46195 => ?_)
            · refine wq_b (tt_fX12_at hN r16_q46184.2.1 r16_q46184.2.2.1 r16_q46184.2.2.2 v17_q46188 (0 : Int32) ⟨by omega, by omega⟩ ⟨by omega, by omega⟩ h_r16_q46184_3) (fun r19_q46196 h_r19_q46196 => ?_)
              obtain ⟨h_r19_q46196_0, h_r19_q46196_1, h_r19_q46196_2, -⟩ := h_r19_q46196
              refine wq_eq (fun hc_46197 => ?_) (fun hc_46198 => ?_)
              · exact wq_s ⟨h_r16_q46184_3, trivial⟩
              · unfold fX12_possible_J71
                refine wq_b (tt_fX12_housesTold hN r16_q46184.2.1 r16_q46184.2.2.1 r16_q46184.2.2.2 v17_q46188 ⟨by omega, by omega⟩ h_r16_q46184_3) (fun r1_q46199 h_r1_q46199 => ?_)
                obtain ⟨-⟩ := h_r1_q46199
                have b_46200 := i32b r1_q46199
                exact tt_fX12_possible_L88 hN x1 x2 x3 r1_q46199 v17_q46188 ⟨by omega, by omega⟩ ⟨by omega, by omega⟩ ⟨by omega, by omega⟩ N r16_q46184.2.1 r16_q46184.2.2.1 r16_q46184.2.2.2 (0 : Int32) (0 : Int32) ⟨by omega, by omega⟩ ⟨by omega, by omega⟩ h_r16_q46184_3 (by omega)
            · unfold fX12_possible_J71
              refine wq_b (tt_fX12_housesTold hN r16_q46184.2.1 r16_q46184.2.2.1 r16_q46184.2.2.2 v17_q46188 ⟨by omega, by omega⟩ h_r16_q46184_3) (fun r1_q46201 h_r1_q46201 => ?_)
              obtain ⟨-⟩ := h_r1_q46201
              have b_46202 := i32b r1_q46201
              exact tt_fX12_possible_L88 hN x1 x2 x3 r1_q46201 v17_q46188 ⟨by omega, by omega⟩ ⟨by omega, by omega⟩ ⟨by omega, by omega⟩ N r16_q46184.2.1 r16_q46184.2.2.1 r16_q46184.2.2.2 (0 : Int32) (0 : Int32) ⟨by omega, by omega⟩ ⟨by omega, by omega⟩ h_r16_q46184_3 (by omega)
set_option maxHeartbeats 4000000 in
theorem tt_fX12_lot {N : Nat} (hN : 3000000000 ≤ N) (I0 : Nat → Int32) (L0 : Int64) (M0 : Nat → Nat → Int32) (x1 : Int32) (x2 : Int32) (x3 : Int32) (k_I0 : KX12 I0 M0) : wq (fX12_lot N I0 L0 M0 x1 x2 x3) (fun r => (-1 ≤ r.1.toInt ∧ r.1.toInt ≤ 359) ∧ KX12 r.2.1 r.2.2.2 ∧ True) := by
  unfold fX12_lot
  have b_47169 := i32b x1
  have b_47170 := i32b x2
  refine wq_b (tt_fX12_isWheel hN I0 L0 M0 x1 x2 k_I0) (fun r10_q47171 h_r10_q47171 => ?_)
  obtain ⟨h_r10_q47171_0, h_r10_q47171_1, h_r10_q47171_2, h_r10_q47171_3, -⟩ := h_r10_q47171
  have t_47172 := KX12.i1 h_r10_q47171_3
  have t_47173 := KX12.i1 k_I0
  have l_0 := il_0
  refine wq_eq (fun hc_47174 => ?_) (fun hc_47175 => ?_)
  · exact wq_s ⟨(show -1 ≤ (0 : Int32).toInt ∧ (0 : Int32).toInt ≤ 359 from ⟨by omega, by omega⟩), h_r10_q47171_3, trivial⟩
  · have b_47176 := i32b x3
    refine wq_eq (fun hc_47177 => ?_) (fun hc_47178 => ?_)
    · unfold fX12_lot_J19
      unfold fX12_lot_J24
      have l_1 := il_1
      refine wq_b (tt_fX12_right hN r10_q47171.2.1 r10_q47171.2.2.1 r10_q47171.2.2.2 (1 : Int32) (1 : Int32) ⟨by omega, by omega⟩ h_r10_q47171_3) (fun r4_q47179 h_r4_q47179 => ?_)
      obtain ⟨h_r4_q47179_0, h_r4_q47179_1, h_r4_q47179_2, h_r4_q47179_3, -⟩ := h_r4_q47179
      have t_47180 := KX12.i1 h_r4_q47179_3
      refine wq_eq (fun hc_47181 => ?_) (fun hc_47182 => ?_)
      · exact wq_s ⟨(show -1 ≤ (0 : Int32).toInt ∧ (0 : Int32).toInt ≤ 359 from ⟨by omega, by omega⟩), h_r4_q47179_3, trivial⟩
      · have l_20 := il_20
        have t_47184 := ia_mul (20 : Int32) (20) il_20 x1 (by omega) (by omega)
        have t_47185 := ia_add ((20 : Int32) * x1) x2 (by omega) (by omega)
        refine wq_v (fun v5_q47183 h_v5_q47183 => ?_)
        have t_v5_q47183 := congrArg Int32.toInt h_v5_q47183
        refine wq_b (tt_fX12_at hN r4_q47179.2.1 r4_q47179.2.2.1 r4_q47179.2.2.2 v5_q47183 (0 : Int32) ⟨by omega, by omega⟩ ⟨by omega, by omega⟩ h_r4_q47179_3) (fun r6_q47186 h_r6_q47186 => ?_)
        obtain ⟨h_r6_q47186_0, h_r6_q47186_1, h_r6_q47186_2, -⟩ := h_r6_q47186
        refine wq_b (tt_fX12_at hN r4_q47179.2.1 r4_q47179.2.2.1 r4_q47179.2.2.2 v5_q47183 (1 : Int32) ⟨by omega, by omega⟩ ⟨by omega, by omega⟩ h_r4_q47179_3) (fun r7_q47187 h_r7_q47187 => ?_)
        obtain ⟨h_r7_q47187_0, h_r7_q47187_1, h_r7_q47187_2, -⟩ := h_r7_q47187
        have l_7 := il_7
        refine wq_b (tt_fX12_at hN r4_q47179.2.1 r4_q47179.2.2.1 r4_q47179.2.2.2 v5_q47183 (7 : Int32) ⟨by omega, by omega⟩ ⟨by omega, by omega⟩ h_r4_q47179_3) (fun r8_q47188 h_r8_q47188 => ?_)
        obtain ⟨h_r8_q47188_0, h_r8_q47188_1, h_r8_q47188_2, -⟩ := h_r8_q47188
        have l_m1 := il_m1
        refine wq_eq (fun hc_47189 => ?_) (fun hc_47190 => ?_)
        · exact wq_s ⟨(show -1 ≤ (-1 : Int32).toInt ∧ (-1 : Int32).toInt ≤ 359 from ⟨by omega, by omega⟩), h_r4_q47179_3, trivial⟩
        · refine wq_eq (fun hc_47191 => ?_) (fun hc_47192 => ?_)
          · exact wq_s ⟨(show -1 ≤ (-1 : Int32).toInt ∧ (-1 : Int32).toInt ≤ 359 from ⟨by omega, by omega⟩), h_r4_q47179_3, trivial⟩
          · refine wq_eq (fun hc_47193 => ?_) (fun hc_47194 => ?_)
            · exact wq_s ⟨(show -1 ≤ (-1 : Int32).toInt ∧ (-1 : Int32).toInt ≤ 359 from ⟨by omega, by omega⟩), h_r4_q47179_3, trivial⟩
            · refine wq_eq (fun hc_47195 => ?_) (fun hc_47196 => ?_)
              · exfalso; omega
              · unfold fX12_lot_J106
                have t_47198 := ia_sub r7_q47187 r6_q47186 (by omega) (by omega)
                have l_360 := il_360
                have t_47199 := ia_add (r7_q47187 - r6_q47186) (360 : Int32) (by omega) (by omega)
                have t_47200 := ia_rem ((r7_q47187 - r6_q47186) + (360 : Int32)) (360 : Int32) 360 il_360 (by decide) (by omega)
                refine wq_v (fun v3_q47197 h_v3_q47197 => ?_)
                have t_v3_q47197 := congrArg Int32.toInt h_v3_q47197
                have l_180 := il_180
                have t_47201 := ia_sub r8_q47188 r6_q47186 (by omega) (by omega)
                have t_47202 := ia_add (r8_q47188 - r6_q47186) (360 : Int32) (by omega) (by omega)
                have t_47203 := ia_rem ((r8_q47188 - r6_q47186) + (360 : Int32)) (360 : Int32) 360 il_360 (by decide) (by omega)
                refine wq_le (fun hc_47204 => ?_) (fun hc_47205 => ?_)
                · unfold fX12_lot_J165
                  refine wq_eq (fun hc_47206 => ?_) (fun hc_47207 => ?_)
                  · have t_47208 := ia_sub r8_q47188 v3_q47197 (by omega) (by omega)
                    have t_47209 := ia_add (r8_q47188 - v3_q47197) (360 : Int32) (by omega) (by omega)
                    have t_47210 := ia_rem ((r8_q47188 - v3_q47197) + (360 : Int32)) (360 : Int32) 360 il_360 (by decide) (by omega)
                    exact wq_s ⟨(show -1 ≤ (((r8_q47188 - v3_q47197) + (360 : Int32)) - ((((r8_q47188 - v3_q47197) + (360 : Int32)) / (360 : Int32)) * (360 : Int32))).toInt ∧ (((r8_q47188 - v3_q47197) + (360 : Int32)) - ((((r8_q47188 - v3_q47197) + (360 : Int32)) / (360 : Int32)) * (360 : Int32))).toInt ≤ 359 from ⟨by omega, by omega⟩), h_r4_q47179_3, trivial⟩
                  · exfalso; omega
                · unfold fX12_lot_J165
                  refine wq_eq (fun hc_47211 => ?_) (fun hc_47212 => ?_)
                  · have t_47213 := ia_add r8_q47188 v3_q47197 (by omega) (by omega)
                    have t_47214 := ia_rem (r8_q47188 + v3_q47197) (360 : Int32) 360 il_360 (by decide) (by omega)
                    exact wq_s ⟨(show -1 ≤ ((r8_q47188 + v3_q47197) - (((r8_q47188 + v3_q47197) / (360 : Int32)) * (360 : Int32))).toInt ∧ ((r8_q47188 + v3_q47197) - (((r8_q47188 + v3_q47197) / (360 : Int32)) * (360 : Int32))).toInt ≤ 359 from ⟨by omega, by omega⟩), h_r4_q47179_3, trivial⟩
                  · exfalso; omega
    · have l_1 := il_1
      refine wq_eq (fun hc_47215 => ?_) (fun hc_47216 => ?_)
      · unfold fX12_lot_J19
        unfold fX12_lot_J24
        refine wq_b (tt_fX12_right hN r10_q47171.2.1 r10_q47171.2.2.1 r10_q47171.2.2.2 (1 : Int32) (1 : Int32) ⟨by omega, by omega⟩ h_r10_q47171_3) (fun r4_q47217 h_r4_q47217 => ?_)
        obtain ⟨h_r4_q47217_0, h_r4_q47217_1, h_r4_q47217_2, h_r4_q47217_3, -⟩ := h_r4_q47217
        have t_47218 := KX12.i1 h_r4_q47217_3
        refine wq_eq (fun hc_47219 => ?_) (fun hc_47220 => ?_)
        · exact wq_s ⟨(show -1 ≤ (0 : Int32).toInt ∧ (0 : Int32).toInt ≤ 359 from ⟨by omega, by omega⟩), h_r4_q47217_3, trivial⟩
        · have l_20 := il_20
          have t_47222 := ia_mul (20 : Int32) (20) il_20 x1 (by omega) (by omega)
          have t_47223 := ia_add ((20 : Int32) * x1) x2 (by omega) (by omega)
          refine wq_v (fun v5_q47221 h_v5_q47221 => ?_)
          have t_v5_q47221 := congrArg Int32.toInt h_v5_q47221
          refine wq_b (tt_fX12_at hN r4_q47217.2.1 r4_q47217.2.2.1 r4_q47217.2.2.2 v5_q47221 (0 : Int32) ⟨by omega, by omega⟩ ⟨by omega, by omega⟩ h_r4_q47217_3) (fun r6_q47224 h_r6_q47224 => ?_)
          obtain ⟨h_r6_q47224_0, h_r6_q47224_1, h_r6_q47224_2, -⟩ := h_r6_q47224
          refine wq_b (tt_fX12_at hN r4_q47217.2.1 r4_q47217.2.2.1 r4_q47217.2.2.2 v5_q47221 (1 : Int32) ⟨by omega, by omega⟩ ⟨by omega, by omega⟩ h_r4_q47217_3) (fun r7_q47225 h_r7_q47225 => ?_)
          obtain ⟨h_r7_q47225_0, h_r7_q47225_1, h_r7_q47225_2, -⟩ := h_r7_q47225
          have l_7 := il_7
          refine wq_b (tt_fX12_at hN r4_q47217.2.1 r4_q47217.2.2.1 r4_q47217.2.2.2 v5_q47221 (7 : Int32) ⟨by omega, by omega⟩ ⟨by omega, by omega⟩ h_r4_q47217_3) (fun r8_q47226 h_r8_q47226 => ?_)
          obtain ⟨h_r8_q47226_0, h_r8_q47226_1, h_r8_q47226_2, -⟩ := h_r8_q47226
          have l_m1 := il_m1
          refine wq_eq (fun hc_47227 => ?_) (fun hc_47228 => ?_)
          · exact wq_s ⟨(show -1 ≤ (-1 : Int32).toInt ∧ (-1 : Int32).toInt ≤ 359 from ⟨by omega, by omega⟩), h_r4_q47217_3, trivial⟩
          · refine wq_eq (fun hc_47229 => ?_) (fun hc_47230 => ?_)
            · exact wq_s ⟨(show -1 ≤ (-1 : Int32).toInt ∧ (-1 : Int32).toInt ≤ 359 from ⟨by omega, by omega⟩), h_r4_q47217_3, trivial⟩
            · refine wq_eq (fun hc_47231 => ?_) (fun hc_47232 => ?_)
              · exact wq_s ⟨(show -1 ≤ (-1 : Int32).toInt ∧ (-1 : Int32).toInt ≤ 359 from ⟨by omega, by omega⟩), h_r4_q47217_3, trivial⟩
              · refine wq_eq (fun hc_47233 => ?_) (fun hc_47234 => ?_)
                · have l_8 := il_8
                  refine wq_b (tt_fX12_at hN r4_q47217.2.1 r4_q47217.2.2.1 r4_q47217.2.2.2 v5_q47221 (8 : Int32) ⟨by omega, by omega⟩ ⟨by omega, by omega⟩ h_r4_q47217_3) (fun r9b_q47235 h_r9b_q47235 => ?_)
                  obtain ⟨h_r9b_q47235_0, h_r9b_q47235_1, h_r9b_q47235_2, -⟩ := h_r9b_q47235
                  refine wq_eq (fun hc_47236 => ?_) (fun hc_47237 => ?_)
                  · exact wq_s ⟨(show -1 ≤ (-1 : Int32).toInt ∧ (-1 : Int32).toInt ≤ 359 from ⟨by omega, by omega⟩), h_r4_q47217_3, trivial⟩
                  · unfold fX12_lot_J106
                    have t_47239 := ia_sub r7_q47225 r6_q47224 (by omega) (by omega)
                    have l_360 := il_360
                    have t_47240 := ia_add (r7_q47225 - r6_q47224) (360 : Int32) (by omega) (by omega)
                    have t_47241 := ia_rem ((r7_q47225 - r6_q47224) + (360 : Int32)) (360 : Int32) 360 il_360 (by decide) (by omega)
                    refine wq_v (fun v3_q47238 h_v3_q47238 => ?_)
                    have t_v3_q47238 := congrArg Int32.toInt h_v3_q47238
                    have l_180 := il_180
                    have t_47242 := ia_sub r8_q47226 r6_q47224 (by omega) (by omega)
                    have t_47243 := ia_add (r8_q47226 - r6_q47224) (360 : Int32) (by omega) (by omega)
                    have t_47244 := ia_rem ((r8_q47226 - r6_q47224) + (360 : Int32)) (360 : Int32) 360 il_360 (by decide) (by omega)
                    refine wq_le (fun hc_47245 => ?_) (fun hc_47246 => ?_)
                    · unfold fX12_lot_J165
                      refine wq_eq (fun hc_47247 => ?_) (fun hc_47248 => ?_)
                      · exfalso; omega
                      · refine wq_b (tt_fX12_at hN r4_q47217.2.1 r4_q47217.2.2.1 r4_q47217.2.2.2 v5_q47221 (8 : Int32) ⟨by omega, by omega⟩ ⟨by omega, by omega⟩ h_r4_q47217_3) (fun r1_q47249 h_r1_q47249 => ?_)
                        obtain ⟨h_r1_q47249_0, h_r1_q47249_1, h_r1_q47249_2, -⟩ := h_r1_q47249
                        have t_47250 := ia_sub r8_q47226 v3_q47238 (by omega) (by omega)
                        have t_47251 := ia_add (r8_q47226 - v3_q47238) (360 : Int32) (by omega) (by omega)
                        have t_47252 := ia_rem ((r8_q47226 - v3_q47238) + (360 : Int32)) (360 : Int32) 360 il_360 (by decide) (by omega)
                        refine wq_b (tt_fX12_costOf hN r4_q47217.2.1 r4_q47217.2.2.1 r4_q47217.2.2.2 r1_q47249 (((r8_q47226 - v3_q47238) + (360 : Int32)) - ((((r8_q47226 - v3_q47238) + (360 : Int32)) / (360 : Int32)) * (360 : Int32))) ⟨by omega, by omega⟩ h_r4_q47217_3) (fun r2_q47253 h_r2_q47253 => ?_)
                        obtain ⟨h_r2_q47253_0, -⟩ := h_r2_q47253
                        exact wq_s ⟨(show -1 ≤ r2_q47253.toInt ∧ r2_q47253.toInt ≤ 359 from ⟨by omega, by omega⟩), h_r4_q47217_3, trivial⟩
                    · unfold fX12_lot_J165
                      refine wq_eq (fun hc_47254 => ?_) (fun hc_47255 => ?_)
                      · exfalso; omega
                      · refine wq_b (tt_fX12_at hN r4_q47217.2.1 r4_q47217.2.2.1 r4_q47217.2.2.2 v5_q47221 (8 : Int32) ⟨by omega, by omega⟩ ⟨by omega, by omega⟩ h_r4_q47217_3) (fun r1_q47256 h_r1_q47256 => ?_)
                        obtain ⟨h_r1_q47256_0, h_r1_q47256_1, h_r1_q47256_2, -⟩ := h_r1_q47256
                        have t_47257 := ia_add r8_q47226 v3_q47238 (by omega) (by omega)
                        have t_47258 := ia_rem (r8_q47226 + v3_q47238) (360 : Int32) 360 il_360 (by decide) (by omega)
                        refine wq_b (tt_fX12_costOf hN r4_q47217.2.1 r4_q47217.2.2.1 r4_q47217.2.2.2 r1_q47256 ((r8_q47226 + v3_q47238) - (((r8_q47226 + v3_q47238) / (360 : Int32)) * (360 : Int32))) ⟨by omega, by omega⟩ h_r4_q47217_3) (fun r2_q47259 h_r2_q47259 => ?_)
                        obtain ⟨h_r2_q47259_0, -⟩ := h_r2_q47259
                        exact wq_s ⟨(show -1 ≤ r2_q47259.toInt ∧ r2_q47259.toInt ≤ 359 from ⟨by omega, by omega⟩), h_r4_q47217_3, trivial⟩
                · exfalso; omega
      · unfold fX12_lot_J24
        refine wq_b (tt_fX12_right hN r10_q47171.2.1 r10_q47171.2.2.1 r10_q47171.2.2.2 (0 : Int32) (1 : Int32) ⟨by omega, by omega⟩ h_r10_q47171_3) (fun r4_q47260 h_r4_q47260 => ?_)
        obtain ⟨h_r4_q47260_0, h_r4_q47260_1, h_r4_q47260_2, h_r4_q47260_3, -⟩ := h_r4_q47260
        have t_47261 := KX12.i1 h_r4_q47260_3
        refine wq_eq (fun hc_47262 => ?_) (fun hc_47263 => ?_)
        · exact wq_s ⟨(show -1 ≤ (0 : Int32).toInt ∧ (0 : Int32).toInt ≤ 359 from ⟨by omega, by omega⟩), h_r4_q47260_3, trivial⟩
        · have l_20 := il_20
          have t_47265 := ia_mul (20 : Int32) (20) il_20 x1 (by omega) (by omega)
          have t_47266 := ia_add ((20 : Int32) * x1) x2 (by omega) (by omega)
          refine wq_v (fun v5_q47264 h_v5_q47264 => ?_)
          have t_v5_q47264 := congrArg Int32.toInt h_v5_q47264
          refine wq_b (tt_fX12_at hN r4_q47260.2.1 r4_q47260.2.2.1 r4_q47260.2.2.2 v5_q47264 (0 : Int32) ⟨by omega, by omega⟩ ⟨by omega, by omega⟩ h_r4_q47260_3) (fun r6_q47267 h_r6_q47267 => ?_)
          obtain ⟨h_r6_q47267_0, h_r6_q47267_1, h_r6_q47267_2, -⟩ := h_r6_q47267
          refine wq_b (tt_fX12_at hN r4_q47260.2.1 r4_q47260.2.2.1 r4_q47260.2.2.2 v5_q47264 (1 : Int32) ⟨by omega, by omega⟩ ⟨by omega, by omega⟩ h_r4_q47260_3) (fun r7_q47268 h_r7_q47268 => ?_)
          obtain ⟨h_r7_q47268_0, h_r7_q47268_1, h_r7_q47268_2, -⟩ := h_r7_q47268
          have l_7 := il_7
          refine wq_b (tt_fX12_at hN r4_q47260.2.1 r4_q47260.2.2.1 r4_q47260.2.2.2 v5_q47264 (7 : Int32) ⟨by omega, by omega⟩ ⟨by omega, by omega⟩ h_r4_q47260_3) (fun r8_q47269 h_r8_q47269 => ?_)
          obtain ⟨h_r8_q47269_0, h_r8_q47269_1, h_r8_q47269_2, -⟩ := h_r8_q47269
          have l_m1 := il_m1
          refine wq_eq (fun hc_47270 => ?_) (fun hc_47271 => ?_)
          · exact wq_s ⟨(show -1 ≤ (-1 : Int32).toInt ∧ (-1 : Int32).toInt ≤ 359 from ⟨by omega, by omega⟩), h_r4_q47260_3, trivial⟩
          · refine wq_eq (fun hc_47272 => ?_) (fun hc_47273 => ?_)
            · exact wq_s ⟨(show -1 ≤ (-1 : Int32).toInt ∧ (-1 : Int32).toInt ≤ 359 from ⟨by omega, by omega⟩), h_r4_q47260_3, trivial⟩
            · refine wq_eq (fun hc_47274 => ?_) (fun hc_47275 => ?_)
              · exact wq_s ⟨(show -1 ≤ (-1 : Int32).toInt ∧ (-1 : Int32).toInt ≤ 359 from ⟨by omega, by omega⟩), h_r4_q47260_3, trivial⟩
              · refine wq_eq (fun hc_47276 => ?_) (fun hc_47277 => ?_)
                · have l_8 := il_8
                  refine wq_b (tt_fX12_at hN r4_q47260.2.1 r4_q47260.2.2.1 r4_q47260.2.2.2 v5_q47264 (8 : Int32) ⟨by omega, by omega⟩ ⟨by omega, by omega⟩ h_r4_q47260_3) (fun r9b_q47278 h_r9b_q47278 => ?_)
                  obtain ⟨h_r9b_q47278_0, h_r9b_q47278_1, h_r9b_q47278_2, -⟩ := h_r9b_q47278
                  refine wq_eq (fun hc_47279 => ?_) (fun hc_47280 => ?_)
                  · exact wq_s ⟨(show -1 ≤ (-1 : Int32).toInt ∧ (-1 : Int32).toInt ≤ 359 from ⟨by omega, by omega⟩), h_r4_q47260_3, trivial⟩
                  · unfold fX12_lot_J106
                    have t_47282 := ia_sub r7_q47268 r6_q47267 (by omega) (by omega)
                    have l_360 := il_360
                    have t_47283 := ia_add (r7_q47268 - r6_q47267) (360 : Int32) (by omega) (by omega)
                    have t_47284 := ia_rem ((r7_q47268 - r6_q47267) + (360 : Int32)) (360 : Int32) 360 il_360 (by decide) (by omega)
                    refine wq_v (fun v3_q47281 h_v3_q47281 => ?_)
                    have t_v3_q47281 := congrArg Int32.toInt h_v3_q47281
                    have l_180 := il_180
                    have t_47285 := ia_sub r8_q47269 r6_q47267 (by omega) (by omega)
                    have t_47286 := ia_add (r8_q47269 - r6_q47267) (360 : Int32) (by omega) (by omega)
                    have t_47287 := ia_rem ((r8_q47269 - r6_q47267) + (360 : Int32)) (360 : Int32) 360 il_360 (by decide) (by omega)
                    refine wq_le (fun hc_47288 => ?_) (fun hc_47289 => ?_)
                    · unfold fX12_lot_J165
                      refine wq_eq (fun hc_47290 => ?_) (fun hc_47291 => ?_)
                      · exfalso; omega
                      · refine wq_b (tt_fX12_at hN r4_q47260.2.1 r4_q47260.2.2.1 r4_q47260.2.2.2 v5_q47264 (8 : Int32) ⟨by omega, by omega⟩ ⟨by omega, by omega⟩ h_r4_q47260_3) (fun r1_q47292 h_r1_q47292 => ?_)
                        obtain ⟨h_r1_q47292_0, h_r1_q47292_1, h_r1_q47292_2, -⟩ := h_r1_q47292
                        have t_47293 := ia_sub r8_q47269 v3_q47281 (by omega) (by omega)
                        have t_47294 := ia_add (r8_q47269 - v3_q47281) (360 : Int32) (by omega) (by omega)
                        have t_47295 := ia_rem ((r8_q47269 - v3_q47281) + (360 : Int32)) (360 : Int32) 360 il_360 (by decide) (by omega)
                        refine wq_b (tt_fX12_costOf hN r4_q47260.2.1 r4_q47260.2.2.1 r4_q47260.2.2.2 r1_q47292 (((r8_q47269 - v3_q47281) + (360 : Int32)) - ((((r8_q47269 - v3_q47281) + (360 : Int32)) / (360 : Int32)) * (360 : Int32))) ⟨by omega, by omega⟩ h_r4_q47260_3) (fun r2_q47296 h_r2_q47296 => ?_)
                        obtain ⟨h_r2_q47296_0, -⟩ := h_r2_q47296
                        exact wq_s ⟨(show -1 ≤ r2_q47296.toInt ∧ r2_q47296.toInt ≤ 359 from ⟨by omega, by omega⟩), h_r4_q47260_3, trivial⟩
                    · unfold fX12_lot_J165
                      refine wq_eq (fun hc_47297 => ?_) (fun hc_47298 => ?_)
                      · exfalso; omega
                      · refine wq_b (tt_fX12_at hN r4_q47260.2.1 r4_q47260.2.2.1 r4_q47260.2.2.2 v5_q47264 (8 : Int32) ⟨by omega, by omega⟩ ⟨by omega, by omega⟩ h_r4_q47260_3) (fun r1_q47299 h_r1_q47299 => ?_)
                        obtain ⟨h_r1_q47299_0, h_r1_q47299_1, h_r1_q47299_2, -⟩ := h_r1_q47299
                        have t_47300 := ia_add r8_q47269 v3_q47281 (by omega) (by omega)
                        have t_47301 := ia_rem (r8_q47269 + v3_q47281) (360 : Int32) 360 il_360 (by decide) (by omega)
                        refine wq_b (tt_fX12_costOf hN r4_q47260.2.1 r4_q47260.2.2.1 r4_q47260.2.2.2 r1_q47299 ((r8_q47269 + v3_q47281) - (((r8_q47269 + v3_q47281) / (360 : Int32)) * (360 : Int32))) ⟨by omega, by omega⟩ h_r4_q47260_3) (fun r2_q47302 h_r2_q47302 => ?_)
                        obtain ⟨h_r2_q47302_0, -⟩ := h_r2_q47302
                        exact wq_s ⟨(show -1 ≤ r2_q47302.toInt ∧ r2_q47302.toInt ≤ 359 from ⟨by omega, by omega⟩), h_r4_q47260_3, trivial⟩
                · unfold fX12_lot_J106
                  have t_47304 := ia_sub r7_q47268 r6_q47267 (by omega) (by omega)
                  have l_360 := il_360
                  have t_47305 := ia_add (r7_q47268 - r6_q47267) (360 : Int32) (by omega) (by omega)
                  have t_47306 := ia_rem ((r7_q47268 - r6_q47267) + (360 : Int32)) (360 : Int32) 360 il_360 (by decide) (by omega)
                  refine wq_v (fun v3_q47303 h_v3_q47303 => ?_)
                  have t_v3_q47303 := congrArg Int32.toInt h_v3_q47303
                  have l_180 := il_180
                  have t_47307 := ia_sub r8_q47269 r6_q47267 (by omega) (by omega)
                  have t_47308 := ia_add (r8_q47269 - r6_q47267) (360 : Int32) (by omega) (by omega)
                  have t_47309 := ia_rem ((r8_q47269 - r6_q47267) + (360 : Int32)) (360 : Int32) 360 il_360 (by decide) (by omega)
                  refine wq_le (fun hc_47310 => ?_) (fun hc_47311 => ?_)
                  · unfold fX12_lot_J165
                    refine wq_eq (fun hc_47312 => ?_) (fun hc_47313 => ?_)
                    · have t_47314 := ia_sub r8_q47269 v3_q47303 (by omega) (by omega)
                      have t_47315 := ia_add (r8_q47269 - v3_q47303) (360 : Int32) (by omega) (by omega)
                      have t_47316 := ia_rem ((r8_q47269 - v3_q47303) + (360 : Int32)) (360 : Int32) 360 il_360 (by decide) (by omega)
                      exact wq_s ⟨(show -1 ≤ (((r8_q47269 - v3_q47303) + (360 : Int32)) - ((((r8_q47269 - v3_q47303) + (360 : Int32)) / (360 : Int32)) * (360 : Int32))).toInt ∧ (((r8_q47269 - v3_q47303) + (360 : Int32)) - ((((r8_q47269 - v3_q47303) + (360 : Int32)) / (360 : Int32)) * (360 : Int32))).toInt ≤ 359 from ⟨by omega, by omega⟩), h_r4_q47260_3, trivial⟩
                    · have l_8 := il_8
                      refine wq_b (tt_fX12_at hN r4_q47260.2.1 r4_q47260.2.2.1 r4_q47260.2.2.2 v5_q47264 (8 : Int32) ⟨by omega, by omega⟩ ⟨by omega, by omega⟩ h_r4_q47260_3) (fun r1_q47317 h_r1_q47317 => ?_)
                      obtain ⟨h_r1_q47317_0, h_r1_q47317_1, h_r1_q47317_2, -⟩ := h_r1_q47317
                      have t_47318 := ia_sub r8_q47269 v3_q47303 (by omega) (by omega)
                      have t_47319 := ia_add (r8_q47269 - v3_q47303) (360 : Int32) (by omega) (by omega)
                      have t_47320 := ia_rem ((r8_q47269 - v3_q47303) + (360 : Int32)) (360 : Int32) 360 il_360 (by decide) (by omega)
                      refine wq_b (tt_fX12_costOf hN r4_q47260.2.1 r4_q47260.2.2.1 r4_q47260.2.2.2 r1_q47317 (((r8_q47269 - v3_q47303) + (360 : Int32)) - ((((r8_q47269 - v3_q47303) + (360 : Int32)) / (360 : Int32)) * (360 : Int32))) ⟨by omega, by omega⟩ h_r4_q47260_3) (fun r2_q47321 h_r2_q47321 => ?_)
                      obtain ⟨h_r2_q47321_0, -⟩ := h_r2_q47321
                      exact wq_s ⟨(show -1 ≤ r2_q47321.toInt ∧ r2_q47321.toInt ≤ 359 from ⟨by omega, by omega⟩), h_r4_q47260_3, trivial⟩
                  · unfold fX12_lot_J165
                    refine wq_eq (fun hc_47322 => ?_) (fun hc_47323 => ?_)
                    · have t_47324 := ia_add r8_q47269 v3_q47303 (by omega) (by omega)
                      have t_47325 := ia_rem (r8_q47269 + v3_q47303) (360 : Int32) 360 il_360 (by decide) (by omega)
                      exact wq_s ⟨(show -1 ≤ ((r8_q47269 + v3_q47303) - (((r8_q47269 + v3_q47303) / (360 : Int32)) * (360 : Int32))).toInt ∧ ((r8_q47269 + v3_q47303) - (((r8_q47269 + v3_q47303) / (360 : Int32)) * (360 : Int32))).toInt ≤ 359 from ⟨by omega, by omega⟩), h_r4_q47260_3, trivial⟩
                    · have l_8 := il_8
                      refine wq_b (tt_fX12_at hN r4_q47260.2.1 r4_q47260.2.2.1 r4_q47260.2.2.2 v5_q47264 (8 : Int32) ⟨by omega, by omega⟩ ⟨by omega, by omega⟩ h_r4_q47260_3) (fun r1_q47326 h_r1_q47326 => ?_)
                      obtain ⟨h_r1_q47326_0, h_r1_q47326_1, h_r1_q47326_2, -⟩ := h_r1_q47326
                      have t_47327 := ia_add r8_q47269 v3_q47303 (by omega) (by omega)
                      have t_47328 := ia_rem (r8_q47269 + v3_q47303) (360 : Int32) 360 il_360 (by decide) (by omega)
                      refine wq_b (tt_fX12_costOf hN r4_q47260.2.1 r4_q47260.2.2.1 r4_q47260.2.2.2 r1_q47326 ((r8_q47269 + v3_q47303) - (((r8_q47269 + v3_q47303) / (360 : Int32)) * (360 : Int32))) ⟨by omega, by omega⟩ h_r4_q47260_3) (fun r2_q47329 h_r2_q47329 => ?_)
                      obtain ⟨h_r2_q47329_0, -⟩ := h_r2_q47329
                      exact wq_s ⟨(show -1 ≤ r2_q47329.toInt ∧ r2_q47329.toInt ≤ 359 from ⟨by omega, by omega⟩), h_r4_q47260_3, trivial⟩
set_option maxHeartbeats 4000000 in
theorem tt_fX12_priceOf {N : Nat} (hN : 3000000000 ≤ N) (I0 : Nat → Int32) (L0 : Int64) (M0 : Nat → Nat → Int32) (x1 : Int32) (x2 : Int32) (x3 : Int32) (h_x1 : -1 ≤ x1.toInt ∧ x1.toInt ≤ 389) (h_x2 : -1 ≤ x2.toInt ∧ x2.toInt ≤ 389) (k_I0 : KX12 I0 M0) : wq (fX12_priceOf N I0 L0 M0 x1 x2 x3) (fun r => (0 ≤ r.toInt ∧ r.toInt ≤ 4) ∧ True) := by
  unfold fX12_priceOf
  refine wq_eq (fun hc_47402 => ?_) (fun hc_47403 => ?_)
  · have l_0 := il_0
    exact wq_s ⟨(show 0 ≤ (0 : Int32).toInt ∧ (0 : Int32).toInt ≤ 4 from ⟨by omega, by omega⟩), trivial⟩
  · have l_m1 := il_m1
    refine wq_eq (fun hc_47404 => ?_) (fun hc_47405 => ?_)
    · have l_1 := il_1
      exact wq_s ⟨(show 0 ≤ (1 : Int32).toInt ∧ (1 : Int32).toInt ≤ 4 from ⟨by omega, by omega⟩), trivial⟩
    · refine wq_eq (fun hc_47406 => ?_) (fun hc_47407 => ?_)
      · have l_4 := il_4
        exact wq_s ⟨(show 0 ≤ (4 : Int32).toInt ∧ (4 : Int32).toInt ≤ 4 from ⟨by omega, by omega⟩), trivial⟩
      · have b_47408 := i32b x3
        have l_21 := il_21
        refine wq_eq (fun hc_47409 => ?_) (fun hc_47410 => ?_)
        · have l_3 := il_3
          exact wq_s ⟨(show 0 ≤ (3 : Int32).toInt ∧ (3 : Int32).toInt ≤ 4 from ⟨by omega, by omega⟩), trivial⟩
        · refine wq_b (tt_fX12_costOf hN I0 L0 M0 x2 x1 ⟨by omega, by omega⟩ k_I0) (fun r1_q47411 h_r1_q47411 => ?_)
          obtain ⟨h_r1_q47411_0, -⟩ := h_r1_q47411
          have l_1 := il_1
          refine wq_eq (fun hc_47412 => ?_) (fun hc_47413 => ?_)
          · exact wq_s ⟨(show 0 ≤ (1 : Int32).toInt ∧ (1 : Int32).toInt ≤ 4 from ⟨by omega, by omega⟩), trivial⟩
          · have l_3 := il_3
            exact wq_s ⟨(show 0 ≤ (3 : Int32).toInt ∧ (3 : Int32).toInt ≤ 4 from ⟨by omega, by omega⟩), trivial⟩
set_option maxHeartbeats 4000000 in
theorem tt_fX12_priceAll_L15 {N : Nat} (hN : 3000000000 ≤ N) (I0 : Nat → Int32) (L0 : Int64) (M0 : Nat → Nat → Int32) (x1 : Int32) (x2 : Int32) (y5_4 : Int32) (g5 : Int32 → Int32 → Option (Int32)) (h_x1 : 0 ≤ x1.toInt ∧ x1.toInt ≤ 5) (h_x2 : 0 ≤ x2.toInt ∧ x2.toInt ≤ 5) (h_y5_4 : 0 ≤ y5_4.toInt ∧ y5_4.toInt ≤ 19) (k_I0 : KX12 I0 M0) (hg5 : ∀ (q0 : Int32) (q1 : Int32), (0 ≤ q1.toInt ∧ q1.toInt ≤ 20) → (y5_4.toInt < q1.toInt) → wq (g5 q0 q1) (fun r => True)) : ∀ (fu : Nat) (y15_3 : Int32) (y15_5 : Int32), (0 ≤ y15_5.toInt ∧ y15_5.toInt ≤ 22) → (22 - y15_5.toInt) < (fu : Int) → wq (fX12_priceAll_L15 N I0 L0 M0 x1 x2 y5_4 g5 fu y15_3 y15_5) (fun r => True) := by
  intro fu
  induction fu with
  | zero => intro y15_3 y15_5 h_y15_5 hm; exfalso; omega
  | succ fu ih =>
    intro y15_3 y15_5 h_y15_5 hm
    rw [fX12_priceAll_L15.eq_2]
    have l_22 := il_22
    refine wq_le (fun hc_47797 => ?_) (fun hc_47798 => ?_)
    · have l_1 := il_1
      have t_47800 := ia_add y5_4 (1 : Int32) (by omega) (by omega)
      refine wq_v (fun v1_q47799 h_v1_q47799 => ?_)
      have t_v1_q47799 := congrArg Int32.toInt h_v1_q47799
      have b_47801 := i32b y15_3
      exact hg5 y15_3 v1_q47799 ⟨by omega, by omega⟩ (by omega)
    · have l_20 := il_20
      have t_47802 := ia_mul (20 : Int32) (20) il_20 x1 (by omega) (by omega)
      have t_47803 := ia_add ((20 : Int32) * x1) y5_4 (by omega) (by omega)
      refine wq_b (tt_fX12_at hN I0 L0 M0 (((20 : Int32) * x1) + y5_4) y15_5 ⟨by omega, by omega⟩ ⟨by omega, by omega⟩ k_I0) (fun r2_q47804 h_r2_q47804 => ?_)
      obtain ⟨h_r2_q47804_0, h_r2_q47804_1, h_r2_q47804_2, -⟩ := h_r2_q47804
      have t_47805 := ia_mul (20 : Int32) (20) il_20 x2 (by omega) (by omega)
      have t_47806 := ia_add ((20 : Int32) * x2) y5_4 (by omega) (by omega)
      refine wq_b (tt_fX12_at hN I0 L0 M0 (((20 : Int32) * x2) + y5_4) y15_5 ⟨by omega, by omega⟩ ⟨by omega, by omega⟩ k_I0) (fun r3_q47807 h_r3_q47807 => ?_)
      obtain ⟨h_r3_q47807_0, h_r3_q47807_1, h_r3_q47807_2, -⟩ := h_r3_q47807
      refine wq_b (tt_fX12_priceOf hN I0 L0 M0 r2_q47804 r3_q47807 y15_5 ⟨by omega, by omega⟩ ⟨by omega, by omega⟩ k_I0) (fun r4_q47808 h_r4_q47808 => ?_)
      obtain ⟨h_r4_q47808_0, -⟩ := h_r4_q47808
      have b_47810 := i32b y15_3
      refine wq_v (fun v5_q47809 h_v5_q47809 => ?_)
      have t_v5_q47809 := congrArg Int32.toInt h_v5_q47809
      have l_1 := il_1
      have t_47812 := ia_add y15_5 (1 : Int32) (by omega) (by omega)
      refine wq_v (fun v6_q47811 h_v6_q47811 => ?_)
      have t_v6_q47811 := congrArg Int32.toInt h_v6_q47811
      have b_47813 := i32b v5_q47809
      exact ih v5_q47809 v6_q47811 ⟨by omega, by omega⟩ (by omega)
set_option maxHeartbeats 4000000 in
theorem tt_fX12_priceAll_L5 {N : Nat} (hN : 3000000000 ≤ N) (I0 : Nat → Int32) (L0 : Int64) (M0 : Nat → Nat → Int32) (x1 : Int32) (x2 : Int32) (h_x1 : 0 ≤ x1.toInt ∧ x1.toInt ≤ 5) (h_x2 : 0 ≤ x2.toInt ∧ x2.toInt ≤ 5) (k_I0 : KX12 I0 M0)  : ∀ (fu : Nat) (y5_3 : Int32) (y5_4 : Int32), (0 ≤ y5_4.toInt ∧ y5_4.toInt ≤ 20) → (20 - y5_4.toInt) < (fu : Int) → wq (fX12_priceAll_L5 N I0 L0 M0 x1 x2 fu y5_3 y5_4) (fun r => True) := by
  intro fu
  induction fu with
  | zero => intro y5_3 y5_4 h_y5_4 hm; exfalso; omega
  | succ fu ih =>
    intro y5_3 y5_4 h_y5_4 hm
    rw [fX12_priceAll_L5.eq_2]
    have l_20 := il_20
    refine wq_le (fun hc_47814 => ?_) (fun hc_47815 => ?_)
    · have b_47816 := i32b y5_3
      exact wq_s trivial
    · have b_47817 := i32b y5_3
      have l_0 := il_0
      exact tt_fX12_priceAll_L15 hN I0 L0 M0 x1 x2 y5_4 _ ⟨by omega, by omega⟩ ⟨by omega, by omega⟩ ⟨by omega, by omega⟩ k_I0 (fun q0 q1 hq0 hq1 => ih q0 q1 hq0 (by omega)) N y5_3 (0 : Int32) ⟨by omega, by omega⟩ (by omega)
set_option maxHeartbeats 4000000 in
theorem tt_fX12_priceAll {N : Nat} (hN : 3000000000 ≤ N) (I0 : Nat → Int32) (L0 : Int64) (M0 : Nat → Nat → Int32) (x1 : Int32) (x2 : Int32) (h_x1 : 0 ≤ x1.toInt ∧ x1.toInt ≤ 5) (h_x2 : 0 ≤ x2.toInt ∧ x2.toInt ≤ 5) (k_I0 : KX12 I0 M0) : wq (fX12_priceAll N I0 L0 M0 x1 x2) (fun r => True) := by
  unfold fX12_priceAll
  have l_0 := il_0
  exact tt_fX12_priceAll_L5 hN I0 L0 M0 x1 x2 ⟨by omega, by omega⟩ ⟨by omega, by omega⟩ k_I0 N (0 : Int32) (0 : Int32) ⟨by omega, by omega⟩ (by omega)
set_option maxHeartbeats 4000000 in
theorem tt_fX12_price {N : Nat} (hN : 3000000000 ≤ N) (I0 : Nat → Int32) (L0 : Int64) (M0 : Nat → Nat → Int32) (x1 : Int32) (x2 : Int32) (k_I0 : KX12 I0 M0) : wq (fX12_price N I0 L0 M0 x1 x2) (fun r => KX12 r.2.1 r.2.2.2 ∧ True) := by
  unfold fX12_price
  refine wq_v (fun I0_1_q47908 h_I0_1_q47908 => ?_)
  have k_I0_1_q47908 : KX12 I0_1_q47908 M0 := by rw [h_I0_1_q47908]; exact KX12.si0 k_I0
  have b_47909 := i32b x1
  refine wq_b (tt_fX12_isBook hN I0_1_q47908 L0 M0 x1 k_I0_1_q47908) (fun r2_q47910 h_r2_q47910 => ?_)
  obtain ⟨h_r2_q47910_0, h_r2_q47910_1, h_r2_q47910_2, h_r2_q47910_3, -⟩ := h_r2_q47910
  have t_47911 := KX12.i1 h_r2_q47910_3
  have t_47912 := KX12.i1 k_I0
  have t_47913 : (I0_1_q47908 1).toInt = (I0 1).toInt := by rw [h_I0_1_q47908]; rfl
  have l_0 := il_0
  refine wq_eq (fun hc_47914 => ?_) (fun hc_47915 => ?_)
  · exact wq_s ⟨h_r2_q47910_3, trivial⟩
  · have b_47916 := i32b x2
    refine wq_b (tt_fX12_isBook hN r2_q47910.2.1 r2_q47910.2.2.1 r2_q47910.2.2.2 x2 h_r2_q47910_3) (fun r3_q47917 h_r3_q47917 => ?_)
    obtain ⟨h_r3_q47917_0, h_r3_q47917_1, h_r3_q47917_2, h_r3_q47917_3, -⟩ := h_r3_q47917
    have t_47918 := KX12.i1 h_r3_q47917_3
    refine wq_eq (fun hc_47919 => ?_) (fun hc_47920 => ?_)
    · exact wq_s ⟨h_r3_q47917_3, trivial⟩
    · refine wq_b (tt_fX12_priceAll hN r3_q47917.2.1 r3_q47917.2.2.1 r3_q47917.2.2.2 x1 x2 ⟨by omega, by omega⟩ ⟨by omega, by omega⟩ h_r3_q47917_3) (fun r4_q47921 h_r4_q47921 => ?_)
      obtain ⟨-⟩ := h_r4_q47921
      have b_47922 := i32b r4_q47921
      exact wq_s ⟨h_r3_q47917_3, trivial⟩
set_option maxHeartbeats 4000000 in
theorem tt_fX12_isTree_L76 {N : Nat} (hN : 3000000000 ≤ N) (I0 : Nat → Int32) (L0 : Int64) (M0 : Nat → Nat → Int32) (y71_1 : Int32) (y71_2 : Int32) (g4 : Int32 → Int32 → Option (Int32)) (h_y71_2 : 0 ≤ y71_2.toInt ∧ y71_2.toInt ≤ 5) (k_I0 : KX12 I0 M0) (hg4 : ∀ (q0 : Int32) (q1 : Int32), (0 ≤ q1.toInt ∧ q1.toInt ≤ 6) → (y71_2.toInt < q1.toInt) → wq (g4 q0 q1) (fun r => (0 ≤ r.toInt ∧ r.toInt ≤ 1) ∧ True)) : ∀ (fu : Nat) (y76_3 : Int32) (y76_4 : Int32), (0 ≤ y76_3.toInt ∧ y76_3.toInt ≤ 5) → (0 ≤ y76_4.toInt ∧ y76_4.toInt ≤ 6) → (6 - y76_4.toInt) < (fu : Int) → wq (fX12_isTree_L76 N I0 L0 M0 y71_1 y71_2 g4 fu y76_3 y76_4) (fun r => (0 ≤ r.toInt ∧ r.toInt ≤ 1) ∧ True) := by
  intro fu
  induction fu with
  | zero => intro y76_3 y76_4 h_y76_3 h_y76_4 hm; exfalso; omega
  | succ fu ih =>
    intro y76_3 y76_4 h_y76_3 h_y76_4 hm
    rw [fX12_isTree_L76.eq_2]
    refine wq_in (n := 6) ⟨by omega, by omega⟩ ?_
    have t_48417 := KX12.m24 k_I0 y76_3.toNatClampNeg
    have l_m1 := il_m1
    refine wq_eq (fun hc_48418 => ?_) (fun hc_48419 => ?_)
    · unfold fX12_isTree_J114
      refine wq_in (n := 6) ⟨by omega, by omega⟩ ?_
      refine wq_eq (fun hc_48420 => ?_) (fun hc_48421 => ?_)
      · have l_1 := il_1
        have t_48423 := ia_add y71_2 (1 : Int32) (by omega) (by omega)
        refine wq_v (fun v1_q48422 h_v1_q48422 => ?_)
        have t_v1_q48422 := congrArg Int32.toInt h_v1_q48422
        have b_48424 := i32b y71_1
        exact hg4 y71_1 v1_q48422 ⟨by omega, by omega⟩ (by omega)
      · exfalso; omega
    · have l_6 := il_6
      refine wq_le (fun hc_48425 => ?_) (fun hc_48426 => ?_)
      · unfold fX12_isTree_J114
        refine wq_in (n := 6) ⟨by omega, by omega⟩ ?_
        refine wq_eq (fun hc_48427 => ?_) (fun hc_48428 => ?_)
        · exfalso; omega
        · have l_0 := il_0
          exact wq_s ⟨(show 0 ≤ (0 : Int32).toInt ∧ (0 : Int32).toInt ≤ 1 from ⟨by omega, by omega⟩), trivial⟩
      · refine wq_in (n := 6) ⟨by omega, by omega⟩ ?_
        refine wq_v (fun v2_q48429 h_v2_q48429 => ?_)
        have t_v2_q48429 := congrArg Int32.toInt h_v2_q48429
        have l_1 := il_1
        have t_48431 := ia_add y76_4 (1 : Int32) (by omega) (by omega)
        refine wq_v (fun v3_q48430 h_v3_q48430 => ?_)
        have t_v3_q48430 := congrArg Int32.toInt h_v3_q48430
        refine wq_in (n := 6) ⟨by omega, by omega⟩ ?_
        have l_0 := il_0
        refine wq_eq (fun hc_48432 => ?_) (fun hc_48433 => ?_)
        · exact wq_s ⟨(show 0 ≤ (0 : Int32).toInt ∧ (0 : Int32).toInt ≤ 1 from ⟨by omega, by omega⟩), trivial⟩
        · exact ih v2_q48429 v3_q48430 ⟨by omega, by omega⟩ ⟨by omega, by omega⟩ (by omega)
set_option maxHeartbeats 4000000 in
theorem tt_fX12_isTree_L4 {N : Nat} (hN : 3000000000 ≤ N) (I0 : Nat → Int32) (L0 : Int64) (M0 : Nat → Nat → Int32) (k_I0 : KX12 I0 M0)  : ∀ (fu : Nat) (y4_1 : Int32) (y4_2 : Int32), (0 ≤ y4_2.toInt ∧ y4_2.toInt ≤ 6) → (6 - y4_2.toInt) < (fu : Int) → wq (fX12_isTree_L4 N I0 L0 M0 fu y4_1 y4_2) (fun r => (0 ≤ r.toInt ∧ r.toInt ≤ 1) ∧ True) := by
  intro fu
  induction fu with
  | zero => intro y4_1 y4_2 h_y4_2 hm; exfalso; omega
  | succ fu ih =>
    intro y4_1 y4_2 h_y4_2 hm
    rw [fX12_isTree_L4.eq_2]
    have l_6 := il_6
    refine wq_le (fun hc_48434 => ?_) (fun hc_48435 => ?_)
    · have b_48436 := i32b y4_1
      have l_1 := il_1
      refine wq_eq (fun hc_48437 => ?_) (fun hc_48438 => ?_)
      · exact wq_s ⟨(show 0 ≤ (1 : Int32).toInt ∧ (1 : Int32).toInt ≤ 1 from ⟨by omega, by omega⟩), trivial⟩
      · have l_0 := il_0
        exact wq_s ⟨(show 0 ≤ (0 : Int32).toInt ∧ (0 : Int32).toInt ≤ 1 from ⟨by omega, by omega⟩), trivial⟩
    · refine wq_in (n := 6) ⟨by omega, by omega⟩ ?_
      have l_0 := il_0
      refine wq_eq (fun hc_48439 => ?_) (fun hc_48440 => ?_)
      · have l_1 := il_1
        have t_48442 := ia_add y4_2 (1 : Int32) (by omega) (by omega)
        refine wq_v (fun v5_q48441 h_v5_q48441 => ?_)
        have t_v5_q48441 := congrArg Int32.toInt h_v5_q48441
        have b_48443 := i32b y4_1
        exact ih y4_1 v5_q48441 ⟨by omega, by omega⟩ (by omega)
      · refine wq_in (n := 6) ⟨by omega, by omega⟩ ?_
        have t_48444 := KX12.m24 k_I0 y4_2.toNatClampNeg
        have l_m1 := il_m1
        refine wq_eq (fun hc_48445 => ?_) (fun hc_48446 => ?_)
        · have b_48448 := i32b y4_1
          have l_1 := il_1
          refine wq_v (fun v4_q48447 h_v4_q48447 => ?_)
          have t_v4_q48447 := congrArg Int32.toInt h_v4_q48447
          unfold fX12_isTree_J35
          refine wq_in (n := 6) ⟨by omega, by omega⟩ ?_
          refine wq_eq (fun hc_48449 => ?_) (fun hc_48450 => ?_)
          · unfold fX12_isTree_J71
            have b_48451 := i32b v4_q48447
            exact tt_fX12_isTree_L76 hN I0 L0 M0 v4_q48447 y4_2 _ ⟨by omega, by omega⟩ k_I0 (fun q0 q1 hq0 hq1 => ih q0 q1 hq0 (by omega)) N y4_2 (0 : Int32) ⟨by omega, by omega⟩ ⟨by omega, by omega⟩ (by omega)
          · exfalso; omega
        · unfold fX12_isTree_J35
          refine wq_in (n := 6) ⟨by omega, by omega⟩ ?_
          refine wq_eq (fun hc_48452 => ?_) (fun hc_48453 => ?_)
          · exfalso; omega
          · refine wq_in (n := 6) ⟨by omega, by omega⟩ ?_
            refine wq_in (n := 6) ⟨by omega, by omega⟩ ?_
            refine wq_eq (fun hc_48454 => ?_) (fun hc_48455 => ?_)
            · exact wq_s ⟨(show 0 ≤ (0 : Int32).toInt ∧ (0 : Int32).toInt ≤ 1 from ⟨by omega, by omega⟩), trivial⟩
            · refine wq_in (n := 6) ⟨by omega, by omega⟩ ?_
              refine wq_eq (fun hc_48456 => ?_) (fun hc_48457 => ?_)
              · exact wq_s ⟨(show 0 ≤ (0 : Int32).toInt ∧ (0 : Int32).toInt ≤ 1 from ⟨by omega, by omega⟩), trivial⟩
              · unfold fX12_isTree_J71
                have b_48458 := i32b y4_1
                exact tt_fX12_isTree_L76 hN I0 L0 M0 y4_1 y4_2 _ ⟨by omega, by omega⟩ k_I0 (fun q0 q1 hq0 hq1 => ih q0 q1 hq0 (by omega)) N y4_2 (0 : Int32) ⟨by omega, by omega⟩ ⟨by omega, by omega⟩ (by omega)
set_option maxHeartbeats 4000000 in
theorem tt_fX12_isTree {N : Nat} (hN : 3000000000 ≤ N) (I0 : Nat → Int32) (L0 : Int64) (M0 : Nat → Nat → Int32) (k_I0 : KX12 I0 M0) : wq (fX12_isTree N I0 L0 M0) (fun r => (0 ≤ r.toInt ∧ r.toInt ≤ 1) ∧ True) := by
  unfold fX12_isTree
  have l_0 := il_0
  exact tt_fX12_isTree_L4 hN I0 L0 M0 k_I0 N (0 : Int32) (0 : Int32) ⟨by omega, by omega⟩ (by omega)
set_option maxHeartbeats 4000000 in
theorem tt_fX12_tree_L274 {N : Nat} (hN : 3000000000 ≤ N) (y258_4 : Int32) (y258_7 : Int32) (y94_3 : Int32) (g9 : (Nat → Int32) → Int64 → (Nat → Nat → Int32) → Int32 → Int32 → Option (Int32 × (Nat → Int32) × Int64 × (Nat → Nat → Int32))) (g57 : (Nat → Int32) → Int64 → (Nat → Nat → Int32) → Int32 → Option (Int32 × (Nat → Int32) × Int64 × (Nat → Nat → Int32))) (g94 : (Nat → Int32) → Int64 → (Nat → Nat → Int32) → Int32 → Int32 → Option (Int32 × (Nat → Int32) × Int64 × (Nat → Nat → Int32))) (g115 : (Nat → Int32) → Int64 → (Nat → Nat → Int32) → Int32 → Int32 → Option (Int32 × (Nat → Int32) × Int64 × (Nat → Nat → Int32))) (h_y258_4 : -2147483648 ≤ y258_4.toInt ∧ y258_4.toInt ≤ 2147483646) (h_y94_3 : -2147483647 ≤ y94_3.toInt ∧ y94_3.toInt ≤ 2147483647) (hg115 : ∀ (q0 : (Nat → Int32)) (q1 : Int64) (q2 : (Nat → Nat → Int32)) (q3 : Int32) (q4 : Int32), (-2147483647 ≤ q4.toInt ∧ q4.toInt ≤ 2147483647) → (KX12 q0 q2) → (y258_4.toInt < q4.toInt) → wq (g115 q0 q1 q2 q3 q4) (fun r => KX12 r.2.1 r.2.2.2 ∧ True)) : ∀ (fu : Nat) (I0_l274 : (Nat → Int32)) (L0_l274 : Int64) (M0_l274 : (Nat → Nat → Int32)) (y274_8 : Int32), (0 ≤ y274_8.toInt ∧ y274_8.toInt ≤ 6) → (KX12 I0_l274 M0_l274) → (6 - y274_8.toInt) < (fu : Int) → wq (fX12_tree_L274 N y258_4 y258_7 y94_3 g9 g57 g94 g115 fu I0_l274 L0_l274 M0_l274 y274_8) (fun r => KX12 r.2.1 r.2.2.2 ∧ True) := by
  intro fu
  induction fu with
  | zero => intro I0_l274 L0_l274 M0_l274 y274_8 h_y274_8 k_I0_l274 hm; exfalso; omega
  | succ fu ih =>
    intro I0_l274 L0_l274 M0_l274 y274_8 h_y274_8 k_I0_l274 hm
    rw [fX12_tree_L274.eq_2]
    have l_6 := il_6
    refine wq_le (fun hc_52176 => ?_) (fun hc_52177 => ?_)
    · have b_52179 := i32b y258_4
      have l_1 := il_1
      have t_52180 := ia_add y258_4 (1 : Int32) (by omega) (by omega)
      refine wq_v (fun v3_q52178 h_v3_q52178 => ?_)
      have t_v3_q52178 := congrArg Int32.toInt h_v3_q52178
      have b_52181 := i32b y258_7
      have b_52182 := i32b v3_q52178
      exact hg115 I0_l274 L0_l274 M0_l274 y258_7 v3_q52178 ⟨by omega, by omega⟩ k_I0_l274 (by omega)
    · refine wq_in (n := 6) ⟨by omega, by omega⟩ ?_
      have l_0 := il_0
      refine wq_eq (fun hc_52183 => ?_) (fun hc_52184 => ?_)
      · refine wq_in (n := 6) ⟨by omega, by omega⟩ ?_
        refine wq_v (fun M0_4_q52185 h_M0_4_q52185 => ?_)
        have l_m2 := il_m2
        have k_M0_4_q52185 : KX12 I0_l274 M0_4_q52185 := by rw [h_M0_4_q52185]; exact KX12.sm23 k_I0_l274 ⟨by omega, by omega⟩
        have l_1 := il_1
        have t_52187 := ia_add y274_8 (1 : Int32) (by omega) (by omega)
        refine wq_v (fun v5_q52186 h_v5_q52186 => ?_)
        have t_v5_q52186 := congrArg Int32.toInt h_v5_q52186
        exact ih I0_l274 L0_l274 M0_4_q52185 v5_q52186 ⟨by omega, by omega⟩ k_M0_4_q52185 (by omega)
      · refine wq_in (n := 6) ⟨by omega, by omega⟩ ?_
        refine wq_in (n := 6) ⟨by omega, by omega⟩ ?_
        refine wq_v (fun M0_6_q52188 h_M0_6_q52188 => ?_)
        have t_52189 := KX12.m24 k_I0_l274 y274_8.toNatClampNeg
        have k_M0_6_q52188 : KX12 I0_l274 M0_6_q52188 := by rw [h_M0_6_q52188]; exact KX12.sm23 k_I0_l274 ⟨by omega, by omega⟩
        have l_1 := il_1
        have t_52191 := ia_add y274_8 (1 : Int32) (by omega) (by omega)
        refine wq_v (fun v7_q52190 h_v7_q52190 => ?_)
        have t_v7_q52190 := congrArg Int32.toInt h_v7_q52190
        exact ih I0_l274 L0_l274 M0_6_q52188 v7_q52190 ⟨by omega, by omega⟩ k_M0_6_q52188 (by omega)
set_option maxHeartbeats 4000000 in
theorem tt_fX12_tree_L134 {N : Nat} (hN : 3000000000 ≤ N) (y115_2 : Int32) (y115_4 : Int32) (y94_3 : Int32) (g9 : (Nat → Int32) → Int64 → (Nat → Nat → Int32) → Int32 → Int32 → Option (Int32 × (Nat → Int32) × Int64 × (Nat → Nat → Int32))) (g57 : (Nat → Int32) → Int64 → (Nat → Nat → Int32) → Int32 → Option (Int32 × (Nat → Int32) × Int64 × (Nat → Nat → Int32))) (g94 : (Nat → Int32) → Int64 → (Nat → Nat → Int32) → Int32 → Int32 → Option (Int32 × (Nat → Int32) × Int64 × (Nat → Nat → Int32))) (g115 : (Nat → Int32) → Int64 → (Nat → Nat → Int32) → Int32 → Int32 → Option (Int32 × (Nat → Int32) × Int64 × (Nat → Nat → Int32))) (h_y115_4 : -2147483647 ≤ y115_4.toInt ∧ y115_4.toInt ≤ 2147483646) (h_y94_3 : -2147483646 ≤ y94_3.toInt ∧ y94_3.toInt ≤ 2147483647) (hg115 : ∀ (q0 : (Nat → Int32)) (q1 : Int64) (q2 : (Nat → Nat → Int32)) (q3 : Int32) (q4 : Int32), (-2147483647 ≤ q4.toInt ∧ q4.toInt ≤ 2147483647) → (KX12 q0 q2) → (y115_4.toInt < q4.toInt) → wq (g115 q0 q1 q2 q3 q4) (fun r => KX12 r.2.1 r.2.2.2 ∧ True)) : ∀ (fu : Nat) (I0_l134 : (Nat → Int32)) (L0_l134 : Int64) (M0_l134 : (Nat → Nat → Int32)) (y134_5 : Int32) (y134_6 : Int32) (y134_7 : Int32) (y134_8 : Int32), (-2147483647 ≤ y134_5.toInt ∧ y134_5.toInt ≤ 2147483646) → (0 ≤ y134_6.toInt ∧ y134_6.toInt ≤ 1) → (-1 ≤ y134_8.toInt ∧ y134_8.toInt ≤ 5) → (KX12 I0_l134 M0_l134) → (y134_8.toInt - -1) < (fu : Int) → wq (fX12_tree_L134 N y115_2 y115_4 y94_3 g9 g57 g94 g115 fu I0_l134 L0_l134 M0_l134 y134_5 y134_6 y134_7 y134_8) (fun r => KX12 r.2.1 r.2.2.2 ∧ True) := by
  intro fu
  induction fu with
  | zero => intro I0_l134 L0_l134 M0_l134 y134_5 y134_6 y134_7 y134_8 h_y134_5 h_y134_6 h_y134_8 k_I0_l134 hm; exfalso; omega
  | succ fu ih =>
    intro I0_l134 L0_l134 M0_l134 y134_5 y134_6 y134_7 y134_8 h_y134_5 h_y134_6 h_y134_8 k_I0_l134 hm
    rw [fX12_tree_L134.eq_2]
    have l_0 := il_0
    refine wq_lt (fun hc_52192 => ?_) (fun hc_52193 => ?_)
    · refine wq_eq (fun hc_52194 => ?_) (fun hc_52195 => ?_)
      · have l_1 := il_1
        have t_52197 := ia_add y115_4 (1 : Int32) (by omega) (by omega)
        refine wq_v (fun v16_q52196 h_v16_q52196 => ?_)
        have t_v16_q52196 := congrArg Int32.toInt h_v16_q52196
        have b_52198 := i32b y115_2
        have b_52199 := i32b v16_q52196
        exact hg115 I0_l134 L0_l134 M0_l134 y115_2 v16_q52196 ⟨by omega, by omega⟩ k_I0_l134 (by omega)
      · have b_52200 := i32b y115_2
        have l_m1 := il_m1
        refine wq_eq (fun hc_52201 => ?_) (fun hc_52202 => ?_)
        · unfold fX12_tree_J258
          refine wq_b (tt_fX12_isTree hN I0_l134 L0_l134 M0_l134 k_I0_l134) (fun r2_q52203 h_r2_q52203 => ?_)
          obtain ⟨h_r2_q52203_0, -⟩ := h_r2_q52203
          refine wq_eq (fun hc_52204 => ?_) (fun hc_52205 => ?_)
          · have l_1 := il_1
            have t_52207 := ia_add y115_4 (1 : Int32) (by omega) (by omega)
            refine wq_v (fun v8_q52206 h_v8_q52206 => ?_)
            have t_v8_q52206 := congrArg Int32.toInt h_v8_q52206
            have b_52208 := i32b v8_q52206
            exact hg115 I0_l134 L0_l134 M0_l134 y115_2 v8_q52206 ⟨by omega, by omega⟩ k_I0_l134 (by omega)
          · have b_52209 := i32b y134_7
            have b_52210 := i32b y94_3
            exact tt_fX12_tree_L274 hN y115_4 y134_7 y94_3 g9 g57 g94 g115 ⟨by omega, by omega⟩ ⟨by omega, by omega⟩ hg115 N I0_l134 L0_l134 M0_l134 (0 : Int32) ⟨by omega, by omega⟩ k_I0_l134 (by omega)
        · have b_52211 := i32b y134_7
          refine wq_le (fun hc_52212 => ?_) (fun hc_52213 => ?_)
          · have l_1 := il_1
            have t_52215 := ia_add y115_4 (1 : Int32) (by omega) (by omega)
            refine wq_v (fun v17_q52214 h_v17_q52214 => ?_)
            have t_v17_q52214 := congrArg Int32.toInt h_v17_q52214
            have b_52216 := i32b v17_q52214
            exact hg115 I0_l134 L0_l134 M0_l134 y115_2 v17_q52214 ⟨by omega, by omega⟩ k_I0_l134 (by omega)
          · unfold fX12_tree_J258
            refine wq_b (tt_fX12_isTree hN I0_l134 L0_l134 M0_l134 k_I0_l134) (fun r2_q52217 h_r2_q52217 => ?_)
            obtain ⟨h_r2_q52217_0, -⟩ := h_r2_q52217
            refine wq_eq (fun hc_52218 => ?_) (fun hc_52219 => ?_)
            · have l_1 := il_1
              have t_52221 := ia_add y115_4 (1 : Int32) (by omega) (by omega)
              refine wq_v (fun v8_q52220 h_v8_q52220 => ?_)
              have t_v8_q52220 := congrArg Int32.toInt h_v8_q52220
              have b_52222 := i32b v8_q52220
              exact hg115 I0_l134 L0_l134 M0_l134 y115_2 v8_q52220 ⟨by omega, by omega⟩ k_I0_l134 (by omega)
            · have b_52223 := i32b y94_3
              exact tt_fX12_tree_L274 hN y115_4 y134_7 y94_3 g9 g57 g94 g115 ⟨by omega, by omega⟩ ⟨by omega, by omega⟩ hg115 N I0_l134 L0_l134 M0_l134 (0 : Int32) ⟨by omega, by omega⟩ k_I0_l134 (by omega)
    · refine wq_in (n := 6) ⟨by omega, by omega⟩ ?_
      refine wq_v (fun M0_18_q52224 h_M0_18_q52224 => ?_)
      have l_7 := il_7
      have t_52225 := ia_rem2 y134_5 (7 : Int32) 7 il_7 (by decide)
      have l_1 := il_1
      have t_52226 := ia_sub (y134_5 - ((y134_5 / (7 : Int32)) * (7 : Int32))) (1 : Int32) (by omega) (by omega)
      have k_M0_18_q52224 : KX12 I0_l134 M0_18_q52224 := by rw [h_M0_18_q52224]; exact KX12.sm24 k_I0_l134 ⟨by omega, by omega⟩
      have t_52228 := ia_div2 y134_5 (7 : Int32) 7 il_7 (by decide)
      refine wq_v (fun v19_q52227 h_v19_q52227 => ?_)
      have t_v19_q52227 := congrArg Int32.toInt h_v19_q52227
      refine wq_eq (fun hc_52229 => ?_) (fun hc_52230 => ?_)
      · unfold fX12_tree_J190
        unfold fX12_tree_J191
        refine wq_in (n := 6) ⟨by omega, by omega⟩ ?_
        have t_52231 := KX12.m24 k_M0_18_q52224 y134_8.toNatClampNeg
        have l_m1 := il_m1
        refine wq_eq (fun hc_52232 => ?_) (fun hc_52233 => ?_)
        · have b_52235 := i32b y134_7
          have t_52236 := ia_add y134_7 (0 : Int32) (by omega) (by omega)
          refine wq_v (fun v10_q52234 h_v10_q52234 => ?_)
          have t_v10_q52234 := congrArg Int32.toInt h_v10_q52234
          have t_52238 := ia_add y134_8 ((-1) : Int32) (by omega) (by omega)
          refine wq_v (fun v11_q52237 h_v11_q52237 => ?_)
          have t_v11_q52237 := congrArg Int32.toInt h_v11_q52237
          have b_52239 := i32b v10_q52234
          exact ih I0_l134 L0_l134 M0_18_q52224 v19_q52227 (0 : Int32) v10_q52234 v11_q52237 ⟨by omega, by omega⟩ ⟨by omega, by omega⟩ ⟨by omega, by omega⟩ k_M0_18_q52224 (by omega)
        · refine wq_eq (fun hc_52240 => ?_) (fun hc_52241 => ?_)
          · have b_52243 := i32b y134_7
            have t_52244 := ia_add y134_7 (0 : Int32) (by omega) (by omega)
            refine wq_v (fun v14_q52242 h_v14_q52242 => ?_)
            have t_v14_q52242 := congrArg Int32.toInt h_v14_q52242
            have t_52246 := ia_add y134_8 ((-1) : Int32) (by omega) (by omega)
            refine wq_v (fun v15_q52245 h_v15_q52245 => ?_)
            have t_v15_q52245 := congrArg Int32.toInt h_v15_q52245
            have b_52247 := i32b v14_q52242
            exact ih I0_l134 L0_l134 M0_18_q52224 v19_q52227 (0 : Int32) v14_q52242 v15_q52245 ⟨by omega, by omega⟩ ⟨by omega, by omega⟩ ⟨by omega, by omega⟩ k_M0_18_q52224 (by omega)
          · exfalso; omega
      · refine wq_in (n := 6) ⟨by omega, by omega⟩ ?_
        have t_52248 : (M0_18_q52224 26 y134_8.toNatClampNeg).toInt = (M0_l134 26 y134_8.toNatClampNeg).toInt := by rw [h_M0_18_q52224]; rfl
        refine wq_eq (fun hc_52249 => ?_) (fun hc_52250 => ?_)
        · refine wq_in (n := 6) ⟨by omega, by omega⟩ ?_
          have t_52251 := KX12.m24 k_M0_18_q52224 y134_8.toNatClampNeg
          have l_m1 := il_m1
          refine wq_eq (fun hc_52252 => ?_) (fun hc_52253 => ?_)
          · unfold fX12_tree_J186
            unfold fX12_tree_J191
            refine wq_in (n := 6) ⟨by omega, by omega⟩ ?_
            refine wq_eq (fun hc_52254 => ?_) (fun hc_52255 => ?_)
            · have b_52257 := i32b y134_7
              have t_52258 := ia_add y134_7 (0 : Int32) (by omega) (by omega)
              refine wq_v (fun v10_q52256 h_v10_q52256 => ?_)
              have t_v10_q52256 := congrArg Int32.toInt h_v10_q52256
              have t_52260 := ia_add y134_8 ((-1) : Int32) (by omega) (by omega)
              refine wq_v (fun v11_q52259 h_v11_q52259 => ?_)
              have t_v11_q52259 := congrArg Int32.toInt h_v11_q52259
              have b_52261 := i32b v10_q52256
              exact ih I0_l134 L0_l134 M0_18_q52224 v19_q52227 (1 : Int32) v10_q52256 v11_q52259 ⟨by omega, by omega⟩ ⟨by omega, by omega⟩ ⟨by omega, by omega⟩ k_M0_18_q52224 (by omega)
            · exfalso; omega
          · unfold fX12_tree_J190
            unfold fX12_tree_J191
            refine wq_in (n := 6) ⟨by omega, by omega⟩ ?_
            refine wq_eq (fun hc_52262 => ?_) (fun hc_52263 => ?_)
            · exfalso; omega
            · refine wq_eq (fun hc_52264 => ?_) (fun hc_52265 => ?_)
              · have b_52267 := i32b y134_7
                have t_52268 := ia_add y134_7 (0 : Int32) (by omega) (by omega)
                refine wq_v (fun v14_q52266 h_v14_q52266 => ?_)
                have t_v14_q52266 := congrArg Int32.toInt h_v14_q52266
                have t_52270 := ia_add y134_8 ((-1) : Int32) (by omega) (by omega)
                refine wq_v (fun v15_q52269 h_v15_q52269 => ?_)
                have t_v15_q52269 := congrArg Int32.toInt h_v15_q52269
                have b_52271 := i32b v14_q52266
                exact ih I0_l134 L0_l134 M0_18_q52224 v19_q52227 (0 : Int32) v14_q52266 v15_q52269 ⟨by omega, by omega⟩ ⟨by omega, by omega⟩ ⟨by omega, by omega⟩ k_M0_18_q52224 (by omega)
              · exfalso; omega
        · unfold fX12_tree_J186
          unfold fX12_tree_J191
          refine wq_in (n := 6) ⟨by omega, by omega⟩ ?_
          have t_52272 := KX12.m24 k_M0_18_q52224 y134_8.toNatClampNeg
          have l_m1 := il_m1
          refine wq_eq (fun hc_52273 => ?_) (fun hc_52274 => ?_)
          · have b_52276 := i32b y134_7
            have t_52277 := ia_add y134_7 (0 : Int32) (by omega) (by omega)
            refine wq_v (fun v10_q52275 h_v10_q52275 => ?_)
            have t_v10_q52275 := congrArg Int32.toInt h_v10_q52275
            have t_52279 := ia_add y134_8 ((-1) : Int32) (by omega) (by omega)
            refine wq_v (fun v11_q52278 h_v11_q52278 => ?_)
            have t_v11_q52278 := congrArg Int32.toInt h_v11_q52278
            have b_52280 := i32b v10_q52275
            exact ih I0_l134 L0_l134 M0_18_q52224 v19_q52227 (1 : Int32) v10_q52275 v11_q52278 ⟨by omega, by omega⟩ ⟨by omega, by omega⟩ ⟨by omega, by omega⟩ k_M0_18_q52224 (by omega)
          · refine wq_eq (fun hc_52281 => ?_) (fun hc_52282 => ?_)
            · exfalso; omega
            · refine wq_in (n := 6) ⟨by omega, by omega⟩ ?_
              have l_6 := il_6
              have t_52283 := ia_mul (6 : Int32) (6) il_6 (M0_18_q52224 24 y134_8.toNatClampNeg) (by omega) (by omega)
              have t_52284 := ia_add ((6 : Int32) * (M0_18_q52224 24 y134_8.toNatClampNeg)) y134_8 (by omega) (by omega)
              refine wq_in (n := 36) ⟨by omega, by omega⟩ ?_
              have b_52286 := i32b y134_7
              have t_52287 : (M0_18_q52224 25 (((6 : Int32) * (M0_18_q52224 24 y134_8.toNatClampNeg)) + y134_8).toNatClampNeg).toInt = (M0_l134 25 (((6 : Int32) * (M0_18_q52224 24 y134_8.toNatClampNeg)) + y134_8).toNatClampNeg).toInt := by rw [h_M0_18_q52224]; rfl
              refine wq_v (fun v12_q52285 h_v12_q52285 => ?_)
              have t_v12_q52285 := congrArg Int32.toInt h_v12_q52285
              have t_52289 := ia_add y134_8 ((-1) : Int32) (by omega) (by omega)
              refine wq_v (fun v13_q52288 h_v13_q52288 => ?_)
              have t_v13_q52288 := congrArg Int32.toInt h_v13_q52288
              have b_52290 := i32b v12_q52285
              exact ih I0_l134 L0_l134 M0_18_q52224 v19_q52227 (1 : Int32) v12_q52285 v13_q52288 ⟨by omega, by omega⟩ ⟨by omega, by omega⟩ ⟨by omega, by omega⟩ k_M0_18_q52224 (by omega)
set_option maxHeartbeats 4000000 in
theorem tt_fX12_tree_L115 {N : Nat} (hN : 3000000000 ≤ N) (y94_3 : Int32) (g9 : (Nat → Int32) → Int64 → (Nat → Nat → Int32) → Int32 → Int32 → Option (Int32 × (Nat → Int32) × Int64 × (Nat → Nat → Int32))) (g57 : (Nat → Int32) → Int64 → (Nat → Nat → Int32) → Int32 → Option (Int32 × (Nat → Int32) × Int64 × (Nat → Nat → Int32))) (g94 : (Nat → Int32) → Int64 → (Nat → Nat → Int32) → Int32 → Int32 → Option (Int32 × (Nat → Int32) × Int64 × (Nat → Nat → Int32)))   : ∀ (fu : Nat) (I0_l115 : (Nat → Int32)) (L0_l115 : Int64) (M0_l115 : (Nat → Nat → Int32)) (y115_2 : Int32) (y115_4 : Int32), (-2147483647 ≤ y115_4.toInt ∧ y115_4.toInt ≤ 2147483647) → (KX12 I0_l115 M0_l115) → (2147483647 - y115_4.toInt) < (fu : Int) → wq (fX12_tree_L115 N y94_3 g9 g57 g94 fu I0_l115 L0_l115 M0_l115 y115_2 y115_4) (fun r => KX12 r.2.1 r.2.2.2 ∧ True) := by
  intro fu
  induction fu with
  | zero => intro I0_l115 L0_l115 M0_l115 y115_2 y115_4 h_y115_4 k_I0_l115 hm; exfalso; omega
  | succ fu ih =>
    intro I0_l115 L0_l115 M0_l115 y115_2 y115_4 h_y115_4 k_I0_l115 hm
    rw [fX12_tree_L115.eq_2]
    have b_52291 := i32b y94_3
    have b_52292 := i32b y115_4
    refine wq_le (fun hc_52293 => ?_) (fun hc_52294 => ?_)
    · refine wq_v (fun I0_9_q52295 h_I0_9_q52295 => ?_)
      have l_1 := il_1
      have k_I0_9_q52295 : KX12 I0_9_q52295 M0_l115 := by rw [h_I0_9_q52295]; exact KX12.si18 k_I0_l115 ⟨by omega, by omega⟩
      have b_52296 := i32b y115_2
      exact wq_s ⟨k_I0_9_q52295, trivial⟩
    · have b_52297 := i32b y115_2
      have l_1 := il_1
      have l_0 := il_0
      have l_5 := il_5
      exact tt_fX12_tree_L134 hN y115_2 y115_4 y94_3 g9 g57 g94 _ ⟨by omega, by omega⟩ ⟨by omega, by omega⟩ (fun q0 q1 q2 q3 q4 hq0 hq1 hq2 => ih q0 q1 q2 q3 q4 hq0 hq1 (by omega)) N I0_l115 L0_l115 M0_l115 y115_4 (1 : Int32) (0 : Int32) (5 : Int32) ⟨by omega, by omega⟩ ⟨by omega, by omega⟩ ⟨by omega, by omega⟩ k_I0_l115 (by omega)
set_option maxHeartbeats 4000000 in
theorem tt_fX12_tree_L94 {N : Nat} (hN : 3000000000 ≤ N) (g9 : (Nat → Int32) → Int64 → (Nat → Nat → Int32) → Int32 → Int32 → Option (Int32 × (Nat → Int32) × Int64 × (Nat → Nat → Int32))) (g57 : (Nat → Int32) → Int64 → (Nat → Nat → Int32) → Int32 → Option (Int32 × (Nat → Int32) × Int64 × (Nat → Nat → Int32)))   : ∀ (fu : Nat) (I0_l94 : (Nat → Int32)) (L0_l94 : Int64) (M0_l94 : (Nat → Nat → Int32)) (y94_3 : Int32) (y94_4 : Int32), (0 ≤ y94_4.toInt ∧ y94_4.toInt ≤ 6) → (KX12 I0_l94 M0_l94) → (6 - y94_4.toInt) < (fu : Int) → wq (fX12_tree_L94 N g9 g57 fu I0_l94 L0_l94 M0_l94 y94_3 y94_4) (fun r => KX12 r.2.1 r.2.2.2 ∧ True) := by
  intro fu
  induction fu with
  | zero => intro I0_l94 L0_l94 M0_l94 y94_3 y94_4 h_y94_4 k_I0_l94 hm; exfalso; omega
  | succ fu ih =>
    intro I0_l94 L0_l94 M0_l94 y94_3 y94_4 h_y94_4 k_I0_l94 hm
    rw [fX12_tree_L94.eq_2]
    have l_6 := il_6
    refine wq_le (fun hc_52298 => ?_) (fun hc_52299 => ?_)
    · have b_52300 := i32b y94_3
      have l_m1 := il_m1
      have l_0 := il_0
      exact tt_fX12_tree_L115 hN y94_3 g9 g57 _ N I0_l94 L0_l94 M0_l94 ((-1) : Int32) (0 : Int32) ⟨by omega, by omega⟩ k_I0_l94 (by omega)
    · refine wq_v (fun v20_q52301 h_v20_q52301 => ?_)
      have t_v20_q52301 := congrArg Int32.toInt h_v20_q52301
      have l_1 := il_1
      have t_52303 := ia_add y94_4 (1 : Int32) (by omega) (by omega)
      refine wq_v (fun v21_q52302 h_v21_q52302 => ?_)
      have t_v21_q52302 := congrArg Int32.toInt h_v21_q52302
      have b_52304 := i32b v20_q52301
      exact ih I0_l94 L0_l94 M0_l94 v20_q52301 v21_q52302 ⟨by omega, by omega⟩ k_I0_l94 (by omega)
set_option maxHeartbeats 4000000 in
theorem tt_fX12_tree_L57 {N : Nat} (hN : 3000000000 ≤ N) (g9 : (Nat → Int32) → Int64 → (Nat → Nat → Int32) → Int32 → Int32 → Option (Int32 × (Nat → Int32) × Int64 × (Nat → Nat → Int32)))   : ∀ (fu : Nat) (I0_l57 : (Nat → Int32)) (L0_l57 : Int64) (M0_l57 : (Nat → Nat → Int32)) (y57_2 : Int32), (0 ≤ y57_2.toInt ∧ y57_2.toInt ≤ 36) → (KX12 I0_l57 M0_l57) → (36 - y57_2.toInt) < (fu : Int) → wq (fX12_tree_L57 N g9 fu I0_l57 L0_l57 M0_l57 y57_2) (fun r => KX12 r.2.1 r.2.2.2 ∧ True) := by
  intro fu
  induction fu with
  | zero => intro I0_l57 L0_l57 M0_l57 y57_2 h_y57_2 k_I0_l57 hm; exfalso; omega
  | succ fu ih =>
    intro I0_l57 L0_l57 M0_l57 y57_2 h_y57_2 k_I0_l57 hm
    rw [fX12_tree_L57.eq_2]
    have l_36 := il_36
    refine wq_le (fun hc_52305 => ?_) (fun hc_52306 => ?_)
    · have l_1 := il_1
      have l_0 := il_0
      exact tt_fX12_tree_L94 hN g9 _ N I0_l57 L0_l57 M0_l57 (1 : Int32) (0 : Int32) ⟨by omega, by omega⟩ k_I0_l57 (by omega)
    · have l_6 := il_6
      have t_52307 := ia_div y57_2 (6 : Int32) 6 il_6 (by decide) (by omega)
      have t_52308 := ia_rem y57_2 (6 : Int32) 6 il_6 (by decide) (by omega)
      refine wq_b (tt_fX12_priceAll hN I0_l57 L0_l57 M0_l57 (y57_2 / (6 : Int32)) (y57_2 - ((y57_2 / (6 : Int32)) * (6 : Int32))) ⟨by omega, by omega⟩ ⟨by omega, by omega⟩ k_I0_l57) (fun r22_q52309 h_r22_q52309 => ?_)
      obtain ⟨-⟩ := h_r22_q52309
      refine wq_in (n := 36) ⟨by omega, by omega⟩ ?_
      refine wq_v (fun M0_23_q52310 h_M0_23_q52310 => ?_)
      have k_M0_23_q52310 : KX12 I0_l57 M0_23_q52310 := by rw [h_M0_23_q52310]; exact KX12.sm25 k_I0_l57
      have l_1 := il_1
      have t_52312 := ia_add y57_2 (1 : Int32) (by omega) (by omega)
      refine wq_v (fun v24_q52311 h_v24_q52311 => ?_)
      have t_v24_q52311 := congrArg Int32.toInt h_v24_q52311
      exact ih I0_l57 L0_l57 M0_23_q52310 v24_q52311 ⟨by omega, by omega⟩ k_M0_23_q52310 (by omega)
set_option maxHeartbeats 4000000 in
theorem tt_fX12_tree_L9 {N : Nat} (hN : 3000000000 ≤ N)    : ∀ (fu : Nat) (I0_l9 : (Nat → Int32)) (L0_l9 : Int64) (M0_l9 : (Nat → Nat → Int32)) (y9_1 : Int32) (y9_2 : Int32), (0 ≤ y9_2.toInt ∧ y9_2.toInt ≤ 6) → (KX12 I0_l9 M0_l9) → (6 - y9_2.toInt) < (fu : Int) → wq (fX12_tree_L9 N fu I0_l9 L0_l9 M0_l9 y9_1 y9_2) (fun r => KX12 r.2.1 r.2.2.2 ∧ True) := by
  intro fu
  induction fu with
  | zero => intro I0_l9 L0_l9 M0_l9 y9_1 y9_2 h_y9_2 k_I0_l9 hm; exfalso; omega
  | succ fu ih =>
    intro I0_l9 L0_l9 M0_l9 y9_1 y9_2 h_y9_2 k_I0_l9 hm
    rw [fX12_tree_L9.eq_2]
    have l_6 := il_6
    refine wq_le (fun hc_52313 => ?_) (fun hc_52314 => ?_)
    · have b_52315 := i32b y9_1
      have l_0 := il_0
      refine wq_eq (fun hc_52316 => ?_) (fun hc_52317 => ?_)
      · have l_m1 := il_m1
        exact wq_s ⟨k_I0_l9, trivial⟩
      · exact tt_fX12_tree_L57 hN _ N I0_l9 L0_l9 M0_l9 (0 : Int32) ⟨by omega, by omega⟩ k_I0_l9 (by omega)
    · refine wq_b (tt_fX12_bookTells hN I0_l9 L0_l9 M0_l9 y9_2 ⟨by omega, by omega⟩ k_I0_l9) (fun r25_q52318 h_r25_q52318 => ?_)
      obtain ⟨h_r25_q52318_0, -⟩ := h_r25_q52318
      refine wq_in (n := 6) ⟨by omega, by omega⟩ ?_
      refine wq_v (fun M0_26_q52319 h_M0_26_q52319 => ?_)
      have k_M0_26_q52319 : KX12 I0_l9 M0_26_q52319 := by rw [h_M0_26_q52319]; exact KX12.sm26 k_I0_l9
      refine wq_in (n := 6) ⟨by omega, by omega⟩ ?_
      have l_0 := il_0
      refine wq_eq (fun hc_52320 => ?_) (fun hc_52321 => ?_)
      · have b_52323 := i32b y9_1
        have t_52324 := ia_add y9_1 (0 : Int32) (by omega) (by omega)
        refine wq_v (fun v27_q52322 h_v27_q52322 => ?_)
        have t_v27_q52322 := congrArg Int32.toInt h_v27_q52322
        have l_1 := il_1
        have t_52326 := ia_add y9_2 (1 : Int32) (by omega) (by omega)
        refine wq_v (fun v28_q52325 h_v28_q52325 => ?_)
        have t_v28_q52325 := congrArg Int32.toInt h_v28_q52325
        have b_52327 := i32b v27_q52322
        exact ih I0_l9 L0_l9 M0_26_q52319 v27_q52322 v28_q52325 ⟨by omega, by omega⟩ k_M0_26_q52319 (by omega)
      · have b_52329 := i32b y9_1
        have l_1 := il_1
        refine wq_v (fun v29_q52328 h_v29_q52328 => ?_)
        have t_v29_q52328 := congrArg Int32.toInt h_v29_q52328
        have t_52331 := ia_add y9_2 (1 : Int32) (by omega) (by omega)
        refine wq_v (fun v30_q52330 h_v30_q52330 => ?_)
        have t_v30_q52330 := congrArg Int32.toInt h_v30_q52330
        have b_52332 := i32b v29_q52328
        exact ih I0_l9 L0_l9 M0_26_q52319 v29_q52328 v30_q52330 ⟨by omega, by omega⟩ k_M0_26_q52319 (by omega)
set_option maxHeartbeats 4000000 in
theorem tt_fX12_tree {N : Nat} (hN : 3000000000 ≤ N) (I0 : Nat → Int32) (L0 : Int64) (M0 : Nat → Nat → Int32) (k_I0 : KX12 I0 M0) : wq (fX12_tree N I0 L0 M0) (fun r => KX12 r.2.1 r.2.2.2 ∧ True) := by
  unfold fX12_tree
  refine wq_v (fun I0_1_q52333 h_I0_1_q52333 => ?_)
  have k_I0_1_q52333 : KX12 I0_1_q52333 M0 := by rw [h_I0_1_q52333]; exact KX12.si0 k_I0
  have l_0 := il_0
  exact tt_fX12_tree_L9 hN N I0_1_q52333 L0 M0 (0 : Int32) (0 : Int32) ⟨by omega, by omega⟩ k_I0_1_q52333 (by omega)
set_option maxHeartbeats 4000000 in
theorem tt_fX12_whence {N : Nat} (hN : 3000000000 ≤ N) (I0 : Nat → Int32) (L0 : Int64) (M0 : Nat → Nat → Int32) (x1 : Int32) (k_I0 : KX12 I0 M0) : wq (fX12_whence N I0 L0 M0 x1) (fun r => (-2 ≤ r.1.toInt ∧ r.1.toInt ≤ 5) ∧ KX12 r.2.1 r.2.2.2 ∧ True) := by
  unfold fX12_whence
  refine wq_v (fun I0_2_q52508 h_I0_2_q52508 => ?_)
  have k_I0_2_q52508 : KX12 I0_2_q52508 M0 := by rw [h_I0_2_q52508]; exact KX12.si0 k_I0
  have b_52509 := i32b x1
  refine wq_b (tt_fX12_isBook hN I0_2_q52508 L0 M0 x1 k_I0_2_q52508) (fun r3_q52510 h_r3_q52510 => ?_)
  obtain ⟨h_r3_q52510_0, h_r3_q52510_1, h_r3_q52510_2, h_r3_q52510_3, -⟩ := h_r3_q52510
  have t_52511 := KX12.i1 h_r3_q52510_3
  have t_52512 := KX12.i1 k_I0
  have t_52513 : (I0_2_q52508 1).toInt = (I0 1).toInt := by rw [h_I0_2_q52508]; rfl
  have l_0 := il_0
  refine wq_eq (fun hc_52514 => ?_) (fun hc_52515 => ?_)
  · exact wq_s ⟨(show -2 ≤ (0 : Int32).toInt ∧ (0 : Int32).toInt ≤ 5 from ⟨by omega, by omega⟩), h_r3_q52510_3, trivial⟩
  · have t_52516 := KX12.i18 h_r3_q52510_3
    refine wq_eq (fun hc_52517 => ?_) (fun hc_52518 => ?_)
    · unfold fX12_whence_J36
      unfold fX12_whence_J37
      have l_1 := il_1
      refine wq_b (tt_fX12_right hN r3_q52510.2.1 r3_q52510.2.2.1 r3_q52510.2.2.2 (0 : Int32) (1 : Int32) ⟨by omega, by omega⟩ h_r3_q52510_3) (fun r1_q52519 h_r1_q52519 => ?_)
      obtain ⟨h_r1_q52519_0, h_r1_q52519_1, h_r1_q52519_2, h_r1_q52519_3, -⟩ := h_r1_q52519
      have t_52520 := KX12.i1 h_r1_q52519_3
      refine wq_eq (fun hc_52521 => ?_) (fun hc_52522 => ?_)
      · exact wq_s ⟨(show -2 ≤ (0 : Int32).toInt ∧ (0 : Int32).toInt ≤ 5 from ⟨by omega, by omega⟩), h_r1_q52519_3, trivial⟩
      · refine wq_in (n := 6) ⟨by omega, by omega⟩ ?_
        have t_52523 := KX12.m23 h_r1_q52519_3 x1.toNatClampNeg
        exact wq_s ⟨(show -2 ≤ (r1_q52519.2.2.2 23 x1.toNatClampNeg).toInt ∧ (r1_q52519.2.2.2 23 x1.toNatClampNeg).toInt ≤ 5 from ⟨by omega, by omega⟩), h_r1_q52519_3, trivial⟩
    · refine wq_in (n := 6) ⟨by omega, by omega⟩ ?_
      have t_52524 := KX12.m23 h_r3_q52510_3 x1.toNatClampNeg
      have l_m2 := il_m2
      refine wq_eq (fun hc_52525 => ?_) (fun hc_52526 => ?_)
      · unfold fX12_whence_J36
        unfold fX12_whence_J37
        have l_1 := il_1
        refine wq_b (tt_fX12_right hN r3_q52510.2.1 r3_q52510.2.2.1 r3_q52510.2.2.2 (0 : Int32) (1 : Int32) ⟨by omega, by omega⟩ h_r3_q52510_3) (fun r1_q52527 h_r1_q52527 => ?_)
        obtain ⟨h_r1_q52527_0, h_r1_q52527_1, h_r1_q52527_2, h_r1_q52527_3, -⟩ := h_r1_q52527
        have t_52528 := KX12.i1 h_r1_q52527_3
        refine wq_eq (fun hc_52529 => ?_) (fun hc_52530 => ?_)
        · exact wq_s ⟨(show -2 ≤ (0 : Int32).toInt ∧ (0 : Int32).toInt ≤ 5 from ⟨by omega, by omega⟩), h_r1_q52527_3, trivial⟩
        · refine wq_in (n := 6) ⟨by omega, by omega⟩ ?_
          have t_52531 := KX12.m23 h_r1_q52527_3 x1.toNatClampNeg
          exact wq_s ⟨(show -2 ≤ (r1_q52527.2.2.2 23 x1.toNatClampNeg).toInt ∧ (r1_q52527.2.2.2 23 x1.toNatClampNeg).toInt ≤ 5 from ⟨by omega, by omega⟩), h_r1_q52527_3, trivial⟩
      · unfold fX12_whence_J37
        have l_1 := il_1
        refine wq_b (tt_fX12_right hN r3_q52510.2.1 r3_q52510.2.2.1 r3_q52510.2.2.2 (1 : Int32) (1 : Int32) ⟨by omega, by omega⟩ h_r3_q52510_3) (fun r1_q52532 h_r1_q52532 => ?_)
        obtain ⟨h_r1_q52532_0, h_r1_q52532_1, h_r1_q52532_2, h_r1_q52532_3, -⟩ := h_r1_q52532
        have t_52533 := KX12.i1 h_r1_q52532_3
        refine wq_eq (fun hc_52534 => ?_) (fun hc_52535 => ?_)
        · exact wq_s ⟨(show -2 ≤ (0 : Int32).toInt ∧ (0 : Int32).toInt ≤ 5 from ⟨by omega, by omega⟩), h_r1_q52532_3, trivial⟩
        · refine wq_in (n := 6) ⟨by omega, by omega⟩ ?_
          have t_52536 := KX12.m23 h_r1_q52532_3 x1.toNatClampNeg
          exact wq_s ⟨(show -2 ≤ (r1_q52532.2.2.2 23 x1.toNatClampNeg).toInt ∧ (r1_q52532.2.2.2 23 x1.toNatClampNeg).toInt ≤ 5 from ⟨by omega, by omega⟩), h_r1_q52532_3, trivial⟩

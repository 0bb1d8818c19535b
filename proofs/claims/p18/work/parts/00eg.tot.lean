set_option maxHeartbeats 4000000 in
theorem tt_fX8_keptDay {N : Nat} (hN : 3000000000 ≤ N) (I0 : Nat → Int32) (M0 : Nat → Nat → Int32) (x1 : Int32) (k_I0 : KX8 I0 M0) : wq (fX8_keptDay N I0 M0 x1) (fun r => True) := by
  unfold fX8_keptDay
  have b_13793 := i32b x1
  have l_0 := il_0
  refine wq_lt (fun hc_13794 => ?_) (fun hc_13795 => ?_)
  · have l_m1 := il_m1
    exact wq_s trivial
  · have l_20 := il_20
    refine wq_le (fun hc_13796 => ?_) (fun hc_13797 => ?_)
    · have l_m1 := il_m1
      exact wq_s trivial
    · refine wq_in (n := 20) ⟨by omega, by omega⟩ ?_
      exact wq_s trivial
set_option maxHeartbeats 4000000 in
theorem tt_fX9_hasRoom {N : Nat} (hN : 3000000000 ≤ N) (I0 : Nat → Int32) (M0 : Nat → Nat → Int32) (k_I0 : KX9 I0 M0) : wq (fX9_hasRoom N I0 M0) (fun r => (0 ≤ r.toInt ∧ r.toInt ≤ 1) ∧ True) := by
  unfold fX9_hasRoom
  have l_580 := il_580
  have t_13816 := KX9.i0 k_I0
  refine wq_lt (fun hc_13817 => ?_) (fun hc_13818 => ?_)
  · have l_0 := il_0
    exact wq_s ⟨(show 0 ≤ (0 : Int32).toInt ∧ (0 : Int32).toInt ≤ 1 from ⟨by omega, by omega⟩), trivial⟩
  · have l_1 := il_1
    exact wq_s ⟨(show 0 ≤ (1 : Int32).toInt ∧ (1 : Int32).toInt ≤ 1 from ⟨by omega, by omega⟩), trivial⟩
set_option maxHeartbeats 4000000 in
theorem tt_fX9_put_L3 {N : Nat} (hN : 3000000000 ≤ N) (x1 : Int32)   : ∀ (fu : Nat) (I0_l3 : (Nat → Int32)) (M0_l3 : (Nat → Nat → Int32)) (y3_2 : Int32), (-8 ≤ y3_2.toInt ∧ y3_2.toInt ≤ 24) → (KX9 I0_l3 M0_l3) → (y3_2.toInt - -8) < (fu : Int) → wq (fX9_put_L3 N x1 fu I0_l3 M0_l3 y3_2) (fun r => KX9 r.1 r.2 ∧ True) := by
  intro fu
  induction fu with
  | zero => intro I0_l3 M0_l3 y3_2 h_y3_2 k_I0_l3 hm; exfalso; omega
  | succ fu ih =>
    intro I0_l3 M0_l3 y3_2 h_y3_2 k_I0_l3 hm
    rw [fX9_put_L3.eq_2]
    have l_0 := il_0
    refine wq_lt (fun hc_13918 => ?_) (fun hc_13919 => ?_)
    · exact wq_s ⟨k_I0_l3, trivial⟩
    · have l_600 := il_600
      have t_13920 := KX9.i0 k_I0_l3
      refine wq_le (fun hc_13921 => ?_) (fun hc_13922 => ?_)
      · exact wq_s ⟨k_I0_l3, trivial⟩
      · refine wq_in (n := 600) ⟨by omega, by omega⟩ ?_
        refine wq_v (fun M0_1_q13923 h_M0_1_q13923 => ?_)
        have k_M0_1_q13923 : KX9 I0_l3 M0_1_q13923 := by rw [h_M0_1_q13923]; exact KX9.sm0 k_I0_l3
        refine wq_v (fun I0_2_q13924 h_I0_2_q13924 => ?_)
        have l_1 := il_1
        have t_13925 := ia_add (I0_l3 0) (1 : Int32) (by omega) (by omega)
        have k_I0_2_q13924 : KX9 I0_2_q13924 M0_1_q13923 := by rw [h_I0_2_q13924]; exact KX9.si0 k_M0_1_q13923 ⟨by omega, by omega⟩
        have l_m8 := il_m8
        have t_13927 := ia_add y3_2 ((-8) : Int32) (by omega) (by omega)
        refine wq_v (fun v3_q13926 h_v3_q13926 => ?_)
        have t_v3_q13926 := congrArg Int32.toInt h_v3_q13926
        exact ih I0_2_q13924 M0_1_q13923 v3_q13926 ⟨by omega, by omega⟩ k_I0_2_q13924 (by omega)
set_option maxHeartbeats 4000000 in
theorem tt_fX9_put {N : Nat} (hN : 3000000000 ≤ N) (I0 : Nat → Int32) (M0 : Nat → Nat → Int32) (x1 : Int32) (k_I0 : KX9 I0 M0) : wq (fX9_put N I0 M0 x1) (fun r => KX9 r.1 r.2 ∧ True) := by
  unfold fX9_put
  have b_13928 := i32b x1
  have l_24 := il_24
  exact tt_fX9_put_L3 hN x1 N I0 M0 (24 : Int32) ⟨by omega, by omega⟩ k_I0 (by omega)
set_option maxHeartbeats 4000000 in
theorem tt_fX9_begin {N : Nat} (hN : 3000000000 ≤ N) (I0 : Nat → Int32) (M0 : Nat → Nat → Int32) (x1 : Int32) (h_x1 : 0 ≤ x1.toInt ∧ x1.toInt ≤ 600) (k_I0 : KX9 I0 M0) : wq (fX9_begin N I0 M0 x1) (fun r => KX9 r.1 r.2 ∧ True) := by
  unfold fX9_begin
  refine wq_v (fun I0_1_q13969 h_I0_1_q13969 => ?_)
  have t_13970 := KX9.i0 k_I0
  have t_13971 := ite_lt (I0 0) x1 (I0 0) x1
  have k_I0_1_q13969 : KX9 I0_1_q13969 M0 := by rw [h_I0_1_q13969]; exact KX9.si1 k_I0 ⟨by omega, by omega⟩
  refine wq_v (fun I0_2_q13972 h_I0_2_q13972 => ?_)
  have l_0 := il_0
  have k_I0_2_q13972 : KX9 I0_2_q13972 M0 := by rw [h_I0_2_q13972]; exact KX9.si0 k_I0_1_q13969 ⟨by omega, by omega⟩
  refine wq_v (fun I0_3_q13973 h_I0_3_q13973 => ?_)
  have k_I0_3_q13973 : KX9 I0_3_q13973 M0 := by rw [h_I0_3_q13973]; exact KX9.si3 k_I0_2_q13972 ⟨by omega, by omega⟩
  refine wq_v (fun I0_4_q13974 h_I0_4_q13974 => ?_)
  have k_I0_4_q13974 : KX9 I0_4_q13974 M0 := by rw [h_I0_4_q13974]; exact KX9.si7 k_I0_3_q13973
  refine wq_v (fun I0_5_q13975 h_I0_5_q13975 => ?_)
  have k_I0_5_q13975 : KX9 I0_5_q13975 M0 := by rw [h_I0_5_q13975]; exact KX9.si8 k_I0_4_q13974
  refine wq_b (tt_fX9_step hN I0_5_q13975 M0 k_I0_5_q13975) (fun r6_q13976 h_r6_q13976 => ?_)
  obtain ⟨h_r6_q13976_0, -⟩ := h_r6_q13976
  exact wq_s ⟨h_r6_q13976_0, trivial⟩
set_option maxHeartbeats 4000000 in
theorem tt_fX10_priceOfEntry {N : Nat} (hN : 3000000000 ≤ N) (I0 : Nat → Int32) (M0 : Nat → Nat → Int32) (x1 : Int32) (x2 : Int32) (x3 : Int32) (h_x2 : -1 ≤ x2.toInt ∧ x2.toInt ≤ 389) (h_x3 : -1 ≤ x3.toInt ∧ x3.toInt ≤ 389) : wq (fX10_priceOfEntry N I0 M0 x1 x2 x3) (fun r => (0 ≤ r.toInt ∧ r.toInt ≤ 4) ∧ True) := by
  unfold fX10_priceOfEntry
  refine wq_eq (fun hc_14049 => ?_) (fun hc_14050 => ?_)
  · have l_0 := il_0
    exact wq_s ⟨(show 0 ≤ (0 : Int32).toInt ∧ (0 : Int32).toInt ≤ 4 from ⟨by omega, by omega⟩), trivial⟩
  · have l_m1 := il_m1
    refine wq_eq (fun hc_14051 => ?_) (fun hc_14052 => ?_)
    · have l_1 := il_1
      exact wq_s ⟨(show 0 ≤ (1 : Int32).toInt ∧ (1 : Int32).toInt ≤ 4 from ⟨by omega, by omega⟩), trivial⟩
    · refine wq_eq (fun hc_14053 => ?_) (fun hc_14054 => ?_)
      · have l_4 := il_4
        exact wq_s ⟨(show 0 ≤ (4 : Int32).toInt ∧ (4 : Int32).toInt ≤ 4 from ⟨by omega, by omega⟩), trivial⟩
      · have b_14055 := i32b x1
        have l_21 := il_21
        refine wq_eq (fun hc_14056 => ?_) (fun hc_14057 => ?_)
        · have l_3 := il_3
          exact wq_s ⟨(show 0 ≤ (3 : Int32).toInt ∧ (3 : Int32).toInt ≤ 4 from ⟨by omega, by omega⟩), trivial⟩
        · refine wq_b (tt_fX4_costBeside hN I0 M0 x3 x2 ⟨by omega, by omega⟩) (fun r1_q14058 h_r1_q14058 => ?_)
          obtain ⟨h_r1_q14058_0, -⟩ := h_r1_q14058
          have l_1 := il_1
          refine wq_eq (fun hc_14059 => ?_) (fun hc_14060 => ?_)
          · exact wq_s ⟨(show 0 ≤ (1 : Int32).toInt ∧ (1 : Int32).toInt ≤ 4 from ⟨by omega, by omega⟩), trivial⟩
          · have l_3 := il_3
            exact wq_s ⟨(show 0 ≤ (3 : Int32).toInt ∧ (3 : Int32).toInt ≤ 4 from ⟨by omega, by omega⟩), trivial⟩
set_option maxHeartbeats 4000000 in
theorem tt_fX10_priceOf_L16 {N : Nat} (hN : 3000000000 ≤ N) (I0 : Nat → Int32) (M0 : Nat → Nat → Int32) (I1 : Nat → Int32) (M1 : Nat → Nat → Int32) (x2 : Int32) (x3 : Int32) (y6_5 : Int32) (g6 : Int32 → Int32 → Option (Int32)) (h_x2 : 0 ≤ x2.toInt ∧ x2.toInt ≤ 5) (h_x3 : 0 ≤ x3.toInt ∧ x3.toInt ≤ 5) (h_y6_5 : 0 ≤ y6_5.toInt ∧ y6_5.toInt ≤ 19) (k_I1 : KX1 I1 M1) (hg6 : ∀ (q0 : Int32) (q1 : Int32), (0 ≤ q1.toInt ∧ q1.toInt ≤ 20) → (y6_5.toInt < q1.toInt) → wq (g6 q0 q1) (fun r => True)) : ∀ (fu : Nat) (y16_4 : Int32) (y16_6 : Int32), (0 ≤ y16_6.toInt ∧ y16_6.toInt ≤ 22) → (22 - y16_6.toInt) < (fu : Int) → wq (fX10_priceOf_L16 N I0 M0 I1 M1 x2 x3 y6_5 g6 fu y16_4 y16_6) (fun r => True) := by
  intro fu
  induction fu with
  | zero => intro y16_4 y16_6 h_y16_6 hm; exfalso; omega
  | succ fu ih =>
    intro y16_4 y16_6 h_y16_6 hm
    rw [fX10_priceOf_L16.eq_2]
    have l_22 := il_22
    refine wq_le (fun hc_14444 => ?_) (fun hc_14445 => ?_)
    · have l_1 := il_1
      have t_14447 := ia_add y6_5 (1 : Int32) (by omega) (by omega)
      refine wq_v (fun v1_q14446 h_v1_q14446 => ?_)
      have t_v1_q14446 := congrArg Int32.toInt h_v1_q14446
      have b_14448 := i32b y16_4
      exact hg6 y16_4 v1_q14446 ⟨by omega, by omega⟩ (by omega)
    · have l_20 := il_20
      have t_14449 := ia_mul (20 : Int32) (20) il_20 x2 (by omega) (by omega)
      have t_14450 := ia_add ((20 : Int32) * x2) y6_5 (by omega) (by omega)
      refine wq_b (tt_fX1_degreeOf hN I1 M1 (((20 : Int32) * x2) + y6_5) y16_6 ⟨by omega, by omega⟩ ⟨by omega, by omega⟩ k_I1) (fun r2_q14451 h_r2_q14451 => ?_)
      obtain ⟨h_r2_q14451_0, h_r2_q14451_1, -⟩ := h_r2_q14451
      have t_14452 := ia_mul (20 : Int32) (20) il_20 x3 (by omega) (by omega)
      have t_14453 := ia_add ((20 : Int32) * x3) y6_5 (by omega) (by omega)
      refine wq_b (tt_fX1_degreeOf hN I1 M1 (((20 : Int32) * x3) + y6_5) y16_6 ⟨by omega, by omega⟩ ⟨by omega, by omega⟩ k_I1) (fun r3_q14454 h_r3_q14454 => ?_)
      obtain ⟨h_r3_q14454_0, h_r3_q14454_1, -⟩ := h_r3_q14454
      refine wq_b (tt_fX10_priceOfEntry hN I0 M0 y16_6 r2_q14451 r3_q14454 ⟨by omega, by omega⟩ ⟨by omega, by omega⟩) (fun r4_q14455 h_r4_q14455 => ?_)
      obtain ⟨h_r4_q14455_0, -⟩ := h_r4_q14455
      have b_14457 := i32b y16_4
      refine wq_v (fun v5_q14456 h_v5_q14456 => ?_)
      have t_v5_q14456 := congrArg Int32.toInt h_v5_q14456
      have l_1 := il_1
      have t_14459 := ia_add y16_6 (1 : Int32) (by omega) (by omega)
      refine wq_v (fun v6_q14458 h_v6_q14458 => ?_)
      have t_v6_q14458 := congrArg Int32.toInt h_v6_q14458
      have b_14460 := i32b v5_q14456
      exact ih v5_q14456 v6_q14458 ⟨by omega, by omega⟩ (by omega)
set_option maxHeartbeats 4000000 in
theorem tt_fX10_priceOf_L6 {N : Nat} (hN : 3000000000 ≤ N) (I0 : Nat → Int32) (M0 : Nat → Nat → Int32) (I1 : Nat → Int32) (M1 : Nat → Nat → Int32) (x2 : Int32) (x3 : Int32) (h_x2 : 0 ≤ x2.toInt ∧ x2.toInt ≤ 5) (h_x3 : 0 ≤ x3.toInt ∧ x3.toInt ≤ 5) (k_I1 : KX1 I1 M1)  : ∀ (fu : Nat) (y6_4 : Int32) (y6_5 : Int32), (0 ≤ y6_5.toInt ∧ y6_5.toInt ≤ 20) → (20 - y6_5.toInt) < (fu : Int) → wq (fX10_priceOf_L6 N I0 M0 I1 M1 x2 x3 fu y6_4 y6_5) (fun r => True) := by
  intro fu
  induction fu with
  | zero => intro y6_4 y6_5 h_y6_5 hm; exfalso; omega
  | succ fu ih =>
    intro y6_4 y6_5 h_y6_5 hm
    rw [fX10_priceOf_L6.eq_2]
    have l_20 := il_20
    refine wq_le (fun hc_14461 => ?_) (fun hc_14462 => ?_)
    · have b_14463 := i32b y6_4
      exact wq_s trivial
    · have b_14464 := i32b y6_4
      have l_0 := il_0
      exact tt_fX10_priceOf_L16 hN I0 M0 I1 M1 x2 x3 y6_5 _ ⟨by omega, by omega⟩ ⟨by omega, by omega⟩ ⟨by omega, by omega⟩ k_I1 (fun q0 q1 hq0 hq1 => ih q0 q1 hq0 (by omega)) N y6_4 (0 : Int32) ⟨by omega, by omega⟩ (by omega)
set_option maxHeartbeats 4000000 in
theorem tt_fX10_priceOf {N : Nat} (hN : 3000000000 ≤ N) (I0 : Nat → Int32) (M0 : Nat → Nat → Int32) (I1 : Nat → Int32) (M1 : Nat → Nat → Int32) (x2 : Int32) (x3 : Int32) (h_x2 : 0 ≤ x2.toInt ∧ x2.toInt ≤ 5) (h_x3 : 0 ≤ x3.toInt ∧ x3.toInt ≤ 5) (k_I1 : KX1 I1 M1) : wq (fX10_priceOf N I0 M0 I1 M1 x2 x3) (fun r => True) := by
  unfold fX10_priceOf
  have l_0 := il_0
  exact tt_fX10_priceOf_L6 hN I0 M0 I1 M1 x2 x3 ⟨by omega, by omega⟩ ⟨by omega, by omega⟩ k_I1 N (0 : Int32) (0 : Int32) ⟨by omega, by omega⟩ (by omega)
set_option maxHeartbeats 4000000 in
theorem tt_fX10_setBooks_L4 {N : Nat} (hN : 3000000000 ≤ N) (I1 : Nat → Int32) (M1 : Nat → Nat → Int32) (k_I1 : KX1 I1 M1)  : ∀ (fu : Nat) (I0_l4 : (Nat → Int32)) (M0_l4 : (Nat → Nat → Int32)) (y4_2 : Int32) (y4_3 : Int32), (0 ≤ y4_2.toInt ∧ y4_2.toInt ≤ 1) → (0 ≤ y4_3.toInt ∧ y4_3.toInt ≤ 6) → (KX10 I0_l4 M0_l4) → (6 - y4_3.toInt) < (fu : Int) → wq (fX10_setBooks_L4 N I1 M1 fu I0_l4 M0_l4 y4_2 y4_3) (fun r => (0 ≤ r.1.toInt ∧ r.1.toInt ≤ 1) ∧ KX10 r.2.1 r.2.2 ∧ True) := by
  intro fu
  induction fu with
  | zero => intro I0_l4 M0_l4 y4_2 y4_3 h_y4_2 h_y4_3 k_I0_l4 hm; exfalso; omega
  | succ fu ih =>
    intro I0_l4 M0_l4 y4_2 y4_3 h_y4_2 h_y4_3 k_I0_l4 hm
    rw [fX10_setBooks_L4.eq_2]
    have l_6 := il_6
    refine wq_le (fun hc_14780 => ?_) (fun hc_14781 => ?_)
    · refine wq_bz (by omega) ?_
      exact wq_s ⟨(show 0 ≤ y4_2.toInt ∧ y4_2.toInt ≤ 1 from ⟨by omega, by omega⟩), k_I0_l4, trivial⟩
    · refine wq_b (tt_fX1_bookTells hN I1 M1 y4_3 ⟨by omega, by omega⟩ k_I1) (fun r5_q14782 h_r5_q14782 => ?_)
      obtain ⟨h_r5_q14782_0, -⟩ := h_r5_q14782
      have l_0 := il_0
      refine wq_eq (fun hc_14783 => ?_) (fun hc_14784 => ?_)
      · unfold fX10_setBooks_J30
        refine wq_in (n := 6) ⟨by omega, by omega⟩ ?_
        refine wq_v (fun M0_1_q14785 h_M0_1_q14785 => ?_)
        have l_m2 := il_m2
        have k_M0_1_q14785 : KX10 I0_l4 M0_1_q14785 := by rw [h_M0_1_q14785]; exact KX10.sm1 k_I0_l4 ⟨by omega, by omega⟩
        refine wq_eq (fun hc_14786 => ?_) (fun hc_14787 => ?_)
        · refine wq_in (n := 6) ⟨by omega, by omega⟩ ?_
          have t_14788 := KX10.m1 k_M0_1_q14785 y4_3.toNatClampNeg
          have l_m3 := il_m3
          refine wq_eq (fun hc_14789 => ?_) (fun hc_14790 => ?_)
          · have l_1 := il_1
            have t_14792 := ia_add y4_3 (1 : Int32) (by omega) (by omega)
            refine wq_v (fun v4_q14791 h_v4_q14791 => ?_)
            have t_v4_q14791 := congrArg Int32.toInt h_v4_q14791
            exact ih I0_l4 M0_1_q14785 (1 : Int32) v4_q14791 ⟨by omega, by omega⟩ ⟨by omega, by omega⟩ k_M0_1_q14785 (by omega)
          · have l_1 := il_1
            have t_14794 := ia_add y4_3 (1 : Int32) (by omega) (by omega)
            refine wq_v (fun v3_q14793 h_v3_q14793 => ?_)
            have t_v3_q14793 := congrArg Int32.toInt h_v3_q14793
            exact ih I0_l4 M0_1_q14785 (0 : Int32) v3_q14793 ⟨by omega, by omega⟩ ⟨by omega, by omega⟩ k_M0_1_q14785 (by omega)
        · have l_1 := il_1
          have t_14796 := ia_add y4_3 (1 : Int32) (by omega) (by omega)
          refine wq_v (fun v2_q14795 h_v2_q14795 => ?_)
          have t_v2_q14795 := congrArg Int32.toInt h_v2_q14795
          exact ih I0_l4 M0_1_q14785 (1 : Int32) v2_q14795 ⟨by omega, by omega⟩ ⟨by omega, by omega⟩ k_M0_1_q14785 (by omega)
      · unfold fX10_setBooks_J30
        refine wq_in (n := 6) ⟨by omega, by omega⟩ ?_
        refine wq_v (fun M0_1_q14797 h_M0_1_q14797 => ?_)
        have l_m3 := il_m3
        have k_M0_1_q14797 : KX10 I0_l4 M0_1_q14797 := by rw [h_M0_1_q14797]; exact KX10.sm1 k_I0_l4 ⟨by omega, by omega⟩
        refine wq_eq (fun hc_14798 => ?_) (fun hc_14799 => ?_)
        · refine wq_in (n := 6) ⟨by omega, by omega⟩ ?_
          have t_14800 := KX10.m1 k_M0_1_q14797 y4_3.toNatClampNeg
          refine wq_eq (fun hc_14801 => ?_) (fun hc_14802 => ?_)
          · have l_1 := il_1
            have t_14804 := ia_add y4_3 (1 : Int32) (by omega) (by omega)
            refine wq_v (fun v4_q14803 h_v4_q14803 => ?_)
            have t_v4_q14803 := congrArg Int32.toInt h_v4_q14803
            exact ih I0_l4 M0_1_q14797 (1 : Int32) v4_q14803 ⟨by omega, by omega⟩ ⟨by omega, by omega⟩ k_M0_1_q14797 (by omega)
          · have l_1 := il_1
            have t_14806 := ia_add y4_3 (1 : Int32) (by omega) (by omega)
            refine wq_v (fun v3_q14805 h_v3_q14805 => ?_)
            have t_v3_q14805 := congrArg Int32.toInt h_v3_q14805
            exact ih I0_l4 M0_1_q14797 (0 : Int32) v3_q14805 ⟨by omega, by omega⟩ ⟨by omega, by omega⟩ k_M0_1_q14797 (by omega)
        · have l_1 := il_1
          have t_14808 := ia_add y4_3 (1 : Int32) (by omega) (by omega)
          refine wq_v (fun v2_q14807 h_v2_q14807 => ?_)
          have t_v2_q14807 := congrArg Int32.toInt h_v2_q14807
          exact ih I0_l4 M0_1_q14797 (1 : Int32) v2_q14807 ⟨by omega, by omega⟩ ⟨by omega, by omega⟩ k_M0_1_q14797 (by omega)
set_option maxHeartbeats 4000000 in
theorem tt_fX10_setBooks {N : Nat} (hN : 3000000000 ≤ N) (I0 : Nat → Int32) (M0 : Nat → Nat → Int32) (I1 : Nat → Int32) (M1 : Nat → Nat → Int32) (k_I0 : KX10 I0 M0) (k_I1 : KX1 I1 M1) : wq (fX10_setBooks N I0 M0 I1 M1) (fun r => (0 ≤ r.1.toInt ∧ r.1.toInt ≤ 1) ∧ KX10 r.2.1 r.2.2 ∧ True) := by
  unfold fX10_setBooks
  have l_0 := il_0
  exact tt_fX10_setBooks_L4 hN I1 M1 k_I1 N I0 M0 (0 : Int32) (0 : Int32) ⟨by omega, by omega⟩ ⟨by omega, by omega⟩ k_I0 (by omega)
set_option maxHeartbeats 4000000 in
theorem tt_fX10_setPrices_L11 {N : Nat} (hN : 3000000000 ≤ N) (I1 : Nat → Int32) (M1 : Nat → Nat → Int32) (I2 : Nat → Int32) (M2 : Nat → Nat → Int32) (y2_3 : Int32) (g2 : (Nat → Int32) → (Nat → Nat → Int32) → Int32 → Option ((Nat → Int32) × (Nat → Nat → Int32))) (h_y2_3 : 0 ≤ y2_3.toInt ∧ y2_3.toInt ≤ 5) (k_I2 : KX1 I2 M2) (hg2 : ∀ (q0 : (Nat → Int32)) (q1 : (Nat → Nat → Int32)) (q2 : Int32), (0 ≤ q2.toInt ∧ q2.toInt ≤ 6) → (KX10 q0 q1) → (y2_3.toInt < q2.toInt) → wq (g2 q0 q1 q2) (fun r => KX10 r.1 r.2 ∧ True)) : ∀ (fu : Nat) (I0_l11 : (Nat → Int32)) (M0_l11 : (Nat → Nat → Int32)) (y11_4 : Int32), (0 ≤ y11_4.toInt ∧ y11_4.toInt ≤ 6) → (KX10 I0_l11 M0_l11) → (6 - y11_4.toInt) < (fu : Int) → wq (fX10_setPrices_L11 N I1 M1 I2 M2 y2_3 g2 fu I0_l11 M0_l11 y11_4) (fun r => KX10 r.1 r.2 ∧ True) := by
  intro fu
  induction fu with
  | zero => intro I0_l11 M0_l11 y11_4 h_y11_4 k_I0_l11 hm; exfalso; omega
  | succ fu ih =>
    intro I0_l11 M0_l11 y11_4 h_y11_4 k_I0_l11 hm
    rw [fX10_setPrices_L11.eq_2]
    have l_6 := il_6
    refine wq_le (fun hc_15275 => ?_) (fun hc_15276 => ?_)
    · have l_1 := il_1
      have t_15278 := ia_add y2_3 (1 : Int32) (by omega) (by omega)
      refine wq_v (fun v6_q15277 h_v6_q15277 => ?_)
      have t_v6_q15277 := congrArg Int32.toInt h_v6_q15277
      exact hg2 I0_l11 M0_l11 v6_q15277 ⟨by omega, by omega⟩ k_I0_l11 (by omega)
    · refine wq_in (n := 6) ⟨by omega, by omega⟩ ?_
      have t_15279 := KX10.m1 k_I0_l11 y2_3.toNatClampNeg
      have l_m3 := il_m3
      refine wq_eq (fun hc_15280 => ?_) (fun hc_15281 => ?_)
      · refine wq_in (n := 6) ⟨by omega, by omega⟩ ?_
        have t_15282 := KX10.m1 k_I0_l11 y11_4.toNatClampNeg
        refine wq_eq (fun hc_15283 => ?_) (fun hc_15284 => ?_)
        · unfold fX10_setPrices_J46
          have l_1 := il_1
          have l_0 := il_0
          refine wq_eq (fun hc_15285 => ?_) (fun hc_15286 => ?_)
          · exfalso; omega
          · refine wq_b (tt_fX10_priceOf hN I1 M1 I2 M2 y2_3 y11_4 ⟨by omega, by omega⟩ ⟨by omega, by omega⟩ k_I2) (fun r3_q15287 h_r3_q15287 => ?_)
            obtain ⟨-⟩ := h_r3_q15287
            have t_15288 := ia_mul (6 : Int32) (6) il_6 y2_3 (by omega) (by omega)
            have t_15289 := ia_add ((6 : Int32) * y2_3) y11_4 (by omega) (by omega)
            refine wq_in (n := 36) ⟨by omega, by omega⟩ ?_
            refine wq_v (fun M0_4_q15290 h_M0_4_q15290 => ?_)
            have k_M0_4_q15290 : KX10 I0_l11 M0_4_q15290 := by rw [h_M0_4_q15290]; exact KX10.sm0 k_I0_l11
            have t_15292 := ia_add y11_4 (1 : Int32) (by omega) (by omega)
            refine wq_v (fun v5_q15291 h_v5_q15291 => ?_)
            have t_v5_q15291 := congrArg Int32.toInt h_v5_q15291
            exact ih I0_l11 M0_4_q15290 v5_q15291 ⟨by omega, by omega⟩ k_M0_4_q15290 (by omega)
        · unfold fX10_setPrices_J45
          unfold fX10_setPrices_J46
          have l_0 := il_0
          refine wq_eq (fun hc_15293 => ?_) (fun hc_15294 => ?_)
          · have t_15295 := ia_mul (6 : Int32) (6) il_6 y2_3 (by omega) (by omega)
            have t_15296 := ia_add ((6 : Int32) * y2_3) y11_4 (by omega) (by omega)
            refine wq_in (n := 36) ⟨by omega, by omega⟩ ?_
            refine wq_v (fun M0_1_q15297 h_M0_1_q15297 => ?_)
            have k_M0_1_q15297 : KX10 I0_l11 M0_1_q15297 := by rw [h_M0_1_q15297]; exact KX10.sm0 k_I0_l11
            have l_1 := il_1
            have t_15299 := ia_add y11_4 (1 : Int32) (by omega) (by omega)
            refine wq_v (fun v2_q15298 h_v2_q15298 => ?_)
            have t_v2_q15298 := congrArg Int32.toInt h_v2_q15298
            exact ih I0_l11 M0_1_q15297 v2_q15298 ⟨by omega, by omega⟩ k_M0_1_q15297 (by omega)
          · exfalso; omega
      · unfold fX10_setPrices_J45
        unfold fX10_setPrices_J46
        have l_0 := il_0
        refine wq_eq (fun hc_15300 => ?_) (fun hc_15301 => ?_)
        · have t_15302 := ia_mul (6 : Int32) (6) il_6 y2_3 (by omega) (by omega)
          have t_15303 := ia_add ((6 : Int32) * y2_3) y11_4 (by omega) (by omega)
          refine wq_in (n := 36) ⟨by omega, by omega⟩ ?_
          refine wq_v (fun M0_1_q15304 h_M0_1_q15304 => ?_)
          have k_M0_1_q15304 : KX10 I0_l11 M0_1_q15304 := by rw [h_M0_1_q15304]; exact KX10.sm0 k_I0_l11
          have l_1 := il_1
          have t_15306 := ia_add y11_4 (1 : Int32) (by omega) (by omega)
          refine wq_v (fun v2_q15305 h_v2_q15305 => ?_)
          have t_v2_q15305 := congrArg Int32.toInt h_v2_q15305
          exact ih I0_l11 M0_1_q15304 v2_q15305 ⟨by omega, by omega⟩ k_M0_1_q15304 (by omega)
        · exfalso; omega
set_option maxHeartbeats 4000000 in
theorem tt_fX10_setPrices_L2 {N : Nat} (hN : 3000000000 ≤ N) (I1 : Nat → Int32) (M1 : Nat → Nat → Int32) (I2 : Nat → Int32) (M2 : Nat → Nat → Int32) (k_I2 : KX1 I2 M2)  : ∀ (fu : Nat) (I0_l2 : (Nat → Int32)) (M0_l2 : (Nat → Nat → Int32)) (y2_3 : Int32), (0 ≤ y2_3.toInt ∧ y2_3.toInt ≤ 6) → (KX10 I0_l2 M0_l2) → (6 - y2_3.toInt) < (fu : Int) → wq (fX10_setPrices_L2 N I1 M1 I2 M2 fu I0_l2 M0_l2 y2_3) (fun r => KX10 r.1 r.2 ∧ True) := by
  intro fu
  induction fu with
  | zero => intro I0_l2 M0_l2 y2_3 h_y2_3 k_I0_l2 hm; exfalso; omega
  | succ fu ih =>
    intro I0_l2 M0_l2 y2_3 h_y2_3 k_I0_l2 hm
    rw [fX10_setPrices_L2.eq_2]
    have l_6 := il_6
    refine wq_le (fun hc_15307 => ?_) (fun hc_15308 => ?_)
    · exact wq_s ⟨k_I0_l2, trivial⟩
    · have l_0 := il_0
      exact tt_fX10_setPrices_L11 hN I1 M1 I2 M2 y2_3 _ ⟨by omega, by omega⟩ k_I2 (fun q0 q1 q2 hq0 hq1 hq2 => ih q0 q1 q2 hq0 hq1 (by omega)) N I0_l2 M0_l2 (0 : Int32) ⟨by omega, by omega⟩ k_I0_l2 (by omega)
set_option maxHeartbeats 4000000 in
theorem tt_fX10_setPrices {N : Nat} (hN : 3000000000 ≤ N) (I0 : Nat → Int32) (M0 : Nat → Nat → Int32) (I1 : Nat → Int32) (M1 : Nat → Nat → Int32) (I2 : Nat → Int32) (M2 : Nat → Nat → Int32) (k_I0 : KX10 I0 M0) (k_I2 : KX1 I2 M2) : wq (fX10_setPrices N I0 M0 I1 M1 I2 M2) (fun r => KX10 r.1 r.2 ∧ True) := by
  unfold fX10_setPrices
  have l_0 := il_0
  exact tt_fX10_setPrices_L2 hN I1 M1 I2 M2 k_I2 N I0 M0 (0 : Int32) ⟨by omega, by omega⟩ k_I0 (by omega)
set_option maxHeartbeats 4000000 in
theorem tt_fX10_comesFrom_L5 {N : Nat} (hN : 3000000000 ≤ N) (I0 : Nat → Int32) (M0 : Nat → Nat → Int32) (x1 : Int32) (x2 : Int32) (h_x1 : 0 ≤ x1.toInt ∧ x1.toInt ≤ 5) (h_x2 : 0 ≤ x2.toInt ∧ x2.toInt ≤ 5) (k_I0 : KX10 I0 M0)  : ∀ (fu : Nat) (y5_3 : Int32) (y5_4 : Int32), (-3 ≤ y5_3.toInt ∧ y5_3.toInt ≤ 5) → (0 ≤ y5_4.toInt ∧ y5_4.toInt ≤ 6) → (6 - y5_4.toInt) < (fu : Int) → wq (fX10_comesFrom_L5 N I0 M0 x1 x2 fu y5_3 y5_4) (fun r => (0 ≤ r.toInt ∧ r.toInt ≤ 1) ∧ True) := by
  intro fu
  induction fu with
  | zero => intro y5_3 y5_4 h_y5_3 h_y5_4 hm; exfalso; omega
  | succ fu ih =>
    intro y5_3 y5_4 h_y5_3 h_y5_4 hm
    rw [fX10_comesFrom_L5.eq_2]
    have l_6 := il_6
    refine wq_le (fun hc_15409 => ?_) (fun hc_15410 => ?_)
    · have l_0 := il_0
      exact wq_s ⟨(show 0 ≤ (0 : Int32).toInt ∧ (0 : Int32).toInt ≤ 1 from ⟨by omega, by omega⟩), trivial⟩
    · have l_0 := il_0
      refine wq_lt (fun hc_15411 => ?_) (fun hc_15412 => ?_)
      · exact wq_s ⟨(show 0 ≤ (0 : Int32).toInt ∧ (0 : Int32).toInt ≤ 1 from ⟨by omega, by omega⟩), trivial⟩
      · refine wq_eq (fun hc_15413 => ?_) (fun hc_15414 => ?_)
        · have l_1 := il_1
          exact wq_s ⟨(show 0 ≤ (1 : Int32).toInt ∧ (1 : Int32).toInt ≤ 1 from ⟨by omega, by omega⟩), trivial⟩
        · refine wq_in (n := 6) ⟨by omega, by omega⟩ ?_
          have t_15416 := KX10.m1 k_I0 y5_3.toNatClampNeg
          refine wq_v (fun v1_q15415 h_v1_q15415 => ?_)
          have t_v1_q15415 := congrArg Int32.toInt h_v1_q15415
          have l_1 := il_1
          have t_15418 := ia_add y5_4 (1 : Int32) (by omega) (by omega)
          refine wq_v (fun v2_q15417 h_v2_q15417 => ?_)
          have t_v2_q15417 := congrArg Int32.toInt h_v2_q15417
          exact ih v1_q15415 v2_q15417 ⟨by omega, by omega⟩ ⟨by omega, by omega⟩ (by omega)
set_option maxHeartbeats 4000000 in
theorem tt_fX10_comesFrom {N : Nat} (hN : 3000000000 ≤ N) (I0 : Nat → Int32) (M0 : Nat → Nat → Int32) (x1 : Int32) (x2 : Int32) (h_x1 : 0 ≤ x1.toInt ∧ x1.toInt ≤ 5) (h_x2 : 0 ≤ x2.toInt ∧ x2.toInt ≤ 5) (k_I0 : KX10 I0 M0) : wq (fX10_comesFrom N I0 M0 x1 x2) (fun r => (0 ≤ r.toInt ∧ r.toInt ≤ 1) ∧ True) := by
  unfold fX10_comesFrom
  have l_0 := il_0
  exact tt_fX10_comesFrom_L5 hN I0 M0 x1 x2 ⟨by omega, by omega⟩ ⟨by omega, by omega⟩ k_I0 N x1 (0 : Int32) ⟨by omega, by omega⟩ ⟨by omega, by omega⟩ (by omega)
set_option maxHeartbeats 4000000 in
theorem tt_fX10_choose_d1 {N : Nat} (hN : 3000000000 ≤ N) (I0 : Nat → Int32) (M0 : Nat → Nat → Int32) (x1 : Int32) (x2 : Int32) (x3 : Int32) (h_x1 : 6 ≤ x1.toInt ∧ x1.toInt ≤ 6) (k_I0 : KX10 I0 M0) : wq (fX10_choose_d1 N I0 M0 x1 x2 x3) (fun r => KX10 r.1 r.2 ∧ True) := by
  unfold fX10_choose_d1
  refine wq_lt (fun _ => ?_) (fun _ => wq_s ⟨k_I0, trivial⟩)
  have l_6 := il_6
  refine wq_lt (fun hc => ?_) (fun _ => ?_)
  · exfalso; omega
  · refine wq_v (fun I hI => ?_)
    refine wq_n (by decide) ?_
    refine wq_v (fun M hM => ?_)
    refine wq_s ⟨?_, trivial⟩
    rw [hI, hM]
    refine KX10.sf2 (KX10.si0 k_I0) (fun j => ?_)
    unfold va_cpy
    by_cases q : ((0 : Int32)).toNatClampNeg ≤ j ∧ j < ((0 : Int32)).toNatClampNeg + ((6 : Int32)).toNatClampNeg
    · rw [if_pos q]; exact KX10.m1 k_I0 _
    · rw [if_neg q]; exact KX10.m2 k_I0 _
set_option maxHeartbeats 4000000 in
theorem tt_fX10_choose_d2_L80 {N : Nat} (hN : 3000000000 ≤ N) (x1 : Int32) (x2 : Int32) (x3 : Int32) (h_x1 : 5 ≤ x1.toInt ∧ x1.toInt ≤ 5)  : ∀ (fu : Nat) (I0_l80 : (Nat → Int32)) (M0_l80 : (Nat → Nat → Int32)) (y80_4 : Int32), (0 ≤ y80_4.toInt ∧ y80_4.toInt ≤ 6) → (KX10 I0_l80 M0_l80) → (6 - y80_4.toInt) < (fu : Int) → wq (fX10_choose_d2_L80 N x1 x2 x3 fu I0_l80 M0_l80 y80_4) (fun r => KX10 r.1 r.2 ∧ True) := by
  intro fu
  induction fu with
  | zero => intro I0_l80 M0_l80 y80_4 h_y80_4 k_I0_l80 hm; exfalso; omega
  | succ fu ih =>
    intro I0_l80 M0_l80 y80_4 h_y80_4 k_I0_l80 hm
    rw [fX10_choose_d2_L80.eq_2]
    have l_6 := il_6
    refine wq_le (fun hc_15834 => ?_) (fun hc_15835 => ?_)
    · refine wq_in (n := 6) ⟨by omega, by omega⟩ ?_
      refine wq_v (fun M0_1_q15836 h_M0_1_q15836 => ?_)
      have l_m3 := il_m3
      have k_M0_1_q15836 : KX10 I0_l80 M0_1_q15836 := by rw [h_M0_1_q15836]; exact KX10.sm1 k_I0_l80 ⟨by omega, by omega⟩
      exact wq_s ⟨k_M0_1_q15836, trivial⟩
    · refine wq_in (n := 6) ⟨by omega, by omega⟩ ?_
      refine wq_v (fun M0_2_q15837 h_M0_2_q15837 => ?_)
      have l_m3 := il_m3
      have k_M0_2_q15837 : KX10 I0_l80 M0_2_q15837 := by rw [h_M0_2_q15837]; exact KX10.sm1 k_I0_l80 ⟨by omega, by omega⟩
      refine wq_in (n := 6) ⟨by omega, by omega⟩ ?_
      have t_15838 := KX10.m1 k_M0_2_q15837 y80_4.toNatClampNeg
      have l_m2 := il_m2
      refine wq_eq (fun hc_15839 => ?_) (fun hc_15840 => ?_)
      · have l_1 := il_1
        have t_15842 := ia_add y80_4 (1 : Int32) (by omega) (by omega)
        refine wq_v (fun v3_q15841 h_v3_q15841 => ?_)
        have t_v3_q15841 := congrArg Int32.toInt h_v3_q15841
        exact ih I0_l80 M0_2_q15837 v3_q15841 ⟨by omega, by omega⟩ k_M0_2_q15837 (by omega)
      · refine wq_b (tt_fX10_comesFrom hN I0_l80 M0_2_q15837 y80_4 x1 ⟨by omega, by omega⟩ ⟨by omega, by omega⟩ k_M0_2_q15837) (fun r4_q15843 h_r4_q15843 => ?_)
        obtain ⟨h_r4_q15843_0, -⟩ := h_r4_q15843
        have l_0 := il_0
        refine wq_eq (fun hc_15844 => ?_) (fun hc_15845 => ?_)
        · refine wq_in (n := 6) ⟨by omega, by omega⟩ ?_
          refine wq_v (fun M0_6_q15846 h_M0_6_q15846 => ?_)
          have k_M0_6_q15846 : KX10 I0_l80 M0_6_q15846 := by rw [h_M0_6_q15846]; exact KX10.sm1 k_M0_2_q15837 ⟨by omega, by omega⟩
          have t_15847 := ia_mul (6 : Int32) (6) il_6 y80_4 (by omega) (by omega)
          have t_15848 := ia_add ((6 : Int32) * y80_4) x1 (by omega) (by omega)
          refine wq_in (n := 36) ⟨by omega, by omega⟩ ?_
          have l_1 := il_1
          have t_15849 := ia_add x1 (1 : Int32) (by omega) (by omega)
          have b_15850 := i32b x2
          have t_15851 : (M0_2_q15837 0 (((6 : Int32) * y80_4) + x1).toNatClampNeg).toInt = (M0_l80 0 (((6 : Int32) * y80_4) + x1).toNatClampNeg).toInt := congrArg (fun z : Nat → Int32 => (z ((((6 : Int32) * y80_4) + x1)).toNatClampNeg).toInt) (show M0_2_q15837 0 = M0_l80 0 from by rw [h_M0_2_q15837]; rfl)
          have t_15852 : (M0_6_q15846 0 (((6 : Int32) * y80_4) + x1).toNatClampNeg).toInt = (M0_2_q15837 0 (((6 : Int32) * y80_4) + x1).toNatClampNeg).toInt := congrArg (fun z : Nat → Int32 => (z ((((6 : Int32) * y80_4) + x1)).toNatClampNeg).toInt) (show M0_6_q15846 0 = M0_2_q15837 0 from by rw [h_M0_6_q15846]; rfl)
          have b_15853 := i32b x3
          refine wq_b (tt_fX10_choose_d1 hN I0_l80 M0_6_q15846 (x1 + (1 : Int32)) (x2 + (M0_6_q15846 0 (((6 : Int32) * y80_4) + x1).toNatClampNeg)) x3 ⟨by omega, by omega⟩ k_M0_6_q15846) (fun r7_q15854 h_r7_q15854 => ?_)
          obtain ⟨h_r7_q15854_0, -⟩ := h_r7_q15854
          have t_15856 := ia_add y80_4 (1 : Int32) (by omega) (by omega)
          refine wq_v (fun v8_q15855 h_v8_q15855 => ?_)
          have t_v8_q15855 := congrArg Int32.toInt h_v8_q15855
          exact ih r7_q15854.1 r7_q15854.2 v8_q15855 ⟨by omega, by omega⟩ h_r7_q15854_0 (by omega)
        · have l_1 := il_1
          have t_15858 := ia_add y80_4 (1 : Int32) (by omega) (by omega)
          refine wq_v (fun v5_q15857 h_v5_q15857 => ?_)
          have t_v5_q15857 := congrArg Int32.toInt h_v5_q15857
          exact ih I0_l80 M0_2_q15837 v5_q15857 ⟨by omega, by omega⟩ k_M0_2_q15837 (by omega)
set_option maxHeartbeats 4000000 in
theorem tt_fX10_choose_d2 {N : Nat} (hN : 3000000000 ≤ N) (I0 : Nat → Int32) (M0 : Nat → Nat → Int32) (x1 : Int32) (x2 : Int32) (x3 : Int32) (h_x1 : 5 ≤ x1.toInt ∧ x1.toInt ≤ 5) (k_I0 : KX10 I0 M0) : wq (fX10_choose_d2 N I0 M0 x1 x2 x3) (fun r => KX10 r.1 r.2 ∧ True) := by
  unfold fX10_choose_d2
  have b_15859 := i32b x2
  refine wq_lt (fun hc_15860 => ?_) (fun hc_15861 => ?_)
  · have l_6 := il_6
    refine wq_lt (fun hc_15862 => ?_) (fun hc_15863 => ?_)
    · refine wq_in (n := 6) ⟨by omega, by omega⟩ ?_
      have t_15864 := KX10.m1 k_I0 x1.toNatClampNeg
      have l_m2 := il_m2
      refine wq_eq (fun hc_15865 => ?_) (fun hc_15866 => ?_)
      · have l_1 := il_1
        have t_15867 := ia_add x1 (1 : Int32) (by omega) (by omega)
        have b_15868 := i32b x3
        refine wq_b (tt_fX10_choose_d1 hN I0 M0 (x1 + (1 : Int32)) x2 x3 ⟨by omega, by omega⟩ k_I0) (fun r11_q15869 h_r11_q15869 => ?_)
        obtain ⟨h_r11_q15869_0, -⟩ := h_r11_q15869
        exact wq_s ⟨h_r11_q15869_0, trivial⟩
      · have b_15870 := i32b x3
        have l_0 := il_0
        refine wq_eq (fun hc_15871 => ?_) (fun hc_15872 => ?_)
        · refine wq_in (n := 6) ⟨by omega, by omega⟩ ?_
          refine wq_v (fun M0_9_q15873 h_M0_9_q15873 => ?_)
          have l_m1 := il_m1
          have k_M0_9_q15873 : KX10 I0 M0_9_q15873 := by rw [h_M0_9_q15873]; exact KX10.sm1 k_I0 ⟨by omega, by omega⟩
          have l_1 := il_1
          have t_15874 := ia_add x1 (1 : Int32) (by omega) (by omega)
          refine wq_b (tt_fX10_choose_d1 hN I0 M0_9_q15873 (x1 + (1 : Int32)) x2 (1 : Int32) ⟨by omega, by omega⟩ k_M0_9_q15873) (fun r10_q15875 h_r10_q15875 => ?_)
          obtain ⟨h_r10_q15875_0, -⟩ := h_r10_q15875
          unfold fX10_choose_d2_J77
          exact tt_fX10_choose_d2_L80 hN x1 x2 x3 ⟨by omega, by omega⟩ N r10_q15875.1 r10_q15875.2 (0 : Int32) ⟨by omega, by omega⟩ h_r10_q15875_0 (by omega)
        · unfold fX10_choose_d2_J77
          exact tt_fX10_choose_d2_L80 hN x1 x2 x3 ⟨by omega, by omega⟩ N I0 M0 (0 : Int32) ⟨by omega, by omega⟩ k_I0 (by omega)
    · exfalso; omega
  · exact wq_s ⟨k_I0, trivial⟩
set_option maxHeartbeats 4000000 in
theorem tt_fX10_choose_d3_L80 {N : Nat} (hN : 3000000000 ≤ N) (x1 : Int32) (x2 : Int32) (x3 : Int32) (h_x1 : 4 ≤ x1.toInt ∧ x1.toInt ≤ 4)  : ∀ (fu : Nat) (I0_l80 : (Nat → Int32)) (M0_l80 : (Nat → Nat → Int32)) (y80_4 : Int32), (0 ≤ y80_4.toInt ∧ y80_4.toInt ≤ 6) → (KX10 I0_l80 M0_l80) → (6 - y80_4.toInt) < (fu : Int) → wq (fX10_choose_d3_L80 N x1 x2 x3 fu I0_l80 M0_l80 y80_4) (fun r => KX10 r.1 r.2 ∧ True) := by
  intro fu
  induction fu with
  | zero => intro I0_l80 M0_l80 y80_4 h_y80_4 k_I0_l80 hm; exfalso; omega
  | succ fu ih =>
    intro I0_l80 M0_l80 y80_4 h_y80_4 k_I0_l80 hm
    rw [fX10_choose_d3_L80.eq_2]
    have l_6 := il_6
    refine wq_le (fun hc_16332 => ?_) (fun hc_16333 => ?_)
    · refine wq_in (n := 6) ⟨by omega, by omega⟩ ?_
      refine wq_v (fun M0_1_q16334 h_M0_1_q16334 => ?_)
      have l_m3 := il_m3
      have k_M0_1_q16334 : KX10 I0_l80 M0_1_q16334 := by rw [h_M0_1_q16334]; exact KX10.sm1 k_I0_l80 ⟨by omega, by omega⟩
      exact wq_s ⟨k_M0_1_q16334, trivial⟩
    · refine wq_in (n := 6) ⟨by omega, by omega⟩ ?_
      refine wq_v (fun M0_2_q16335 h_M0_2_q16335 => ?_)
      have l_m3 := il_m3
      have k_M0_2_q16335 : KX10 I0_l80 M0_2_q16335 := by rw [h_M0_2_q16335]; exact KX10.sm1 k_I0_l80 ⟨by omega, by omega⟩
      refine wq_in (n := 6) ⟨by omega, by omega⟩ ?_
      have t_16336 := KX10.m1 k_M0_2_q16335 y80_4.toNatClampNeg
      have l_m2 := il_m2
      refine wq_eq (fun hc_16337 => ?_) (fun hc_16338 => ?_)
      · have l_1 := il_1
        have t_16340 := ia_add y80_4 (1 : Int32) (by omega) (by omega)
        refine wq_v (fun v3_q16339 h_v3_q16339 => ?_)
        have t_v3_q16339 := congrArg Int32.toInt h_v3_q16339
        exact ih I0_l80 M0_2_q16335 v3_q16339 ⟨by omega, by omega⟩ k_M0_2_q16335 (by omega)
      · refine wq_b (tt_fX10_comesFrom hN I0_l80 M0_2_q16335 y80_4 x1 ⟨by omega, by omega⟩ ⟨by omega, by omega⟩ k_M0_2_q16335) (fun r4_q16341 h_r4_q16341 => ?_)
        obtain ⟨h_r4_q16341_0, -⟩ := h_r4_q16341
        have l_0 := il_0
        refine wq_eq (fun hc_16342 => ?_) (fun hc_16343 => ?_)
        · refine wq_in (n := 6) ⟨by omega, by omega⟩ ?_
          refine wq_v (fun M0_6_q16344 h_M0_6_q16344 => ?_)
          have k_M0_6_q16344 : KX10 I0_l80 M0_6_q16344 := by rw [h_M0_6_q16344]; exact KX10.sm1 k_M0_2_q16335 ⟨by omega, by omega⟩
          have t_16345 := ia_mul (6 : Int32) (6) il_6 y80_4 (by omega) (by omega)
          have t_16346 := ia_add ((6 : Int32) * y80_4) x1 (by omega) (by omega)
          refine wq_in (n := 36) ⟨by omega, by omega⟩ ?_
          have l_1 := il_1
          have t_16347 := ia_add x1 (1 : Int32) (by omega) (by omega)
          have b_16348 := i32b x2
          have t_16349 : (M0_2_q16335 0 (((6 : Int32) * y80_4) + x1).toNatClampNeg).toInt = (M0_l80 0 (((6 : Int32) * y80_4) + x1).toNatClampNeg).toInt := congrArg (fun z : Nat → Int32 => (z ((((6 : Int32) * y80_4) + x1)).toNatClampNeg).toInt) (show M0_2_q16335 0 = M0_l80 0 from by rw [h_M0_2_q16335]; rfl)
          have t_16350 : (M0_6_q16344 0 (((6 : Int32) * y80_4) + x1).toNatClampNeg).toInt = (M0_2_q16335 0 (((6 : Int32) * y80_4) + x1).toNatClampNeg).toInt := congrArg (fun z : Nat → Int32 => (z ((((6 : Int32) * y80_4) + x1)).toNatClampNeg).toInt) (show M0_6_q16344 0 = M0_2_q16335 0 from by rw [h_M0_6_q16344]; rfl)
          have b_16351 := i32b x3
          refine wq_b (tt_fX10_choose_d2 hN I0_l80 M0_6_q16344 (x1 + (1 : Int32)) (x2 + (M0_6_q16344 0 (((6 : Int32) * y80_4) + x1).toNatClampNeg)) x3 ⟨by omega, by omega⟩ k_M0_6_q16344) (fun r7_q16352 h_r7_q16352 => ?_)
          obtain ⟨h_r7_q16352_0, -⟩ := h_r7_q16352
          have t_16354 := ia_add y80_4 (1 : Int32) (by omega) (by omega)
          refine wq_v (fun v8_q16353 h_v8_q16353 => ?_)
          have t_v8_q16353 := congrArg Int32.toInt h_v8_q16353
          exact ih r7_q16352.1 r7_q16352.2 v8_q16353 ⟨by omega, by omega⟩ h_r7_q16352_0 (by omega)
        · have l_1 := il_1
          have t_16356 := ia_add y80_4 (1 : Int32) (by omega) (by omega)
          refine wq_v (fun v5_q16355 h_v5_q16355 => ?_)
          have t_v5_q16355 := congrArg Int32.toInt h_v5_q16355
          exact ih I0_l80 M0_2_q16335 v5_q16355 ⟨by omega, by omega⟩ k_M0_2_q16335 (by omega)
set_option maxHeartbeats 4000000 in
theorem tt_fX10_choose_d3 {N : Nat} (hN : 3000000000 ≤ N) (I0 : Nat → Int32) (M0 : Nat → Nat → Int32) (x1 : Int32) (x2 : Int32) (x3 : Int32) (h_x1 : 4 ≤ x1.toInt ∧ x1.toInt ≤ 4) (k_I0 : KX10 I0 M0) : wq (fX10_choose_d3 N I0 M0 x1 x2 x3) (fun r => KX10 r.1 r.2 ∧ True) := by
  unfold fX10_choose_d3
  have b_16357 := i32b x2
  refine wq_lt (fun hc_16358 => ?_) (fun hc_16359 => ?_)
  · have l_6 := il_6
    refine wq_lt (fun hc_16360 => ?_) (fun hc_16361 => ?_)
    · refine wq_in (n := 6) ⟨by omega, by omega⟩ ?_
      have t_16362 := KX10.m1 k_I0 x1.toNatClampNeg
      have l_m2 := il_m2
      refine wq_eq (fun hc_16363 => ?_) (fun hc_16364 => ?_)
      · have l_1 := il_1
        have t_16365 := ia_add x1 (1 : Int32) (by omega) (by omega)
        have b_16366 := i32b x3
        refine wq_b (tt_fX10_choose_d2 hN I0 M0 (x1 + (1 : Int32)) x2 x3 ⟨by omega, by omega⟩ k_I0) (fun r11_q16367 h_r11_q16367 => ?_)
        obtain ⟨h_r11_q16367_0, -⟩ := h_r11_q16367
        exact wq_s ⟨h_r11_q16367_0, trivial⟩
      · have b_16368 := i32b x3
        have l_0 := il_0
        refine wq_eq (fun hc_16369 => ?_) (fun hc_16370 => ?_)
        · refine wq_in (n := 6) ⟨by omega, by omega⟩ ?_
          refine wq_v (fun M0_9_q16371 h_M0_9_q16371 => ?_)
          have l_m1 := il_m1
          have k_M0_9_q16371 : KX10 I0 M0_9_q16371 := by rw [h_M0_9_q16371]; exact KX10.sm1 k_I0 ⟨by omega, by omega⟩
          have l_1 := il_1
          have t_16372 := ia_add x1 (1 : Int32) (by omega) (by omega)
          refine wq_b (tt_fX10_choose_d2 hN I0 M0_9_q16371 (x1 + (1 : Int32)) x2 (1 : Int32) ⟨by omega, by omega⟩ k_M0_9_q16371) (fun r10_q16373 h_r10_q16373 => ?_)
          obtain ⟨h_r10_q16373_0, -⟩ := h_r10_q16373
          unfold fX10_choose_d3_J77
          exact tt_fX10_choose_d3_L80 hN x1 x2 x3 ⟨by omega, by omega⟩ N r10_q16373.1 r10_q16373.2 (0 : Int32) ⟨by omega, by omega⟩ h_r10_q16373_0 (by omega)
        · unfold fX10_choose_d3_J77
          exact tt_fX10_choose_d3_L80 hN x1 x2 x3 ⟨by omega, by omega⟩ N I0 M0 (0 : Int32) ⟨by omega, by omega⟩ k_I0 (by omega)
    · exfalso; omega
  · exact wq_s ⟨k_I0, trivial⟩
set_option maxHeartbeats 4000000 in
theorem tt_fX10_choose_d4_L80 {N : Nat} (hN : 3000000000 ≤ N) (x1 : Int32) (x2 : Int32) (x3 : Int32) (h_x1 : 3 ≤ x1.toInt ∧ x1.toInt ≤ 3)  : ∀ (fu : Nat) (I0_l80 : (Nat → Int32)) (M0_l80 : (Nat → Nat → Int32)) (y80_4 : Int32), (0 ≤ y80_4.toInt ∧ y80_4.toInt ≤ 6) → (KX10 I0_l80 M0_l80) → (6 - y80_4.toInt) < (fu : Int) → wq (fX10_choose_d4_L80 N x1 x2 x3 fu I0_l80 M0_l80 y80_4) (fun r => KX10 r.1 r.2 ∧ True) := by
  intro fu
  induction fu with
  | zero => intro I0_l80 M0_l80 y80_4 h_y80_4 k_I0_l80 hm; exfalso; omega
  | succ fu ih =>
    intro I0_l80 M0_l80 y80_4 h_y80_4 k_I0_l80 hm
    rw [fX10_choose_d4_L80.eq_2]
    have l_6 := il_6
    refine wq_le (fun hc_16830 => ?_) (fun hc_16831 => ?_)
    · refine wq_in (n := 6) ⟨by omega, by omega⟩ ?_
      refine wq_v (fun M0_1_q16832 h_M0_1_q16832 => ?_)
      have l_m3 := il_m3
      have k_M0_1_q16832 : KX10 I0_l80 M0_1_q16832 := by rw [h_M0_1_q16832]; exact KX10.sm1 k_I0_l80 ⟨by omega, by omega⟩
      exact wq_s ⟨k_M0_1_q16832, trivial⟩
    · refine wq_in (n := 6) ⟨by omega, by omega⟩ ?_
      refine wq_v (fun M0_2_q16833 h_M0_2_q16833 => ?_)
      have l_m3 := il_m3
      have k_M0_2_q16833 : KX10 I0_l80 M0_2_q16833 := by rw [h_M0_2_q16833]; exact KX10.sm1 k_I0_l80 ⟨by omega, by omega⟩
      refine wq_in (n := 6) ⟨by omega, by omega⟩ ?_
      have t_16834 := KX10.m1 k_M0_2_q16833 y80_4.toNatClampNeg
      have l_m2 := il_m2
      refine wq_eq (fun hc_16835 => ?_) (fun hc_16836 => ?_)
      · have l_1 := il_1
        have t_16838 := ia_add y80_4 (1 : Int32) (by omega) (by omega)
        refine wq_v (fun v3_q16837 h_v3_q16837 => ?_)
        have t_v3_q16837 := congrArg Int32.toInt h_v3_q16837
        exact ih I0_l80 M0_2_q16833 v3_q16837 ⟨by omega, by omega⟩ k_M0_2_q16833 (by omega)
      · refine wq_b (tt_fX10_comesFrom hN I0_l80 M0_2_q16833 y80_4 x1 ⟨by omega, by omega⟩ ⟨by omega, by omega⟩ k_M0_2_q16833) (fun r4_q16839 h_r4_q16839 => ?_)
        obtain ⟨h_r4_q16839_0, -⟩ := h_r4_q16839
        have l_0 := il_0
        refine wq_eq (fun hc_16840 => ?_) (fun hc_16841 => ?_)
        · refine wq_in (n := 6) ⟨by omega, by omega⟩ ?_
          refine wq_v (fun M0_6_q16842 h_M0_6_q16842 => ?_)
          have k_M0_6_q16842 : KX10 I0_l80 M0_6_q16842 := by rw [h_M0_6_q16842]; exact KX10.sm1 k_M0_2_q16833 ⟨by omega, by omega⟩
          have t_16843 := ia_mul (6 : Int32) (6) il_6 y80_4 (by omega) (by omega)
          have t_16844 := ia_add ((6 : Int32) * y80_4) x1 (by omega) (by omega)
          refine wq_in (n := 36) ⟨by omega, by omega⟩ ?_
          have l_1 := il_1
          have t_16845 := ia_add x1 (1 : Int32) (by omega) (by omega)
          have b_16846 := i32b x2
          have t_16847 : (M0_2_q16833 0 (((6 : Int32) * y80_4) + x1).toNatClampNeg).toInt = (M0_l80 0 (((6 : Int32) * y80_4) + x1).toNatClampNeg).toInt := congrArg (fun z : Nat → Int32 => (z ((((6 : Int32) * y80_4) + x1)).toNatClampNeg).toInt) (show M0_2_q16833 0 = M0_l80 0 from by rw [h_M0_2_q16833]; rfl)
          have t_16848 : (M0_6_q16842 0 (((6 : Int32) * y80_4) + x1).toNatClampNeg).toInt = (M0_2_q16833 0 (((6 : Int32) * y80_4) + x1).toNatClampNeg).toInt := congrArg (fun z : Nat → Int32 => (z ((((6 : Int32) * y80_4) + x1)).toNatClampNeg).toInt) (show M0_6_q16842 0 = M0_2_q16833 0 from by rw [h_M0_6_q16842]; rfl)
          have b_16849 := i32b x3
          refine wq_b (tt_fX10_choose_d3 hN I0_l80 M0_6_q16842 (x1 + (1 : Int32)) (x2 + (M0_6_q16842 0 (((6 : Int32) * y80_4) + x1).toNatClampNeg)) x3 ⟨by omega, by omega⟩ k_M0_6_q16842) (fun r7_q16850 h_r7_q16850 => ?_)
          obtain ⟨h_r7_q16850_0, -⟩ := h_r7_q16850
          have t_16852 := ia_add y80_4 (1 : Int32) (by omega) (by omega)
          refine wq_v (fun v8_q16851 h_v8_q16851 => ?_)
          have t_v8_q16851 := congrArg Int32.toInt h_v8_q16851
          exact ih r7_q16850.1 r7_q16850.2 v8_q16851 ⟨by omega, by omega⟩ h_r7_q16850_0 (by omega)
        · have l_1 := il_1
          have t_16854 := ia_add y80_4 (1 : Int32) (by omega) (by omega)
          refine wq_v (fun v5_q16853 h_v5_q16853 => ?_)
          have t_v5_q16853 := congrArg Int32.toInt h_v5_q16853
          exact ih I0_l80 M0_2_q16833 v5_q16853 ⟨by omega, by omega⟩ k_M0_2_q16833 (by omega)

set_option maxHeartbeats 4000000 in
theorem tt_fX8_keptDay {N : Nat} (hN : 3000000000 ≤ N) (I0 : Nat → Int32) (M0 : Nat → Nat → Int32) (x1 : Int32) (k_I0 : KX8 I0 M0) : wq (fX8_keptDay N I0 M0 x1) (fun r => True) := by
  unfold fX8_keptDay
  have b_13793 := i32b x1
  have l_0 := il_0
  refine wq_lt (fun hc_13794 => ?_) (fun hc_13795 => ?_)
  · have l_m1 := il_m1
    exact wq_s trivial
  · have l_20 := il_20
    refine wq_le (fun hc_13796 => ?_) (fun hc_13797 => ?_)
    · have l_m1 := il_m1
      exact wq_s trivial
    · refine wq_in (n := 20) ⟨by omega, by omega⟩ ?_
      exact wq_s trivial
set_option maxHeartbeats 4000000 in
theorem tt_fX9_hasRoom {N : Nat} (hN : 3000000000 ≤ N) (I0 : Nat → Int32) (M0 : Nat → Nat → Int32) (k_I0 : KX9 I0 M0) : wq (fX9_hasRoom N I0 M0) (fun r => (0 ≤ r.toInt ∧ r.toInt ≤ 1) ∧ True) := by
  unfold fX9_hasRoom
  have l_580 := il_580
  have t_13816 := KX9.i0 k_I0
  refine wq_lt (fun hc_13817 => ?_) (fun hc_13818 => ?_)
  · have l_0 := il_0
    exact wq_s ⟨(show 0 ≤ (0 : Int32).toInt ∧ (0 : Int32).toInt ≤ 1 from ⟨by omega, by omega⟩), trivial⟩
  · have l_1 := il_1
    exact wq_s ⟨(show 0 ≤ (1 : Int32).toInt ∧ (1 : Int32).toInt ≤ 1 from ⟨by omega, by omega⟩), trivial⟩
set_option maxHeartbeats 4000000 in
theorem tt_fX9_put_L3 {N : Nat} (hN : 3000000000 ≤ N) (x1 : Int32)   : ∀ (fu : Nat) (I0_l3 : (Nat → Int32)) (M0_l3 : (Nat → Nat → Int32)) (y3_2 : Int32), (-8 ≤ y3_2.toInt ∧ y3_2.toInt ≤ 24) → (KX9 I0_l3 M0_l3) → (y3_2.toInt - -8) < (fu : Int) → wq (fX9_put_L3 N x1 fu I0_l3 M0_l3 y3_2) (fun r => KX9 r.1 r.2 ∧ True) := by
  intro fu
  induction fu with
  | zero => intro I0_l3 M0_l3 y3_2 h_y3_2 k_I0_l3 hm; exfalso; omega
  | succ fu ih =>
    intro I0_l3 M0_l3 y3_2 h_y3_2 k_I0_l3 hm
    rw [fX9_put_L3.eq_2]
    have l_0 := il_0
    refine wq_lt (fun hc_13918 => ?_) (fun hc_13919 => ?_)
    · exact wq_s ⟨k_I0_l3, trivial⟩
    · have l_600 := il_600
      have t_13920 := KX9.i0 k_I0_l3
      refine wq_le (fun hc_13921 => ?_) (fun hc_13922 => ?_)
      · exact wq_s ⟨k_I0_l3, trivial⟩
      · refine wq_in (n := 600) ⟨by omega, by omega⟩ ?_
        refine wq_v (fun M0_1_q13923 h_M0_1_q13923 => ?_)
        have k_M0_1_q13923 : KX9 I0_l3 M0_1_q13923 := by rw [h_M0_1_q13923]; exact KX9.sm0 k_I0_l3
        refine wq_v (fun I0_2_q13924 h_I0_2_q13924 => ?_)
        have l_1 := il_1
        have t_13925 := ia_add (I0_l3 0) (1 : Int32) (by omega) (by omega)
        have k_I0_2_q13924 : KX9 I0_2_q13924 M0_1_q13923 := by rw [h_I0_2_q13924]; exact KX9.si0 k_M0_1_q13923 ⟨by omega, by omega⟩
        have l_m8 := il_m8
        have t_13927 := ia_add y3_2 ((-8) : Int32) (by omega) (by omega)
        refine wq_v (fun v3_q13926 h_v3_q13926 => ?_)
        have t_v3_q13926 := congrArg Int32.toInt h_v3_q13926
        exact ih I0_2_q13924 M0_1_q13923 v3_q13926 ⟨by omega, by omega⟩ k_I0_2_q13924 (by omega)
set_option maxHeartbeats 4000000 in
theorem tt_fX9_put {N : Nat} (hN : 3000000000 ≤ N) (I0 : Nat → Int32) (M0 : Nat → Nat → Int32) (x1 : Int32) (k_I0 : KX9 I0 M0) : wq (fX9_put N I0 M0 x1) (fun r => KX9 r.1 r.2 ∧ True) := by
  unfold fX9_put
  have b_13928 := i32b x1
  have l_24 := il_24
  exact tt_fX9_put_L3 hN x1 N I0 M0 (24 : Int32) ⟨by omega, by omega⟩ k_I0 (by omega)
set_option maxHeartbeats 4000000 in
theorem tt_fX9_begin {N : Nat} (hN : 3000000000 ≤ N) (I0 : Nat → Int32) (M0 : Nat → Nat → Int32) (x1 : Int32) (h_x1 : 0 ≤ x1.toInt ∧ x1.toInt ≤ 600) (k_I0 : KX9 I0 M0) : wq (fX9_begin N I0 M0 x1) (fun r => KX9 r.1 r.2 ∧ True) := by
  unfold fX9_begin
  refine wq_v (fun I0_1_q13969 h_I0_1_q13969 => ?_)
  have t_13970 := KX9.i0 k_I0
  have t_13971 := ite_lt (I0 0) x1 (I0 0) x1
  have k_I0_1_q13969 : KX9 I0_1_q13969 M0 := by rw [h_I0_1_q13969]; exact KX9.si1 k_I0 ⟨by omega, by omega⟩
  refine wq_v (fun I0_2_q13972 h_I0_2_q13972 => ?_)
  have l_0 := il_0
  have k_I0_2_q13972 : KX9 I0_2_q13972 M0 := by rw [h_I0_2_q13972]; exact KX9.si0 k_I0_1_q13969 ⟨by omega, by omega⟩
  refine wq_v (fun I0_3_q13973 h_I0_3_q13973 => ?_)
  have k_I0_3_q13973 : KX9 I0_3_q13973 M0 := by rw [h_I0_3_q13973]; exact KX9.si3 k_I0_2_q13972 ⟨by omega, by omega⟩
  refine wq_v (fun I0_4_q13974 h_I0_4_q13974 => ?_)
  have k_I0_4_q13974 : KX9 I0_4_q13974 M0 := by rw [h_I0_4_q13974]; exact KX9.si7 k_I0_3_q13973
  refine wq_v (fun I0_5_q13975 h_I0_5_q13975 => ?_)
  have k_I0_5_q13975 : KX9 I0_5_q13975 M0 := by rw [h_I0_5_q13975]; exact KX9.si8 k_I0_4_q13974
  refine wq_b (tt_fX9_step hN I0_5_q13975 M0 k_I0_5_q13975) (fun r6_q13976 h_r6_q13976 => ?_)
  obtain ⟨h_r6_q13976_0, -⟩ := h_r6_q13976
  exact wq_s ⟨h_r6_q13976_0, trivial⟩
set_option maxHeartbeats 4000000 in
theorem tt_fX10_priceOfEntry {N : Nat} (hN : 3000000000 ≤ N) (I0 : Nat → Int32) (M0 : Nat → Nat → Int32) (x1 : Int32) (x2 : Int32) (x3 : Int32) (h_x2 : -1 ≤ x2.toInt ∧ x2.toInt ≤ 389) (h_x3 : -1 ≤ x3.toInt ∧ x3.toInt ≤ 389) : wq (fX10_priceOfEntry N I0 M0 x1 x2 x3) (fun r => (0 ≤ r.toInt ∧ r.toInt ≤ 4) ∧ True) := by
  unfold fX10_priceOfEntry
  refine wq_eq (fun hc_14049 => ?_) (fun hc_14050 => ?_)
  · have l_0 := il_0
    exact wq_s ⟨(show 0 ≤ (0 : Int32).toInt ∧ (0 : Int32).toInt ≤ 4 from ⟨by omega, by omega⟩), trivial⟩
  · have l_m1 := il_m1
    refine wq_eq (fun hc_14051 => ?_) (fun hc_14052 => ?_)
    · have l_1 := il_1
      exact wq_s ⟨(show 0 ≤ (1 : Int32).toInt ∧ (1 : Int32).toInt ≤ 4 from ⟨by omega, by omega⟩), trivial⟩
    · refine wq_eq (fun hc_14053 => ?_) (fun hc_14054 => ?_)
      · have l_4 := il_4
        exact wq_s ⟨(show 0 ≤ (4 : Int32).toInt ∧ (4 : Int32).toInt ≤ 4 from ⟨by omega, by omega⟩), trivial⟩
      · have b_14055 := i32b x1
        have l_21 := il_21
        refine wq_eq (fun hc_14056 => ?_) (fun hc_14057 => ?_)
        · have l_3 := il_3
          exact wq_s ⟨(show 0 ≤ (3 : Int32).toInt ∧ (3 : Int32).toInt ≤ 4 from ⟨by omega, by omega⟩), trivial⟩
        · refine wq_b (tt_fX4_costBeside hN I0 M0 x3 x2 ⟨by omega, by omega⟩) (fun r1_q14058 h_r1_q14058 => ?_)
          obtain ⟨h_r1_q14058_0, -⟩ := h_r1_q14058
          have l_1 := il_1
          refine wq_eq (fun hc_14059 => ?_) (fun hc_14060 => ?_)
          · exact wq_s ⟨(show 0 ≤ (1 : Int32).toInt ∧ (1 : Int32).toInt ≤ 4 from ⟨by omega, by omega⟩), trivial⟩
          · have l_3 := il_3
            exact wq_s ⟨(show 0 ≤ (3 : Int32).toInt ∧ (3 : Int32).toInt ≤ 4 from ⟨by omega, by omega⟩), trivial⟩
set_option maxHeartbeats 4000000 in
theorem tt_fX10_priceOf_L16 {N : Nat} (hN : 3000000000 ≤ N) (I0 : Nat → Int32) (M0 : Nat → Nat → Int32) (I1 : Nat → Int32) (M1 : Nat → Nat → Int32) (x2 : Int32) (x3 : Int32) (y6_5 : Int32) (g6 : Int32 → Int32 → Option (Int32)) (h_x2 : 0 ≤ x2.toInt ∧ x2.toInt ≤ 5) (h_x3 : 0 ≤ x3.toInt ∧ x3.toInt ≤ 5) (h_y6_5 : 0 ≤ y6_5.toInt ∧ y6_5.toInt ≤ 19) (k_I1 : KX1 I1 M1) (hg6 : ∀ (q0 : Int32) (q1 : Int32), (0 ≤ q1.toInt ∧ q1.toInt ≤ 20) → (y6_5.toInt < q1.toInt) → wq (g6 q0 q1) (fun r => True)) : ∀ (fu : Nat) (y16_4 : Int32) (y16_6 : Int32), (0 ≤ y16_6.toInt ∧ y16_6.toInt ≤ 22) → (22 - y16_6.toInt) < (fu : Int) → wq (fX10_priceOf_L16 N I0 M0 I1 M1 x2 x3 y6_5 g6 fu y16_4 y16_6) (fun r => True) := by
  intro fu
  induction fu with
  | zero => intro y16_4 y16_6 h_y16_6 hm; exfalso; omega
  | succ fu ih =>
    intro y16_4 y16_6 h_y16_6 hm
    rw [fX10_priceOf_L16.eq_2]
    have l_22 := il_22
    refine wq_le (fun hc_14444 => ?_) (fun hc_14445 => ?_)
    · have l_1 := il_1
      have t_14447 := ia_add y6_5 (1 : Int32) (by omega) (by omega)
      refine wq_v (fun v1_q14446 h_v1_q14446 => ?_)
      have t_v1_q14446 := congrArg Int32.toInt h_v1_q14446
      have b_14448 := i32b y16_4
      exact hg6 y16_4 v1_q14446 ⟨by omega, by omega⟩ (by omega)
    · have l_20 := il_20
      have t_14449 := ia_mul (20 : Int32) (20) il_20 x2 (by omega) (by omega)
      have t_14450 := ia_add ((20 : Int32) * x2) y6_5 (by omega) (by omega)
      refine wq_b (tt_fX1_degreeOf hN I1 M1 (((20 : Int32) * x2) + y6_5) y16_6 ⟨by omega, by omega⟩ ⟨by omega, by omega⟩ k_I1) (fun r2_q14451 h_r2_q14451 => ?_)
      obtain ⟨h_r2_q14451_0, h_r2_q14451_1, -⟩ := h_r2_q14451
      have t_14452 := ia_mul (20 : Int32) (20) il_20 x3 (by omega) (by omega)
      have t_14453 := ia_add ((20 : Int32) * x3) y6_5 (by omega) (by omega)
      refine wq_b (tt_fX1_degreeOf hN I1 M1 (((20 : Int32) * x3) + y6_5) y16_6 ⟨by omega, by omega⟩ ⟨by omega, by omega⟩ k_I1) (fun r3_q14454 h_r3_q14454 => ?_)
      obtain ⟨h_r3_q14454_0, h_r3_q14454_1, -⟩ := h_r3_q14454
      refine wq_b (tt_fX10_priceOfEntry hN I0 M0 y16_6 r2_q14451 r3_q14454 ⟨by omega, by omega⟩ ⟨by omega, by omega⟩) (fun r4_q14455 h_r4_q14455 => ?_)
      obtain ⟨h_r4_q14455_0, -⟩ := h_r4_q14455
      have b_14457 := i32b y16_4
      refine wq_v (fun v5_q14456 h_v5_q14456 => ?_)
      have t_v5_q14456 := congrArg Int32.toInt h_v5_q14456
      have l_1 := il_1
      have t_14459 := ia_add y16_6 (1 : Int32) (by omega) (by omega)
      refine wq_v (fun v6_q14458 h_v6_q14458 => ?_)
      have t_v6_q14458 := congrArg Int32.toInt h_v6_q14458
      have b_14460 := i32b v5_q14456
      exact ih v5_q14456 v6_q14458 ⟨by omega, by omega⟩ (by omega)
set_option maxHeartbeats 4000000 in
theorem tt_fX10_priceOf_L6 {N : Nat} (hN : 3000000000 ≤ N) (I0 : Nat → Int32) (M0 : Nat → Nat → Int32) (I1 : Nat → Int32) (M1 : Nat → Nat → Int32) (x2 : Int32) (x3 : Int32) (h_x2 : 0 ≤ x2.toInt ∧ x2.toInt ≤ 5) (h_x3 : 0 ≤ x3.toInt ∧ x3.toInt ≤ 5) (k_I1 : KX1 I1 M1)  : ∀ (fu : Nat) (y6_4 : Int32) (y6_5 : Int32), (0 ≤ y6_5.toInt ∧ y6_5.toInt ≤ 20) → (20 - y6_5.toInt) < (fu : Int) → wq (fX10_priceOf_L6 N I0 M0 I1 M1 x2 x3 fu y6_4 y6_5) (fun r => True) := by
  intro fu
  induction fu with
  | zero => intro y6_4 y6_5 h_y6_5 hm; exfalso; omega
  | succ fu ih =>
    intro y6_4 y6_5 h_y6_5 hm
    rw [fX10_priceOf_L6.eq_2]
    have l_20 := il_20
    refine wq_le (fun hc_14461 => ?_) (fun hc_14462 => ?_)
    · have b_14463 := i32b y6_4
      exact wq_s trivial
    · have b_14464 := i32b y6_4
      have l_0 := il_0
      exact tt_fX10_priceOf_L16 hN I0 M0 I1 M1 x2 x3 y6_5 _ ⟨by omega, by omega⟩ ⟨by omega, by omega⟩ ⟨by omega, by omega⟩ k_I1 (fun q0 q1 hq0 hq1 => ih q0 q1 hq0 (by omega)) N y6_4 (0 : Int32) ⟨by omega, by omega⟩ (by omega)
set_option maxHeartbeats 4000000 in
theorem tt_fX10_priceOf {N : Nat} (hN : 3000000000 ≤ N) (I0 : Nat → Int32) (M0 : Nat → Nat → Int32) (I1 : Nat → Int32) (M1 : Nat → Nat → Int32) (x2 : Int32) (x3 : Int32) (h_x2 : 0 ≤ x2.toInt ∧ x2.toInt ≤ 5) (h_x3 : 0 ≤ x3.toInt ∧ x3.toInt ≤ 5) (k_I1 : KX1 I1 M1) : wq (fX10_priceOf N I0 M0 I1 M1 x2 x3) (fun r => True) := by
  unfold fX10_priceOf
  have l_0 := il_0
  exact tt_fX10_priceOf_L6 hN I0 M0 I1 M1 x2 x3 ⟨by omega, by omega⟩ ⟨by omega, by omega⟩ k_I1 N (0 : Int32) (0 : Int32) ⟨by omega, by omega⟩ (by omega)
set_option maxHeartbeats 4000000 in
theorem tt_fX10_setBooks_L4 {N : Nat} (hN : 3000000000 ≤ N) (I1 : Nat → Int32) (M1 : Nat → Nat → Int32) (k_I1 : KX1 I1 M1)  : ∀ (fu : Nat) (I0_l4 : (Nat → Int32)) (M0_l4 : (Nat → Nat → Int32)) (y4_2 : Int32) (y4_3 : Int32), (0 ≤ y4_2.toInt ∧ y4_2.toInt ≤ 1) → (0 ≤ y4_3.toInt ∧ y4_3.toInt ≤ 6) → (KX10 I0_l4 M0_l4) → (6 - y4_3.toInt) < (fu : Int) → wq (fX10_setBooks_L4 N I1 M1 fu I0_l4 M0_l4 y4_2 y4_3) (fun r => (0 ≤ r.1.toInt ∧ r.1.toInt ≤ 1) ∧ KX10 r.2.1 r.2.2 ∧ True) := by
  intro fu
  induction fu with
  | zero => intro I0_l4 M0_l4 y4_2 y4_3 h_y4_2 h_y4_3 k_I0_l4 hm; exfalso; omega
  | succ fu ih =>
    intro I0_l4 M0_l4 y4_2 y4_3 h_y4_2 h_y4_3 k_I0_l4 hm
    rw [fX10_setBooks_L4.eq_2]
    have l_6 := il_6
    refine wq_le (fun hc_14780 => ?_) (fun hc_14781 => ?_)
    · refine wq_bz (by omega) ?_
      exact wq_s ⟨(show 0 ≤ y4_2.toInt ∧ y4_2.toInt ≤ 1 from ⟨by omega, by omega⟩), k_I0_l4, trivial⟩
    · refine wq_b (tt_fX1_bookTells hN I1 M1 y4_3 ⟨by omega, by omega⟩ k_I1) (fun r5_q14782 h_r5_q14782 => ?_)
      obtain ⟨h_r5_q14782_0, -⟩ := h_r5_q14782
      have l_0 := il_0
      refine wq_eq (fun hc_14783 => ?_) (fun hc_14784 => ?_)
      · unfold fX10_setBooks_J30
        refine wq_in (n := 6) ⟨by omega, by omega⟩ ?_
        refine wq_v (fun M0_1_q14785 h_M0_1_q14785 => ?_)
        have l_m2 := il_m2
        have k_M0_1_q14785 : KX10 I0_l4 M0_1_q14785 := by rw [h_M0_1_q14785]; exact KX10.sm1 k_I0_l4 ⟨by omega, by omega⟩
        refine wq_eq (fun hc_14786 => ?_) (fun hc_14787 => ?_)
        · refine wq_in (n := 6) ⟨by omega, by omega⟩ ?_
          have t_14788 := KX10.m1 k_M0_1_q14785 y4_3.toNatClampNeg
          have l_m3 := il_m3
          refine wq_eq (fun hc_14789 => ?_) (fun hc_14790 => ?_)
          · have l_1 := il_1
            have t_14792 := ia_add y4_3 (1 : Int32) (by omega) (by omega)
            refine wq_v (fun v4_q14791 h_v4_q14791 => ?_)
            have t_v4_q14791 := congrArg Int32.toInt h_v4_q14791
            exact ih I0_l4 M0_1_q14785 (1 : Int32) v4_q14791 ⟨by omega, by omega⟩ ⟨by omega, by omega⟩ k_M0_1_q14785 (by omega)
          · have l_1 := il_1
            have t_14794 := ia_add y4_3 (1 : Int32) (by omega) (by omega)
            refine wq_v (fun v3_q14793 h_v3_q14793 => ?_)
            have t_v3_q14793 := congrArg Int32.toInt h_v3_q14793
            exact ih I0_l4 M0_1_q14785 (0 : Int32) v3_q14793 ⟨by omega, by omega⟩ ⟨by omega, by omega⟩ k_M0_1_q14785 (by omega)
        · have l_1 := il_1
          have t_14796 := ia_add y4_3 (1 : Int32) (by omega) (by omega)
          refine wq_v (fun v2_q14795 h_v2_q14795 => ?_)
          have t_v2_q14795 := congrArg Int32.toInt h_v2_q14795
          exact ih I0_l4 M0_1_q14785 (1 : Int32) v2_q14795 ⟨by omega, by omega⟩ ⟨by omega, by omega⟩ k_M0_1_q14785 (by omega)
      · unfold fX10_setBooks_J30
        refine wq_in (n := 6) ⟨by omega, by omega⟩ ?_
        refine wq_v (fun M0_1_q14797 h_M0_1_q14797 => ?_)
        have l_m3 := il_m3
        have k_M0_1_q14797 : KX10 I0_l4 M0_1_q14797 := by rw [h_M0_1_q14797]; exact KX10.sm1 k_I0_l4 ⟨by omega, by omega⟩
        refine wq_eq (fun hc_14798 => ?_) (fun hc_14799 => ?_)
        · refine wq_in (n := 6) ⟨by omega, by omega⟩ ?_
          have t_14800 := KX10.m1 k_M0_1_q14797 y4_3.toNatClampNeg
          refine wq_eq (fun hc_14801 => ?_) (fun hc_14802 => ?_)
          · have l_1 := il_1
            have t_14804 := ia_add y4_3 (1 : Int32) (by omega) (by omega)
            refine wq_v (fun v4_q14803 h_v4_q14803 => ?_)
            have t_v4_q14803 := congrArg Int32.toInt h_v4_q14803
            exact ih I0_l4 M0_1_q14797 (1 : Int32) v4_q14803 ⟨by omega, by omega⟩ ⟨by omega, by omega⟩ k_M0_1_q14797 (by omega)
          · have l_1 := il_1
            have t_14806 := ia_add y4_3 (1 : Int32) (by omega) (by omega)
            refine wq_v (fun v3_q14805 h_v3_q14805 => ?_)
            have t_v3_q14805 := congrArg Int32.toInt h_v3_q14805
            exact ih I0_l4 M0_1_q14797 (0 : Int32) v3_q14805 ⟨by omega, by omega⟩ ⟨by omega, by omega⟩ k_M0_1_q14797 (by omega)
        · have l_1 := il_1
          have t_14808 := ia_add y4_3 (1 : Int32) (by omega) (by omega)
          refine wq_v (fun v2_q14807 h_v2_q14807 => ?_)
          have t_v2_q14807 := congrArg Int32.toInt h_v2_q14807
          exact ih I0_l4 M0_1_q14797 (1 : Int32) v2_q14807 ⟨by omega, by omega⟩ ⟨by omega, by omega⟩ k_M0_1_q14797 (by omega)
set_option maxHeartbeats 4000000 in
theorem tt_fX10_setBooks {N : Nat} (hN : 3000000000 ≤ N) (I0 : Nat → Int32) (M0 : Nat → Nat → Int32) (I1 : Nat → Int32) (M1 : Nat → Nat → Int32) (k_I0 : KX10 I0 M0) (k_I1 : KX1 I1 M1) : wq (fX10_setBooks N I0 M0 I1 M1) (fun r => (0 ≤ r.1.toInt ∧ r.1.toInt ≤ 1) ∧ KX10 r.2.1 r.2.2 ∧ True) := by
  unfold fX10_setBooks
  have l_0 := il_0
  exact tt_fX10_setBooks_L4 hN I1 M1 k_I1 N I0 M0 (0 : Int32) (0 : Int32) ⟨by omega, by omega⟩ ⟨by omega, by omega⟩ k_I0 (by omega)
set_option maxHeartbeats 4000000 in
theorem tt_fX10_setPrices_L11 {N : Nat} (hN : 3000000000 ≤ N) (I1 : Nat → Int32) (M1 : Nat → Nat → Int32) (I2 : Nat → Int32) (M2 : Nat → Nat → Int32) (y2_3 : Int32) (g2 : (Nat → Int32) → (Nat → Nat → Int32) → Int32 → Option ((Nat → Int32) × (Nat → Nat → Int32))) (h_y2_3 : 0 ≤ y2_3.toInt ∧ y2_3.toInt ≤ 5) (k_I2 : KX1 I2 M2) (hg2 : ∀ (q0 : (Nat → Int32)) (q1 : (Nat → Nat → Int32)) (q2 : Int32), (0 ≤ q2.toInt ∧ q2.toInt ≤ 6) → (KX10 q0 q1) → (y2_3.toInt < q2.toInt) → wq (g2 q0 q1 q2) (fun r => KX10 r.1 r.2 ∧ True)) : ∀ (fu : Nat) (I0_l11 : (Nat → Int32)) (M0_l11 : (Nat → Nat → Int32)) (y11_4 : Int32), (0 ≤ y11_4.toInt ∧ y11_4.toInt ≤ 6) → (KX10 I0_l11 M0_l11) → (6 - y11_4.toInt) < (fu : Int) → wq (fX10_setPrices_L11 N I1 M1 I2 M2 y2_3 g2 fu I0_l11 M0_l11 y11_4) (fun r => KX10 r.1 r.2 ∧ True) := by
  intro fu
  induction fu with
  | zero => intro I0_l11 M0_l11 y11_4 h_y11_4 k_I0_l11 hm; exfalso; omega
  | succ fu ih =>
    intro I0_l11 M0_l11 y11_4 h_y11_4 k_I0_l11 hm
    rw [fX10_setPrices_L11.eq_2]
    have l_6 := il_6
    refine wq_le (fun hc_15275 => ?_) (fun hc_15276 => ?_)
    · have l_1 := il_1
      have t_15278 := ia_add y2_3 (1 : Int32) (by omega) (by omega)
      refine wq_v (fun v6_q15277 h_v6_q15277 => ?_)
      have t_v6_q15277 := congrArg Int32.toInt h_v6_q15277
      exact hg2 I0_l11 M0_l11 v6_q15277 ⟨by omega, by omega⟩ k_I0_l11 (by omega)
    · refine wq_in (n := 6) ⟨by omega, by omega⟩ ?_
      have t_15279 := KX10.m1 k_I0_l11 y2_3.toNatClampNeg
      have l_m3 := il_m3
      refine wq_eq (fun hc_15280 => ?_) (fun hc_15281 => ?_)
      · refine wq_in (n := 6) ⟨by omega, by omega⟩ ?_
        have t_15282 := KX10.m1 k_I0_l11 y11_4.toNatClampNeg
        refine wq_eq (fun hc_15283 => ?_) (fun hc_15284 => ?_)
        · unfold fX10_setPrices_J46
          have l_1 := il_1
          have l_0 := il_0
          refine wq_eq (fun hc_15285 => ?_) (fun hc_15286 => ?_)
          · exfalso; omega
          · refine wq_b (tt_fX10_priceOf hN I1 M1 I2 M2 y2_3 y11_4 ⟨by omega, by omega⟩ ⟨by omega, by omega⟩ k_I2) (fun r3_q15287 h_r3_q15287 => ?_)
            obtain ⟨-⟩ := h_r3_q15287
            have t_15288 := ia_mul (6 : Int32) (6) il_6 y2_3 (by omega) (by omega)
            have t_15289 := ia_add ((6 : Int32) * y2_3) y11_4 (by omega) (by omega)
            refine wq_in (n := 36) ⟨by omega, by omega⟩ ?_
            refine wq_v (fun M0_4_q15290 h_M0_4_q15290 => ?_)
            have k_M0_4_q15290 : KX10 I0_l11 M0_4_q15290 := by rw [h_M0_4_q15290]; exact KX10.sm0 k_I0_l11
            have t_15292 := ia_add y11_4 (1 : Int32) (by omega) (by omega)
            refine wq_v (fun v5_q15291 h_v5_q15291 => ?_)
            have t_v5_q15291 := congrArg Int32.toInt h_v5_q15291
            exact ih I0_l11 M0_4_q15290 v5_q15291 ⟨by omega, by omega⟩ k_M0_4_q15290 (by omega)
        · unfold fX10_setPrices_J45
          unfold fX10_setPrices_J46
          have l_0 := il_0
          refine wq_eq (fun hc_15293 => ?_) (fun hc_15294 => ?_)
          · have t_15295 := ia_mul (6 : Int32) (6) il_6 y2_3 (by omega) (by omega)
            have t_15296 := ia_add ((6 : Int32) * y2_3) y11_4 (by omega) (by omega)
            refine wq_in (n := 36) ⟨by omega, by omega⟩ ?_
            refine wq_v (fun M0_1_q15297 h_M0_1_q15297 => ?_)
            have k_M0_1_q15297 : KX10 I0_l11 M0_1_q15297 := by rw [h_M0_1_q15297]; exact KX10.sm0 k_I0_l11
            have l_1 := il_1
            have t_15299 := ia_add y11_4 (1 : Int32) (by omega) (by omega)
            refine wq_v (fun v2_q15298 h_v2_q15298 => ?_)
            have t_v2_q15298 := congrArg Int32.toInt h_v2_q15298
            exact ih I0_l11 M0_1_q15297 v2_q15298 ⟨by omega, by omega⟩ k_M0_1_q15297 (by omega)
          · exfalso; omega
      · unfold fX10_setPrices_J45
        unfold fX10_setPrices_J46
        have l_0 := il_0
        refine wq_eq (fun hc_15300 => ?_) (fun hc_15301 => ?_)
        · have t_15302 := ia_mul (6 : Int32) (6) il_6 y2_3 (by omega) (by omega)
          have t_15303 := ia_add ((6 : Int32) * y2_3) y11_4 (by omega) (by omega)
          refine wq_in (n := 36) ⟨by omega, by omega⟩ ?_
          refine wq_v (fun M0_1_q15304 h_M0_1_q15304 => ?_)
          have k_M0_1_q15304 : KX10 I0_l11 M0_1_q15304 := by rw [h_M0_1_q15304]; exact KX10.sm0 k_I0_l11
          have l_1 := il_1
          have t_15306 := ia_add y11_4 (1 : Int32) (by omega) (by omega)
          refine wq_v (fun v2_q15305 h_v2_q15305 => ?_)
          have t_v2_q15305 := congrArg Int32.toInt h_v2_q15305
          exact ih I0_l11 M0_1_q15304 v2_q15305 ⟨by omega, by omega⟩ k_M0_1_q15304 (by omega)
        · exfalso; omega
set_option maxHeartbeats 4000000 in
theorem tt_fX10_setPrices_L2 {N : Nat} (hN : 3000000000 ≤ N) (I1 : Nat → Int32) (M1 : Nat → Nat → Int32) (I2 : Nat → Int32) (M2 : Nat → Nat → Int32) (k_I2 : KX1 I2 M2)  : ∀ (fu : Nat) (I0_l2 : (Nat → Int32)) (M0_l2 : (Nat → Nat → Int32)) (y2_3 : Int32), (0 ≤ y2_3.toInt ∧ y2_3.toInt ≤ 6) → (KX10 I0_l2 M0_l2) → (6 - y2_3.toInt) < (fu : Int) → wq (fX10_setPrices_L2 N I1 M1 I2 M2 fu I0_l2 M0_l2 y2_3) (fun r => KX10 r.1 r.2 ∧ True) := by
  intro fu
  induction fu with
  | zero => intro I0_l2 M0_l2 y2_3 h_y2_3 k_I0_l2 hm; exfalso; omega
  | succ fu ih =>
    intro I0_l2 M0_l2 y2_3 h_y2_3 k_I0_l2 hm
    rw [fX10_setPrices_L2.eq_2]
    have l_6 := il_6
    refine wq_le (fun hc_15307 => ?_) (fun hc_15308 => ?_)
    · exact wq_s ⟨k_I0_l2, trivial⟩
    · have l_0 := il_0
      exact tt_fX10_setPrices_L11 hN I1 M1 I2 M2 y2_3 _ ⟨by omega, by omega⟩ k_I2 (fun q0 q1 q2 hq0 hq1 hq2 => ih q0 q1 q2 hq0 hq1 (by omega)) N I0_l2 M0_l2 (0 : Int32) ⟨by omega, by omega⟩ k_I0_l2 (by omega)
set_option maxHeartbeats 4000000 in
theorem tt_fX10_setPrices {N : Nat} (hN : 3000000000 ≤ N) (I0 : Nat → Int32) (M0 : Nat → Nat → Int32) (I1 : Nat → Int32) (M1 : Nat → Nat → Int32) (I2 : Nat → Int32) (M2 : Nat → Nat → Int32) (k_I0 : KX10 I0 M0) (k_I2 : KX1 I2 M2) : wq (fX10_setPrices N I0 M0 I1 M1 I2 M2) (fun r => KX10 r.1 r.2 ∧ True) := by
  unfold fX10_setPrices
  have l_0 := il_0
  exact tt_fX10_setPrices_L2 hN I1 M1 I2 M2 k_I2 N I0 M0 (0 : Int32) ⟨by omega, by omega⟩ k_I0 (by omega)
set_option maxHeartbeats 4000000 in
theorem tt_fX10_comesFrom_L5 {N : Nat} (hN : 3000000000 ≤ N) (I0 : Nat → Int32) (M0 : Nat → Nat → Int32) (x1 : Int32) (x2 : Int32) (h_x1 : 0 ≤ x1.toInt ∧ x1.toInt ≤ 5) (h_x2 : 0 ≤ x2.toInt ∧ x2.toInt ≤ 5) (k_I0 : KX10 I0 M0)  : ∀ (fu : Nat) (y5_3 : Int32) (y5_4 : Int32), (-3 ≤ y5_3.toInt ∧ y5_3.toInt ≤ 5) → (0 ≤ y5_4.toInt ∧ y5_4.toInt ≤ 6) → (6 - y5_4.toInt) < (fu : Int) → wq (fX10_comesFrom_L5 N I0 M0 x1 x2 fu y5_3 y5_4) (fun r => (0 ≤ r.toInt ∧ r.toInt ≤ 1) ∧ True) := by
  intro fu
  induction fu with
  | zero => intro y5_3 y5_4 h_y5_3 h_y5_4 hm; exfalso; omega
  | succ fu ih =>
    intro y5_3 y5_4 h_y5_3 h_y5_4 hm
    rw [fX10_comesFrom_L5.eq_2]
    have l_6 := il_6
    refine wq_le (fun hc_15409 => ?_) (fun hc_15410 => ?_)
    · have l_0 := il_0
      exact wq_s ⟨(show 0 ≤ (0 : Int32).toInt ∧ (0 : Int32).toInt ≤ 1 from ⟨by omega, by omega⟩), trivial⟩
    · have l_0 := il_0
      refine wq_lt (fun hc_15411 => ?_) (fun hc_15412 => ?_)
      · exact wq_s ⟨(show 0 ≤ (0 : Int32).toInt ∧ (0 : Int32).toInt ≤ 1 from ⟨by omega, by omega⟩), trivial⟩
      · refine wq_eq (fun hc_15413 => ?_) (fun hc_15414 => ?_)
        · have l_1 := il_1
          exact wq_s ⟨(show 0 ≤ (1 : Int32).toInt ∧ (1 : Int32).toInt ≤ 1 from ⟨by omega, by omega⟩), trivial⟩
        · refine wq_in (n := 6) ⟨by omega, by omega⟩ ?_
          have t_15416 := KX10.m1 k_I0 y5_3.toNatClampNeg
          refine wq_v (fun v1_q15415 h_v1_q15415 => ?_)
          have t_v1_q15415 := congrArg Int32.toInt h_v1_q15415
          have l_1 := il_1
          have t_15418 := ia_add y5_4 (1 : Int32) (by omega) (by omega)
          refine wq_v (fun v2_q15417 h_v2_q15417 => ?_)
          have t_v2_q15417 := congrArg Int32.toInt h_v2_q15417
          exact ih v1_q15415 v2_q15417 ⟨by omega, by omega⟩ ⟨by omega, by omega⟩ (by omega)
set_option maxHeartbeats 4000000 in
theorem tt_fX10_comesFrom {N : Nat} (hN : 3000000000 ≤ N) (I0 : Nat → Int32) (M0 : Nat → Nat → Int32) (x1 : Int32) (x2 : Int32) (h_x1 : 0 ≤ x1.toInt ∧ x1.toInt ≤ 5) (h_x2 : 0 ≤ x2.toInt ∧ x2.toInt ≤ 5) (k_I0 : KX10 I0 M0) : wq (fX10_comesFrom N I0 M0 x1 x2) (fun r => (0 ≤ r.toInt ∧ r.toInt ≤ 1) ∧ True) := by
  unfold fX10_comesFrom
  have l_0 := il_0
  exact tt_fX10_comesFrom_L5 hN I0 M0 x1 x2 ⟨by omega, by omega⟩ ⟨by omega, by omega⟩ k_I0 N x1 (0 : Int32) ⟨by omega, by omega⟩ ⟨by omega, by omega⟩ (by omega)
set_option maxHeartbeats 4000000 in
theorem tt_fX10_choose_d1 {N : Nat} (hN : 3000000000 ≤ N) (I0 : Nat → Int32) (M0 : Nat → Nat → Int32) (x1 : Int32) (x2 : Int32) (x3 : Int32) (h_x1 : 6 ≤ x1.toInt ∧ x1.toInt ≤ 6) (k_I0 : KX10 I0 M0) : wq (fX10_choose_d1 N I0 M0 x1 x2 x3) (fun r => KX10 r.1 r.2 ∧ True) := by
  unfold fX10_choose_d1
  refine wq_lt (fun _ => ?_) (fun _ => wq_s ⟨k_I0, trivial⟩)
  have l_6 := il_6
  refine wq_lt (fun hc => ?_) (fun _ => ?_)
  · exfalso; omega
  · refine wq_v (fun I hI => ?_)
    refine wq_n (by decide) ?_
    refine wq_v (fun M hM => ?_)
    refine wq_s ⟨?_, trivial⟩
    rw [hI, hM]
    refine KX10.sf2 (KX10.si0 k_I0) (fun j => ?_)
    unfold va_cpy
    by_cases q : ((0 : Int32)).toNatClampNeg ≤ j ∧ j < ((0 : Int32)).toNatClampNeg + ((6 : Int32)).toNatClampNeg
    · rw [if_pos q]; exact KX10.m1 k_I0 _
    · rw [if_neg q]; exact KX10.m2 k_I0 _
set_option maxHeartbeats 4000000 in
theorem tt_fX10_choose_d2_L80 {N : Nat} (hN : 3000000000 ≤ N) (x1 : Int32) (x2 : Int32) (x3 : Int32) (h_x1 : 5 ≤ x1.toInt ∧ x1.toInt ≤ 5)  : ∀ (fu : Nat) (I0_l80 : (Nat → Int32)) (M0_l80 : (Nat → Nat → Int32)) (y80_4 : Int32), (0 ≤ y80_4.toInt ∧ y80_4.toInt ≤ 6) → (KX10 I0_l80 M0_l80) → (6 - y80_4.toInt) < (fu : Int) → wq (fX10_choose_d2_L80 N x1 x2 x3 fu I0_l80 M0_l80 y80_4) (fun r => KX10 r.1 r.2 ∧ True) := by
  intro fu
  induction fu with
  | zero => intro I0_l80 M0_l80 y80_4 h_y80_4 k_I0_l80 hm; exfalso; omega
  | succ fu ih =>
    intro I0_l80 M0_l80 y80_4 h_y80_4 k_I0_l80 hm
    rw [fX10_choose_d2_L80.eq_2]
    have l_6 := il_6
    refine wq_le (fun hc_15834 => ?_) (fun hc_15835 => ?_)
    · refine wq_in (n := 6) ⟨by omega, by omega⟩ ?_
      refine wq_v (fun M0_1_q15836 h_M0_1_q15836 => ?_)
      have l_m3 := il_m3
      have k_M0_1_q15836 : KX10 I0_l80 M0_1_q15836 := by rw [h_M0_1_q15836]; exact KX10.sm1 k_I0_l80 ⟨by omega, by omega⟩
      exact wq_s ⟨k_M0_1_q15836, trivial⟩
    · refine wq_in (n := 6) ⟨by omega, by omega⟩ ?_
      refine wq_v (fun M0_2_q15837 h_M0_2_q15837 => ?_)
      have l_m3 := il_m3
      have k_M0_2_q15837 : KX10 I0_l80 M0_2_q15837 := by rw [h_M0_2_q15837]; exact KX10.sm1 k_I0_l80 ⟨by omega, by omega⟩
      refine wq_in (n := 6) ⟨by omega, by omega⟩ ?_
      have t_15838 := KX10.m1 k_M0_2_q15837 y80_4.toNatClampNeg
      have l_m2 := il_m2
      refine wq_eq (fun hc_15839 => ?_) (fun hc_15840 => ?_)
      · have l_1 := il_1
        have t_15842 := ia_add y80_4 (1 : Int32) (by omega) (by omega)
        refine wq_v (fun v3_q15841 h_v3_q15841 => ?_)
        have t_v3_q15841 := congrArg Int32.toInt h_v3_q15841
        exact ih I0_l80 M0_2_q15837 v3_q15841 ⟨by omega, by omega⟩ k_M0_2_q15837 (by omega)
      · refine wq_b (tt_fX10_comesFrom hN I0_l80 M0_2_q15837 y80_4 x1 ⟨by omega, by omega⟩ ⟨by omega, by omega⟩ k_M0_2_q15837) (fun r4_q15843 h_r4_q15843 => ?_)
        obtain ⟨h_r4_q15843_0, -⟩ := h_r4_q15843
        have l_0 := il_0
        refine wq_eq (fun hc_15844 => ?_) (fun hc_15845 => ?_)
        · refine wq_in (n := 6) ⟨by omega, by omega⟩ ?_
          refine wq_v (fun M0_6_q15846 h_M0_6_q15846 => ?_)
          have k_M0_6_q15846 : KX10 I0_l80 M0_6_q15846 := by rw [h_M0_6_q15846]; exact KX10.sm1 k_M0_2_q15837 ⟨by omega, by omega⟩
          have t_15847 := ia_mul (6 : Int32) (6) il_6 y80_4 (by omega) (by omega)
          have t_15848 := ia_add ((6 : Int32) * y80_4) x1 (by omega) (by omega)
          refine wq_in (n := 36) ⟨by omega, by omega⟩ ?_
          have l_1 := il_1
          have t_15849 := ia_add x1 (1 : Int32) (by omega) (by omega)
          have b_15850 := i32b x2
          have t_15851 : (M0_2_q15837 0 (((6 : Int32) * y80_4) + x1).toNatClampNeg).toInt = (M0_l80 0 (((6 : Int32) * y80_4) + x1).toNatClampNeg).toInt := congrArg (fun z : Nat → Int32 => (z ((((6 : Int32) * y80_4) + x1)).toNatClampNeg).toInt) (show M0_2_q15837 0 = M0_l80 0 from by rw [h_M0_2_q15837]; rfl)
          have t_15852 : (M0_6_q15846 0 (((6 : Int32) * y80_4) + x1).toNatClampNeg).toInt = (M0_2_q15837 0 (((6 : Int32) * y80_4) + x1).toNatClampNeg).toInt := congrArg (fun z : Nat → Int32 => (z ((((6 : Int32) * y80_4) + x1)).toNatClampNeg).toInt) (show M0_6_q15846 0 = M0_2_q15837 0 from by rw [h_M0_6_q15846]; rfl)
          have b_15853 := i32b x3
          refine wq_b (tt_fX10_choose_d1 hN I0_l80 M0_6_q15846 (x1 + (1 : Int32)) (x2 + (M0_6_q15846 0 (((6 : Int32) * y80_4) + x1).toNatClampNeg)) x3 ⟨by omega, by omega⟩ k_M0_6_q15846) (fun r7_q15854 h_r7_q15854 => ?_)
          obtain ⟨h_r7_q15854_0, -⟩ := h_r7_q15854
          have t_15856 := ia_add y80_4 (1 : Int32) (by omega) (by omega)
          refine wq_v (fun v8_q15855 h_v8_q15855 => ?_)
          have t_v8_q15855 := congrArg Int32.toInt h_v8_q15855
          exact ih r7_q15854.1 r7_q15854.2 v8_q15855 ⟨by omega, by omega⟩ h_r7_q15854_0 (by omega)
        · have l_1 := il_1
          have t_15858 := ia_add y80_4 (1 : Int32) (by omega) (by omega)
          refine wq_v (fun v5_q15857 h_v5_q15857 => ?_)
          have t_v5_q15857 := congrArg Int32.toInt h_v5_q15857
          exact ih I0_l80 M0_2_q15837 v5_q15857 ⟨by omega, by omega⟩ k_M0_2_q15837 (by omega)
set_option maxHeartbeats 4000000 in
theorem tt_fX10_choose_d2 {N : Nat} (hN : 3000000000 ≤ N) (I0 : Nat → Int32) (M0 : Nat → Nat → Int32) (x1 : Int32) (x2 : Int32) (x3 : Int32) (h_x1 : 5 ≤ x1.toInt ∧ x1.toInt ≤ 5) (k_I0 : KX10 I0 M0) : wq (fX10_choose_d2 N I0 M0 x1 x2 x3) (fun r => KX10 r.1 r.2 ∧ True) := by
  unfold fX10_choose_d2
  have b_15859 := i32b x2
  refine wq_lt (fun hc_15860 => ?_) (fun hc_15861 => ?_)
  · have l_6 := il_6
    refine wq_lt (fun hc_15862 => ?_) (fun hc_15863 => ?_)
    · refine wq_in (n := 6) ⟨by omega, by omega⟩ ?_
      have t_15864 := KX10.m1 k_I0 x1.toNatClampNeg
      have l_m2 := il_m2
      refine wq_eq (fun hc_15865 => ?_) (fun hc_15866 => ?_)
      · have l_1 := il_1
        have t_15867 := ia_add x1 (1 : Int32) (by omega) (by omega)
        have b_15868 := i32b x3
        refine wq_b (tt_fX10_choose_d1 hN I0 M0 (x1 + (1 : Int32)) x2 x3 ⟨by omega, by omega⟩ k_I0) (fun r11_q15869 h_r11_q15869 => ?_)
        obtain ⟨h_r11_q15869_0, -⟩ := h_r11_q15869
        exact wq_s ⟨h_r11_q15869_0, trivial⟩
      · have b_15870 := i32b x3
        have l_0 := il_0
        refine wq_eq (fun hc_15871 => ?_) (fun hc_15872 => ?_)
        · refine wq_in (n := 6) ⟨by omega, by omega⟩ ?_
          refine wq_v (fun M0_9_q15873 h_M0_9_q15873 => ?_)
          have l_m1 := il_m1
          have k_M0_9_q15873 : KX10 I0 M0_9_q15873 := by rw [h_M0_9_q15873]; exact KX10.sm1 k_I0 ⟨by omega, by omega⟩
          have l_1 := il_1
          have t_15874 := ia_add x1 (1 : Int32) (by omega) (by omega)
          refine wq_b (tt_fX10_choose_d1 hN I0 M0_9_q15873 (x1 + (1 : Int32)) x2 (1 : Int32) ⟨by omega, by omega⟩ k_M0_9_q15873) (fun r10_q15875 h_r10_q15875 => ?_)
          obtain ⟨h_r10_q15875_0, -⟩ := h_r10_q15875
          unfold fX10_choose_d2_J77
          exact tt_fX10_choose_d2_L80 hN x1 x2 x3 ⟨by omega, by omega⟩ N r10_q15875.1 r10_q15875.2 (0 : Int32) ⟨by omega, by omega⟩ h_r10_q15875_0 (by omega)
        · unfold fX10_choose_d2_J77
          exact tt_fX10_choose_d2_L80 hN x1 x2 x3 ⟨by omega, by omega⟩ N I0 M0 (0 : Int32) ⟨by omega, by omega⟩ k_I0 (by omega)
    · exfalso; omega
  · exact wq_s ⟨k_I0, trivial⟩
set_option maxHeartbeats 4000000 in
theorem tt_fX10_choose_d3_L80 {N : Nat} (hN : 3000000000 ≤ N) (x1 : Int32) (x2 : Int32) (x3 : Int32) (h_x1 : 4 ≤ x1.toInt ∧ x1.toInt ≤ 4)  : ∀ (fu : Nat) (I0_l80 : (Nat → Int32)) (M0_l80 : (Nat → Nat → Int32)) (y80_4 : Int32), (0 ≤ y80_4.toInt ∧ y80_4.toInt ≤ 6) → (KX10 I0_l80 M0_l80) → (6 - y80_4.toInt) < (fu : Int) → wq (fX10_choose_d3_L80 N x1 x2 x3 fu I0_l80 M0_l80 y80_4) (fun r => KX10 r.1 r.2 ∧ True) := by
  intro fu
  induction fu with
  | zero => intro I0_l80 M0_l80 y80_4 h_y80_4 k_I0_l80 hm; exfalso; omega
  | succ fu ih =>
    intro I0_l80 M0_l80 y80_4 h_y80_4 k_I0_l80 hm
    rw [fX10_choose_d3_L80.eq_2]
    have l_6 := il_6
    refine wq_le (fun hc_16332 => ?_) (fun hc_16333 => ?_)
    · refine wq_in (n := 6) ⟨by omega, by omega⟩ ?_
      refine wq_v (fun M0_1_q16334 h_M0_1_q16334 => ?_)
      have l_m3 := il_m3
      have k_M0_1_q16334 : KX10 I0_l80 M0_1_q16334 := by rw [h_M0_1_q16334]; exact KX10.sm1 k_I0_l80 ⟨by omega, by omega⟩
      exact wq_s ⟨k_M0_1_q16334, trivial⟩
    · refine wq_in (n := 6) ⟨by omega, by omega⟩ ?_
      refine wq_v (fun M0_2_q16335 h_M0_2_q16335 => ?_)
      have l_m3 := il_m3
      have k_M0_2_q16335 : KX10 I0_l80 M0_2_q16335 := by rw [h_M0_2_q16335]; exact KX10.sm1 k_I0_l80 ⟨by omega, by omega⟩
      refine wq_in (n := 6) ⟨by omega, by omega⟩ ?_
      have t_16336 := KX10.m1 k_M0_2_q16335 y80_4.toNatClampNeg
      have l_m2 := il_m2
      refine wq_eq (fun hc_16337 => ?_) (fun hc_16338 => ?_)
      · have l_1 := il_1
        have t_16340 := ia_add y80_4 (1 : Int32) (by omega) (by omega)
        refine wq_v (fun v3_q16339 h_v3_q16339 => ?_)
        have t_v3_q16339 := congrArg Int32.toInt h_v3_q16339
        exact ih I0_l80 M0_2_q16335 v3_q16339 ⟨by omega, by omega⟩ k_M0_2_q16335 (by omega)
      · refine wq_b (tt_fX10_comesFrom hN I0_l80 M0_2_q16335 y80_4 x1 ⟨by omega, by omega⟩ ⟨by omega, by omega⟩ k_M0_2_q16335) (fun r4_q16341 h_r4_q16341 => ?_)
        obtain ⟨h_r4_q16341_0, -⟩ := h_r4_q16341
        have l_0 := il_0
        refine wq_eq (fun hc_16342 => ?_) (fun hc_16343 => ?_)
        · refine wq_in (n := 6) ⟨by omega, by omega⟩ ?_
          refine wq_v (fun M0_6_q16344 h_M0_6_q16344 => ?_)
          have k_M0_6_q16344 : KX10 I0_l80 M0_6_q16344 := by rw [h_M0_6_q16344]; exact KX10.sm1 k_M0_2_q16335 ⟨by omega, by omega⟩
          have t_16345 := ia_mul (6 : Int32) (6) il_6 y80_4 (by omega) (by omega)
          have t_16346 := ia_add ((6 : Int32) * y80_4) x1 (by omega) (by omega)
          refine wq_in (n := 36) ⟨by omega, by omega⟩ ?_
          have l_1 := il_1
          have t_16347 := ia_add x1 (1 : Int32) (by omega) (by omega)
          have b_16348 := i32b x2
          have t_16349 : (M0_2_q16335 0 (((6 : Int32) * y80_4) + x1).toNatClampNeg).toInt = (M0_l80 0 (((6 : Int32) * y80_4) + x1).toNatClampNeg).toInt := congrArg (fun z : Nat → Int32 => (z ((((6 : Int32) * y80_4) + x1)).toNatClampNeg).toInt) (show M0_2_q16335 0 = M0_l80 0 from by rw [h_M0_2_q16335]; rfl)
          have t_16350 : (M0_6_q16344 0 (((6 : Int32) * y80_4) + x1).toNatClampNeg).toInt = (M0_2_q16335 0 (((6 : Int32) * y80_4) + x1).toNatClampNeg).toInt := congrArg (fun z : Nat → Int32 => (z ((((6 : Int32) * y80_4) + x1)).toNatClampNeg).toInt) (show M0_6_q16344 0 = M0_2_q16335 0 from by rw [h_M0_6_q16344]; rfl)
          have b_16351 := i32b x3
          refine wq_b (tt_fX10_choose_d2 hN I0_l80 M0_6_q16344 (x1 + (1 : Int32)) (x2 + (M0_6_q16344 0 (((6 : Int32) * y80_4) + x1).toNatClampNeg)) x3 ⟨by omega, by omega⟩ k_M0_6_q16344) (fun r7_q16352 h_r7_q16352 => ?_)
          obtain ⟨h_r7_q16352_0, -⟩ := h_r7_q16352
          have t_16354 := ia_add y80_4 (1 : Int32) (by omega) (by omega)
          refine wq_v (fun v8_q16353 h_v8_q16353 => ?_)
          have t_v8_q16353 := congrArg Int32.toInt h_v8_q16353
          exact ih r7_q16352.1 r7_q16352.2 v8_q16353 ⟨by omega, by omega⟩ h_r7_q16352_0 (by omega)
        · have l_1 := il_1
          have t_16356 := ia_add y80_4 (1 : Int32) (by omega) (by omega)
          refine wq_v (fun v5_q16355 h_v5_q16355 => ?_)
          have t_v5_q16355 := congrArg Int32.toInt h_v5_q16355
          exact ih I0_l80 M0_2_q16335 v5_q16355 ⟨by omega, by omega⟩ k_M0_2_q16335 (by omega)
set_option maxHeartbeats 4000000 in
theorem tt_fX10_choose_d3 {N : Nat} (hN : 3000000000 ≤ N) (I0 : Nat → Int32) (M0 : Nat → Nat → Int32) (x1 : Int32) (x2 : Int32) (x3 : Int32) (h_x1 : 4 ≤ x1.toInt ∧ x1.toInt ≤ 4) (k_I0 : KX10 I0 M0) : wq (fX10_choose_d3 N I0 M0 x1 x2 x3) (fun r => KX10 r.1 r.2 ∧ True) := by
  unfold fX10_choose_d3
  have b_16357 := i32b x2
  refine wq_lt (fun hc_16358 => ?_) (fun hc_16359 => ?_)
  · have l_6 := il_6
    refine wq_lt (fun hc_16360 => ?_) (fun hc_16361 => ?_)
    · refine wq_in (n := 6) ⟨by omega, by omega⟩ ?_
      have t_16362 := KX10.m1 k_I0 x1.toNatClampNeg
      have l_m2 := il_m2
      refine wq_eq (fun hc_16363 => ?_) (fun hc_16364 => ?_)
      · have l_1 := il_1
        have t_16365 := ia_add x1 (1 : Int32) (by omega) (by omega)
        have b_16366 := i32b x3
        refine wq_b (tt_fX10_choose_d2 hN I0 M0 (x1 + (1 : Int32)) x2 x3 ⟨by omega, by omega⟩ k_I0) (fun r11_q16367 h_r11_q16367 => ?_)
        obtain ⟨h_r11_q16367_0, -⟩ := h_r11_q16367
        exact wq_s ⟨h_r11_q16367_0, trivial⟩
      · have b_16368 := i32b x3
        have l_0 := il_0
        refine wq_eq (fun hc_16369 => ?_) (fun hc_16370 => ?_)
        · refine wq_in (n := 6) ⟨by omega, by omega⟩ ?_
          refine wq_v (fun M0_9_q16371 h_M0_9_q16371 => ?_)
          have l_m1 := il_m1
          have k_M0_9_q16371 : KX10 I0 M0_9_q16371 := by rw [h_M0_9_q16371]; exact KX10.sm1 k_I0 ⟨by omega, by omega⟩
          have l_1 := il_1
          have t_16372 := ia_add x1 (1 : Int32) (by omega) (by omega)
          refine wq_b (tt_fX10_choose_d2 hN I0 M0_9_q16371 (x1 + (1 : Int32)) x2 (1 : Int32) ⟨by omega, by omega⟩ k_M0_9_q16371) (fun r10_q16373 h_r10_q16373 => ?_)
          obtain ⟨h_r10_q16373_0, -⟩ := h_r10_q16373
          unfold fX10_choose_d3_J77
          exact tt_fX10_choose_d3_L80 hN x1 x2 x3 ⟨by omega, by omega⟩ N r10_q16373.1 r10_q16373.2 (0 : Int32) ⟨by omega, by omega⟩ h_r10_q16373_0 (by omega)
        · unfold fX10_choose_d3_J77
          exact tt_fX10_choose_d3_L80 hN x1 x2 x3 ⟨by omega, by omega⟩ N I0 M0 (0 : Int32) ⟨by omega, by omega⟩ k_I0 (by omega)
    · exfalso; omega
  · exact wq_s ⟨k_I0, trivial⟩
set_option maxHeartbeats 4000000 in
theorem tt_fX10_choose_d4_L80 {N : Nat} (hN : 3000000000 ≤ N) (x1 : Int32) (x2 : Int32) (x3 : Int32) (h_x1 : 3 ≤ x1.toInt ∧ x1.toInt ≤ 3)  : ∀ (fu : Nat) (I0_l80 : (Nat → Int32)) (M0_l80 : (Nat → Nat → Int32)) (y80_4 : Int32), (0 ≤ y80_4.toInt ∧ y80_4.toInt ≤ 6) → (KX10 I0_l80 M0_l80) → (6 - y80_4.toInt) < (fu : Int) → wq (fX10_choose_d4_L80 N x1 x2 x3 fu I0_l80 M0_l80 y80_4) (fun r => KX10 r.1 r.2 ∧ True) := by
  intro fu
  induction fu with
  | zero => intro I0_l80 M0_l80 y80_4 h_y80_4 k_I0_l80 hm; exfalso; omega
  | succ fu ih =>
    intro I0_l80 M0_l80 y80_4 h_y80_4 k_I0_l80 hm
    rw [fX10_choose_d4_L80.eq_2]
    have l_6 := il_6
    refine wq_le (fun hc_16830 => ?_) (fun hc_16831 => ?_)
    · refine wq_in (n := 6) ⟨by omega, by omega⟩ ?_
      refine wq_v (fun M0_1_q16832 h_M0_1_q16832 => ?_)
      have l_m3 := il_m3
      have k_M0_1_q16832 : KX10 I0_l80 M0_1_q16832 := by rw [h_M0_1_q16832]; exact KX10.sm1 k_I0_l80 ⟨by omega, by omega⟩
      exact wq_s ⟨k_M0_1_q16832, trivial⟩
    · refine wq_in (n := 6) ⟨by omega, by omega⟩ ?_
      refine wq_v (fun M0_2_q16833 h_M0_2_q16833 => ?_)
      have l_m3 := il_m3
      have k_M0_2_q16833 : KX10 I0_l80 M0_2_q16833 := by rw [h_M0_2_q16833]; exact KX10.sm1 k_I0_l80 ⟨by omega, by omega⟩
      refine wq_in (n := 6) ⟨by omega, by omega⟩ ?_
      have t_16834 := KX10.m1 k_M0_2_q16833 y80_4.toNatClampNeg
      have l_m2 := il_m2
      refine wq_eq (fun hc_16835 => ?_) (fun hc_16836 => ?_)
      · have l_1 := il_1
        have t_16838 := ia_add y80_4 (1 : Int32) (by omega) (by omega)
        refine wq_v (fun v3_q16837 h_v3_q16837 => ?_)
        have t_v3_q16837 := congrArg Int32.toInt h_v3_q16837
        exact ih I0_l80 M0_2_q16833 v3_q16837 ⟨by omega, by omega⟩ k_M0_2_q16833 (by omega)
      · refine wq_b (tt_fX10_comesFrom hN I0_l80 M0_2_q16833 y80_4 x1 ⟨by omega, by omega⟩ ⟨by omega, by omega⟩ k_M0_2_q16833) (fun r4_q16839 h_r4_q16839 => ?_)
        obtain ⟨h_r4_q16839_0, -⟩ := h_r4_q16839
        have l_0 := il_0
        refine wq_eq (fun hc_16840 => ?_) (fun hc_16841 => ?_)
        · refine wq_in (n := 6) ⟨by omega, by omega⟩ ?_
          refine wq_v (fun M0_6_q16842 h_M0_6_q16842 => ?_)
          have k_M0_6_q16842 : KX10 I0_l80 M0_6_q16842 := by rw [h_M0_6_q16842]; exact KX10.sm1 k_M0_2_q16833 ⟨by omega, by omega⟩
          have t_16843 := ia_mul (6 : Int32) (6) il_6 y80_4 (by omega) (by omega)
          have t_16844 := ia_add ((6 : Int32) * y80_4) x1 (by omega) (by omega)
          refine wq_in (n := 36) ⟨by omega, by omega⟩ ?_
          have l_1 := il_1
          have t_16845 := ia_add x1 (1 : Int32) (by omega) (by omega)
          have b_16846 := i32b x2
          have t_16847 : (M0_2_q16833 0 (((6 : Int32) * y80_4) + x1).toNatClampNeg).toInt = (M0_l80 0 (((6 : Int32) * y80_4) + x1).toNatClampNeg).toInt := congrArg (fun z : Nat → Int32 => (z ((((6 : Int32) * y80_4) + x1)).toNatClampNeg).toInt) (show M0_2_q16833 0 = M0_l80 0 from by rw [h_M0_2_q16833]; rfl)
          have t_16848 : (M0_6_q16842 0 (((6 : Int32) * y80_4) + x1).toNatClampNeg).toInt = (M0_2_q16833 0 (((6 : Int32) * y80_4) + x1).toNatClampNeg).toInt := congrArg (fun z : Nat → Int32 => (z ((((6 : Int32) * y80_4) + x1)).toNatClampNeg).toInt) (show M0_6_q16842 0 = M0_2_q16833 0 from by rw [h_M0_6_q16842]; rfl)
          have b_16849 := i32b x3
          refine wq_b (tt_fX10_choose_d3 hN I0_l80 M0_6_q16842 (x1 + (1 : Int32)) (x2 + (M0_6_q16842 0 (((6 : Int32) * y80_4) + x1).toNatClampNeg)) x3 ⟨by omega, by omega⟩ k_M0_6_q16842) (fun r7_q16850 h_r7_q16850 => ?_)
          obtain ⟨h_r7_q16850_0, -⟩ := h_r7_q16850
          have t_16852 := ia_add y80_4 (1 : Int32) (by omega) (by omega)
          refine wq_v (fun v8_q16851 h_v8_q16851 => ?_)
          have t_v8_q16851 := congrArg Int32.toInt h_v8_q16851
          exact ih r7_q16850.1 r7_q16850.2 v8_q16851 ⟨by omega, by omega⟩ h_r7_q16850_0 (by omega)
        · have l_1 := il_1
          have t_16854 := ia_add y80_4 (1 : Int32) (by omega) (by omega)
          refine wq_v (fun v5_q16853 h_v5_q16853 => ?_)
          have t_v5_q16853 := congrArg Int32.toInt h_v5_q16853
          exact ih I0_l80 M0_2_q16833 v5_q16853 ⟨by omega, by omega⟩ k_M0_2_q16833 (by omega)
set_option maxHeartbeats 4000000 in
theorem tt_fX10_choose_d4 {N : Nat} (hN : 3000000000 ≤ N) (I0 : Nat → Int32) (M0 : Nat → Nat → Int32) (x1 : Int32) (x2 : Int32) (x3 : Int32) (h_x1 : 3 ≤ x1.toInt ∧ x1.toInt ≤ 3) (k_I0 : KX10 I0 M0) : wq (fX10_choose_d4 N I0 M0 x1 x2 x3) (fun r => KX10 r.1 r.2 ∧ True) := by
  unfold fX10_choose_d4
  have b_16855 := i32b x2
  refine wq_lt (fun hc_16856 => ?_) (fun hc_16857 => ?_)
  · have l_6 := il_6
    refine wq_lt (fun hc_16858 => ?_) (fun hc_16859 => ?_)
    · refine wq_in (n := 6) ⟨by omega, by omega⟩ ?_
      have t_16860 := KX10.m1 k_I0 x1.toNatClampNeg
      have l_m2 := il_m2
      refine wq_eq (fun hc_16861 => ?_) (fun hc_16862 => ?_)
      · have l_1 := il_1
        have t_16863 := ia_add x1 (1 : Int32) (by omega) (by omega)
        have b_16864 := i32b x3
        refine wq_b (tt_fX10_choose_d3 hN I0 M0 (x1 + (1 : Int32)) x2 x3 ⟨by omega, by omega⟩ k_I0) (fun r11_q16865 h_r11_q16865 => ?_)
        obtain ⟨h_r11_q16865_0, -⟩ := h_r11_q16865
        exact wq_s ⟨h_r11_q16865_0, trivial⟩
      · have b_16866 := i32b x3
        have l_0 := il_0
        refine wq_eq (fun hc_16867 => ?_) (fun hc_16868 => ?_)
        · refine wq_in (n := 6) ⟨by omega, by omega⟩ ?_
          refine wq_v (fun M0_9_q16869 h_M0_9_q16869 => ?_)
          have l_m1 := il_m1
          have k_M0_9_q16869 : KX10 I0 M0_9_q16869 := by rw [h_M0_9_q16869]; exact KX10.sm1 k_I0 ⟨by omega, by omega⟩
          have l_1 := il_1
          have t_16870 := ia_add x1 (1 : Int32) (by omega) (by omega)
          refine wq_b (tt_fX10_choose_d3 hN I0 M0_9_q16869 (x1 + (1 : Int32)) x2 (1 : Int32) ⟨by omega, by omega⟩ k_M0_9_q16869) (fun r10_q16871 h_r10_q16871 => ?_)
          obtain ⟨h_r10_q16871_0, -⟩ := h_r10_q16871
          unfold fX10_choose_d4_J77
          exact tt_fX10_choose_d4_L80 hN x1 x2 x3 ⟨by omega, by omega⟩ N r10_q16871.1 r10_q16871.2 (0 : Int32) ⟨by omega, by omega⟩ h_r10_q16871_0 (by omega)
        · unfold fX10_choose_d4_J77
          exact tt_fX10_choose_d4_L80 hN x1 x2 x3 ⟨by omega, by omega⟩ N I0 M0 (0 : Int32) ⟨by omega, by omega⟩ k_I0 (by omega)
    · exfalso; omega
  · exact wq_s ⟨k_I0, trivial⟩
set_option maxHeartbeats 4000000 in
theorem tt_fX10_choose_d5_L80 {N : Nat} (hN : 3000000000 ≤ N) (x1 : Int32) (x2 : Int32) (x3 : Int32) (h_x1 : 2 ≤ x1.toInt ∧ x1.toInt ≤ 2)  : ∀ (fu : Nat) (I0_l80 : (Nat → Int32)) (M0_l80 : (Nat → Nat → Int32)) (y80_4 : Int32), (0 ≤ y80_4.toInt ∧ y80_4.toInt ≤ 6) → (KX10 I0_l80 M0_l80) → (6 - y80_4.toInt) < (fu : Int) → wq (fX10_choose_d5_L80 N x1 x2 x3 fu I0_l80 M0_l80 y80_4) (fun r => KX10 r.1 r.2 ∧ True) := by
  intro fu
  induction fu with
  | zero => intro I0_l80 M0_l80 y80_4 h_y80_4 k_I0_l80 hm; exfalso; omega
  | succ fu ih =>
    intro I0_l80 M0_l80 y80_4 h_y80_4 k_I0_l80 hm
    rw [fX10_choose_d5_L80.eq_2]
    have l_6 := il_6
    refine wq_le (fun hc_17287 => ?_) (fun hc_17288 => ?_)
    · refine wq_in (n := 6) ⟨by omega, by omega⟩ ?_
      refine wq_v (fun M0_1_q17289 h_M0_1_q17289 => ?_)
      have l_m3 := il_m3
      have k_M0_1_q17289 : KX10 I0_l80 M0_1_q17289 := by rw [h_M0_1_q17289]; exact KX10.sm1 k_I0_l80 ⟨by omega, by omega⟩
      exact wq_s ⟨k_M0_1_q17289, trivial⟩
    · refine wq_in (n := 6) ⟨by omega, by omega⟩ ?_
      refine wq_v (fun M0_2_q17290 h_M0_2_q17290 => ?_)
      have l_m3 := il_m3
      have k_M0_2_q17290 : KX10 I0_l80 M0_2_q17290 := by rw [h_M0_2_q17290]; exact KX10.sm1 k_I0_l80 ⟨by omega, by omega⟩
      refine wq_in (n := 6) ⟨by omega, by omega⟩ ?_
      have t_17291 := KX10.m1 k_M0_2_q17290 y80_4.toNatClampNeg
      have l_m2 := il_m2
      refine wq_eq (fun hc_17292 => ?_) (fun hc_17293 => ?_)
      · have l_1 := il_1
        have t_17295 := ia_add y80_4 (1 : Int32) (by omega) (by omega)
        refine wq_v (fun v3_q17294 h_v3_q17294 => ?_)
        have t_v3_q17294 := congrArg Int32.toInt h_v3_q17294
        exact ih I0_l80 M0_2_q17290 v3_q17294 ⟨by omega, by omega⟩ k_M0_2_q17290 (by omega)
      · refine wq_b (tt_fX10_comesFrom hN I0_l80 M0_2_q17290 y80_4 x1 ⟨by omega, by omega⟩ ⟨by omega, by omega⟩ k_M0_2_q17290) (fun r4_q17296 h_r4_q17296 => ?_)
        obtain ⟨h_r4_q17296_0, -⟩ := h_r4_q17296
        have l_0 := il_0
        refine wq_eq (fun hc_17297 => ?_) (fun hc_17298 => ?_)
        · refine wq_in (n := 6) ⟨by omega, by omega⟩ ?_
          refine wq_v (fun M0_6_q17299 h_M0_6_q17299 => ?_)
          have k_M0_6_q17299 : KX10 I0_l80 M0_6_q17299 := by rw [h_M0_6_q17299]; exact KX10.sm1 k_M0_2_q17290 ⟨by omega, by omega⟩
          have t_17300 := ia_mul (6 : Int32) (6) il_6 y80_4 (by omega) (by omega)
          have t_17301 := ia_add ((6 : Int32) * y80_4) x1 (by omega) (by omega)
          refine wq_in (n := 36) ⟨by omega, by omega⟩ ?_
          have l_1 := il_1
          have t_17302 := ia_add x1 (1 : Int32) (by omega) (by omega)
          have b_17303 := i32b x2
          have t_17304 : (M0_2_q17290 0 (((6 : Int32) * y80_4) + x1).toNatClampNeg).toInt = (M0_l80 0 (((6 : Int32) * y80_4) + x1).toNatClampNeg).toInt := congrArg (fun z : Nat → Int32 => (z ((((6 : Int32) * y80_4) + x1)).toNatClampNeg).toInt) (show M0_2_q17290 0 = M0_l80 0 from by rw [h_M0_2_q17290]; rfl)
          have t_17305 : (M0_6_q17299 0 (((6 : Int32) * y80_4) + x1).toNatClampNeg).toInt = (M0_2_q17290 0 (((6 : Int32) * y80_4) + x1).toNatClampNeg).toInt := congrArg (fun z : Nat → Int32 => (z ((((6 : Int32) * y80_4) + x1)).toNatClampNeg).toInt) (show M0_6_q17299 0 = M0_2_q17290 0 from by rw [h_M0_6_q17299]; rfl)
          have b_17306 := i32b x3
          refine wq_b (tt_fX10_choose_d4 hN I0_l80 M0_6_q17299 (x1 + (1 : Int32)) (x2 + (M0_6_q17299 0 (((6 : Int32) * y80_4) + x1).toNatClampNeg)) x3 ⟨by omega, by omega⟩ k_M0_6_q17299) (fun r7_q17307 h_r7_q17307 => ?_)
          obtain ⟨h_r7_q17307_0, -⟩ := h_r7_q17307
          have t_17309 := ia_add y80_4 (1 : Int32) (by omega) (by omega)
          refine wq_v (fun v8_q17308 h_v8_q17308 => ?_)
          have t_v8_q17308 := congrArg Int32.toInt h_v8_q17308
          exact ih r7_q17307.1 r7_q17307.2 v8_q17308 ⟨by omega, by omega⟩ h_r7_q17307_0 (by omega)
        · have l_1 := il_1
          have t_17311 := ia_add y80_4 (1 : Int32) (by omega) (by omega)
          refine wq_v (fun v5_q17310 h_v5_q17310 => ?_)
          have t_v5_q17310 := congrArg Int32.toInt h_v5_q17310
          exact ih I0_l80 M0_2_q17290 v5_q17310 ⟨by omega, by omega⟩ k_M0_2_q17290 (by omega)
set_option maxHeartbeats 4000000 in
theorem tt_fX10_choose_d5 {N : Nat} (hN : 3000000000 ≤ N) (I0 : Nat → Int32) (M0 : Nat → Nat → Int32) (x1 : Int32) (x2 : Int32) (x3 : Int32) (h_x1 : 2 ≤ x1.toInt ∧ x1.toInt ≤ 2) (k_I0 : KX10 I0 M0) : wq (fX10_choose_d5 N I0 M0 x1 x2 x3) (fun r => KX10 r.1 r.2 ∧ True) := by
  unfold fX10_choose_d5
  have b_17312 := i32b x2
  refine wq_lt (fun hc_17313 => ?_) (fun hc_17314 => ?_)
  · have l_6 := il_6
    refine wq_lt (fun hc_17315 => ?_) (fun hc_17316 => ?_)
    · refine wq_in (n := 6) ⟨by omega, by omega⟩ ?_
      have t_17317 := KX10.m1 k_I0 x1.toNatClampNeg
      have l_m2 := il_m2
      refine wq_eq (fun hc_17318 => ?_) (fun hc_17319 => ?_)
      · have l_1 := il_1
        have t_17320 := ia_add x1 (1 : Int32) (by omega) (by omega)
        have b_17321 := i32b x3
        refine wq_b (tt_fX10_choose_d4 hN I0 M0 (x1 + (1 : Int32)) x2 x3 ⟨by omega, by omega⟩ k_I0) (fun r11_q17322 h_r11_q17322 => ?_)
        obtain ⟨h_r11_q17322_0, -⟩ := h_r11_q17322
        exact wq_s ⟨h_r11_q17322_0, trivial⟩
      · have b_17323 := i32b x3
        have l_0 := il_0
        refine wq_eq (fun hc_17324 => ?_) (fun hc_17325 => ?_)
        · refine wq_in (n := 6) ⟨by omega, by omega⟩ ?_
          refine wq_v (fun M0_9_q17326 h_M0_9_q17326 => ?_)
          have l_m1 := il_m1
          have k_M0_9_q17326 : KX10 I0 M0_9_q17326 := by rw [h_M0_9_q17326]; exact KX10.sm1 k_I0 ⟨by omega, by omega⟩
          have l_1 := il_1
          have t_17327 := ia_add x1 (1 : Int32) (by omega) (by omega)
          refine wq_b (tt_fX10_choose_d4 hN I0 M0_9_q17326 (x1 + (1 : Int32)) x2 (1 : Int32) ⟨by omega, by omega⟩ k_M0_9_q17326) (fun r10_q17328 h_r10_q17328 => ?_)
          obtain ⟨h_r10_q17328_0, -⟩ := h_r10_q17328
          unfold fX10_choose_d5_J77
          exact tt_fX10_choose_d5_L80 hN x1 x2 x3 ⟨by omega, by omega⟩ N r10_q17328.1 r10_q17328.2 (0 : Int32) ⟨by omega, by omega⟩ h_r10_q17328_0 (by omega)
        · unfold fX10_choose_d5_J77
          exact tt_fX10_choose_d5_L80 hN x1 x2 x3 ⟨by omega, by omega⟩ N I0 M0 (0 : Int32) ⟨by omega, by omega⟩ k_I0 (by omega)
    · exfalso; omega
  · exact wq_s ⟨k_I0, trivial⟩
set_option maxHeartbeats 4000000 in
theorem tt_fX10_choose_d6_L80 {N : Nat} (hN : 3000000000 ≤ N) (x1 : Int32) (x2 : Int32) (x3 : Int32) (h_x1 : 1 ≤ x1.toInt ∧ x1.toInt ≤ 1)  : ∀ (fu : Nat) (I0_l80 : (Nat → Int32)) (M0_l80 : (Nat → Nat → Int32)) (y80_4 : Int32), (0 ≤ y80_4.toInt ∧ y80_4.toInt ≤ 6) → (KX10 I0_l80 M0_l80) → (6 - y80_4.toInt) < (fu : Int) → wq (fX10_choose_d6_L80 N x1 x2 x3 fu I0_l80 M0_l80 y80_4) (fun r => KX10 r.1 r.2 ∧ True) := by
  intro fu
  induction fu with
  | zero => intro I0_l80 M0_l80 y80_4 h_y80_4 k_I0_l80 hm; exfalso; omega
  | succ fu ih =>
    intro I0_l80 M0_l80 y80_4 h_y80_4 k_I0_l80 hm
    rw [fX10_choose_d6_L80.eq_2]
    have l_6 := il_6
    refine wq_le (fun hc_17744 => ?_) (fun hc_17745 => ?_)
    · refine wq_in (n := 6) ⟨by omega, by omega⟩ ?_
      refine wq_v (fun M0_1_q17746 h_M0_1_q17746 => ?_)
      have l_m3 := il_m3
      have k_M0_1_q17746 : KX10 I0_l80 M0_1_q17746 := by rw [h_M0_1_q17746]; exact KX10.sm1 k_I0_l80 ⟨by omega, by omega⟩
      exact wq_s ⟨k_M0_1_q17746, trivial⟩
    · refine wq_in (n := 6) ⟨by omega, by omega⟩ ?_
      refine wq_v (fun M0_2_q17747 h_M0_2_q17747 => ?_)
      have l_m3 := il_m3
      have k_M0_2_q17747 : KX10 I0_l80 M0_2_q17747 := by rw [h_M0_2_q17747]; exact KX10.sm1 k_I0_l80 ⟨by omega, by omega⟩
      refine wq_in (n := 6) ⟨by omega, by omega⟩ ?_
      have t_17748 := KX10.m1 k_M0_2_q17747 y80_4.toNatClampNeg
      have l_m2 := il_m2
      refine wq_eq (fun hc_17749 => ?_) (fun hc_17750 => ?_)
      · have l_1 := il_1
        have t_17752 := ia_add y80_4 (1 : Int32) (by omega) (by omega)
        refine wq_v (fun v3_q17751 h_v3_q17751 => ?_)
        have t_v3_q17751 := congrArg Int32.toInt h_v3_q17751
        exact ih I0_l80 M0_2_q17747 v3_q17751 ⟨by omega, by omega⟩ k_M0_2_q17747 (by omega)
      · refine wq_b (tt_fX10_comesFrom hN I0_l80 M0_2_q17747 y80_4 x1 ⟨by omega, by omega⟩ ⟨by omega, by omega⟩ k_M0_2_q17747) (fun r4_q17753 h_r4_q17753 => ?_)
        obtain ⟨h_r4_q17753_0, -⟩ := h_r4_q17753
        have l_0 := il_0
        refine wq_eq (fun hc_17754 => ?_) (fun hc_17755 => ?_)
        · refine wq_in (n := 6) ⟨by omega, by omega⟩ ?_
          refine wq_v (fun M0_6_q17756 h_M0_6_q17756 => ?_)
          have k_M0_6_q17756 : KX10 I0_l80 M0_6_q17756 := by rw [h_M0_6_q17756]; exact KX10.sm1 k_M0_2_q17747 ⟨by omega, by omega⟩
          have t_17757 := ia_mul (6 : Int32) (6) il_6 y80_4 (by omega) (by omega)
          have t_17758 := ia_add ((6 : Int32) * y80_4) x1 (by omega) (by omega)
          refine wq_in (n := 36) ⟨by omega, by omega⟩ ?_
          have l_1 := il_1
          have t_17759 := ia_add x1 (1 : Int32) (by omega) (by omega)
          have b_17760 := i32b x2
          have t_17761 : (M0_2_q17747 0 (((6 : Int32) * y80_4) + x1).toNatClampNeg).toInt = (M0_l80 0 (((6 : Int32) * y80_4) + x1).toNatClampNeg).toInt := congrArg (fun z : Nat → Int32 => (z ((((6 : Int32) * y80_4) + x1)).toNatClampNeg).toInt) (show M0_2_q17747 0 = M0_l80 0 from by rw [h_M0_2_q17747]; rfl)
          have t_17762 : (M0_6_q17756 0 (((6 : Int32) * y80_4) + x1).toNatClampNeg).toInt = (M0_2_q17747 0 (((6 : Int32) * y80_4) + x1).toNatClampNeg).toInt := congrArg (fun z : Nat → Int32 => (z ((((6 : Int32) * y80_4) + x1)).toNatClampNeg).toInt) (show M0_6_q17756 0 = M0_2_q17747 0 from by rw [h_M0_6_q17756]; rfl)
          have b_17763 := i32b x3
          refine wq_b (tt_fX10_choose_d5 hN I0_l80 M0_6_q17756 (x1 + (1 : Int32)) (x2 + (M0_6_q17756 0 (((6 : Int32) * y80_4) + x1).toNatClampNeg)) x3 ⟨by omega, by omega⟩ k_M0_6_q17756) (fun r7_q17764 h_r7_q17764 => ?_)
          obtain ⟨h_r7_q17764_0, -⟩ := h_r7_q17764
          have t_17766 := ia_add y80_4 (1 : Int32) (by omega) (by omega)
          refine wq_v (fun v8_q17765 h_v8_q17765 => ?_)
          have t_v8_q17765 := congrArg Int32.toInt h_v8_q17765
          exact ih r7_q17764.1 r7_q17764.2 v8_q17765 ⟨by omega, by omega⟩ h_r7_q17764_0 (by omega)
        · have l_1 := il_1
          have t_17768 := ia_add y80_4 (1 : Int32) (by omega) (by omega)
          refine wq_v (fun v5_q17767 h_v5_q17767 => ?_)
          have t_v5_q17767 := congrArg Int32.toInt h_v5_q17767
          exact ih I0_l80 M0_2_q17747 v5_q17767 ⟨by omega, by omega⟩ k_M0_2_q17747 (by omega)
set_option maxHeartbeats 4000000 in
theorem tt_fX10_choose_d6 {N : Nat} (hN : 3000000000 ≤ N) (I0 : Nat → Int32) (M0 : Nat → Nat → Int32) (x1 : Int32) (x2 : Int32) (x3 : Int32) (h_x1 : 1 ≤ x1.toInt ∧ x1.toInt ≤ 1) (k_I0 : KX10 I0 M0) : wq (fX10_choose_d6 N I0 M0 x1 x2 x3) (fun r => KX10 r.1 r.2 ∧ True) := by
  unfold fX10_choose_d6
  have b_17769 := i32b x2
  refine wq_lt (fun hc_17770 => ?_) (fun hc_17771 => ?_)
  · have l_6 := il_6
    refine wq_lt (fun hc_17772 => ?_) (fun hc_17773 => ?_)
    · refine wq_in (n := 6) ⟨by omega, by omega⟩ ?_
      have t_17774 := KX10.m1 k_I0 x1.toNatClampNeg
      have l_m2 := il_m2
      refine wq_eq (fun hc_17775 => ?_) (fun hc_17776 => ?_)
      · have l_1 := il_1
        have t_17777 := ia_add x1 (1 : Int32) (by omega) (by omega)
        have b_17778 := i32b x3
        refine wq_b (tt_fX10_choose_d5 hN I0 M0 (x1 + (1 : Int32)) x2 x3 ⟨by omega, by omega⟩ k_I0) (fun r11_q17779 h_r11_q17779 => ?_)
        obtain ⟨h_r11_q17779_0, -⟩ := h_r11_q17779
        exact wq_s ⟨h_r11_q17779_0, trivial⟩
      · have b_17780 := i32b x3
        have l_0 := il_0
        refine wq_eq (fun hc_17781 => ?_) (fun hc_17782 => ?_)
        · refine wq_in (n := 6) ⟨by omega, by omega⟩ ?_
          refine wq_v (fun M0_9_q17783 h_M0_9_q17783 => ?_)
          have l_m1 := il_m1
          have k_M0_9_q17783 : KX10 I0 M0_9_q17783 := by rw [h_M0_9_q17783]; exact KX10.sm1 k_I0 ⟨by omega, by omega⟩
          have l_1 := il_1
          have t_17784 := ia_add x1 (1 : Int32) (by omega) (by omega)
          refine wq_b (tt_fX10_choose_d5 hN I0 M0_9_q17783 (x1 + (1 : Int32)) x2 (1 : Int32) ⟨by omega, by omega⟩ k_M0_9_q17783) (fun r10_q17785 h_r10_q17785 => ?_)
          obtain ⟨h_r10_q17785_0, -⟩ := h_r10_q17785
          unfold fX10_choose_d6_J77
          exact tt_fX10_choose_d6_L80 hN x1 x2 x3 ⟨by omega, by omega⟩ N r10_q17785.1 r10_q17785.2 (0 : Int32) ⟨by omega, by omega⟩ h_r10_q17785_0 (by omega)
        · unfold fX10_choose_d6_J77
          exact tt_fX10_choose_d6_L80 hN x1 x2 x3 ⟨by omega, by omega⟩ N I0 M0 (0 : Int32) ⟨by omega, by omega⟩ k_I0 (by omega)
    · exfalso; omega
  · exact wq_s ⟨k_I0, trivial⟩
set_option maxHeartbeats 4000000 in
theorem tt_fX10_choose_d7_L80 {N : Nat} (hN : 3000000000 ≤ N) (x1 : Int32) (x2 : Int32) (x3 : Int32) (h_x1 : 0 ≤ x1.toInt ∧ x1.toInt ≤ 0)  : ∀ (fu : Nat) (I0_l80 : (Nat → Int32)) (M0_l80 : (Nat → Nat → Int32)) (y80_4 : Int32), (0 ≤ y80_4.toInt ∧ y80_4.toInt ≤ 6) → (KX10 I0_l80 M0_l80) → (6 - y80_4.toInt) < (fu : Int) → wq (fX10_choose_d7_L80 N x1 x2 x3 fu I0_l80 M0_l80 y80_4) (fun r => KX10 r.1 r.2 ∧ True) := by
  intro fu
  induction fu with
  | zero => intro I0_l80 M0_l80 y80_4 h_y80_4 k_I0_l80 hm; exfalso; omega
  | succ fu ih =>
    intro I0_l80 M0_l80 y80_4 h_y80_4 k_I0_l80 hm
    rw [fX10_choose_d7_L80.eq_2]
    have l_6 := il_6
    refine wq_le (fun hc_18201 => ?_) (fun hc_18202 => ?_)
    · refine wq_in (n := 6) ⟨by omega, by omega⟩ ?_
      refine wq_v (fun M0_1_q18203 h_M0_1_q18203 => ?_)
      have l_m3 := il_m3
      have k_M0_1_q18203 : KX10 I0_l80 M0_1_q18203 := by rw [h_M0_1_q18203]; exact KX10.sm1 k_I0_l80 ⟨by omega, by omega⟩
      exact wq_s ⟨k_M0_1_q18203, trivial⟩
    · refine wq_in (n := 6) ⟨by omega, by omega⟩ ?_
      refine wq_v (fun M0_2_q18204 h_M0_2_q18204 => ?_)
      have l_m3 := il_m3
      have k_M0_2_q18204 : KX10 I0_l80 M0_2_q18204 := by rw [h_M0_2_q18204]; exact KX10.sm1 k_I0_l80 ⟨by omega, by omega⟩
      refine wq_in (n := 6) ⟨by omega, by omega⟩ ?_
      have t_18205 := KX10.m1 k_M0_2_q18204 y80_4.toNatClampNeg
      have l_m2 := il_m2
      refine wq_eq (fun hc_18206 => ?_) (fun hc_18207 => ?_)
      · have l_1 := il_1
        have t_18209 := ia_add y80_4 (1 : Int32) (by omega) (by omega)
        refine wq_v (fun v3_q18208 h_v3_q18208 => ?_)
        have t_v3_q18208 := congrArg Int32.toInt h_v3_q18208
        exact ih I0_l80 M0_2_q18204 v3_q18208 ⟨by omega, by omega⟩ k_M0_2_q18204 (by omega)
      · refine wq_b (tt_fX10_comesFrom hN I0_l80 M0_2_q18204 y80_4 x1 ⟨by omega, by omega⟩ ⟨by omega, by omega⟩ k_M0_2_q18204) (fun r4_q18210 h_r4_q18210 => ?_)
        obtain ⟨h_r4_q18210_0, -⟩ := h_r4_q18210
        have l_0 := il_0
        refine wq_eq (fun hc_18211 => ?_) (fun hc_18212 => ?_)
        · refine wq_in (n := 6) ⟨by omega, by omega⟩ ?_
          refine wq_v (fun M0_6_q18213 h_M0_6_q18213 => ?_)
          have k_M0_6_q18213 : KX10 I0_l80 M0_6_q18213 := by rw [h_M0_6_q18213]; exact KX10.sm1 k_M0_2_q18204 ⟨by omega, by omega⟩
          have t_18214 := ia_mul (6 : Int32) (6) il_6 y80_4 (by omega) (by omega)
          have t_18215 := ia_add ((6 : Int32) * y80_4) x1 (by omega) (by omega)
          refine wq_in (n := 36) ⟨by omega, by omega⟩ ?_
          have l_1 := il_1
          have t_18216 := ia_add x1 (1 : Int32) (by omega) (by omega)
          have b_18217 := i32b x2
          have t_18218 : (M0_2_q18204 0 (((6 : Int32) * y80_4) + x1).toNatClampNeg).toInt = (M0_l80 0 (((6 : Int32) * y80_4) + x1).toNatClampNeg).toInt := congrArg (fun z : Nat → Int32 => (z ((((6 : Int32) * y80_4) + x1)).toNatClampNeg).toInt) (show M0_2_q18204 0 = M0_l80 0 from by rw [h_M0_2_q18204]; rfl)
          have t_18219 : (M0_6_q18213 0 (((6 : Int32) * y80_4) + x1).toNatClampNeg).toInt = (M0_2_q18204 0 (((6 : Int32) * y80_4) + x1).toNatClampNeg).toInt := congrArg (fun z : Nat → Int32 => (z ((((6 : Int32) * y80_4) + x1)).toNatClampNeg).toInt) (show M0_6_q18213 0 = M0_2_q18204 0 from by rw [h_M0_6_q18213]; rfl)
          have b_18220 := i32b x3
          refine wq_b (tt_fX10_choose_d6 hN I0_l80 M0_6_q18213 (x1 + (1 : Int32)) (x2 + (M0_6_q18213 0 (((6 : Int32) * y80_4) + x1).toNatClampNeg)) x3 ⟨by omega, by omega⟩ k_M0_6_q18213) (fun r7_q18221 h_r7_q18221 => ?_)
          obtain ⟨h_r7_q18221_0, -⟩ := h_r7_q18221
          have t_18223 := ia_add y80_4 (1 : Int32) (by omega) (by omega)
          refine wq_v (fun v8_q18222 h_v8_q18222 => ?_)
          have t_v8_q18222 := congrArg Int32.toInt h_v8_q18222
          exact ih r7_q18221.1 r7_q18221.2 v8_q18222 ⟨by omega, by omega⟩ h_r7_q18221_0 (by omega)
        · have l_1 := il_1
          have t_18225 := ia_add y80_4 (1 : Int32) (by omega) (by omega)
          refine wq_v (fun v5_q18224 h_v5_q18224 => ?_)
          have t_v5_q18224 := congrArg Int32.toInt h_v5_q18224
          exact ih I0_l80 M0_2_q18204 v5_q18224 ⟨by omega, by omega⟩ k_M0_2_q18204 (by omega)
set_option maxHeartbeats 4000000 in
theorem tt_fX10_choose_d7 {N : Nat} (hN : 3000000000 ≤ N) (I0 : Nat → Int32) (M0 : Nat → Nat → Int32) (x1 : Int32) (x2 : Int32) (x3 : Int32) (h_x1 : 0 ≤ x1.toInt ∧ x1.toInt ≤ 0) (k_I0 : KX10 I0 M0) : wq (fX10_choose_d7 N I0 M0 x1 x2 x3) (fun r => KX10 r.1 r.2 ∧ True) := by
  unfold fX10_choose_d7
  have b_18226 := i32b x2
  refine wq_lt (fun hc_18227 => ?_) (fun hc_18228 => ?_)
  · have l_6 := il_6
    refine wq_lt (fun hc_18229 => ?_) (fun hc_18230 => ?_)
    · refine wq_in (n := 6) ⟨by omega, by omega⟩ ?_
      have t_18231 := KX10.m1 k_I0 x1.toNatClampNeg
      have l_m2 := il_m2
      refine wq_eq (fun hc_18232 => ?_) (fun hc_18233 => ?_)
      · have l_1 := il_1
        have t_18234 := ia_add x1 (1 : Int32) (by omega) (by omega)
        have b_18235 := i32b x3
        refine wq_b (tt_fX10_choose_d6 hN I0 M0 (x1 + (1 : Int32)) x2 x3 ⟨by omega, by omega⟩ k_I0) (fun r11_q18236 h_r11_q18236 => ?_)
        obtain ⟨h_r11_q18236_0, -⟩ := h_r11_q18236
        exact wq_s ⟨h_r11_q18236_0, trivial⟩
      · have b_18237 := i32b x3
        have l_0 := il_0
        refine wq_eq (fun hc_18238 => ?_) (fun hc_18239 => ?_)
        · refine wq_in (n := 6) ⟨by omega, by omega⟩ ?_
          refine wq_v (fun M0_9_q18240 h_M0_9_q18240 => ?_)
          have l_m1 := il_m1
          have k_M0_9_q18240 : KX10 I0 M0_9_q18240 := by rw [h_M0_9_q18240]; exact KX10.sm1 k_I0 ⟨by omega, by omega⟩
          have l_1 := il_1
          have t_18241 := ia_add x1 (1 : Int32) (by omega) (by omega)
          refine wq_b (tt_fX10_choose_d6 hN I0 M0_9_q18240 (x1 + (1 : Int32)) x2 (1 : Int32) ⟨by omega, by omega⟩ k_M0_9_q18240) (fun r10_q18242 h_r10_q18242 => ?_)
          obtain ⟨h_r10_q18242_0, -⟩ := h_r10_q18242
          unfold fX10_choose_d7_J77
          exact tt_fX10_choose_d7_L80 hN x1 x2 x3 ⟨by omega, by omega⟩ N r10_q18242.1 r10_q18242.2 (0 : Int32) ⟨by omega, by omega⟩ h_r10_q18242_0 (by omega)
        · unfold fX10_choose_d7_J77
          exact tt_fX10_choose_d7_L80 hN x1 x2 x3 ⟨by omega, by omega⟩ N I0 M0 (0 : Int32) ⟨by omega, by omega⟩ k_I0 (by omega)
    · exfalso; omega
  · exact wq_s ⟨k_I0, trivial⟩
set_option maxHeartbeats 4000000 in
theorem tt_fX10_grow {N : Nat} (hN : 3000000000 ≤ N) (I0 : Nat → Int32) (M0 : Nat → Nat → Int32) (k_I0 : KX10 I0 M0) : wq (fX10_grow N I0 M0) (fun r => KX10 r.2.1 r.2.2 ∧ True) := by
  unfold fX10_grow
  refine wq_v (fun I0_1_q18267 h_I0_1_q18267 => ?_)
  have k_I0_1_q18267 : KX10 I0_1_q18267 M0 := by rw [h_I0_1_q18267]; exact KX10.si0 k_I0
  have l_0 := il_0
  refine wq_b (tt_fX10_choose_d7 hN I0_1_q18267 M0 (0 : Int32) (0 : Int32) (0 : Int32) ⟨by omega, by omega⟩ k_I0_1_q18267) (fun r2_q18268 h_r2_q18268 => ?_)
  obtain ⟨h_r2_q18268_0, -⟩ := h_r2_q18268
  refine wq_v (fun I0_3_q18269 h_I0_3_q18269 => ?_)
  have l_1 := il_1
  have k_I0_3_q18269 : KX10 I0_3_q18269 r2_q18268.2 := by rw [h_I0_3_q18269]; exact KX10.si1 h_r2_q18268_0 ⟨by omega, by omega⟩
  have t_18270 : (I0_3_q18269 0).toInt = (r2_q18268.1 0).toInt := by rw [h_I0_3_q18269]; rfl
  exact wq_s ⟨k_I0_3_q18269, trivial⟩
set_option maxHeartbeats 4000000 in
theorem tt_fX10_holds {N : Nat} (hN : 3000000000 ≤ N) (I0 : Nat → Int32) (M0 : Nat → Nat → Int32) (x1 : Int32) (h_x1 : 0 ≤ x1.toInt ∧ x1.toInt ≤ 5) (k_I0 : KX10 I0 M0) : wq (fX10_holds N I0 M0 x1) (fun r => (0 ≤ r.toInt ∧ r.toInt ≤ 1) ∧ True) := by
  unfold fX10_holds
  refine wq_in (n := 6) ⟨by omega, by omega⟩ ?_
  have t_18289 := KX10.m2 k_I0 x1.toNatClampNeg
  have l_m2 := il_m2
  refine wq_eq (fun hc_18290 => ?_) (fun hc_18291 => ?_)
  · have l_0 := il_0
    exact wq_s ⟨(show 0 ≤ (0 : Int32).toInt ∧ (0 : Int32).toInt ≤ 1 from ⟨by omega, by omega⟩), trivial⟩
  · have l_1 := il_1
    exact wq_s ⟨(show 0 ≤ (1 : Int32).toInt ∧ (1 : Int32).toInt ≤ 1 from ⟨by omega, by omega⟩), trivial⟩
set_option maxHeartbeats 4000000 in
theorem tt_fX10_parentOf {N : Nat} (hN : 3000000000 ≤ N) (I0 : Nat → Int32) (M0 : Nat → Nat → Int32) (x1 : Int32) (h_x1 : 0 ≤ x1.toInt ∧ x1.toInt ≤ 5) (k_I0 : KX10 I0 M0) : wq (fX10_parentOf N I0 M0 x1) (fun r => (-3 ≤ r.toInt ∧ r.toInt ≤ 5) ∧ True) := by
  unfold fX10_parentOf
  refine wq_in (n := 6) ⟨by omega, by omega⟩ ?_
  have t_18298 := KX10.m2 k_I0 x1.toNatClampNeg
  exact wq_s ⟨(show -3 ≤ (M0 2 x1.toNatClampNeg).toInt ∧ (M0 2 x1.toNatClampNeg).toInt ≤ 5 from ⟨by omega, by omega⟩), trivial⟩
set_option maxHeartbeats 4000000 in
theorem tt_fX10_isSlip {N : Nat} (hN : 3000000000 ≤ N) (I0 : Nat → Int32) (M0 : Nat → Nat → Int32) (x1 : Int32) (x2 : Int32) (x3 : Int32) (x4 : Int32) (h_x1 : 0 ≤ x1.toInt ∧ x1.toInt ≤ 389) : wq (fX10_isSlip N I0 M0 x1 x2 x3 x4) (fun r => (0 ≤ r.toInt ∧ r.toInt ≤ 1) ∧ True) := by
  unfold fX10_isSlip
  have b_18437 := i32b x2
  refine wq_b (tt_fX4_misreading hN I0 M0 x1 x2 ⟨by omega, by omega⟩) (fun r1_q18438 h_r1_q18438 => ?_)
  obtain ⟨h_r1_q18438_0, -⟩ := h_r1_q18438
  have l_1 := il_1
  refine wq_eq (fun hc_18439 => ?_) (fun hc_18440 => ?_)
  · have l_30 := il_30
    have t_18441 := ia_rem x1 (30 : Int32) 30 il_30 (by decide) (by omega)
    have b_18442 := i32b x3
    refine wq_eq (fun hc_18443 => ?_) (fun hc_18444 => ?_)
    · have t_18445 := ia_rem2 x2 (30 : Int32) 30 il_30 (by decide)
      have b_18446 := i32b x4
      refine wq_eq (fun hc_18447 => ?_) (fun hc_18448 => ?_)
      · exact wq_s ⟨(show 0 ≤ (1 : Int32).toInt ∧ (1 : Int32).toInt ≤ 1 from ⟨by omega, by omega⟩), trivial⟩
      · have l_0 := il_0
        exact wq_s ⟨(show 0 ≤ (0 : Int32).toInt ∧ (0 : Int32).toInt ≤ 1 from ⟨by omega, by omega⟩), trivial⟩
    · have l_0 := il_0
      exact wq_s ⟨(show 0 ≤ (0 : Int32).toInt ∧ (0 : Int32).toInt ≤ 1 from ⟨by omega, by omega⟩), trivial⟩
  · have l_2 := il_2
    refine wq_eq (fun hc_18449 => ?_) (fun hc_18450 => ?_)
    · have l_30 := il_30
      have t_18451 := ia_div x1 (30 : Int32) 30 il_30 (by decide) (by omega)
      have b_18452 := i32b x3
      refine wq_eq (fun hc_18453 => ?_) (fun hc_18454 => ?_)
      · have t_18455 := i32b x2
        have t_18456 := ia_div2 x2 (30 : Int32) 30 il_30 (by decide)
        have b_18457 := i32b x4
        refine wq_eq (fun hc_18458 => ?_) (fun hc_18459 => ?_)
        · exact wq_s ⟨(show 0 ≤ (1 : Int32).toInt ∧ (1 : Int32).toInt ≤ 1 from ⟨by omega, by omega⟩), trivial⟩
        · have l_0 := il_0
          exact wq_s ⟨(show 0 ≤ (0 : Int32).toInt ∧ (0 : Int32).toInt ≤ 1 from ⟨by omega, by omega⟩), trivial⟩
      · have l_0 := il_0
        exact wq_s ⟨(show 0 ≤ (0 : Int32).toInt ∧ (0 : Int32).toInt ≤ 1 from ⟨by omega, by omega⟩), trivial⟩
    · have l_0 := il_0
      exact wq_s ⟨(show 0 ≤ (0 : Int32).toInt ∧ (0 : Int32).toInt ≤ 1 from ⟨by omega, by omega⟩), trivial⟩
set_option maxHeartbeats 4000000 in
theorem tt_fX10_slipsOf_L16 {N : Nat} (hN : 3000000000 ≤ N) (I0 : Nat → Int32) (M0 : Nat → Nat → Int32) (I1 : Nat → Int32) (M1 : Nat → Nat → Int32) (I2 : Nat → Int32) (M2 : Nat → Nat → Int32) (x3 : Int32) (x4 : Int32) (x5 : Int32) (y6_7 : Int32) (g6 : Int32 → Int32 → Option (Int32)) (h_x3 : 0 ≤ x3.toInt ∧ x3.toInt ≤ 5) (h_y6_7 : 0 ≤ y6_7.toInt ∧ y6_7.toInt ≤ 19) (k_I0 : KX10 I0 M0) (k_I2 : KX1 I2 M2) (hr_4 : 0 ≤ (M0 2 x3.toNatClampNeg).toInt) (hg6 : ∀ (q0 : Int32) (q1 : Int32), (0 ≤ q1.toInt ∧ q1.toInt ≤ 20) → (y6_7.toInt < q1.toInt) → wq (g6 q0 q1) (fun r => True)) : ∀ (fu : Nat) (y16_6 : Int32) (y16_8 : Int32), (0 ≤ y16_8.toInt ∧ y16_8.toInt ≤ 21) → (21 - y16_8.toInt) < (fu : Int) → wq (fX10_slipsOf_L16 N I0 M0 I1 M1 I2 M2 x3 x4 x5 y6_7 g6 fu y16_6 y16_8) (fun r => True) := by
  intro fu
  induction fu with
  | zero => intro y16_6 y16_8 h_y16_8 hm; exfalso; omega
  | succ fu ih =>
    intro y16_6 y16_8 h_y16_8 hm
    rw [fX10_slipsOf_L16.eq_2]
    have l_21 := il_21
    refine wq_le (fun hc_19229 => ?_) (fun hc_19230 => ?_)
    · have l_1 := il_1
      have t_19232 := ia_add y6_7 (1 : Int32) (by omega) (by omega)
      refine wq_v (fun v1_q19231 h_v1_q19231 => ?_)
      have t_v1_q19231 := congrArg Int32.toInt h_v1_q19231
      have b_19233 := i32b y16_6
      exact hg6 y16_6 v1_q19231 ⟨by omega, by omega⟩ (by omega)
    · have l_20 := il_20
      have t_19234 := ia_mul (20 : Int32) (20) il_20 x3 (by omega) (by omega)
      have t_19235 := ia_add ((20 : Int32) * x3) y6_7 (by omega) (by omega)
      refine wq_b (tt_fX1_degreeOf hN I2 M2 (((20 : Int32) * x3) + y6_7) y16_8 ⟨by omega, by omega⟩ ⟨by omega, by omega⟩ k_I2) (fun r2_q19236 h_r2_q19236 => ?_)
      obtain ⟨h_r2_q19236_0, h_r2_q19236_1, -⟩ := h_r2_q19236
      refine wq_in (n := 6) ⟨by omega, by omega⟩ ?_
      have t_19237 := KX10.m2 k_I0 x3.toNatClampNeg
      have t_19238 := ia_mul (20 : Int32) (20) il_20 (M0 2 x3.toNatClampNeg) (by omega) (by omega)
      have t_19239 := ia_add ((20 : Int32) * (M0 2 x3.toNatClampNeg)) y6_7 (by omega) (by omega)
      refine wq_b (tt_fX1_degreeOf hN I2 M2 (((20 : Int32) * (M0 2 x3.toNatClampNeg)) + y6_7) y16_8 ⟨by omega, by omega⟩ ⟨by omega, by omega⟩ k_I2) (fun r3_q19240 h_r3_q19240 => ?_)
      obtain ⟨h_r3_q19240_0, h_r3_q19240_1, -⟩ := h_r3_q19240
      have l_m1 := il_m1
      refine wq_eq (fun hc_19241 => ?_) (fun hc_19242 => ?_)
      · have l_1 := il_1
        have t_19244 := ia_add y16_8 (1 : Int32) (by omega) (by omega)
        refine wq_v (fun v4_q19243 h_v4_q19243 => ?_)
        have t_v4_q19243 := congrArg Int32.toInt h_v4_q19243
        have b_19245 := i32b y16_6
        exact ih y16_6 v4_q19243 ⟨by omega, by omega⟩ (by omega)
      · refine wq_eq (fun hc_19246 => ?_) (fun hc_19247 => ?_)
        · have l_1 := il_1
          have t_19249 := ia_add y16_8 (1 : Int32) (by omega) (by omega)
          refine wq_v (fun v5_q19248 h_v5_q19248 => ?_)
          have t_v5_q19248 := congrArg Int32.toInt h_v5_q19248
          have b_19250 := i32b y16_6
          exact ih y16_6 v5_q19248 ⟨by omega, by omega⟩ (by omega)
        · have b_19251 := i32b x4
          have b_19252 := i32b x5
          refine wq_b (tt_fX10_isSlip hN I1 M1 r2_q19236 r3_q19240 x4 x5 ⟨by omega, by omega⟩) (fun r6_q19253 h_r6_q19253 => ?_)
          obtain ⟨h_r6_q19253_0, -⟩ := h_r6_q19253
          have l_0 := il_0
          refine wq_eq (fun hc_19254 => ?_) (fun hc_19255 => ?_)
          · have l_1 := il_1
            have t_19257 := ia_add y16_8 (1 : Int32) (by omega) (by omega)
            refine wq_v (fun v7_q19256 h_v7_q19256 => ?_)
            have t_v7_q19256 := congrArg Int32.toInt h_v7_q19256
            have b_19258 := i32b y16_6
            exact ih y16_6 v7_q19256 ⟨by omega, by omega⟩ (by omega)
          · have b_19260 := i32b y16_6
            have l_1 := il_1
            refine wq_v (fun v8_q19259 h_v8_q19259 => ?_)
            have t_v8_q19259 := congrArg Int32.toInt h_v8_q19259
            have t_19262 := ia_add y16_8 (1 : Int32) (by omega) (by omega)
            refine wq_v (fun v9_q19261 h_v9_q19261 => ?_)
            have t_v9_q19261 := congrArg Int32.toInt h_v9_q19261
            have b_19263 := i32b v8_q19259
            exact ih v8_q19259 v9_q19261 ⟨by omega, by omega⟩ (by omega)
set_option maxHeartbeats 4000000 in
theorem tt_fX10_slipsOf_L6 {N : Nat} (hN : 3000000000 ≤ N) (I0 : Nat → Int32) (M0 : Nat → Nat → Int32) (I1 : Nat → Int32) (M1 : Nat → Nat → Int32) (I2 : Nat → Int32) (M2 : Nat → Nat → Int32) (x3 : Int32) (x4 : Int32) (x5 : Int32) (h_x3 : 0 ≤ x3.toInt ∧ x3.toInt ≤ 5) (k_I0 : KX10 I0 M0) (k_I2 : KX1 I2 M2) (hr_3 : 0 ≤ (M0 2 x3.toNatClampNeg).toInt)  : ∀ (fu : Nat) (y6_6 : Int32) (y6_7 : Int32), (0 ≤ y6_7.toInt ∧ y6_7.toInt ≤ 20) → (20 - y6_7.toInt) < (fu : Int) → wq (fX10_slipsOf_L6 N I0 M0 I1 M1 I2 M2 x3 x4 x5 fu y6_6 y6_7) (fun r => True) := by
  intro fu
  induction fu with
  | zero => intro y6_6 y6_7 h_y6_7 hm; exfalso; omega
  | succ fu ih =>
    intro y6_6 y6_7 h_y6_7 hm
    rw [fX10_slipsOf_L6.eq_2]
    have l_20 := il_20
    refine wq_le (fun hc_19264 => ?_) (fun hc_19265 => ?_)
    · have b_19266 := i32b y6_6
      exact wq_s trivial
    · have b_19267 := i32b x4
      have b_19268 := i32b x5
      have b_19269 := i32b y6_6
      have l_0 := il_0
      exact tt_fX10_slipsOf_L16 hN I0 M0 I1 M1 I2 M2 x3 x4 x5 y6_7 _ ⟨by omega, by omega⟩ ⟨by omega, by omega⟩ k_I0 k_I2 (by omega) (fun q0 q1 hq0 hq1 => ih q0 q1 hq0 (by omega)) N y6_6 (0 : Int32) ⟨by omega, by omega⟩ (by omega)
set_option maxHeartbeats 4000000 in
theorem tt_fX10_slipsOf {N : Nat} (hN : 3000000000 ≤ N) (I0 : Nat → Int32) (M0 : Nat → Nat → Int32) (I1 : Nat → Int32) (M1 : Nat → Nat → Int32) (I2 : Nat → Int32) (M2 : Nat → Nat → Int32) (x3 : Int32) (x4 : Int32) (x5 : Int32) (h_x3 : 0 ≤ x3.toInt ∧ x3.toInt ≤ 5) (k_I0 : KX10 I0 M0) (k_I2 : KX1 I2 M2) (hr_3 : 0 ≤ (M0 2 x3.toNatClampNeg).toInt) : wq (fX10_slipsOf N I0 M0 I1 M1 I2 M2 x3 x4 x5) (fun r => True) := by
  unfold fX10_slipsOf
  have b_19270 := i32b x4
  have b_19271 := i32b x5
  have l_0 := il_0
  exact tt_fX10_slipsOf_L6 hN I0 M0 I1 M1 I2 M2 x3 x4 x5 ⟨by omega, by omega⟩ k_I0 k_I2 (by omega) N (0 : Int32) (0 : Int32) ⟨by omega, by omega⟩ (by omega)
set_option maxHeartbeats 4000000 in
theorem tt_fX10_howManySlips_L6 {N : Nat} (hN : 3000000000 ≤ N) (I0 : Nat → Int32) (M0 : Nat → Nat → Int32) (I1 : Nat → Int32) (M1 : Nat → Nat → Int32) (I2 : Nat → Int32) (M2 : Nat → Nat → Int32) (x3 : Int32) (x4 : Int32) (k_I0 : KX10 I0 M0) (k_I2 : KX1 I2 M2)  : ∀ (fu : Nat) (y6_5 : Int32) (y6_6 : Int32), (0 ≤ y6_6.toInt ∧ y6_6.toInt ≤ 6) → (6 - y6_6.toInt) < (fu : Int) → wq (fX10_howManySlips_L6 N I0 M0 I1 M1 I2 M2 x3 x4 fu y6_5 y6_6) (fun r => True) := by
  intro fu
  induction fu with
  | zero => intro y6_5 y6_6 h_y6_6 hm; exfalso; omega
  | succ fu ih =>
    intro y6_5 y6_6 h_y6_6 hm
    rw [fX10_howManySlips_L6.eq_2]
    have l_6 := il_6
    refine wq_le (fun hc_19486 => ?_) (fun hc_19487 => ?_)
    · have b_19488 := i32b y6_5
      exact wq_s trivial
    · refine wq_in (n := 6) ⟨by omega, by omega⟩ ?_
      have t_19489 := KX10.m2 k_I0 y6_6.toNatClampNeg
      have l_0 := il_0
      refine wq_lt (fun hc_19490 => ?_) (fun hc_19491 => ?_)
      · have l_1 := il_1
        have t_19493 := ia_add y6_6 (1 : Int32) (by omega) (by omega)
        refine wq_v (fun v1_q19492 h_v1_q19492 => ?_)
        have t_v1_q19492 := congrArg Int32.toInt h_v1_q19492
        have b_19494 := i32b y6_5
        exact ih y6_5 v1_q19492 ⟨by omega, by omega⟩ (by omega)
      · have b_19495 := i32b x3
        have b_19496 := i32b x4
        refine wq_b (tt_fX10_slipsOf hN I0 M0 I1 M1 I2 M2 y6_6 x3 x4 ⟨by omega, by omega⟩ k_I0 k_I2 (by omega)) (fun r2_q19497 h_r2_q19497 => ?_)
        obtain ⟨-⟩ := h_r2_q19497
        have b_19499 := i32b y6_5
        have b_19500 := i32b r2_q19497
        refine wq_v (fun v3_q19498 h_v3_q19498 => ?_)
        have t_v3_q19498 := congrArg Int32.toInt h_v3_q19498
        have l_1 := il_1
        have t_19502 := ia_add y6_6 (1 : Int32) (by omega) (by omega)
        refine wq_v (fun v4_q19501 h_v4_q19501 => ?_)
        have t_v4_q19501 := congrArg Int32.toInt h_v4_q19501
        have b_19503 := i32b v3_q19498
        exact ih v3_q19498 v4_q19501 ⟨by omega, by omega⟩ (by omega)
set_option maxHeartbeats 4000000 in
theorem tt_fX10_howManySlips {N : Nat} (hN : 3000000000 ≤ N) (I0 : Nat → Int32) (M0 : Nat → Nat → Int32) (I1 : Nat → Int32) (M1 : Nat → Nat → Int32) (I2 : Nat → Int32) (M2 : Nat → Nat → Int32) (x3 : Int32) (x4 : Int32) (k_I0 : KX10 I0 M0) (k_I2 : KX1 I2 M2) : wq (fX10_howManySlips N I0 M0 I1 M1 I2 M2 x3 x4) (fun r => True) := by
  unfold fX10_howManySlips
  have b_19504 := i32b x3
  have b_19505 := i32b x4
  have l_0 := il_0
  exact tt_fX10_howManySlips_L6 hN I0 M0 I1 M1 I2 M2 x3 x4 k_I0 k_I2 N (0 : Int32) (0 : Int32) ⟨by omega, by omega⟩ (by omega)
set_option maxHeartbeats 4000000 in
theorem tt_fX11_feed {N : Nat} (hN : 3000000000 ≤ N) (I0 : Nat → Int32) (M0 : Nat → Nat → Int32) (x1 : Int32) (x2 : Int32) (x3 : Int32) (x4 : Int32) (x5 : Int32) (k_I0 : KX11 I0 M0) : wq (fX11_feed N I0 M0 x1 x2 x3 x4 x5) (fun r => (-1 ≤ r.1.toInt ∧ r.1.toInt ≤ 600) ∧ KX11 r.2.1 r.2.2 ∧ True) := by
  unfold fX11_feed
  refine wq_b (tt_fX9_hasRoom hN I0 M0 (KX11.s_X9_0_0 k_I0)) (fun r1_q19650 h_r1_q19650 => ?_)
  obtain ⟨h_r1_q19650_0, -⟩ := h_r1_q19650
  have l_0 := il_0
  refine wq_eq (fun hc_19651 => ?_) (fun hc_19652 => ?_)
  · have l_m1 := il_m1
    exact wq_s ⟨(show -1 ≤ (-1 : Int32).toInt ∧ (-1 : Int32).toInt ≤ 600 from ⟨by omega, by omega⟩), k_I0, trivial⟩
  · have b_19653 := i32b x1
    refine wq_b (tt_fX9_put hN I0 M0 x1 (KX11.s_X9_0_0 k_I0)) (fun r2_q19654 h_r2_q19654 => ?_)
    obtain ⟨h_r2_q19654_0, -⟩ := h_r2_q19654
    refine wq_v (fun I0_3_q19655 h_I0_3_q19655 => ?_)
    refine wq_v (fun M0_4_q19656 h_M0_4_q19656 => ?_)
    have k_M0_4_q19656 : KX11 I0_3_q19655 M0_4_q19656 := by rw [h_I0_3_q19655, h_M0_4_q19656]; exact (KX11.p_X9_0_0 k_I0 h_r2_q19654_0)
    have b_19657 := i32b x2
    refine wq_b (tt_fX9_put hN I0_3_q19655 M0_4_q19656 x2 (KX11.s_X9_0_0 k_M0_4_q19656)) (fun r5_q19658 h_r5_q19658 => ?_)
    obtain ⟨h_r5_q19658_0, -⟩ := h_r5_q19658
    refine wq_v (fun I0_6_q19659 h_I0_6_q19659 => ?_)
    refine wq_v (fun M0_7_q19660 h_M0_7_q19660 => ?_)
    have k_M0_7_q19660 : KX11 I0_6_q19659 M0_7_q19660 := by rw [h_I0_6_q19659, h_M0_7_q19660]; exact (KX11.p_X9_0_0 k_M0_4_q19656 h_r5_q19658_0)
    have b_19661 := i32b x3
    refine wq_b (tt_fX9_put hN I0_6_q19659 M0_7_q19660 x3 (KX11.s_X9_0_0 k_M0_7_q19660)) (fun r8_q19662 h_r8_q19662 => ?_)
    obtain ⟨h_r8_q19662_0, -⟩ := h_r8_q19662
    refine wq_v (fun I0_9_q19663 h_I0_9_q19663 => ?_)
    refine wq_v (fun M0_10_q19664 h_M0_10_q19664 => ?_)
    have k_M0_10_q19664 : KX11 I0_9_q19663 M0_10_q19664 := by rw [h_I0_9_q19663, h_M0_10_q19664]; exact (KX11.p_X9_0_0 k_M0_7_q19660 h_r8_q19662_0)
    have b_19665 := i32b x4
    refine wq_b (tt_fX9_put hN I0_9_q19663 M0_10_q19664 x4 (KX11.s_X9_0_0 k_M0_10_q19664)) (fun r11_q19666 h_r11_q19666 => ?_)
    obtain ⟨h_r11_q19666_0, -⟩ := h_r11_q19666
    refine wq_v (fun I0_12_q19667 h_I0_12_q19667 => ?_)
    refine wq_v (fun M0_13_q19668 h_M0_13_q19668 => ?_)
    have k_M0_13_q19668 : KX11 I0_12_q19667 M0_13_q19668 := by rw [h_I0_12_q19667, h_M0_13_q19668]; exact (KX11.p_X9_0_0 k_M0_10_q19664 h_r11_q19666_0)
    have b_19669 := i32b x5
    refine wq_b (tt_fX9_put hN I0_12_q19667 M0_13_q19668 x5 (KX11.s_X9_0_0 k_M0_13_q19668)) (fun r14_q19670 h_r14_q19670 => ?_)
    obtain ⟨h_r14_q19670_0, -⟩ := h_r14_q19670
    refine wq_v (fun I0_15_q19671 h_I0_15_q19671 => ?_)
    refine wq_v (fun M0_16_q19672 h_M0_16_q19672 => ?_)
    have k_M0_16_q19672 : KX11 I0_15_q19671 M0_16_q19672 := by rw [h_I0_15_q19671, h_M0_16_q19672]; exact (KX11.p_X9_0_0 k_M0_13_q19668 h_r14_q19670_0)
    have t_19673 := KX11.i0 k_M0_16_q19672
    exact wq_s ⟨(show -1 ≤ (I0_15_q19671 0).toInt ∧ (I0_15_q19671 0).toInt ≤ 600 from ⟨by omega, by omega⟩), k_M0_16_q19672, trivial⟩
set_option maxHeartbeats 4000000 in
theorem tt_fX11_within {N : Nat} (hN : 3000000000 ≤ N) (x0 : Int32) (x1 : Int32) (x2 : Int32)  : wq (fX11_within N x0 x1 x2) (fun r => (r.toInt = 0 ∨ (r.toInt = 1 ∧ x1.toInt ≤ x0.toInt ∧ x0.toInt ≤ x2.toInt)) ∧ (0 ≤ r.toInt ∧ r.toInt ≤ 1) ∧ True) := by
  unfold fX11_within
  have b_19716 := i32b x0
  have b_19717 := i32b x1
  refine wq_lt (fun hc_19718 => ?_) (fun hc_19719 => ?_)
  · have b_19720 := i32b x2
    have l_0 := il_0
    exact wq_s ⟨(show ((0 : Int32).toInt = 0 ∨ ((0 : Int32).toInt = 1 ∧ x1.toInt ≤ x0.toInt ∧ x0.toInt ≤ x2.toInt)) from by omega), (show 0 ≤ (0 : Int32).toInt ∧ (0 : Int32).toInt ≤ 1 from ⟨by omega, by omega⟩), trivial⟩
  · have b_19721 := i32b x2
    refine wq_lt (fun hc_19722 => ?_) (fun hc_19723 => ?_)
    · have l_0 := il_0
      exact wq_s ⟨(show ((0 : Int32).toInt = 0 ∨ ((0 : Int32).toInt = 1 ∧ x1.toInt ≤ x0.toInt ∧ x0.toInt ≤ x2.toInt)) from by omega), (show 0 ≤ (0 : Int32).toInt ∧ (0 : Int32).toInt ≤ 1 from ⟨by omega, by omega⟩), trivial⟩
    · have l_1 := il_1
      exact wq_s ⟨(show ((1 : Int32).toInt = 0 ∨ ((1 : Int32).toInt = 1 ∧ x1.toInt ≤ x0.toInt ∧ x0.toInt ≤ x2.toInt)) from by omega), (show 0 ≤ (1 : Int32).toInt ∧ (1 : Int32).toInt ≤ 1 from ⟨by omega, by omega⟩), trivial⟩
theorem tt_fX11_allow {N : Nat} (hN : 3000000000 ≤ N) (x0 : Int32)  : wq (fX11_allow N x0) (qS 2 (fun r => x0.toInt ≠ 0 ∧ True)) := by
  unfold fX11_allow
  have l_0 := il_0
  refine wq_eq (fun hc => ?_) (fun hc => ?_)
  · exact wq_s (show qE 2 2 from by unfold qE; omega)
  · exact wq_ok (wq_s ⟨by omega, trivial⟩)
set_option maxHeartbeats 4000000 in
theorem tt_fX11_house {N : Nat} (hN : 3000000000 ≤ N) (I0 : Nat → Int32) (M0 : Nat → Nat → Int32) (x1 : Int32) (k_I0 : KX11 I0 M0) : wq (fX11_house N I0 M0 x1) (qS 2 (fun r => KX11 r.2.1 r.2.2 ∧ True)) := by
  unfold fX11_house
  have b_19832 := i32b x1
  have l_0 := il_0
  have t_19833 := KX11.i0 k_I0
  refine wq_b (tt_fX11_within hN x1 (0 : Int32) (I0 0)) (fun r1_q19834 h_r1_q19834 => ?_)
  obtain ⟨h_r1_q19834_0, h_r1_q19834_1, -⟩ := h_r1_q19834
  refine wq_xb (tt_fX11_allow hN r1_q19834) (by decide) (fun r2_q19835 h_r2_q19835 => ?_)
  obtain ⟨h_r2_q19835_0, -⟩ := h_r2_q19835
  refine wq_ok ?_
  refine wq_b (tt_fX9_begin hN I0 M0 x1 ⟨by omega, by omega⟩ (KX11.s_X9_0_0 k_I0)) (fun r3_q19836 h_r3_q19836 => ?_)
  obtain ⟨h_r3_q19836_0, -⟩ := h_r3_q19836
  refine wq_v (fun I0_4_q19837 h_I0_4_q19837 => ?_)
  refine wq_v (fun M0_5_q19838 h_M0_5_q19838 => ?_)
  have k_M0_5_q19838 : KX11 I0_4_q19837 M0_5_q19838 := by rw [h_I0_4_q19837, h_M0_5_q19838]; exact (KX11.p_X9_0_0 k_I0 h_r3_q19836_0)
  refine wq_b (tt_fX5_copyFrom hN (wb_sh I0_4_q19837 11) (wb_sh M0_5_q19838 7) (wb_sh I0_4_q19837 9) (wb_sh M0_5_q19838 1) (KX11.s_X5_11_7 k_M0_5_q19838) (KX11.s_X5_9_1 k_M0_5_q19838)) (fun r6_q19839 h_r6_q19839 => ?_)
  obtain ⟨h_r6_q19839_0, -⟩ := h_r6_q19839
  refine wq_v (fun I0_7_q19840 h_I0_7_q19840 => ?_)
  refine wq_v (fun M0_8_q19841 h_M0_8_q19841 => ?_)
  have k_M0_8_q19841 : KX11 I0_7_q19840 M0_8_q19841 := by rw [h_I0_7_q19840, h_M0_8_q19841]; exact (KX11.p_X5_11_7 k_M0_5_q19838 h_r6_q19839_0)
  refine wq_b (tt_fX5_readLines hN (wb_sh I0_7_q19840 11) (wb_sh M0_8_q19841 7) I0_7_q19840 M0_8_q19841 (KX11.s_X5_11_7 k_M0_8_q19841) (KX11.s_X9_0_0 k_M0_8_q19841)) (fun r9b_q19842 h_r9b_q19842 => ?_)
  obtain ⟨h_r9b_q19842_0, h_r9b_q19842_1, h_r9b_q19842_2, -⟩ := h_r9b_q19842
  refine wq_v (fun I0_10_q19843 h_I0_10_q19843 => ?_)
  refine wq_v (fun M0_11_q19844 h_M0_11_q19844 => ?_)
  have k_M0_11_q19844 : KX11 I0_10_q19843 M0_11_q19844 := by rw [h_I0_10_q19843, h_M0_11_q19844]; exact (KX11.p_X9_0_0 (KX11.p_X5_11_7 k_M0_8_q19841 h_r9b_q19842_1) h_r9b_q19842_2)
  refine wq_eq (fun hc_19845 => ?_) (fun hc_19846 => ?_)
  · exact wq_s ⟨k_M0_11_q19844, trivial⟩
  · refine wq_b (tt_fX5_copyFrom hN (wb_sh I0_10_q19843 9) (wb_sh M0_11_q19844 1) (wb_sh I0_10_q19843 11) (wb_sh M0_11_q19844 7) (KX11.s_X5_9_1 k_M0_11_q19844) (KX11.s_X5_11_7 k_M0_11_q19844)) (fun r12_q19847 h_r12_q19847 => ?_)
    obtain ⟨h_r12_q19847_0, -⟩ := h_r12_q19847
    refine wq_v (fun I0_13_q19848 h_I0_13_q19848 => ?_)
    refine wq_v (fun M0_14_q19849 h_M0_14_q19849 => ?_)
    have k_M0_14_q19849 : KX11 I0_13_q19848 M0_14_q19849 := by rw [h_I0_13_q19848, h_M0_14_q19849]; exact (KX11.p_X5_9_1 k_M0_11_q19844 h_r12_q19847_0)
    exact wq_s ⟨k_M0_14_q19849, trivial⟩
theorem tt_fX11_need0 (N : Nat) : wq (fX11_need N (0 : Int32)) (qS 1 (fun _ => False)) := ⟨.inl 1, rfl, Or.inl ⟨rfl, by decide⟩⟩
theorem tt_fX11_need {N : Nat} (hN : 3000000000 ≤ N) (x0 : Int32)  : wq (fX11_need N x0) (qS 1 (fun r => x0.toInt ≠ 0 ∧ True)) := by
  unfold fX11_need
  have l_0 := il_0
  refine wq_eq (fun hc => ?_) (fun hc => ?_)
  · exact wq_s (show qE 1 1 from by unfold qE; omega)
  · exact wq_ok (wq_s ⟨by omega, trivial⟩)
set_option maxHeartbeats 4000000 in
theorem tt_fX11_isBook {N : Nat} (hN : 3000000000 ≤ N) (x0 : Int32)  : wq (fX11_isBook N x0) (fun r => (r.toInt = 0 ∨ (r.toInt = 1 ∧ 0 ≤ x0.toInt ∧ x0.toInt ≤ 5)) ∧ (0 ≤ r.toInt ∧ r.toInt ≤ 1) ∧ True) := by
  unfold fX11_isBook
  have b_19862 := i32b x0
  have l_0 := il_0
  have l_5 := il_5
  refine wq_b (tt_fX11_within hN x0 (0 : Int32) (5 : Int32)) (fun r1_q19863 h_r1_q19863 => ?_)
  obtain ⟨h_r1_q19863_0, h_r1_q19863_1, -⟩ := h_r1_q19863
  refine wq_bz (by omega) ?_
  exact wq_s ⟨(show (r1_q19863.toInt = 0 ∨ (r1_q19863.toInt = 1 ∧ 0 ≤ x0.toInt ∧ x0.toInt ≤ 5)) from by omega), (show 0 ≤ r1_q19863.toInt ∧ r1_q19863.toInt ≤ 1 from ⟨by omega, by omega⟩), trivial⟩
set_option maxHeartbeats 4000000 in
theorem tt_fX11_numberOf {N : Nat} (hN : 3000000000 ≤ N) (x0 : Int32) (x1 : Int32)  : wq (fX11_numberOf N x0 x1) (qS 1 (fun r => (r.toInt = 20 * x0.toInt + x1.toInt ∧ 0 ≤ x0.toInt ∧ x0.toInt ≤ 5 ∧ 0 ≤ x1.toInt ∧ x1.toInt ≤ 19) ∧ (0 ≤ r.toInt ∧ r.toInt ≤ 119) ∧ True)) := by
  unfold fX11_numberOf
  have b_19942 := i32b x0
  refine wq_b (tt_fX11_isBook hN x0) (fun r2_q19943 h_r2_q19943 => ?_)
  obtain ⟨h_r2_q19943_0, h_r2_q19943_1, -⟩ := h_r2_q19943
  have l_0 := il_0
  refine wq_eq (fun hc_19944 => ?_) (fun hc_19945 => ?_)
  · unfold fX11_numberOf_J21
    exact wq_xb (tt_fX11_need0 N) (by decide) (fun _ h => absurd h id)
  · have b_19947 := i32b x1
    have l_19 := il_19
    refine wq_b (tt_fX11_within hN x1 (0 : Int32) (19 : Int32)) (fun r3_q19948 h_r3_q19948 => ?_)
    obtain ⟨h_r3_q19948_0, h_r3_q19948_1, -⟩ := h_r3_q19948
    refine wq_eq (fun hc_19949 => ?_) (fun hc_19950 => ?_)
    · unfold fX11_numberOf_J21
      exact wq_xb (tt_fX11_need0 N) (by decide) (fun _ h => absurd h id)
    · have l_1 := il_1
      refine wq_xb (tt_fX11_need hN (1 : Int32)) (by decide) (fun r4_q19952 h_r4_q19952 => ?_)
      obtain ⟨h_r4_q19952_0, -⟩ := h_r4_q19952
      refine wq_ok ?_
      have l_20 := il_20
      have t_19953 := ia_mul (20 : Int32) (20) il_20 x0 (by omega) (by omega)
      have t_19954 := ia_add ((20 : Int32) * x0) x1 (by omega) (by omega)
      exact wq_s ⟨(show ((((20 : Int32) * x0) + x1).toInt = 20 * x0.toInt + x1.toInt ∧ 0 ≤ x0.toInt ∧ x0.toInt ≤ 5 ∧ 0 ≤ x1.toInt ∧ x1.toInt ≤ 19) from by omega), (show 0 ≤ (((20 : Int32) * x0) + x1).toInt ∧ (((20 : Int32) * x0) + x1).toInt ≤ 119 from ⟨by omega, by omega⟩), trivial⟩
set_option maxHeartbeats 4000000 in
theorem tt_fX11_wheel {N : Nat} (hN : 3000000000 ≤ N) (I0 : Nat → Int32) (M0 : Nat → Nat → Int32) (x1 : Int32) (x2 : Int32) (x3 : Int32) (k_I0 : KX11 I0 M0) : wq (fX11_wheel N I0 M0 x1 x2 x3) (qS 3 (fun r => KX11 r.2.1 r.2.2 ∧ True)) := by
  unfold fX11_wheel
  have b_20064 := i32b x1
  have b_20065 := i32b x2
  refine wq_xb (tt_fX11_numberOf hN x1 x2) (by decide) (fun r1_q20063 h_r1_q20063 => ?_)
  obtain ⟨h_r1_q20063_0, h_r1_q20063_1, -⟩ := h_r1_q20063
  have b_20066 := i32b x3
  have l_0 := il_0
  have t_20067 := KX11.i0 k_I0
  refine wq_b (tt_fX11_within hN x3 (0 : Int32) (I0 0)) (fun r2_q20068 h_r2_q20068 => ?_)
  obtain ⟨h_r2_q20068_0, h_r2_q20068_1, -⟩ := h_r2_q20068
  refine wq_xb (tt_fX11_allow hN r2_q20068) (by decide) (fun r3_q20069 h_r3_q20069 => ?_)
  obtain ⟨h_r3_q20069_0, -⟩ := h_r3_q20069
  refine wq_ok ?_
  refine wq_b (tt_fX9_begin hN I0 M0 x3 ⟨by omega, by omega⟩ (KX11.s_X9_0_0 k_I0)) (fun r4_q20070 h_r4_q20070 => ?_)
  obtain ⟨h_r4_q20070_0, -⟩ := h_r4_q20070
  refine wq_v (fun I0_5_q20071 h_I0_5_q20071 => ?_)
  refine wq_v (fun M0_6_q20072 h_M0_6_q20072 => ?_)
  have k_M0_6_q20072 : KX11 I0_5_q20071 M0_6_q20072 := by rw [h_I0_5_q20071, h_M0_6_q20072]; exact (KX11.p_X9_0_0 k_I0 h_r4_q20070_0)
  refine wq_b (tt_fX1_readEntries hN (wb_sh I0_5_q20071 13) (wb_sh M0_6_q20072 13) I0_5_q20071 M0_6_q20072 (KX11.s_X1_13_13 k_M0_6_q20072) (KX11.s_X9_0_0 k_M0_6_q20072)) (fun r7_q20073 h_r7_q20073 => ?_)
  obtain ⟨h_r7_q20073_0, h_r7_q20073_1, h_r7_q20073_2, -⟩ := h_r7_q20073
  refine wq_v (fun I0_8_q20074 h_I0_8_q20074 => ?_)
  refine wq_v (fun M0_9_q20075 h_M0_9_q20075 => ?_)
  have k_M0_9_q20075 : KX11 I0_8_q20074 M0_9_q20075 := by rw [h_I0_8_q20074, h_M0_9_q20075]; exact (KX11.p_X9_0_0 (KX11.p_X1_13_13 k_M0_6_q20072 h_r7_q20073_1) h_r7_q20073_2)
  refine wq_eq (fun hc_20076 => ?_) (fun hc_20077 => ?_)
  · exact wq_s ⟨k_M0_9_q20075, trivial⟩
  · refine wq_b (tt_fX1_keepDraft hN (wb_sh I0_8_q20074 13) (wb_sh M0_9_q20075 13) r1_q20063 ⟨by omega, by omega⟩ (KX11.s_X1_13_13 k_M0_9_q20075)) (fun r10_q20078 h_r10_q20078 => ?_)
    obtain ⟨h_r10_q20078_0, -⟩ := h_r10_q20078
    refine wq_v (fun I0_11_q20079 h_I0_11_q20079 => ?_)
    refine wq_v (fun M0_12_q20080 h_M0_12_q20080 => ?_)
    have k_M0_12_q20080 : KX11 I0_11_q20079 M0_12_q20080 := by rw [h_I0_11_q20079, h_M0_12_q20080]; exact (KX11.p_X1_13_13 k_M0_9_q20075 h_r10_q20078_0)
    exact wq_s ⟨k_M0_12_q20080, trivial⟩
set_option maxHeartbeats 4000000 in
theorem tt_fX11_fault {N : Nat} (hN : 3000000000 ≤ N) (I0 : Nat → Int32) (M0 : Nat → Nat → Int32) (k_I0 : KX11 I0 M0) : wq (fX11_fault N I0 M0) (fun r => True) := by
  unfold fX11_fault
  exact wq_s trivial
set_option maxHeartbeats 4000000 in
theorem tt_fX11_count {N : Nat} (hN : 3000000000 ≤ N) (I0 : Nat → Int32) (M0 : Nat → Nat → Int32) (x1 : Int32) (k_I0 : KX11 I0 M0) : wq (fX11_count N I0 M0 x1) (qS 1 (fun r => KX11 r.2.1 r.2.2 ∧ True)) := by
  unfold fX11_count
  have b_20219 := i32b x1
  have l_0 := il_0
  refine wq_eq (fun hc_20220 => ?_) (fun hc_20221 => ?_)
  · refine wq_ok ?_
    have t_20222 := KX11.i9 k_I0
    exact wq_s ⟨k_I0, trivial⟩
  · have l_1 := il_1
    refine wq_eq (fun hc_20223 => ?_) (fun hc_20224 => ?_)
    · refine wq_ok ?_
      exact wq_s ⟨k_I0, trivial⟩
    · have l_2 := il_2
      refine wq_eq (fun hc_20225 => ?_) (fun hc_20226 => ?_)
      · refine wq_ok ?_
        refine wq_b (tt_fX1_howManyTell hN (wb_sh I0 13) (wb_sh M0 13) (KX11.s_X1_13_13 k_I0)) (fun r1_q20227 h_r1_q20227 => ?_)
        obtain ⟨-⟩ := h_r1_q20227
        have b_20228 := i32b r1_q20227
        exact wq_s ⟨k_I0, trivial⟩
      · have l_3 := il_3
        refine wq_eq (fun hc_20229 => ?_) (fun hc_20230 => ?_)
        · refine wq_ok ?_
          refine wq_b (tt_fX7_howManyLives hN (wb_sh I0 43) (wb_sh M0 28) (KX11.s_X7_43_28 k_I0)) (fun r2_q20231 h_r2_q20231 => ?_)
          obtain ⟨h_r2_q20231_0, h_r2_q20231_1, -⟩ := h_r2_q20231
          refine wq_v (fun I0_3_q20232 h_I0_3_q20232 => ?_)
          refine wq_v (fun M0_4_q20233 h_M0_4_q20233 => ?_)
          have k_M0_4_q20233 : KX11 I0_3_q20232 M0_4_q20233 := by rw [h_I0_3_q20232, h_M0_4_q20233]; exact (KX11.p_X7_43_28 k_I0 h_r2_q20231_1)
          exact wq_s ⟨k_M0_4_q20233, trivial⟩
        · have l_4 := il_4
          refine wq_eq (fun hc_20234 => ?_) (fun hc_20235 => ?_)
          · refine wq_ok ?_
            have t_20236 := KX11.i0 k_I0
            exact wq_s ⟨k_I0, trivial⟩
          · have l_5 := il_5
            refine wq_eq (fun hc_20237 => ?_) (fun hc_20238 => ?_)
            · refine wq_ok ?_
              refine wq_b (tt_fX7_howManyFates hN (wb_sh I0 43) (wb_sh M0 28) (KX11.s_X7_43_28 k_I0)) (fun r5_q20239 h_r5_q20239 => ?_)
              obtain ⟨h_r5_q20239_0, h_r5_q20239_1, -⟩ := h_r5_q20239
              refine wq_v (fun I0_6_q20240 h_I0_6_q20240 => ?_)
              refine wq_v (fun M0_7_q20241 h_M0_7_q20241 => ?_)
              have k_M0_7_q20241 : KX11 I0_6_q20240 M0_7_q20241 := by rw [h_I0_6_q20240, h_M0_7_q20241]; exact (KX11.p_X7_43_28 k_I0 h_r5_q20239_1)
              exact wq_s ⟨k_M0_7_q20241, trivial⟩
            · exact wq_s (show qE 1 1 from by unfold qE; omega)
set_option maxHeartbeats 4000000 in
theorem tt_fX11_isDay {N : Nat} (hN : 3000000000 ≤ N) (x0 : Int32)  : wq (fX11_isDay N x0) (fun r => (r.toInt = 0 ∨ (r.toInt = 1 ∧ 0 ≤ x0.toInt ∧ x0.toInt ≤ 1000000)) ∧ (0 ≤ r.toInt ∧ r.toInt ≤ 1) ∧ True) := by
  unfold fX11_isDay
  have b_20254 := i32b x0
  have l_0 := il_0
  have l_1000000 := il_1000000
  refine wq_b (tt_fX11_within hN x0 (0 : Int32) (1000000 : Int32)) (fun r1_q20255 h_r1_q20255 => ?_)
  obtain ⟨h_r1_q20255_0, h_r1_q20255_1, -⟩ := h_r1_q20255
  refine wq_bz (by omega) ?_
  exact wq_s ⟨(show (r1_q20255.toInt = 0 ∨ (r1_q20255.toInt = 1 ∧ 0 ≤ x0.toInt ∧ x0.toInt ≤ 1000000)) from by omega), (show 0 ≤ r1_q20255.toInt ∧ r1_q20255.toInt ≤ 1 from ⟨by omega, by omega⟩), trivial⟩
set_option maxHeartbeats 4000000 in
theorem tt_fX11_place {N : Nat} (hN : 3000000000 ≤ N) (I0 : Nat → Int32) (M0 : Nat → Nat → Int32) (x1 : Int32) (x2 : Int32) (x3 : Int32) (k_I0 : KX11 I0 M0) : wq (fX11_place N I0 M0 x1 x2 x3) (qS 1 (fun r => True)) := by
  unfold fX11_place
  have b_20364 := i32b x1
  have l_0 := il_0
  have l_3 := il_3
  refine wq_b (tt_fX11_within hN x1 (0 : Int32) (3 : Int32)) (fun r3_q20365 h_r3_q20365 => ?_)
  obtain ⟨h_r3_q20365_0, h_r3_q20365_1, -⟩ := h_r3_q20365
  refine wq_eq (fun hc_20366 => ?_) (fun hc_20367 => ?_)
  · unfold fX11_place_J30
    unfold fX11_place_J31
    exact wq_xb (tt_fX11_need0 N) (by decide) (fun _ h => absurd h id)
  · have b_20369 := i32b x2
    have l_6 := il_6
    refine wq_b (tt_fX11_within hN x2 (0 : Int32) (6 : Int32)) (fun r4_q20370 h_r4_q20370 => ?_)
    obtain ⟨h_r4_q20370_0, h_r4_q20370_1, -⟩ := h_r4_q20370
    refine wq_eq (fun hc_20371 => ?_) (fun hc_20372 => ?_)
    · unfold fX11_place_J30
      unfold fX11_place_J31
      exact wq_xb (tt_fX11_need0 N) (by decide) (fun _ h => absurd h id)
    · have b_20374 := i32b x3
      refine wq_b (tt_fX11_isDay hN x3) (fun r5_q20375 h_r5_q20375 => ?_)
      obtain ⟨h_r5_q20375_0, h_r5_q20375_1, -⟩ := h_r5_q20375
      refine wq_eq (fun hc_20376 => ?_) (fun hc_20377 => ?_)
      · unfold fX11_place_J30
        unfold fX11_place_J31
        exact wq_xb (tt_fX11_need0 N) (by decide) (fun _ h => absurd h id)
      · unfold fX11_place_J31
        have l_1 := il_1
        refine wq_xb (tt_fX11_need hN (1 : Int32)) (by decide) (fun r1_q20379 h_r1_q20379 => ?_)
        obtain ⟨h_r1_q20379_0, -⟩ := h_r1_q20379
        refine wq_ok ?_
        refine wq_b (tt_fX5_placeOn hN (wb_sh I0 9) (wb_sh M0 1) x1 x2 x3 ⟨by omega, by omega⟩ ⟨by omega, by omega⟩ (KX11.s_X5_9_1 k_I0)) (fun r2_q20380 h_r2_q20380 => ?_)
        obtain ⟨-⟩ := h_r2_q20380
        have b_20381 := i32b r2_q20380
        exact wq_s trivial
set_option maxHeartbeats 4000000 in
theorem tt_fX11_entry {N : Nat} (hN : 3000000000 ≤ N) (I0 : Nat → Int32) (M0 : Nat → Nat → Int32) (x1 : Int32) (x2 : Int32) (x3 : Int32) (k_I0 : KX11 I0 M0) : wq (fX11_entry N I0 M0 x1 x2 x3) (qS 1 (fun r => (-1 ≤ r.toInt ∧ r.toInt ≤ 389) ∧ True)) := by
  unfold fX11_entry
  have b_20425 := i32b x1
  have b_20426 := i32b x2
  refine wq_xb (tt_fX11_numberOf hN x1 x2) (by decide) (fun r1_q20424 h_r1_q20424 => ?_)
  obtain ⟨h_r1_q20424_0, h_r1_q20424_1, -⟩ := h_r1_q20424
  have b_20427 := i32b x3
  have l_0 := il_0
  have l_21 := il_21
  refine wq_b (tt_fX11_within hN x3 (0 : Int32) (21 : Int32)) (fun r2_q20428 h_r2_q20428 => ?_)
  obtain ⟨h_r2_q20428_0, h_r2_q20428_1, -⟩ := h_r2_q20428
  refine wq_xb (tt_fX11_need hN r2_q20428) (by decide) (fun r3_q20429 h_r3_q20429 => ?_)
  obtain ⟨h_r3_q20429_0, -⟩ := h_r3_q20429
  refine wq_ok ?_
  refine wq_b (tt_fX1_degreeOf hN (wb_sh I0 13) (wb_sh M0 13) r1_q20424 x3 ⟨by omega, by omega⟩ ⟨by omega, by omega⟩ (KX11.s_X1_13_13 k_I0)) (fun r4_q20430 h_r4_q20430 => ?_)
  obtain ⟨h_r4_q20430_0, h_r4_q20430_1, -⟩ := h_r4_q20430
  exact wq_s ⟨(show -1 ≤ r4_q20430.toInt ∧ r4_q20430.toInt ≤ 389 from ⟨by omega, by omega⟩), trivial⟩
set_option maxHeartbeats 4000000 in
theorem tt_fX11_cost {N : Nat} (hN : 3000000000 ≤ N) (I0 : Nat → Int32) (M0 : Nat → Nat → Int32) (x1 : Int32) (x2 : Int32) (x3 : Int32) (x4 : Int32) (k_I0 : KX11 I0 M0) : wq (fX11_cost N I0 M0 x1 x2 x3 x4) (qS 1 (fun r => True)) := by
  unfold fX11_cost
  have b_20528 := i32b x1
  have b_20529 := i32b x2
  refine wq_xb (tt_fX11_numberOf hN x1 x2) (by decide) (fun r3_q20527 h_r3_q20527 => ?_)
  obtain ⟨h_r3_q20527_0, h_r3_q20527_1, -⟩ := h_r3_q20527
  have b_20530 := i32b x3
  have l_0 := il_0
  have l_3 := il_3
  refine wq_b (tt_fX11_within hN x3 (0 : Int32) (3 : Int32)) (fun r4_q20531 h_r4_q20531 => ?_)
  obtain ⟨h_r4_q20531_0, h_r4_q20531_1, -⟩ := h_r4_q20531
  refine wq_eq (fun hc_20532 => ?_) (fun hc_20533 => ?_)
  · unfold fX11_cost_J28
    unfold fX11_cost_J29
    exact wq_xb (tt_fX11_need0 N) (by decide) (fun _ h => absurd h id)
  · have b_20535 := i32b x4
    refine wq_b (tt_fX11_isDay hN x4) (fun r5_q20536 h_r5_q20536 => ?_)
    obtain ⟨h_r5_q20536_0, h_r5_q20536_1, -⟩ := h_r5_q20536
    refine wq_eq (fun hc_20537 => ?_) (fun hc_20538 => ?_)
    · unfold fX11_cost_J28
      unfold fX11_cost_J29
      exact wq_xb (tt_fX11_need0 N) (by decide) (fun _ h => absurd h id)
    · unfold fX11_cost_J29
      have l_1 := il_1
      refine wq_xb (tt_fX11_need hN (1 : Int32)) (by decide) (fun r1_q20540 h_r1_q20540 => ?_)
      obtain ⟨h_r1_q20540_0, -⟩ := h_r1_q20540
      refine wq_ok ?_
      have l_1000 := il_1000
      refine wq_b (tt_fX3_costOn hN (wb_sh I0 9) (wb_sh M0 1) (wb_sh I0 13) (wb_sh M0 13) r3_q20527 x3 x4 (1000 : Int32) ⟨by omega, by omega⟩ ⟨by omega, by omega⟩ ⟨by omega, by omega⟩ (KX11.s_X5_9_1 k_I0) (KX11.s_X1_13_13 k_I0)) (fun r2_q20541 h_r2_q20541 => ?_)
      obtain ⟨-⟩ := h_r2_q20541
      have b_20542 := i32b r2_q20541
      exact wq_s trivial
set_option maxHeartbeats 4000000 in
theorem tt_fX11_isSpan {N : Nat} (hN : 3000000000 ≤ N) (x0 : Int32) (x1 : Int32) (h_x0 : 0 ≤ x0.toInt ∧ x0.toInt ≤ 1000000) : wq (fX11_isSpan N x0 x1) (fun r => (r.toInt = 0 ∨ (r.toInt = 1 ∧ 0 ≤ x1.toInt ∧ x1.toInt ≤ 50000 ∧ x1.toInt + x0.toInt ≤ 1000000)) ∧ (0 ≤ r.toInt ∧ r.toInt ≤ 1) ∧ True) := by
  unfold fX11_isSpan
  have b_20585 := i32b x1
  have l_0 := il_0
  have l_50000 := il_50000
  refine wq_b (tt_fX11_within hN x1 (0 : Int32) (50000 : Int32)) (fun r1_q20586 h_r1_q20586 => ?_)
  obtain ⟨h_r1_q20586_0, h_r1_q20586_1, -⟩ := h_r1_q20586
  refine wq_eq (fun hc_20587 => ?_) (fun hc_20588 => ?_)
  · exact wq_s ⟨(show ((0 : Int32).toInt = 0 ∨ ((0 : Int32).toInt = 1 ∧ 0 ≤ x1.toInt ∧ x1.toInt ≤ 50000 ∧ x1.toInt + x0.toInt ≤ 1000000)) from by omega), (show 0 ≤ (0 : Int32).toInt ∧ (0 : Int32).toInt ≤ 1 from ⟨by omega, by omega⟩), trivial⟩
  · have l_1000000 := il_1000000
    have t_20589 := ia_sub (1000000 : Int32) x0 (by omega) (by omega)
    refine wq_lt (fun hc_20590 => ?_) (fun hc_20591 => ?_)
    · exact wq_s ⟨(show ((0 : Int32).toInt = 0 ∨ ((0 : Int32).toInt = 1 ∧ 0 ≤ x1.toInt ∧ x1.toInt ≤ 50000 ∧ x1.toInt + x0.toInt ≤ 1000000)) from by omega), (show 0 ≤ (0 : Int32).toInt ∧ (0 : Int32).toInt ≤ 1 from ⟨by omega, by omega⟩), trivial⟩
    · have l_1 := il_1
      exact wq_s ⟨(show ((1 : Int32).toInt = 0 ∨ ((1 : Int32).toInt = 1 ∧ 0 ≤ x1.toInt ∧ x1.toInt ≤ 50000 ∧ x1.toInt + x0.toInt ≤ 1000000)) from by omega), (show 0 ≤ (1 : Int32).toInt ∧ (1 : Int32).toInt ≤ 1 from ⟨by omega, by omega⟩), trivial⟩
set_option maxHeartbeats 4000000 in
theorem tt_fX11_best {N : Nat} (hN : 3000000000 ≤ N) (I0 : Nat → Int32) (M0 : Nat → Nat → Int32) (x1 : Int32) (x2 : Int32) (x3 : Int32) (x4 : Int32) (x5 : Int32) (k_I0 : KX11 I0 M0) : wq (fX11_best N I0 M0 x1 x2 x3 x4 x5) (qS 3 (fun r => KX11 r.2.1 r.2.2 ∧ True)) := by
  unfold fX11_best
  have b_20737 := i32b x1
  have b_20738 := i32b x2
  refine wq_xb (tt_fX11_numberOf hN x1 x2) (by decide) (fun r10_q20736 h_r10_q20736 => ?_)
  obtain ⟨h_r10_q20736_0, h_r10_q20736_1, -⟩ := h_r10_q20736
  have b_20739 := i32b x3
  have l_0 := il_0
  have l_3 := il_3
  refine wq_b (tt_fX11_within hN x3 (0 : Int32) (3 : Int32)) (fun r11_q20740 h_r11_q20740 => ?_)
  obtain ⟨h_r11_q20740_0, h_r11_q20740_1, -⟩ := h_r11_q20740
  refine wq_eq (fun hc_20741 => ?_) (fun hc_20742 => ?_)
  · unfold fX11_best_J28
    unfold fX11_best_J29
    exact wq_xb (tt_fX11_need0 N) (by decide) (fun _ h => absurd h id)
  · have b_20744 := i32b x4
    refine wq_b (tt_fX11_isDay hN x4) (fun r12_q20745 h_r12_q20745 => ?_)
    obtain ⟨h_r12_q20745_0, h_r12_q20745_1, -⟩ := h_r12_q20745
    refine wq_eq (fun hc_20746 => ?_) (fun hc_20747 => ?_)
    · unfold fX11_best_J28
      unfold fX11_best_J29
      exact wq_xb (tt_fX11_need0 N) (by decide) (fun _ h => absurd h id)
    · unfold fX11_best_J29
      have l_1 := il_1
      refine wq_xb (tt_fX11_need hN (1 : Int32)) (by decide) (fun r1_q20749 h_r1_q20749 => ?_)
      obtain ⟨h_r1_q20749_0, -⟩ := h_r1_q20749
      have b_20750 := i32b x5
      refine wq_b (tt_fX11_isSpan hN x4 x5 ⟨by omega, by omega⟩) (fun r2_q20751 h_r2_q20751 => ?_)
      obtain ⟨h_r2_q20751_0, h_r2_q20751_1, -⟩ := h_r2_q20751
      refine wq_xb (tt_fX11_allow hN r2_q20751) (by decide) (fun r3_q20752 h_r3_q20752 => ?_)
      obtain ⟨h_r3_q20752_0, -⟩ := h_r3_q20752
      refine wq_ok ?_
      refine wq_b (tt_fX8_begin hN (wb_sh I0 13) (wb_sh M0 16) r10_q20736 x3 x4 ⟨by omega, by omega⟩ ⟨by omega, by omega⟩ ⟨by omega, by omega⟩ (KX11.s_X8_13_16 k_I0)) (fun r4_q20753 h_r4_q20753 => ?_)
      obtain ⟨h_r4_q20753_0, -⟩ := h_r4_q20753
      refine wq_v (fun I0_5_q20754 h_I0_5_q20754 => ?_)
      refine wq_v (fun M0_6_q20755 h_M0_6_q20755 => ?_)
      have k_M0_6_q20755 : KX11 I0_5_q20754 M0_6_q20755 := by rw [h_I0_5_q20754, h_M0_6_q20755]; exact (KX11.p_X8_13_16 k_I0 h_r4_q20753_0)
      have t_20756 := ia_add x5 (1 : Int32) (by omega) (by omega)
      refine wq_b (tt_fX8_goOn hN (wb_sh I0_5_q20754 13) (wb_sh M0_6_q20755 16) (wb_sh I0_5_q20754 9) (wb_sh M0_6_q20755 1) (wb_sh I0_5_q20754 13) (wb_sh M0_6_q20755 13) (x5 + (1 : Int32)) (KX11.s_X8_13_16 k_M0_6_q20755) (KX11.s_X5_9_1 k_M0_6_q20755) (KX11.s_X1_13_13 k_M0_6_q20755)) (fun r7_q20757 h_r7_q20757 => ?_)
      obtain ⟨h_r7_q20757_0, -⟩ := h_r7_q20757
      refine wq_v (fun I0_8_q20758 h_I0_8_q20758 => ?_)
      refine wq_v (fun M0_9_q20759 h_M0_9_q20759 => ?_)
      have k_M0_9_q20759 : KX11 I0_8_q20758 M0_9_q20759 := by rw [h_I0_8_q20758, h_M0_9_q20759]; exact (KX11.p_X8_13_16 k_M0_6_q20755 h_r7_q20757_0)
      exact wq_s ⟨k_M0_9_q20759, trivial⟩
set_option maxHeartbeats 4000000 in
theorem tt_fX11_day {N : Nat} (hN : 3000000000 ≤ N) (I0 : Nat → Int32) (M0 : Nat → Nat → Int32) (x1 : Int32) (k_I0 : KX11 I0 M0) : wq (fX11_day N I0 M0 x1) (qS 1 (fun r => True)) := by
  unfold fX11_day
  have t_20833 := KX11.i13 k_I0
  refine wq_xb (tt_fX11_need hN (I0 13)) (by decide) (fun r1_q20832 h_r1_q20832 => ?_)
  obtain ⟨h_r1_q20832_0, -⟩ := h_r1_q20832
  have b_20834 := i32b x1
  have l_m1 := il_m1
  refine wq_eq (fun hc_20835 => ?_) (fun hc_20836 => ?_)
  · refine wq_ok ?_
    have t_20837 := KX11.i18 k_I0
    exact wq_s trivial
  · refine wq_b (tt_fX8_howManyKept hN (wb_sh I0 13) (wb_sh M0 16) (KX11.s_X8_13_16 k_I0)) (fun r2_q20838 h_r2_q20838 => ?_)
    obtain ⟨h_r2_q20838_0, -⟩ := h_r2_q20838
    have l_0 := il_0
    have l_1 := il_1
    have t_20839 := ia_sub r2_q20838 (1 : Int32) (by omega) (by omega)
    refine wq_b (tt_fX11_within hN x1 (0 : Int32) (r2_q20838 - (1 : Int32))) (fun r3_q20840 h_r3_q20840 => ?_)
    obtain ⟨h_r3_q20840_0, h_r3_q20840_1, -⟩ := h_r3_q20840
    refine wq_xb (tt_fX11_need hN r3_q20840) (by decide) (fun r4_q20841 h_r4_q20841 => ?_)
    obtain ⟨h_r4_q20841_0, -⟩ := h_r4_q20841
    refine wq_ok ?_
    refine wq_b (tt_fX8_keptDay hN (wb_sh I0 13) (wb_sh M0 16) x1 (KX11.s_X8_13_16 k_I0)) (fun r5_q20842 h_r5_q20842 => ?_)
    obtain ⟨-⟩ := h_r5_q20842
    have b_20843 := i32b r5_q20842
    exact wq_s trivial
set_option maxHeartbeats 4000000 in
theorem tt_fX11_whose_L55 {N : Nat} (hN : 3000000000 ≤ N) (x1 : Int32) (x2 : Int32) (x3 : Int32) (x4 : Int32) (x5 : Int32) (y29_6 : Int32) (h_x1 : 0 ≤ x1.toInt ∧ x1.toInt ≤ 5) (h_x2 : 0 ≤ x2.toInt ∧ x2.toInt ≤ 19) (h_x3 : 0 ≤ x3.toInt ∧ x3.toInt ≤ 1000000) (h_x4 : 0 ≤ x4.toInt ∧ x4.toInt ≤ 50000) (h_x5 : 0 ≤ x5.toInt ∧ x5.toInt ≤ 2) (h_y29_6 : 0 ≤ y29_6.toInt ∧ y29_6.toInt ≤ 119)  : ∀ (fu : Nat) (I0_l55 : (Nat → Int32)) (M0_l55 : (Nat → Nat → Int32)) (y55_7 : Int32) (y55_8 : Int32) (y55_9 : Int32) (y55_10 : Int32), (-2147483648 ≤ y55_7.toInt ∧ y55_7.toInt ≤ 1000) → (0 ≤ y55_8.toInt ∧ y55_8.toInt ≤ 3) → (0 ≤ y55_10.toInt ∧ y55_10.toInt ≤ 4) → (KX11 I0_l55 M0_l55) → (4 - y55_10.toInt) < (fu : Int) → wq (fX11_whose_L55 N x1 x2 x3 x4 x5 y29_6 fu I0_l55 M0_l55 y55_7 y55_8 y55_9 y55_10) (fun r => KX11 r.2.1 r.2.2 ∧ True) := by
  intro fu
  induction fu with
  | zero => intro I0_l55 M0_l55 y55_7 y55_8 y55_9 y55_10 h_y55_7 h_y55_8 h_y55_10 k_I0_l55 hm; exfalso; omega
  | succ fu ih =>
    intro I0_l55 M0_l55 y55_7 y55_8 y55_9 y55_10 h_y55_7 h_y55_8 h_y55_10 k_I0_l55 hm
    rw [fX11_whose_L55.eq_2]
    have l_4 := il_4
    refine wq_le (fun hc_21985 => ?_) (fun hc_21986 => ?_)
    · have l_0 := il_0
      refine wq_eq (fun hc_21987 => ?_) (fun hc_21988 => ?_)
      · exact wq_s ⟨k_I0_l55, trivial⟩
      · have l_1 := il_1
        refine wq_eq (fun hc_21989 => ?_) (fun hc_21990 => ?_)
        · have b_21991 := i32b y55_7
          exact wq_s ⟨k_I0_l55, trivial⟩
        · have b_21992 := i32b y55_9
          exact wq_s ⟨k_I0_l55, trivial⟩
    · refine wq_b (tt_fX8_begin hN (wb_sh I0_l55 20) (wb_sh M0_l55 17) y29_6 y55_10 x3 ⟨by omega, by omega⟩ ⟨by omega, by omega⟩ ⟨by omega, by omega⟩ (KX11.s_X8_20_17 k_I0_l55)) (fun r7_q21993 h_r7_q21993 => ?_)
      obtain ⟨h_r7_q21993_0, -⟩ := h_r7_q21993
      refine wq_v (fun I0_8_q21994 h_I0_8_q21994 => ?_)
      refine wq_v (fun M0_9_q21995 h_M0_9_q21995 => ?_)
      have k_M0_9_q21995 : KX11 I0_8_q21994 M0_9_q21995 := by rw [h_I0_8_q21994, h_M0_9_q21995]; exact (KX11.p_X8_20_17 k_I0_l55 h_r7_q21993_0)
      have l_1 := il_1
      have t_21996 := ia_add x4 (1 : Int32) (by omega) (by omega)
      refine wq_b (tt_fX8_goOn hN (wb_sh I0_8_q21994 20) (wb_sh M0_9_q21995 17) (wb_sh I0_8_q21994 9) (wb_sh M0_9_q21995 1) (wb_sh I0_8_q21994 13) (wb_sh M0_9_q21995 13) (x4 + (1 : Int32)) (KX11.s_X8_20_17 k_M0_9_q21995) (KX11.s_X5_9_1 k_M0_9_q21995) (KX11.s_X1_13_13 k_M0_9_q21995)) (fun r10_q21997 h_r10_q21997 => ?_)
      obtain ⟨h_r10_q21997_0, -⟩ := h_r10_q21997
      refine wq_v (fun I0_11_q21998 h_I0_11_q21998 => ?_)
      refine wq_v (fun M0_12_q21999 h_M0_12_q21999 => ?_)
      have k_M0_12_q21999 : KX11 I0_11_q21998 M0_12_q21999 := by rw [h_I0_11_q21998, h_M0_12_q21999]; exact (KX11.p_X8_20_17 k_M0_9_q21995 h_r10_q21997_0)
      have b_22000 := i32b y55_7
      refine wq_le (fun hc_22001 => ?_) (fun hc_22002 => ?_)
      · unfold fX11_whose_J121
        refine wq_eq (fun hc_22003 => ?_) (fun hc_22004 => ?_)
        · have b_22006 := i32b y55_9
          refine wq_v (fun v5_q22005 h_v5_q22005 => ?_)
          have t_v5_q22005 := congrArg Int32.toInt h_v5_q22005
          have t_22008 := ia_add y55_10 (1 : Int32) (by omega) (by omega)
          refine wq_v (fun v6_q22007 h_v6_q22007 => ?_)
          have t_v6_q22007 := congrArg Int32.toInt h_v6_q22007
          have b_22009 := i32b v5_q22005
          exact ih I0_11_q21998 M0_12_q21999 y55_7 y55_8 v5_q22005 v6_q22007 ⟨by omega, by omega⟩ ⟨by omega, by omega⟩ ⟨by omega, by omega⟩ k_M0_12_q21999 (by omega)
        · have t_22011 := ia_add y55_10 (1 : Int32) (by omega) (by omega)
          refine wq_v (fun v4_q22010 h_v4_q22010 => ?_)
          have t_v4_q22010 := congrArg Int32.toInt h_v4_q22010
          have b_22012 := i32b y55_9
          exact ih I0_11_q21998 M0_12_q21999 y55_7 y55_8 y55_9 v4_q22010 ⟨by omega, by omega⟩ ⟨by omega, by omega⟩ ⟨by omega, by omega⟩ k_M0_12_q21999 (by omega)
      · refine wq_v (fun v13_q22013 h_v13_q22013 => ?_)
        have t_v13_q22013 := congrArg Int32.toInt h_v13_q22013
        unfold fX11_whose_J121
        have b_22014 := i32b v13_q22013
        refine wq_eq (fun hc_22015 => ?_) (fun hc_22016 => ?_)
        · have l_0 := il_0
          have t_22018 := ia_add (0 : Int32) (1 : Int32) (by omega) (by omega)
          refine wq_v (fun v5_q22017 h_v5_q22017 => ?_)
          have t_v5_q22017 := congrArg Int32.toInt h_v5_q22017
          have t_22020 := ia_add y55_10 (1 : Int32) (by omega) (by omega)
          refine wq_v (fun v6_q22019 h_v6_q22019 => ?_)
          have t_v6_q22019 := congrArg Int32.toInt h_v6_q22019
          exact ih I0_11_q21998 M0_12_q21999 v13_q22013 y55_10 v5_q22017 v6_q22019 ⟨by omega, by omega⟩ ⟨by omega, by omega⟩ ⟨by omega, by omega⟩ k_M0_12_q21999 (by omega)
        · have t_22022 := ia_add y55_10 (1 : Int32) (by omega) (by omega)
          refine wq_v (fun v4_q22021 h_v4_q22021 => ?_)
          have t_v4_q22021 := congrArg Int32.toInt h_v4_q22021
          have l_0 := il_0
          exact ih I0_11_q21998 M0_12_q21999 v13_q22013 y55_10 (0 : Int32) v4_q22021 ⟨by omega, by omega⟩ ⟨by omega, by omega⟩ ⟨by omega, by omega⟩ k_M0_12_q21999 (by omega)
set_option maxHeartbeats 4000000 in
theorem tt_fX11_whose {N : Nat} (hN : 3000000000 ≤ N) (I0 : Nat → Int32) (M0 : Nat → Nat → Int32) (x1 : Int32) (x2 : Int32) (x3 : Int32) (x4 : Int32) (x5 : Int32) (k_I0 : KX11 I0 M0) : wq (fX11_whose N I0 M0 x1 x2 x3 x4 x5) (qS 3 (fun r => KX11 r.2.1 r.2.2 ∧ True)) := by
  unfold fX11_whose
  have b_22024 := i32b x1
  have b_22025 := i32b x2
  refine wq_xb (tt_fX11_numberOf hN x1 x2) (by decide) (fun r14_q22023 h_r14_q22023 => ?_)
  obtain ⟨h_r14_q22023_0, h_r14_q22023_1, -⟩ := h_r14_q22023
  have b_22026 := i32b x3
  refine wq_b (tt_fX11_isDay hN x3) (fun r15_q22027 h_r15_q22027 => ?_)
  obtain ⟨h_r15_q22027_0, h_r15_q22027_1, -⟩ := h_r15_q22027
  have l_0 := il_0
  refine wq_eq (fun hc_22028 => ?_) (fun hc_22029 => ?_)
  · unfold fX11_whose_J28
    unfold fX11_whose_J29
    exact wq_xb (tt_fX11_need0 N) (by decide) (fun _ h => absurd h id)
  · have b_22031 := i32b x5
    have l_2 := il_2
    refine wq_b (tt_fX11_within hN x5 (0 : Int32) (2 : Int32)) (fun r16_q22032 h_r16_q22032 => ?_)
    obtain ⟨h_r16_q22032_0, h_r16_q22032_1, -⟩ := h_r16_q22032
    refine wq_eq (fun hc_22033 => ?_) (fun hc_22034 => ?_)
    · unfold fX11_whose_J28
      unfold fX11_whose_J29
      exact wq_xb (tt_fX11_need0 N) (by decide) (fun _ h => absurd h id)
    · unfold fX11_whose_J29
      have l_1 := il_1
      refine wq_xb (tt_fX11_need hN (1 : Int32)) (by decide) (fun r1_q22036 h_r1_q22036 => ?_)
      obtain ⟨h_r1_q22036_0, -⟩ := h_r1_q22036
      have b_22037 := i32b x4
      refine wq_b (tt_fX11_isSpan hN x3 x4 ⟨by omega, by omega⟩) (fun r2_q22038 h_r2_q22038 => ?_)
      obtain ⟨h_r2_q22038_0, h_r2_q22038_1, -⟩ := h_r2_q22038
      refine wq_xb (tt_fX11_allow hN r2_q22038) (by decide) (fun r3_q22039 h_r3_q22039 => ?_)
      obtain ⟨h_r3_q22039_0, -⟩ := h_r3_q22039
      refine wq_ok ?_
      have l_1000 := il_1000
      exact tt_fX11_whose_L55 hN x1 x2 x3 x4 x5 r14_q22023 ⟨by omega, by omega⟩ ⟨by omega, by omega⟩ ⟨by omega, by omega⟩ ⟨by omega, by omega⟩ ⟨by omega, by omega⟩ ⟨by omega, by omega⟩ N I0 M0 (1000 : Int32) (0 : Int32) (0 : Int32) (0 : Int32) ⟨by omega, by omega⟩ ⟨by omega, by omega⟩ ⟨by omega, by omega⟩ k_I0 (by omega)
set_option maxHeartbeats 4000000 in
theorem tt_fX11_mixed_L29 {N : Nat} (hN : 3000000000 ≤ N) (I0 : Nat → Int32) (M0 : Nat → Nat → Int32) (x1 : Int32) (x2 : Int32) (x3 : Int32) (x4 : Int32) (r1 : Int32) (h_x1 : 0 ≤ x1.toInt ∧ x1.toInt ≤ 5) (h_x2 : 0 ≤ x2.toInt ∧ x2.toInt ≤ 19) (h_x3 : 0 ≤ x3.toInt ∧ x3.toInt ≤ 1000000) (h_x4 : 0 ≤ x4.toInt ∧ x4.toInt ≤ 50000) (h_r1 : 0 ≤ r1.toInt ∧ r1.toInt ≤ 119) (k_I0 : KX11 I0 M0)  : ∀ (fu : Nat) (y29_6 : Int32) (y29_7 : Int32), (0 ≤ y29_7.toInt ∧ y29_7.toInt ≤ 50001) → (50001 - y29_7.toInt) < (fu : Int) → wq (fX11_mixed_L29 N I0 M0 x1 x2 x3 x4 r1 fu y29_6 y29_7) (fun r => True) := by
  intro fu
  induction fu with
  | zero => intro y29_6 y29_7 h_y29_7 hm; exfalso; omega
  | succ fu ih =>
    intro y29_6 y29_7 h_y29_7 hm
    rw [fX11_mixed_L29.eq_2]
    refine wq_lt (fun hc_22502 => ?_) (fun hc_22503 => ?_)
    · have b_22504 := i32b y29_6
      exact wq_s trivial
    · have t_22505 := ia_add x3 y29_7 (by omega) (by omega)
      refine wq_b (tt_fX3_isMixed hN (wb_sh I0 9) (wb_sh M0 1) (wb_sh I0 13) (wb_sh M0 13) r1 (x3 + y29_7) ⟨by omega, by omega⟩ (KX11.s_X5_9_1 k_I0) (KX11.s_X1_13_13 k_I0)) (fun r6_q22506 h_r6_q22506 => ?_)
      obtain ⟨h_r6_q22506_0, -⟩ := h_r6_q22506
      have l_0 := il_0
      refine wq_eq (fun hc_22507 => ?_) (fun hc_22508 => ?_)
      · have l_1 := il_1
        have t_22510 := ia_add y29_7 (1 : Int32) (by omega) (by omega)
        refine wq_v (fun v7_q22509 h_v7_q22509 => ?_)
        have t_v7_q22509 := congrArg Int32.toInt h_v7_q22509
        have b_22511 := i32b y29_6
        exact ih y29_6 v7_q22509 ⟨by omega, by omega⟩ (by omega)
      · have b_22513 := i32b y29_6
        have l_1 := il_1
        refine wq_v (fun v8_q22512 h_v8_q22512 => ?_)
        have t_v8_q22512 := congrArg Int32.toInt h_v8_q22512
        have t_22515 := ia_add y29_7 (1 : Int32) (by omega) (by omega)
        refine wq_v (fun v9_q22514 h_v9_q22514 => ?_)
        have t_v9_q22514 := congrArg Int32.toInt h_v9_q22514
        have b_22516 := i32b v8_q22512
        exact ih v8_q22512 v9_q22514 ⟨by omega, by omega⟩ (by omega)
set_option maxHeartbeats 4000000 in
theorem tt_fX11_mixed {N : Nat} (hN : 3000000000 ≤ N) (I0 : Nat → Int32) (M0 : Nat → Nat → Int32) (x1 : Int32) (x2 : Int32) (x3 : Int32) (x4 : Int32) (k_I0 : KX11 I0 M0) : wq (fX11_mixed N I0 M0 x1 x2 x3 x4) (qS 3 (fun r => True)) := by
  unfold fX11_mixed
  have b_22518 := i32b x1
  have b_22519 := i32b x2
  refine wq_xb (tt_fX11_numberOf hN x1 x2) (by decide) (fun r1_q22517 h_r1_q22517 => ?_)
  obtain ⟨h_r1_q22517_0, h_r1_q22517_1, -⟩ := h_r1_q22517
  have b_22520 := i32b x3
  refine wq_b (tt_fX11_isDay hN x3) (fun r2_q22521 h_r2_q22521 => ?_)
  obtain ⟨h_r2_q22521_0, h_r2_q22521_1, -⟩ := h_r2_q22521
  refine wq_xb (tt_fX11_need hN r2_q22521) (by decide) (fun r3_q22522 h_r3_q22522 => ?_)
  obtain ⟨h_r3_q22522_0, -⟩ := h_r3_q22522
  have b_22523 := i32b x4
  refine wq_b (tt_fX11_isSpan hN x3 x4 ⟨by omega, by omega⟩) (fun r4_q22524 h_r4_q22524 => ?_)
  obtain ⟨h_r4_q22524_0, h_r4_q22524_1, -⟩ := h_r4_q22524
  refine wq_xb (tt_fX11_allow hN r4_q22524) (by decide) (fun r5_q22525 h_r5_q22525 => ?_)
  obtain ⟨h_r5_q22525_0, -⟩ := h_r5_q22525
  refine wq_ok ?_
  have l_0 := il_0
  exact tt_fX11_mixed_L29 hN I0 M0 x1 x2 x3 x4 r1_q22517 ⟨by omega, by omega⟩ ⟨by omega, by omega⟩ ⟨by omega, by omega⟩ ⟨by omega, by omega⟩ ⟨by omega, by omega⟩ k_I0 N (0 : Int32) (0 : Int32) ⟨by omega, by omega⟩ (by omega)
set_option maxHeartbeats 4000000 in
theorem tt_fX11_isClimate {N : Nat} (hN : 3000000000 ≤ N) (I0 : Nat → Int32) (M0 : Nat → Nat → Int32) (x1 : Int32) (k_I0 : KX11 I0 M0) : wq (fX11_isClimate N I0 M0 x1) (fun r => (r.toInt = 0 ∨ (r.toInt = 1 ∧ 0 ≤ x1.toInt ∧ x1.toInt ≤ 6 ∧ x1.toInt < (I0 9).toInt)) ∧ (0 ≤ r.toInt ∧ r.toInt ≤ 1) ∧ True) := by
  unfold fX11_isClimate
  have b_22550 := i32b x1
  have l_0 := il_0
  have t_22551 := KX11.i9 k_I0
  have l_1 := il_1
  have t_22552 := ia_sub (I0 9) (1 : Int32) (by omega) (by omega)
  refine wq_b (tt_fX11_within hN x1 (0 : Int32) ((I0 9) - (1 : Int32))) (fun r1_q22553 h_r1_q22553 => ?_)
  obtain ⟨h_r1_q22553_0, h_r1_q22553_1, -⟩ := h_r1_q22553
  refine wq_bz (by omega) ?_
  exact wq_s ⟨(show (r1_q22553.toInt = 0 ∨ (r1_q22553.toInt = 1 ∧ 0 ≤ x1.toInt ∧ x1.toInt ≤ 6 ∧ x1.toInt < (I0 9).toInt)) from by omega), (show 0 ≤ r1_q22553.toInt ∧ r1_q22553.toInt ≤ 1 from ⟨by omega, by omega⟩), trivial⟩
set_option maxHeartbeats 4000000 in
theorem tt_fX11_climb {N : Nat} (hN : 3000000000 ≤ N) (I0 : Nat → Int32) (M0 : Nat → Nat → Int32) (x1 : Int32) (x2 : Int32) (k_I0 : KX11 I0 M0) : wq (fX11_climb N I0 M0 x1 x2) (qS 1 (fun r => True)) := by
  unfold fX11_climb
  have b_22638 := i32b x1
  refine wq_b (tt_fX11_isClimate hN I0 M0 x1 k_I0) (fun r3_q22639 h_r3_q22639 => ?_)
  obtain ⟨h_r3_q22639_0, h_r3_q22639_1, -⟩ := h_r3_q22639
  have t_22640 := KX11.i9 k_I0
  have l_0 := il_0
  refine wq_eq (fun hc_22641 => ?_) (fun hc_22642 => ?_)
  · unfold fX11_climb_J23
    unfold fX11_climb_J24
    exact wq_xb (tt_fX11_need0 N) (by decide) (fun _ h => absurd h id)
  · have b_22644 := i32b x2
    have l_21599 := il_21599
    refine wq_b (tt_fX11_within hN x2 (0 : Int32) (21599 : Int32)) (fun r4_q22645 h_r4_q22645 => ?_)
    obtain ⟨h_r4_q22645_0, h_r4_q22645_1, -⟩ := h_r4_q22645
    refine wq_eq (fun hc_22646 => ?_) (fun hc_22647 => ?_)
    · unfold fX11_climb_J23
      unfold fX11_climb_J24
      exact wq_xb (tt_fX11_need0 N) (by decide) (fun _ h => absurd h id)
    · unfold fX11_climb_J24
      have l_1 := il_1
      refine wq_xb (tt_fX11_need hN (1 : Int32)) (by decide) (fun r1_q22649 h_r1_q22649 => ?_)
      obtain ⟨h_r1_q22649_0, -⟩ := h_r1_q22649
      refine wq_ok ?_
      refine wq_b (tt_fX2_climbOf hN (wb_sh I0 9) (wb_sh M0 5) x1 x2 ⟨by omega, by omega⟩ ⟨by omega, by omega⟩ (KX11.s_X2_9_5 k_I0)) (fun r2_q22650 h_r2_q22650 => ?_)
      obtain ⟨-⟩ := h_r2_q22650
      have b_22651 := i32b r2_q22650
      exact wq_s trivial
set_option maxHeartbeats 4000000 in
theorem tt_fX11_rise {N : Nat} (hN : 3000000000 ≤ N) (I0 : Nat → Int32) (M0 : Nat → Nat → Int32) (x1 : Int32) (x2 : Int32) (x3 : Int32) (k_I0 : KX11 I0 M0) : wq (fX11_rise N I0 M0 x1 x2 x3) (qS 1 (fun r => True)) := by
  unfold fX11_rise
  have b_22766 := i32b x1
  refine wq_b (tt_fX11_isClimate hN I0 M0 x1 k_I0) (fun r3_q22767 h_r3_q22767 => ?_)
  obtain ⟨h_r3_q22767_0, h_r3_q22767_1, -⟩ := h_r3_q22767
  have t_22768 := KX11.i9 k_I0
  have l_0 := il_0
  refine wq_eq (fun hc_22769 => ?_) (fun hc_22770 => ?_)
  · unfold fX11_rise_J34
    unfold fX11_rise_J35
    exact wq_xb (tt_fX11_need0 N) (by decide) (fun _ h => absurd h id)
  · have b_22772 := i32b x2
    have l_21599 := il_21599
    refine wq_b (tt_fX11_within hN x2 (0 : Int32) (21599 : Int32)) (fun r4_q22773 h_r4_q22773 => ?_)
    obtain ⟨h_r4_q22773_0, h_r4_q22773_1, -⟩ := h_r4_q22773
    refine wq_eq (fun hc_22774 => ?_) (fun hc_22775 => ?_)
    · unfold fX11_rise_J34
      unfold fX11_rise_J35
      exact wq_xb (tt_fX11_need0 N) (by decide) (fun _ h => absurd h id)
    · have b_22777 := i32b x3
      have l_359 := il_359
      refine wq_b (tt_fX11_within hN x3 (0 : Int32) (359 : Int32)) (fun r5_q22778 h_r5_q22778 => ?_)
      obtain ⟨h_r5_q22778_0, h_r5_q22778_1, -⟩ := h_r5_q22778
      refine wq_eq (fun hc_22779 => ?_) (fun hc_22780 => ?_)
      · unfold fX11_rise_J34
        unfold fX11_rise_J35
        exact wq_xb (tt_fX11_need0 N) (by decide) (fun _ h => absurd h id)
      · unfold fX11_rise_J35
        have l_1 := il_1
        refine wq_xb (tt_fX11_need hN (1 : Int32)) (by decide) (fun r1_q22782 h_r1_q22782 => ?_)
        obtain ⟨h_r1_q22782_0, -⟩ := h_r1_q22782
        refine wq_ok ?_
        refine wq_b (tt_fX2_risingAt hN (wb_sh I0 9) (wb_sh M0 5) x1 x2 x3 ⟨by omega, by omega⟩ ⟨by omega, by omega⟩ ⟨by omega, by omega⟩ (KX11.s_X2_9_5 k_I0)) (fun r2_q22783 h_r2_q22783 => ?_)
        obtain ⟨-⟩ := h_r2_q22783
        have b_22784 := i32b r2_q22783
        exact wq_s trivial
set_option maxHeartbeats 4000000 in
theorem tt_fX11_middle {N : Nat} (hN : 3000000000 ≤ N) (I0 : Nat → Int32) (M0 : Nat → Nat → Int32) (x1 : Int32) (x2 : Int32) (k_I0 : KX11 I0 M0) : wq (fX11_middle N I0 M0 x1 x2) (qS 1 (fun r => True)) := by
  unfold fX11_middle
  have b_22869 := i32b x1
  refine wq_b (tt_fX11_isClimate hN I0 M0 x1 k_I0) (fun r3_q22870 h_r3_q22870 => ?_)
  obtain ⟨h_r3_q22870_0, h_r3_q22870_1, -⟩ := h_r3_q22870
  have t_22871 := KX11.i9 k_I0
  have l_0 := il_0
  refine wq_eq (fun hc_22872 => ?_) (fun hc_22873 => ?_)
  · unfold fX11_middle_J23
    unfold fX11_middle_J24
    exact wq_xb (tt_fX11_need0 N) (by decide) (fun _ h => absurd h id)
  · have b_22875 := i32b x2
    have l_21599 := il_21599
    refine wq_b (tt_fX11_within hN x2 (0 : Int32) (21599 : Int32)) (fun r4_q22876 h_r4_q22876 => ?_)
    obtain ⟨h_r4_q22876_0, h_r4_q22876_1, -⟩ := h_r4_q22876
    refine wq_eq (fun hc_22877 => ?_) (fun hc_22878 => ?_)
    · unfold fX11_middle_J23
      unfold fX11_middle_J24
      exact wq_xb (tt_fX11_need0 N) (by decide) (fun _ h => absurd h id)
    · unfold fX11_middle_J24
      have l_1 := il_1
      refine wq_xb (tt_fX11_need hN (1 : Int32)) (by decide) (fun r1_q22880 h_r1_q22880 => ?_)
      obtain ⟨h_r1_q22880_0, -⟩ := h_r1_q22880
      refine wq_ok ?_
      refine wq_b (tt_fX2_middleOf hN (wb_sh I0 9) (wb_sh M0 5) x1 x2 ⟨by omega, by omega⟩ ⟨by omega, by omega⟩ (KX11.s_X2_9_5 k_I0)) (fun r2_q22881 h_r2_q22881 => ?_)
      obtain ⟨-⟩ := h_r2_q22881
      have b_22882 := i32b r2_q22881
      exact wq_s trivial

theorem il_m8 : (-8 : Int32).toInt = -8 := by decide
theorem il_m3 : (-3 : Int32).toInt = -3 := by decide
theorem il_m2 : (-2 : Int32).toInt = -2 := by decide
theorem il_m1 : (-1 : Int32).toInt = -1 := by decide
theorem il_0 : (0 : Int32).toInt = 0 := by decide
theorem il_1 : (1 : Int32).toInt = 1 := by decide
theorem il_2 : (2 : Int32).toInt = 2 := by decide
theorem il_3 : (3 : Int32).toInt = 3 := by decide
theorem il_4 : (4 : Int32).toInt = 4 := by decide
theorem il_5 : (5 : Int32).toInt = 5 := by decide
theorem il_6 : (6 : Int32).toInt = 6 := by decide
theorem il_7 : (7 : Int32).toInt = 7 := by decide
theorem il_8 : (8 : Int32).toInt = 8 := by decide
theorem il_9 : (9 : Int32).toInt = 9 := by decide
theorem il_10 : (10 : Int32).toInt = 10 := by decide
theorem il_11 : (11 : Int32).toInt = 11 := by decide
theorem il_12 : (12 : Int32).toInt = 12 := by decide
theorem il_13 : (13 : Int32).toInt = 13 := by decide
theorem il_14 : (14 : Int32).toInt = 14 := by decide
theorem il_15 : (15 : Int32).toInt = 15 := by decide
theorem il_16 : (16 : Int32).toInt = 16 := by decide
theorem il_17 : (17 : Int32).toInt = 17 := by decide
theorem il_19 : (19 : Int32).toInt = 19 := by decide
theorem il_20 : (20 : Int32).toInt = 20 := by decide
theorem il_21 : (21 : Int32).toInt = 21 := by decide
theorem il_22 : (22 : Int32).toInt = 22 := by decide
theorem il_24 : (24 : Int32).toInt = 24 := by decide
theorem il_29 : (29 : Int32).toInt = 29 := by decide
theorem il_30 : (30 : Int32).toInt = 30 := by decide
theorem il_32 : (32 : Int32).toInt = 32 := by decide
theorem il_36 : (36 : Int32).toInt = 36 := by decide
theorem il_48 : (48 : Int32).toInt = 48 := by decide
theorem il_57 : (57 : Int32).toInt = 57 := by decide
theorem il_59 : (59 : Int32).toInt = 59 := by decide
theorem il_60 : (60 : Int32).toInt = 60 := by decide
theorem il_97 : (97 : Int32).toInt = 97 := by decide
theorem il_99 : (99 : Int32).toInt = 99 := by decide
theorem il_100 : (100 : Int32).toInt = 100 := by decide
theorem il_101 : (101 : Int32).toInt = 101 := by decide
theorem il_102 : (102 : Int32).toInt = 102 := by decide
theorem il_103 : (103 : Int32).toInt = 103 := by decide
theorem il_104 : (104 : Int32).toInt = 104 := by decide
theorem il_105 : (105 : Int32).toInt = 105 := by decide
theorem il_106 : (106 : Int32).toInt = 106 := by decide
theorem il_108 : (108 : Int32).toInt = 108 := by decide
theorem il_109 : (109 : Int32).toInt = 109 := by decide
theorem il_110 : (110 : Int32).toInt = 110 := by decide
theorem il_111 : (111 : Int32).toInt = 111 := by decide
theorem il_112 : (112 : Int32).toInt = 112 := by decide
theorem il_114 : (114 : Int32).toInt = 114 := by decide
theorem il_115 : (115 : Int32).toInt = 115 := by decide
theorem il_116 : (116 : Int32).toInt = 116 := by decide
theorem il_117 : (117 : Int32).toInt = 117 := by decide
theorem il_118 : (118 : Int32).toInt = 118 := by decide
theorem il_119 : (119 : Int32).toInt = 119 := by decide
theorem il_120 : (120 : Int32).toInt = 120 := by decide
theorem il_121 : (121 : Int32).toInt = 121 := by decide
theorem il_122 : (122 : Int32).toInt = 122 := by decide
theorem il_180 : (180 : Int32).toInt = 180 := by decide
theorem il_359 : (359 : Int32).toInt = 359 := by decide
theorem il_360 : (360 : Int32).toInt = 360 := by decide
theorem il_365 : (365 : Int32).toInt = 365 := by decide
theorem il_420 : (420 : Int32).toInt = 420 := by decide
theorem il_440 : (440 : Int32).toInt = 440 := by decide
theorem il_580 : (580 : Int32).toInt = 580 := by decide
theorem il_600 : (600 : Int32).toInt = 600 := by decide
theorem il_999 : (999 : Int32).toInt = 999 := by decide
theorem il_1000 : (1000 : Int32).toInt = 1000 := by decide
theorem il_1800 : (1800 : Int32).toInt = 1800 := by decide
theorem il_3600 : (3600 : Int32).toInt = 3600 := by decide
theorem il_10800 : (10800 : Int32).toInt = 10800 := by decide
theorem il_18000 : (18000 : Int32).toInt = 18000 := by decide
theorem il_21599 : (21599 : Int32).toInt = 21599 := by decide
theorem il_50000 : (50000 : Int32).toInt = 50000 := by decide
theorem il_1000000 : (1000000 : Int32).toInt = 1000000 := by decide
theorem il_1620000 : (1620000 : Int32).toInt = 1620000 := by decide
theorem il_2000000 : (2000000 : Int32).toInt = 2000000 := by decide
theorem il_6480000 : (6480000 : Int32).toInt = 6480000 := by decide
theorem il_9999999 : (9999999 : Int32).toInt = 9999999 := by decide
theorem tt_fX1_degreeOf {N : Nat} (hN : 3000000000 ≤ N) (I0 : Nat → Int32) (M0 : Nat → Nat → Int32) (x1 : Int32) (x2 : Int32) (h_x1 : 0 ≤ x1.toInt ∧ x1.toInt ≤ 119) (h_x2 : 0 ≤ x2.toInt ∧ x2.toInt ≤ 21) (k_I0 : KX1 I0 M0) : wq (fX1_degreeOf N I0 M0 x1 x2) (fun r => (r.toInt ≤ 359 ∨ x2.toInt = 21) ∧ (-1 ≤ r.toInt ∧ r.toInt ≤ 389) ∧ True) := by
  unfold fX1_degreeOf
  have l_22 := il_22
  have t1 := ia_mul (22 : Int32) 22 il_22 x1 (by omega) (by omega)
  have t2 := ia_add ((22 : Int32) * x1) x2 (by omega) (by omega)
  refine wq_in (n := 2640) ⟨by omega, by omega⟩ ?_
  have tn := tn_of (((22 : Int32) * x1) + x2) (by omega)
  have e : (((22 : Int32) * x1) + x2).toNatClampNeg = 22 * x1.toInt.toNat + x2.toInt.toNat := by omega
  refine wq_s ⟨?_, k_I0.m0 _, trivial⟩
  by_cases h : x2.toInt = 21
  · exact Or.inr h
  · left
    rw [e]
    exact k_I0.een _ _ (by omega)
set_option maxHeartbeats 4000000 in
theorem tt_fX4_isRead {N : Nat} (hN : 3000000000 ≤ N) (I0 : Nat → Int32) (M0 : Nat → Nat → Int32) (x1 : Int32) (x2 : Int32) (h_x1 : 0 ≤ x1.toInt ∧ x1.toInt ≤ 29) : wq (fX4_isRead N I0 M0 x1 x2) (fun r => (0 ≤ r.toInt ∧ r.toInt ≤ 1) ∧ True) := by
  unfold fX4_isRead
  refine wq_in (n := 30) ⟨by omega, by omega⟩ ?_
  have l_1 := il_1
  refine wq_eq (fun hc_13 => ?_) (fun hc_14 => ?_)
  · exact wq_s ⟨(show 0 ≤ (1 : Int32).toInt ∧ (1 : Int32).toInt ≤ 1 from ⟨by omega, by omega⟩), trivial⟩
  · have l_0 := il_0
    exact wq_s ⟨(show 0 ≤ (0 : Int32).toInt ∧ (0 : Int32).toInt ≤ 1 from ⟨by omega, by omega⟩), trivial⟩
set_option maxHeartbeats 4000000 in
theorem tt_fX4_misreading {N : Nat} (hN : 3000000000 ≤ N) (I0 : Nat → Int32) (M0 : Nat → Nat → Int32) (x1 : Int32) (x2 : Int32) (h_x1 : 0 ≤ x1.toInt ∧ x1.toInt ≤ 389) : wq (fX4_misreading N I0 M0 x1 x2) (fun r => (0 ≤ r.toInt ∧ r.toInt ≤ 9) ∧ True) := by
  unfold fX4_misreading
  have b_135 := i32b x2
  refine wq_eq (fun hc_136 => ?_) (fun hc_137 => ?_)
  · have l_0 := il_0
    exact wq_s ⟨(show 0 ≤ (0 : Int32).toInt ∧ (0 : Int32).toInt ≤ 9 from ⟨by omega, by omega⟩), trivial⟩
  · have l_30 := il_30
    have t_138 := ia_div x1 (30 : Int32) 30 il_30 (by decide) (by omega)
    have t_139 := i32b x2
    have t_140 := ia_div2 x2 (30 : Int32) 30 il_30 (by decide)
    refine wq_eq (fun hc_141 => ?_) (fun hc_142 => ?_)
    · have t_143 := ia_rem x1 (30 : Int32) 30 il_30 (by decide) (by omega)
      have t_144 := ia_rem2 x2 (30 : Int32) 30 il_30 (by decide)
      refine wq_b (tt_fX4_isRead hN I0 M0 (x1 - ((x1 / (30 : Int32)) * (30 : Int32))) (x2 - ((x2 / (30 : Int32)) * (30 : Int32))) ⟨by omega, by omega⟩) (fun r2_q145 h_r2_q145 => ?_)
      obtain ⟨h_r2_q145_0, -⟩ := h_r2_q145
      have l_0 := il_0
      refine wq_eq (fun hc_146 => ?_) (fun hc_147 => ?_)
      · have l_9 := il_9
        exact wq_s ⟨(show 0 ≤ (9 : Int32).toInt ∧ (9 : Int32).toInt ≤ 9 from ⟨by omega, by omega⟩), trivial⟩
      · have l_1 := il_1
        exact wq_s ⟨(show 0 ≤ (1 : Int32).toInt ∧ (1 : Int32).toInt ≤ 9 from ⟨by omega, by omega⟩), trivial⟩
    · have t_148 := ia_rem x1 (30 : Int32) 30 il_30 (by decide) (by omega)
      have t_149 := ia_rem2 x2 (30 : Int32) 30 il_30 (by decide)
      refine wq_eq (fun hc_150 => ?_) (fun hc_151 => ?_)
      · refine wq_b (tt_fX4_isRead hN I0 M0 (x1 / (30 : Int32)) (x2 / (30 : Int32)) ⟨by omega, by omega⟩) (fun r1_q152 h_r1_q152 => ?_)
        obtain ⟨h_r1_q152_0, -⟩ := h_r1_q152
        have l_0 := il_0
        refine wq_eq (fun hc_153 => ?_) (fun hc_154 => ?_)
        · unfold fX4_misreading_J70
          have l_9 := il_9
          exact wq_s ⟨(show 0 ≤ (9 : Int32).toInt ∧ (9 : Int32).toInt ≤ 9 from ⟨by omega, by omega⟩), trivial⟩
        · have l_2 := il_2
          exact wq_s ⟨(show 0 ≤ (2 : Int32).toInt ∧ (2 : Int32).toInt ≤ 9 from ⟨by omega, by omega⟩), trivial⟩
      · unfold fX4_misreading_J70
        have l_9 := il_9
        exact wq_s ⟨(show 0 ≤ (9 : Int32).toInt ∧ (9 : Int32).toInt ≤ 9 from ⟨by omega, by omega⟩), trivial⟩
set_option maxHeartbeats 4000000 in
theorem tt_fX4_costBeside {N : Nat} (hN : 3000000000 ≤ N) (I0 : Nat → Int32) (M0 : Nat → Nat → Int32) (x1 : Int32) (x2 : Int32) (h_x1 : 0 ≤ x1.toInt ∧ x1.toInt ≤ 389) : wq (fX4_costBeside N I0 M0 x1 x2) (fun r => (0 ≤ r.toInt ∧ r.toInt ≤ 9) ∧ True) := by
  unfold fX4_costBeside
  have b_179 := i32b x2
  refine wq_b (tt_fX4_misreading hN I0 M0 x1 x2 ⟨by omega, by omega⟩) (fun r1_q180 h_r1_q180 => ?_)
  obtain ⟨h_r1_q180_0, -⟩ := h_r1_q180
  have l_2 := il_2
  refine wq_eq (fun hc_181 => ?_) (fun hc_182 => ?_)
  · have l_1 := il_1
    exact wq_s ⟨(show 0 ≤ (1 : Int32).toInt ∧ (1 : Int32).toInt ≤ 9 from ⟨by omega, by omega⟩), trivial⟩
  · exact wq_s ⟨(show 0 ≤ r1_q180.toInt ∧ r1_q180.toInt ≤ 9 from ⟨by omega, by omega⟩), trivial⟩
set_option maxHeartbeats 4000000 in
theorem tt_fX0_areOne_L6 {N : Nat} (hN : 3000000000 ≤ N) (I0 : Nat → Int32) (M0 : Nat → Nat → Int32) (I1 : Nat → Int32) (M1 : Nat → Nat → Int32) (x2 : Int32) (x3 : Int32) (x4 : Int32) (h_x2 : 0 ≤ x2.toInt ∧ x2.toInt ≤ 119) (h_x3 : 0 ≤ x3.toInt ∧ x3.toInt ≤ 119) (k_I1 : KX1 I1 M1)  : ∀ (fu : Nat) (y6_5 : Int32) (y6_6 : Int32), (0 ≤ y6_6.toInt ∧ y6_6.toInt ≤ 7) → (7 - y6_6.toInt) < (fu : Int) → wq (fX0_areOne_L6 N I0 M0 I1 M1 x2 x3 x4 fu y6_5 y6_6) (fun r => (0 ≤ r.toInt ∧ r.toInt ≤ 1) ∧ True) := by
  intro fu
  induction fu with
  | zero => intro y6_5 y6_6 h_y6_6 hm; exfalso; omega
  | succ fu ih =>
    intro y6_5 y6_6 h_y6_6 hm
    rw [fX0_areOne_L6.eq_2]
    have l_7 := il_7
    refine wq_le (fun hc_648 => ?_) (fun hc_649 => ?_)
    · have b_650 := i32b y6_5
      have b_651 := i32b x4
      refine wq_lt (fun hc_652 => ?_) (fun hc_653 => ?_)
      · have l_0 := il_0
        exact wq_s ⟨(show 0 ≤ (0 : Int32).toInt ∧ (0 : Int32).toInt ≤ 1 from ⟨by omega, by omega⟩), trivial⟩
      · have l_1 := il_1
        exact wq_s ⟨(show 0 ≤ (1 : Int32).toInt ∧ (1 : Int32).toInt ≤ 1 from ⟨by omega, by omega⟩), trivial⟩
    · refine wq_b (tt_fX1_degreeOf hN I1 M1 x2 y6_6 ⟨by omega, by omega⟩ ⟨by omega, by omega⟩ k_I1) (fun r1_q654 h_r1_q654 => ?_)
      obtain ⟨h_r1_q654_0, h_r1_q654_1, -⟩ := h_r1_q654
      refine wq_b (tt_fX1_degreeOf hN I1 M1 x3 y6_6 ⟨by omega, by omega⟩ ⟨by omega, by omega⟩ k_I1) (fun r2_q655 h_r2_q655 => ?_)
      obtain ⟨h_r2_q655_0, h_r2_q655_1, -⟩ := h_r2_q655
      have l_m1 := il_m1
      refine wq_eq (fun hc_656 => ?_) (fun hc_657 => ?_)
      · have l_1 := il_1
        have t_659 := ia_add y6_6 (1 : Int32) (by omega) (by omega)
        refine wq_v (fun v3_q658 h_v3_q658 => ?_)
        have t_v3_q658 := congrArg Int32.toInt h_v3_q658
        have b_660 := i32b y6_5
        exact ih y6_5 v3_q658 ⟨by omega, by omega⟩ (by omega)
      · refine wq_eq (fun hc_661 => ?_) (fun hc_662 => ?_)
        · have l_1 := il_1
          have t_664 := ia_add y6_6 (1 : Int32) (by omega) (by omega)
          refine wq_v (fun v4_q663 h_v4_q663 => ?_)
          have t_v4_q663 := congrArg Int32.toInt h_v4_q663
          have b_665 := i32b y6_5
          exact ih y6_5 v4_q663 ⟨by omega, by omega⟩ (by omega)
        · refine wq_b (tt_fX4_costBeside hN I0 M0 r1_q654 r2_q655 ⟨by omega, by omega⟩) (fun r5_q666 h_r5_q666 => ?_)
          obtain ⟨h_r5_q666_0, -⟩ := h_r5_q666
          have l_1 := il_1
          refine wq_le (fun hc_667 => ?_) (fun hc_668 => ?_)
          · have b_670 := i32b y6_5
            refine wq_v (fun v6_q669 h_v6_q669 => ?_)
            have t_v6_q669 := congrArg Int32.toInt h_v6_q669
            have t_672 := ia_add y6_6 (1 : Int32) (by omega) (by omega)
            refine wq_v (fun v7_q671 h_v7_q671 => ?_)
            have t_v7_q671 := congrArg Int32.toInt h_v7_q671
            have b_673 := i32b v6_q669
            exact ih v6_q669 v7_q671 ⟨by omega, by omega⟩ (by omega)
          · refine wq_b (tt_fX4_costBeside hN I0 M0 r2_q655 r1_q654 ⟨by omega, by omega⟩) (fun r8_q674 h_r8_q674 => ?_)
            obtain ⟨h_r8_q674_0, -⟩ := h_r8_q674
            refine wq_le (fun hc_675 => ?_) (fun hc_676 => ?_)
            · have b_678 := i32b y6_5
              refine wq_v (fun v9_q677 h_v9_q677 => ?_)
              have t_v9_q677 := congrArg Int32.toInt h_v9_q677
              have t_680 := ia_add y6_6 (1 : Int32) (by omega) (by omega)
              refine wq_v (fun v10_q679 h_v10_q679 => ?_)
              have t_v10_q679 := congrArg Int32.toInt h_v10_q679
              have b_681 := i32b v9_q677
              exact ih v9_q677 v10_q679 ⟨by omega, by omega⟩ (by omega)
            · have l_0 := il_0
              exact wq_s ⟨(show 0 ≤ (0 : Int32).toInt ∧ (0 : Int32).toInt ≤ 1 from ⟨by omega, by omega⟩), trivial⟩
set_option maxHeartbeats 4000000 in
theorem tt_fX0_areOne {N : Nat} (hN : 3000000000 ≤ N) (I0 : Nat → Int32) (M0 : Nat → Nat → Int32) (I1 : Nat → Int32) (M1 : Nat → Nat → Int32) (x2 : Int32) (x3 : Int32) (x4 : Int32) (h_x2 : 0 ≤ x2.toInt ∧ x2.toInt ≤ 119) (h_x3 : 0 ≤ x3.toInt ∧ x3.toInt ≤ 119) (k_I1 : KX1 I1 M1) : wq (fX0_areOne N I0 M0 I1 M1 x2 x3 x4) (fun r => (0 ≤ r.toInt ∧ r.toInt ≤ 1) ∧ True) := by
  unfold fX0_areOne
  have b_682 := i32b x4
  have l_0 := il_0
  exact tt_fX0_areOne_L6 hN I0 M0 I1 M1 x2 x3 x4 ⟨by omega, by omega⟩ ⟨by omega, by omega⟩ k_I1 N (0 : Int32) (0 : Int32) ⟨by omega, by omega⟩ (by omega)
set_option maxHeartbeats 4000000 in
theorem tt_fX0_join_L10 {N : Nat} (hN : 3000000000 ≤ N) (x1 : Int32) (x2 : Int32) (x3 : Int32) (v1 : Int32) (h_x3 : 0 ≤ x3.toInt ∧ x3.toInt ≤ 119)  : ∀ (fu : Nat) (I0_l10 : (Nat → Int32)) (M0_l10 : (Nat → Nat → Int32)) (y10_5 : Int32), (0 ≤ y10_5.toInt ∧ y10_5.toInt ≤ 120) → (120 - y10_5.toInt) < (fu : Int) → wq (fX0_join_L10 N x1 x2 x3 v1 fu I0_l10 M0_l10 y10_5) (fun r => True) := by
  intro fu
  induction fu with
  | zero => intro I0_l10 M0_l10 y10_5 h_y10_5 hm; exfalso; omega
  | succ fu ih =>
    intro I0_l10 M0_l10 y10_5 h_y10_5 hm
    rw [fX0_join_L10.eq_2]
    refine wq_lt (fun hc_893 => ?_) (fun hc_894 => ?_)
    · exact wq_s trivial
    · refine wq_in (n := 120) ⟨by omega, by omega⟩ ?_
      have b_895 := i32b x1
      refine wq_eq (fun hc_896 => ?_) (fun hc_897 => ?_)
      · refine wq_in (n := 120) ⟨by omega, by omega⟩ ?_
        refine wq_v (fun M0_2_q898 h_M0_2_q898 => ?_)
        have l_1 := il_1
        have t_900 := ia_add y10_5 (1 : Int32) (by omega) (by omega)
        refine wq_v (fun v3_q899 h_v3_q899 => ?_)
        have t_v3_q899 := congrArg Int32.toInt h_v3_q899
        exact ih I0_l10 M0_2_q898 v3_q899 ⟨by omega, by omega⟩ (by omega)
      · refine wq_in (n := 120) ⟨by omega, by omega⟩ ?_
        have b_901 := i32b x2
        refine wq_eq (fun hc_902 => ?_) (fun hc_903 => ?_)
        · refine wq_in (n := 120) ⟨by omega, by omega⟩ ?_
          refine wq_v (fun M0_5_q904 h_M0_5_q904 => ?_)
          have l_1 := il_1
          have t_906 := ia_add y10_5 (1 : Int32) (by omega) (by omega)
          refine wq_v (fun v6_q905 h_v6_q905 => ?_)
          have t_v6_q905 := congrArg Int32.toInt h_v6_q905
          exact ih I0_l10 M0_5_q904 v6_q905 ⟨by omega, by omega⟩ (by omega)
        · have l_1 := il_1
          have t_908 := ia_add y10_5 (1 : Int32) (by omega) (by omega)
          refine wq_v (fun v4_q907 h_v4_q907 => ?_)
          have t_v4_q907 := congrArg Int32.toInt h_v4_q907
          exact ih I0_l10 M0_l10 v4_q907 ⟨by omega, by omega⟩ (by omega)
set_option maxHeartbeats 4000000 in
theorem tt_fX0_join {N : Nat} (hN : 3000000000 ≤ N) (I0 : Nat → Int32) (M0 : Nat → Nat → Int32) (x1 : Int32) (x2 : Int32) (x3 : Int32) (h_x3 : 0 ≤ x3.toInt ∧ x3.toInt ≤ 119) : wq (fX0_join N I0 M0 x1 x2 x3) (fun r => True) := by
  unfold fX0_join
  have b_910 := i32b x2
  have b_911 := i32b x1
  have t_912 := ite_lt x2 x1 x2 x1
  refine wq_v (fun v1_q909 h_v1_q909 => ?_)
  have t_v1_q909 := congrArg Int32.toInt h_v1_q909
  have b_913 := i32b v1_q909
  have l_0 := il_0
  exact tt_fX0_join_L10 hN x1 x2 x3 v1_q909 ⟨by omega, by omega⟩ N I0 M0 (0 : Int32) ⟨by omega, by omega⟩ (by omega)
set_option maxHeartbeats 4000000 in
theorem tt_fX0_partBy_L22 {N : Nat} (hN : 3000000000 ≤ N) (I1 : Nat → Int32) (M1 : Nat → Nat → Int32) (I2 : Nat → Int32) (M2 : Nat → Nat → Int32) (x3 : Int32) (y3_4 : Int32) (g3 : (Nat → Int32) → (Nat → Nat → Int32) → Int32 → Option ((Nat → Int32) × (Nat → Nat → Int32))) (h_y3_4 : 0 ≤ y3_4.toInt ∧ y3_4.toInt ≤ 119) (k_I2 : KX1 I2 M2) (hg3 : ∀ (q0 : (Nat → Int32)) (q1 : (Nat → Nat → Int32)) (q2 : Int32), (0 ≤ q2.toInt ∧ q2.toInt ≤ 120) → (y3_4.toInt < q2.toInt) → wq (g3 q0 q1 q2) (fun r => True)) : ∀ (fu : Nat) (I0_l22 : (Nat → Int32)) (M0_l22 : (Nat → Nat → Int32)) (y22_5 : Int32), (0 ≤ y22_5.toInt ∧ y22_5.toInt ≤ 119) → (119 - y22_5.toInt) < (fu : Int) → wq (fX0_partBy_L22 N I1 M1 I2 M2 x3 y3_4 g3 fu I0_l22 M0_l22 y22_5) (fun r => True) := by
  intro fu
  induction fu with
  | zero => intro I0_l22 M0_l22 y22_5 h_y22_5 hm; exfalso; omega
  | succ fu ih =>
    intro I0_l22 M0_l22 y22_5 h_y22_5 hm
    rw [fX0_partBy_L22.eq_2]
    refine wq_le (fun hc_1165 => ?_) (fun hc_1166 => ?_)
    · have l_1 := il_1
      have t_1168 := ia_add y3_4 (1 : Int32) (by omega) (by omega)
      refine wq_v (fun v2_q1167 h_v2_q1167 => ?_)
      have t_v2_q1167 := congrArg Int32.toInt h_v2_q1167
      exact hg3 I0_l22 M0_l22 v2_q1167 ⟨by omega, by omega⟩ (by omega)
    · refine wq_in (n := 120) ⟨by omega, by omega⟩ ?_
      refine wq_in (n := 120) ⟨by omega, by omega⟩ ?_
      refine wq_eq (fun hc_1169 => ?_) (fun hc_1170 => ?_)
      · have l_1 := il_1
        have t_1172 := ia_add y22_5 (1 : Int32) (by omega) (by omega)
        refine wq_v (fun v3_q1171 h_v3_q1171 => ?_)
        have t_v3_q1171 := congrArg Int32.toInt h_v3_q1171
        exact ih I0_l22 M0_l22 v3_q1171 ⟨by omega, by omega⟩ (by omega)
      · have b_1173 := i32b x3
        refine wq_b (tt_fX0_areOne hN I1 M1 I2 M2 y3_4 y22_5 x3 ⟨by omega, by omega⟩ ⟨by omega, by omega⟩ k_I2) (fun r4_q1174 h_r4_q1174 => ?_)
        obtain ⟨h_r4_q1174_0, -⟩ := h_r4_q1174
        have l_0 := il_0
        refine wq_eq (fun hc_1175 => ?_) (fun hc_1176 => ?_)
        · have l_1 := il_1
          have t_1178 := ia_add y22_5 (1 : Int32) (by omega) (by omega)
          refine wq_v (fun v5_q1177 h_v5_q1177 => ?_)
          have t_v5_q1177 := congrArg Int32.toInt h_v5_q1177
          exact ih I0_l22 M0_l22 v5_q1177 ⟨by omega, by omega⟩ (by omega)
        · refine wq_in (n := 120) ⟨by omega, by omega⟩ ?_
          refine wq_in (n := 120) ⟨by omega, by omega⟩ ?_
          refine wq_b (tt_fX0_join hN I0_l22 M0_l22 (M0_l22 0 y3_4.toNatClampNeg) (M0_l22 0 y22_5.toNatClampNeg) y3_4 ⟨by omega, by omega⟩) (fun r6_q1179 h_r6_q1179 => ?_)
          obtain ⟨-⟩ := h_r6_q1179
          have l_1 := il_1
          have t_1181 := ia_add y22_5 (1 : Int32) (by omega) (by omega)
          refine wq_v (fun v7_q1180 h_v7_q1180 => ?_)
          have t_v7_q1180 := congrArg Int32.toInt h_v7_q1180
          exact ih r6_q1179.1 r6_q1179.2 v7_q1180 ⟨by omega, by omega⟩ (by omega)
set_option maxHeartbeats 4000000 in
theorem tt_fX0_partBy_L3 {N : Nat} (hN : 3000000000 ≤ N) (I1 : Nat → Int32) (M1 : Nat → Nat → Int32) (I2 : Nat → Int32) (M2 : Nat → Nat → Int32) (x3 : Int32) (k_I2 : KX1 I2 M2)  : ∀ (fu : Nat) (I0_l3 : (Nat → Int32)) (M0_l3 : (Nat → Nat → Int32)) (y3_4 : Int32), (0 ≤ y3_4.toInt ∧ y3_4.toInt ≤ 120) → (120 - y3_4.toInt) < (fu : Int) → wq (fX0_partBy_L3 N I1 M1 I2 M2 x3 fu I0_l3 M0_l3 y3_4) (fun r => True) := by
  intro fu
  induction fu with
  | zero => intro I0_l3 M0_l3 y3_4 h_y3_4 hm; exfalso; omega
  | succ fu ih =>
    intro I0_l3 M0_l3 y3_4 h_y3_4 hm
    rw [fX0_partBy_L3.eq_2]
    have l_120 := il_120
    refine wq_le (fun hc_1182 => ?_) (fun hc_1183 => ?_)
    · exact wq_s trivial
    · refine wq_in (n := 120) ⟨by omega, by omega⟩ ?_
      refine wq_v (fun M0_1_q1184 h_M0_1_q1184 => ?_)
      have b_1185 := i32b x3
      have l_0 := il_0
      exact tt_fX0_partBy_L22 hN I1 M1 I2 M2 x3 y3_4 _ ⟨by omega, by omega⟩ k_I2 (fun q0 q1 q2 hq0 hq1 => ih q0 q1 q2 hq0 (by omega)) N I0_l3 M0_1_q1184 (0 : Int32) ⟨by omega, by omega⟩ (by omega)
set_option maxHeartbeats 4000000 in
theorem tt_fX0_partBy {N : Nat} (hN : 3000000000 ≤ N) (I0 : Nat → Int32) (M0 : Nat → Nat → Int32) (I1 : Nat → Int32) (M1 : Nat → Nat → Int32) (I2 : Nat → Int32) (M2 : Nat → Nat → Int32) (x3 : Int32) (k_I2 : KX1 I2 M2) : wq (fX0_partBy N I0 M0 I1 M1 I2 M2 x3) (fun r => True) := by
  unfold fX0_partBy
  have b_1186 := i32b x3
  have l_0 := il_0
  exact tt_fX0_partBy_L3 hN I1 M1 I2 M2 x3 k_I2 N I0 M0 (0 : Int32) ⟨by omega, by omega⟩ (by omega)
set_option maxHeartbeats 4000000 in
theorem tt_fX0_leastOf {N : Nat} (hN : 3000000000 ≤ N) (I0 : Nat → Int32) (M0 : Nat → Nat → Int32) (x1 : Int32) (h_x1 : 0 ≤ x1.toInt ∧ x1.toInt ≤ 119) : wq (fX0_leastOf N I0 M0 x1) (fun r => True) := by
  unfold fX0_leastOf
  refine wq_in (n := 120) ⟨by omega, by omega⟩ ?_
  exact wq_s trivial
set_option maxHeartbeats 4000000 in
theorem tt_fX1_tellsSomething_L2 {N : Nat} (hN : 3000000000 ≤ N) (I0 : Nat → Int32) (M0 : Nat → Nat → Int32) (x1 : Int32) (h_x1 : 0 ≤ x1.toInt ∧ x1.toInt ≤ 119) (k_I0 : KX1 I0 M0)  : ∀ (fu : Nat) (y2_2 : Int32), (0 ≤ y2_2.toInt ∧ y2_2.toInt ≤ 22) → (22 - y2_2.toInt) < (fu : Int) → wq (fX1_tellsSomething_L2 N I0 M0 x1 fu y2_2) (fun r => (0 ≤ r.toInt ∧ r.toInt ≤ 1) ∧ True) := by
  intro fu
  induction fu with
  | zero => intro y2_2 h_y2_2 hm; exfalso; omega
  | succ fu ih =>
    intro y2_2 h_y2_2 hm
    rw [fX1_tellsSomething_L2.eq_2]
    have l_22 := il_22
    refine wq_le (fun hc_1264 => ?_) (fun hc_1265 => ?_)
    · have l_0 := il_0
      exact wq_s ⟨(show 0 ≤ (0 : Int32).toInt ∧ (0 : Int32).toInt ≤ 1 from ⟨by omega, by omega⟩), trivial⟩
    · refine wq_b (tt_fX1_degreeOf hN I0 M0 x1 y2_2 ⟨by omega, by omega⟩ ⟨by omega, by omega⟩ k_I0) (fun r1_q1266 h_r1_q1266 => ?_)
      obtain ⟨h_r1_q1266_0, h_r1_q1266_1, -⟩ := h_r1_q1266
      have l_m1 := il_m1
      refine wq_eq (fun hc_1267 => ?_) (fun hc_1268 => ?_)
      · have l_1 := il_1
        have t_1270 := ia_add y2_2 (1 : Int32) (by omega) (by omega)
        refine wq_v (fun v2_q1269 h_v2_q1269 => ?_)
        have t_v2_q1269 := congrArg Int32.toInt h_v2_q1269
        exact ih v2_q1269 ⟨by omega, by omega⟩ (by omega)
      · have l_1 := il_1
        exact wq_s ⟨(show 0 ≤ (1 : Int32).toInt ∧ (1 : Int32).toInt ≤ 1 from ⟨by omega, by omega⟩), trivial⟩
set_option maxHeartbeats 4000000 in
theorem tt_fX1_tellsSomething {N : Nat} (hN : 3000000000 ≤ N) (I0 : Nat → Int32) (M0 : Nat → Nat → Int32) (x1 : Int32) (h_x1 : 0 ≤ x1.toInt ∧ x1.toInt ≤ 119) (k_I0 : KX1 I0 M0) : wq (fX1_tellsSomething N I0 M0 x1) (fun r => (0 ≤ r.toInt ∧ r.toInt ≤ 1) ∧ True) := by
  unfold fX1_tellsSomething
  have l_0 := il_0
  exact tt_fX1_tellsSomething_L2 hN I0 M0 x1 ⟨by omega, by omega⟩ k_I0 N (0 : Int32) ⟨by omega, by omega⟩ (by omega)
set_option maxHeartbeats 4000000 in
theorem tt_fX0_howManyParts_L4 {N : Nat} (hN : 3000000000 ≤ N) (I0 : Nat → Int32) (M0 : Nat → Nat → Int32) (I1 : Nat → Int32) (M1 : Nat → Nat → Int32) (k_I1 : KX1 I1 M1)  : ∀ (fu : Nat) (y4_2 : Int32) (y4_3 : Int32), (0 ≤ y4_3.toInt ∧ y4_3.toInt ≤ 120) → (120 - y4_3.toInt) < (fu : Int) → wq (fX0_howManyParts_L4 N I0 M0 I1 M1 fu y4_2 y4_3) (fun r => True) := by
  intro fu
  induction fu with
  | zero => intro y4_2 y4_3 h_y4_3 hm; exfalso; omega
  | succ fu ih =>
    intro y4_2 y4_3 h_y4_3 hm
    rw [fX0_howManyParts_L4.eq_2]
    have l_120 := il_120
    refine wq_le (fun hc_1509 => ?_) (fun hc_1510 => ?_)
    · have b_1511 := i32b y4_2
      exact wq_s trivial
    · refine wq_in (n := 120) ⟨by omega, by omega⟩ ?_
      refine wq_eq (fun hc_1512 => ?_) (fun hc_1513 => ?_)
      · refine wq_b (tt_fX1_tellsSomething hN I1 M1 y4_3 ⟨by omega, by omega⟩ k_I1) (fun r2_q1514 h_r2_q1514 => ?_)
        obtain ⟨h_r2_q1514_0, -⟩ := h_r2_q1514
        have l_0 := il_0
        refine wq_eq (fun hc_1515 => ?_) (fun hc_1516 => ?_)
        · have l_1 := il_1
          have t_1518 := ia_add y4_3 (1 : Int32) (by omega) (by omega)
          refine wq_v (fun v3_q1517 h_v3_q1517 => ?_)
          have t_v3_q1517 := congrArg Int32.toInt h_v3_q1517
          have b_1519 := i32b y4_2
          exact ih y4_2 v3_q1517 ⟨by omega, by omega⟩ (by omega)
        · have b_1521 := i32b y4_2
          have l_1 := il_1
          refine wq_v (fun v4_q1520 h_v4_q1520 => ?_)
          have t_v4_q1520 := congrArg Int32.toInt h_v4_q1520
          have t_1523 := ia_add y4_3 (1 : Int32) (by omega) (by omega)
          refine wq_v (fun v5_q1522 h_v5_q1522 => ?_)
          have t_v5_q1522 := congrArg Int32.toInt h_v5_q1522
          have b_1524 := i32b v4_q1520
          exact ih v4_q1520 v5_q1522 ⟨by omega, by omega⟩ (by omega)
      · have l_1 := il_1
        have t_1526 := ia_add y4_3 (1 : Int32) (by omega) (by omega)
        refine wq_v (fun v1_q1525 h_v1_q1525 => ?_)
        have t_v1_q1525 := congrArg Int32.toInt h_v1_q1525
        have b_1527 := i32b y4_2
        exact ih y4_2 v1_q1525 ⟨by omega, by omega⟩ (by omega)
set_option maxHeartbeats 4000000 in
theorem tt_fX0_howManyParts {N : Nat} (hN : 3000000000 ≤ N) (I0 : Nat → Int32) (M0 : Nat → Nat → Int32) (I1 : Nat → Int32) (M1 : Nat → Nat → Int32) (k_I1 : KX1 I1 M1) : wq (fX0_howManyParts N I0 M0 I1 M1) (fun r => True) := by
  unfold fX0_howManyParts
  have l_0 := il_0
  exact tt_fX0_howManyParts_L4 hN I0 M0 I1 M1 k_I1 N (0 : Int32) (0 : Int32) ⟨by omega, by omega⟩ (by omega)
theorem tt_fX1_keepDraft {N : Nat} (hN : 3000000000 ≤ N) (I0 : Nat → Int32) (M0 : Nat → Nat → Int32) (x1 : Int32) (h_x1 : 0 ≤ x1.toInt ∧ x1.toInt ≤ 119) (k_I0 : KX1 I0 M0) : wq (fX1_keepDraft N I0 M0 x1) (fun r => KX1 r.1 r.2 ∧ True) := by
  unfold fX1_keepDraft
  have l_22 := il_22
  have l_0 := il_0
  have t1 := ia_mul (22 : Int32) 22 il_22 x1 (by omega) (by omega)
  have tn := tn_of ((22 : Int32) * x1) (by omega)
  have e22 : (22 : Int32).toNatClampNeg = 22 := by decide
  have e0 : (0 : Int32).toNatClampNeg = 0 := by decide
  refine wq_n ?_ ?_
  · intro q
    rw [e22, e0] at q
    rcases q with q | q | q | q | q
    · exact absurd q (by decide)
    · have := Int32.lt_iff_toInt_lt.mp q; omega
    · exact absurd q (by decide)
    · omega
    · omega
  · rw [e22, e0]
    refine wq_v (fun M h => ?_)
    rw [h]
    refine wq_s ⟨?_, trivial⟩
    refine KX1.sf0 k_I0 (fun j => ?_) ?_
    · unfold va_cpy
      by_cases q : ((22 : Int32) * x1).toNatClampNeg ≤ j ∧ j < ((22 : Int32) * x1).toNatClampNeg + 22
      · rw [if_pos q]; exact k_I0.m1 _
      · rw [if_neg q]; exact k_I0.m0 _
    · intro n e he
      unfold va_cpy
      by_cases q : ((22 : Int32) * x1).toNatClampNeg ≤ 22 * n + e ∧ 22 * n + e < ((22 : Int32) * x1).toNatClampNeg + 22
      · rw [if_pos q]
        have e2 : 0 + (22 * n + e - ((22 : Int32) * x1).toNatClampNeg) = e := by omega
        rw [e2]
        exact k_I0.edn e he
      · rw [if_neg q]; exact k_I0.een n e he
theorem fill_rng {f : Nat → Int32} (h : ∀ j : Nat, -1 ≤ (f j).toInt ∧ (f j).toInt ≤ 389) : ∀ j : Nat, -1 ≤ ((fun j => if j < 22 then (-1 : Int32) else f j) j).toInt ∧ ((fun j => if j < 22 then (-1 : Int32) else f j) j).toInt ≤ 389 := by
  intro j
  show -1 ≤ (if j < 22 then (-1 : Int32) else f j).toInt ∧ (if j < 22 then (-1 : Int32) else f j).toInt ≤ 389
  by_cases q : j < 22
  · rw [if_pos q]; exact ⟨by decide, by decide⟩
  · rw [if_neg q]; exact h j
theorem fill_dn {f : Nat → Int32} : DN (fun j => if j < 22 then (-1 : Int32) else f j) := by
  intro e he
  show (if e < 22 then (-1 : Int32) else f e).toInt ≤ 359
  rw [if_pos (by omega : e < 22)]
  decide
theorem tt_fJ7_fill_53178 {N : Nat} (hN : 3000000000 ≤ N) (n0 : Nat) (f0 : Nat → Int32) (x1 : Int32) (hr_0 : n0 ≤ 100000) : wq (fJ7_fill_53178 N n0 f0 x1) (fun r => (r = (fun j => if j < n0 then x1 else f0 j)) ∧ True) := ⟨_, wp_fill N n0 f0 x1 (by omega) (by omega), rfl, trivial⟩
set_option maxHeartbeats 4000000 in
theorem tt_fX9_isAtEnd {N : Nat} (hN : 3000000000 ≤ N) (I0 : Nat → Int32) (M0 : Nat → Nat → Int32) (k_I0 : KX9 I0 M0) : wq (fX9_isAtEnd N I0 M0) (fun r => (0 ≤ r.toInt ∧ r.toInt ≤ 1) ∧ True) := by
  unfold fX9_isAtEnd
  have l_0 := il_0
  refine wq_eq (fun hc_1540 => ?_) (fun hc_1541 => ?_)
  · have l_1 := il_1
    exact wq_s ⟨(show 0 ≤ (1 : Int32).toInt ∧ (1 : Int32).toInt ≤ 1 from ⟨by omega, by omega⟩), trivial⟩
  · exact wq_s ⟨(show 0 ≤ (0 : Int32).toInt ∧ (0 : Int32).toInt ≤ 1 from ⟨by omega, by omega⟩), trivial⟩
theorem zl_all : ∀ i : Nat, i < 19 → (zL i).toInt = ((zLen.getD i 0 : Nat) : Int) ∧ zLen.getD i 0 ≤ 7 := by decide
theorem tt_iw28 {N : Nat} (I0 : Nat → Int32) (M0 : Nat → Nat → Int32) (w1 : Nat) (hw : w1 < 19) (k : KX9 I0 M0) (h : (I0 3).toInt - (I0 2).toInt = (zL w1).toInt) : ∀ (fu : Nat) (y : Int32), (0 ≤ y.toInt ∧ y.toInt ≤ (zL w1).toInt) → (zL w1).toInt - y.toInt < (fu : Int) → wq (fX9_isWord_L28 N I0 M0 w1 fu y) (fun r => (0 ≤ r.toInt ∧ r.toInt ≤ 1) ∧ True) := by
  obtain ⟨z1, z2⟩ := zl_all w1 hw
  intro fu
  induction fu with
  | zero => intro y hy hm; exfalso; omega
  | succ fu ih =>
    intro y hy hm
    rw [fX9_isWord_L28.eq_2]
    have l_1 := il_1
    have l_0 := il_0
    have i2 := k.i2
    have i3 := k.i3
    refine wq_le (fun hc => wq_s ⟨⟨by omega, by omega⟩, trivial⟩) (fun hc => ?_)
    have t1 := ia_add (I0 2) y (by omega) (by omega)
    refine wq_in (n := 600) ⟨by omega, by omega⟩ ?_
    refine wq_in (n := zLen.getD w1 0) ⟨by omega, by omega⟩ ?_
    refine wq_i (fun _ => ?_) (fun _ => wq_s ⟨⟨by omega, by omega⟩, trivial⟩)
    refine wq_v (fun v e => ?_)
    have t6 := (congrArg Int32.toInt e).trans (ia_add y (1 : Int32) (by omega) (by omega))
    exact ih v ⟨by omega, by omega⟩ (by omega)
theorem tt_fX9_isWord {N : Nat} (hN : 3000000000 ≤ N) (I0 : Nat → Int32) (M0 : Nat → Nat → Int32) (w1 : Nat) (k_I0 : KX9 I0 M0) (hr_1 : w1 < 19) : wq (fX9_isWord N I0 M0 w1) (fun r => (0 ≤ r.toInt ∧ r.toInt ≤ 1) ∧ True) := by
  unfold fX9_isWord
  have l_1 := il_1
  have l_0 := il_0
  have i2 := k_I0.i2
  have i3 := k_I0.i3
  obtain ⟨z1, z2⟩ := zl_all w1 (by omega)
  have t := ia_sub (I0 3) (I0 2) (by omega) (by omega)
  refine wq_i (fun _ => ?_) (fun _ => wq_s ⟨⟨by omega, by omega⟩, trivial⟩)
  refine wq_eq (fun hc => ?_) (fun _ => wq_s ⟨⟨by omega, by omega⟩, trivial⟩)
  exact tt_iw28 I0 M0 w1 (by omega) k_I0 (by omega) N (0 : Int32) ⟨by omega, by omega⟩ (by omega)
theorem zn_lt (x : Int32) : zN x < 19 := by
  unfold zN
  repeat (first | (split; decide) | decide)
theorem tt_no2 {N : Nat} (hN : 3000000000 ≤ N) (I0 : Nat → Int32) (M0 : Nat → Nat → Int32) (x1 : Int32) (hx : 0 ≤ x1.toInt ∧ x1.toInt ≤ 9) (k : KX9 I0 M0) : ∀ (fu : Nat) (y : Int32), (0 ≤ y.toInt ∧ y.toInt ≤ x1.toInt) → x1.toInt - y.toInt < (fu : Int) → wq (fX9_namedOf_L2 N I0 M0 x1 fu y) (fun r => (r.toInt < x1.toInt ∨ r.toInt = -1) ∧ (-1 ≤ r.toInt ∧ r.toInt ≤ 8) ∧ True) := by
  intro fu
  induction fu with
  | zero => intro y hy hm; exfalso; omega
  | succ fu ih =>
    intro y hy hm
    rw [fX9_namedOf_L2.eq_2]
    have l_1 := il_1
    have l_m1 := il_m1
    refine wq_le (fun hc => wq_s ⟨by omega, ⟨by omega, by omega⟩, trivial⟩) (fun hc => ?_)
    refine wq_b (tt_fX9_isWord hN I0 M0 (zN y) k (zn_lt y)) (fun r _ => ?_)
    refine wq_i (fun _ => ?_) (fun _ => wq_s ⟨by omega, ⟨by omega, by omega⟩, trivial⟩)
    refine wq_v (fun v e => ?_)
    have t6 := (congrArg Int32.toInt e).trans (ia_add y (1 : Int32) (by omega) (by omega))
    exact ih v ⟨by omega, by omega⟩ (by omega)
theorem tt_fX9_namedOf {N : Nat} (hN : 3000000000 ≤ N) (I0 : Nat → Int32) (M0 : Nat → Nat → Int32) (x1 : Int32) (h_x1 : 0 ≤ x1.toInt ∧ x1.toInt ≤ 9) (k_I0 : KX9 I0 M0) : wq (fX9_namedOf N I0 M0 x1) (fun r => (r.toInt < x1.toInt ∨ r.toInt = -1) ∧ (-1 ≤ r.toInt ∧ r.toInt ≤ 8) ∧ True) := by
  unfold fX9_namedOf
  have l_0 := il_0
  exact tt_no2 hN I0 M0 x1 h_x1 k_I0 N (0 : Int32) ⟨by omega, by omega⟩ (by omega)
set_option maxHeartbeats 4000000 in
theorem tt_fX9_isLetter {N : Nat} (hN : 3000000000 ≤ N) (x0 : Int32)  : wq (fX9_isLetter N x0) (fun r => (0 ≤ r.toInt ∧ r.toInt ≤ 1) ∧ True) := by
  unfold fX9_isLetter
  have b_1572 := i32b x0
  have l_97 := il_97
  refine wq_lt (fun hc_1573 => ?_) (fun hc_1574 => ?_)
  · have l_0 := il_0
    exact wq_s ⟨(show 0 ≤ (0 : Int32).toInt ∧ (0 : Int32).toInt ≤ 1 from ⟨by omega, by omega⟩), trivial⟩
  · have l_122 := il_122
    refine wq_lt (fun hc_1575 => ?_) (fun hc_1576 => ?_)
    · have l_0 := il_0
      exact wq_s ⟨(show 0 ≤ (0 : Int32).toInt ∧ (0 : Int32).toInt ≤ 1 from ⟨by omega, by omega⟩), trivial⟩
    · have l_1 := il_1
      exact wq_s ⟨(show 0 ≤ (1 : Int32).toInt ∧ (1 : Int32).toInt ≤ 1 from ⟨by omega, by omega⟩), trivial⟩
set_option maxHeartbeats 4000000 in
theorem tt_fX9_isDigit {N : Nat} (hN : 3000000000 ≤ N) (x0 : Int32)  : wq (fX9_isDigit N x0) (fun r => (0 ≤ r.toInt ∧ r.toInt ≤ 1) ∧ True) := by
  unfold fX9_isDigit
  have b_1607 := i32b x0
  have l_48 := il_48
  refine wq_lt (fun hc_1608 => ?_) (fun hc_1609 => ?_)
  · have l_0 := il_0
    exact wq_s ⟨(show 0 ≤ (0 : Int32).toInt ∧ (0 : Int32).toInt ≤ 1 from ⟨by omega, by omega⟩), trivial⟩
  · have l_57 := il_57
    refine wq_lt (fun hc_1610 => ?_) (fun hc_1611 => ?_)
    · have l_0 := il_0
      exact wq_s ⟨(show 0 ≤ (0 : Int32).toInt ∧ (0 : Int32).toInt ≤ 1 from ⟨by omega, by omega⟩), trivial⟩
    · have l_1 := il_1
      exact wq_s ⟨(show 0 ≤ (1 : Int32).toInt ∧ (1 : Int32).toInt ≤ 1 from ⟨by omega, by omega⟩), trivial⟩
set_option maxHeartbeats 4000000 in
theorem tt_fX9_isBlank {N : Nat} (hN : 3000000000 ≤ N) (x0 : Int32)  : wq (fX9_isBlank N x0) (fun r => (0 ≤ r.toInt ∧ r.toInt ≤ 1) ∧ True) := by
  unfold fX9_isBlank
  have b_1642 := i32b x0
  have l_32 := il_32
  refine wq_eq (fun hc_1643 => ?_) (fun hc_1644 => ?_)
  · have l_1 := il_1
    exact wq_s ⟨(show 0 ≤ (1 : Int32).toInt ∧ (1 : Int32).toInt ≤ 1 from ⟨by omega, by omega⟩), trivial⟩
  · have l_10 := il_10
    refine wq_eq (fun hc_1645 => ?_) (fun hc_1646 => ?_)
    · have l_1 := il_1
      exact wq_s ⟨(show 0 ≤ (1 : Int32).toInt ∧ (1 : Int32).toInt ≤ 1 from ⟨by omega, by omega⟩), trivial⟩
    · have l_0 := il_0
      exact wq_s ⟨(show 0 ≤ (0 : Int32).toInt ∧ (0 : Int32).toInt ≤ 1 from ⟨by omega, by omega⟩), trivial⟩

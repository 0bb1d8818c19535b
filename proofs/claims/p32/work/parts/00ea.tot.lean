theorem il_m8 : (-8 : Int32).toInt = -8 := by decide
theorem il_m3 : (-3 : Int32).toInt = -3 := by decide
theorem il_m2 : (-2 : Int32).toInt = -2 := by decide
theorem il_m1 : (-1 : Int32).toInt = -1 := by decide
theorem il_0 : (0 : Int32).toInt = 0 := by decide
theorem il_1 : (1 : Int32).toInt = 1 := by decide
theorem il_2 : (2 : Int32).toInt = 2 := by decide
theorem il_3 : (3 : Int32).toInt = 3 := by decide
theorem il_4 : (4 : Int32).toInt = 4 := by decide
theorem il_5 : (5 : Int32).toInt = 5 := by decide
theorem il_6 : (6 : Int32).toInt = 6 := by decide
theorem il_7 : (7 : Int32).toInt = 7 := by decide
theorem il_8 : (8 : Int32).toInt = 8 := by decide
theorem il_9 : (9 : Int32).toInt = 9 := by decide
theorem il_10 : (10 : Int32).toInt = 10 := by decide
theorem il_11 : (11 : Int32).toInt = 11 := by decide
theorem il_12 : (12 : Int32).toInt = 12 := by decide
theorem il_13 : (13 : Int32).toInt = 13 := by decide
theorem il_14 : (14 : Int32).toInt = 14 := by decide
theorem il_15 : (15 : Int32).toInt = 15 := by decide
theorem il_16 : (16 : Int32).toInt = 16 := by decide
theorem il_17 : (17 : Int32).toInt = 17 := by decide
theorem il_19 : (19 : Int32).toInt = 19 := by decide
theorem il_20 : (20 : Int32).toInt = 20 := by decide
theorem il_21 : (21 : Int32).toInt = 21 := by decide
theorem il_22 : (22 : Int32).toInt = 22 := by decide
theorem il_24 : (24 : Int32).toInt = 24 := by decide
theorem il_29 : (29 : Int32).toInt = 29 := by decide
theorem il_30 : (30 : Int32).toInt = 30 := by decide
theorem il_32 : (32 : Int32).toInt = 32 := by decide
theorem il_36 : (36 : Int32).toInt = 36 := by decide
theorem il_48 : (48 : Int32).toInt = 48 := by decide
theorem il_57 : (57 : Int32).toInt = 57 := by decide
theorem il_59 : (59 : Int32).toInt = 59 := by decide
theorem il_60 : (60 : Int32).toInt = 60 := by decide
theorem il_97 : (97 : Int32).toInt = 97 := by decide
theorem il_99 : (99 : Int32).toInt = 99 := by decide
theorem il_100 : (100 : Int32).toInt = 100 := by decide
theorem il_101 : (101 : Int32).toInt = 101 := by decide
theorem il_102 : (102 : Int32).toInt = 102 := by decide
theorem il_103 : (103 : Int32).toInt = 103 := by decide
theorem il_104 : (104 : Int32).toInt = 104 := by decide
theorem il_105 : (105 : Int32).toInt = 105 := by decide
theorem il_106 : (106 : Int32).toInt = 106 := by decide
theorem il_108 : (108 : Int32).toInt = 108 := by decide
theorem il_109 : (109 : Int32).toInt = 109 := by decide
theorem il_110 : (110 : Int32).toInt = 110 := by decide
theorem il_111 : (111 : Int32).toInt = 111 := by decide
theorem il_112 : (112 : Int32).toInt = 112 := by decide
theorem il_114 : (114 : Int32).toInt = 114 := by decide
theorem il_115 : (115 : Int32).toInt = 115 := by decide
theorem il_116 : (116 : Int32).toInt = 116 := by decide
theorem il_117 : (117 : Int32).toInt = 117 := by decide
theorem il_118 : (118 : Int32).toInt = 118 := by decide
theorem il_119 : (119 : Int32).toInt = 119 := by decide
theorem il_120 : (120 : Int32).toInt = 120 := by decide
theorem il_121 : (121 : Int32).toInt = 121 := by decide
theorem il_122 : (122 : Int32).toInt = 122 := by decide
theorem il_180 : (180 : Int32).toInt = 180 := by decide
theorem il_359 : (359 : Int32).toInt = 359 := by decide
theorem il_360 : (360 : Int32).toInt = 360 := by decide
theorem il_365 : (365 : Int32).toInt = 365 := by decide
theorem il_420 : (420 : Int32).toInt = 420 := by decide
theorem il_440 : (440 : Int32).toInt = 440 := by decide
theorem il_580 : (580 : Int32).toInt = 580 := by decide
theorem il_600 : (600 : Int32).toInt = 600 := by decide
theorem il_999 : (999 : Int32).toInt = 999 := by decide
theorem il_1000 : (1000 : Int32).toInt = 1000 := by decide
theorem il_1800 : (1800 : Int32).toInt = 1800 := by decide
theorem il_3600 : (3600 : Int32).toInt = 3600 := by decide
theorem il_10800 : (10800 : Int32).toInt = 10800 := by decide
theorem il_18000 : (18000 : Int32).toInt = 18000 := by decide
theorem il_21599 : (21599 : Int32).toInt = 21599 := by decide
theorem il_50000 : (50000 : Int32).toInt = 50000 := by decide
theorem il_1000000 : (1000000 : Int32).toInt = 1000000 := by decide
theorem il_1620000 : (1620000 : Int32).toInt = 1620000 := by decide
theorem il_2000000 : (2000000 : Int32).toInt = 2000000 := by decide
theorem il_6480000 : (6480000 : Int32).toInt = 6480000 := by decide
theorem il_9999999 : (9999999 : Int32).toInt = 9999999 := by decide
theorem tt_fX1_degreeOf {N : Nat} (hN : 3000000000 ≤ N) (I0 : Nat → Int32) (M0 : Nat → Nat → Int32) (x1 : Int32) (x2 : Int32) (h_x1 : 0 ≤ x1.toInt ∧ x1.toInt ≤ 119) (h_x2 : 0 ≤ x2.toInt ∧ x2.toInt ≤ 21) (k_I0 : KX1 I0 M0) : wq (fX1_degreeOf N I0 M0 x1 x2) (fun r => (r.toInt ≤ 359 ∨ x2.toInt = 21) ∧ (-1 ≤ r.toInt ∧ r.toInt ≤ 389) ∧ True) := by
  unfold fX1_degreeOf
  have l_22 := il_22
  have t1 := ia_mul (22 : Int32) 22 il_22 x1 (by omega) (by omega)
  have t2 := ia_add ((22 : Int32) * x1) x2 (by omega) (by omega)
  refine wq_in (n := 2640) ⟨by omega, by omega⟩ ?_
  have tn := tn_of (((22 : Int32) * x1) + x2) (by omega)
  have e : (((22 : Int32) * x1) + x2).toNatClampNeg = 22 * x1.toInt.toNat + x2.toInt.toNat := by omega
  refine wq_s ⟨?_, k_I0.m0 _, trivial⟩
  by_cases h : x2.toInt = 21
  · exact Or.inr h
  · left
    rw [e]
    exact k_I0.een _ _ (by omega)
set_option maxHeartbeats 4000000 in
theorem tt_fX4_isRead {N : Nat} (hN : 3000000000 ≤ N) (I0 : Nat → Int32) (M0 : Nat → Nat → Int32) (x1 : Int32) (x2 : Int32) (h_x1 : 0 ≤ x1.toInt ∧ x1.toInt ≤ 29) : wq (fX4_isRead N I0 M0 x1 x2) (fun r => (0 ≤ r.toInt ∧ r.toInt ≤ 1) ∧ True) := by
  unfold fX4_isRead
  refine wq_in (n := 30) ⟨by omega, by omega⟩ ?_
  have l_1 := il_1
  refine wq_eq (fun hc_13 => ?_) (fun hc_14 => ?_)
  · exact wq_s ⟨(show 0 ≤ (1 : Int32).toInt ∧ (1 : Int32).toInt ≤ 1 from ⟨by omega, by omega⟩), trivial⟩
  · have l_0 := il_0
    exact wq_s ⟨(show 0 ≤ (0 : Int32).toInt ∧ (0 : Int32).toInt ≤ 1 from ⟨by omega, by omega⟩), trivial⟩
set_option maxHeartbeats 4000000 in
theorem tt_fX4_misreading {N : Nat} (hN : 3000000000 ≤ N) (I0 : Nat → Int32) (M0 : Nat → Nat → Int32) (x1 : Int32) (x2 : Int32) (h_x1 : 0 ≤ x1.toInt ∧ x1.toInt ≤ 389) : wq (fX4_misreading N I0 M0 x1 x2) (fun r => (0 ≤ r.toInt ∧ r.toInt ≤ 9) ∧ True) := by
  unfold fX4_misreading
  have b_135 := i32b x2
  refine wq_eq (fun hc_136 => ?_) (fun hc_137 => ?_)
  · have l_0 := il_0
    exact wq_s ⟨(show 0 ≤ (0 : Int32).toInt ∧ (0 : Int32).toInt ≤ 9 from ⟨by omega, by omega⟩), trivial⟩
  · have l_30 := il_30
    have t_138 := ia_div x1 (30 : Int32) 30 il_30 (by decide) (by omega)
    have t_139 := i32b x2
    have t_140 := ia_div2 x2 (30 : Int32) 30 il_30 (by decide)
    refine wq_eq (fun hc_141 => ?_) (fun hc_142 => ?_)
    · have t_143 := ia_rem x1 (30 : Int32) 30 il_30 (by decide) (by omega)
      have t_144 := ia_rem2 x2 (30 : Int32) 30 il_30 (by decide)
      refine wq_b (tt_fX4_isRead hN I0 M0 (x1 - ((x1 / (30 : Int32)) * (30 : Int32))) (x2 - ((x2 / (30 : Int32)) * (30 : Int32))) ⟨by omega, by omega⟩) (fun r2_q145 h_r2_q145 => ?_)
      obtain ⟨h_r2_q145_0, -⟩ := h_r2_q145
      have l_0 := il_0
      refine wq_eq (fun hc_146 => ?_) (fun hc_147 => ?_)
      · have l_9 := il_9
        exact wq_s ⟨(show 0 ≤ (9 : Int32).toInt ∧ (9 : Int32).toInt ≤ 9 from ⟨by omega, by omega⟩), trivial⟩
      · have l_1 := il_1
        exact wq_s ⟨(show 0 ≤ (1 : Int32).toInt ∧ (1 : Int32).toInt ≤ 9 from ⟨by omega, by omega⟩), trivial⟩
    · have t_148 := ia_rem x1 (30 : Int32) 30 il_30 (by decide) (by omega)
      have t_149 := ia_rem2 x2 (30 : Int32) 30 il_30 (by decide)
      refine wq_eq (fun hc_150 => ?_) (fun hc_151 => ?_)
      · refine wq_b (tt_fX4_isRead hN I0 M0 (x1 / (30 : Int32)) (x2 / (30 : Int32)) ⟨by omega, by omega⟩) (fun r1_q152 h_r1_q152 => ?_)
        obtain ⟨h_r1_q152_0, -⟩ := h_r1_q152
        have l_0 := il_0
        refine wq_eq (fun hc_153 => ?_) (fun hc_154 => ?_)
        · unfold fX4_misreading_J70
          have l_9 := il_9
          exact wq_s ⟨(show 0 ≤ (9 : Int32).toInt ∧ (9 : Int32).toInt ≤ 9 from ⟨by omega, by omega⟩), trivial⟩
        · have l_2 := il_2
          exact wq_s ⟨(show 0 ≤ (2 : Int32).toInt ∧ (2 : Int32).toInt ≤ 9 from ⟨by omega, by omega⟩), trivial⟩
      · unfold fX4_misreading_J70
        have l_9 := il_9
        exact wq_s ⟨(show 0 ≤ (9 : Int32).toInt ∧ (9 : Int32).toInt ≤ 9 from ⟨by omega, by omega⟩), trivial⟩
set_option maxHeartbeats 4000000 in
theorem tt_fX4_costBeside {N : Nat} (hN : 3000000000 ≤ N) (I0 : Nat → Int32) (M0 : Nat → Nat → Int32) (x1 : Int32) (x2 : Int32) (h_x1 : 0 ≤ x1.toInt ∧ x1.toInt ≤ 389) : wq (fX4_costBeside N I0 M0 x1 x2) (fun r => (0 ≤ r.toInt ∧ r.toInt ≤ 9) ∧ True) := by
  unfold fX4_costBeside
  have b_179 := i32b x2
  refine wq_b (tt_fX4_misreading hN I0 M0 x1 x2 ⟨by omega, by omega⟩) (fun r1_q180 h_r1_q180 => ?_)
  obtain ⟨h_r1_q180_0, -⟩ := h_r1_q180
  have l_2 := il_2
  refine wq_eq (fun hc_181 => ?_) (fun hc_182 => ?_)
  · have l_1 := il_1
    exact wq_s ⟨(show 0 ≤ (1 : Int32).toInt ∧ (1 : Int32).toInt ≤ 9 from ⟨by omega, by omega⟩), trivial⟩
  · exact wq_s ⟨(show 0 ≤ r1_q180.toInt ∧ r1_q180.toInt ≤ 9 from ⟨by omega, by omega⟩), trivial⟩
set_option maxHeartbeats 4000000 in
theorem tt_fX0_areOne_L6 {N : Nat} (hN : 3000000000 ≤ N) (I0 : Nat → Int32) (M0 : Nat → Nat → Int32) (I1 : Nat → Int32) (M1 : Nat → Nat → Int32) (x2 : Int32) (x3 : Int32) (x4 : Int32) (h_x2 : 0 ≤ x2.toInt ∧ x2.toInt ≤ 119) (h_x3 : 0 ≤ x3.toInt ∧ x3.toInt ≤ 119) (k_I1 : KX1 I1 M1)  : ∀ (fu : Nat) (y6_5 : Int32) (y6_6 : Int32), (0 ≤ y6_6.toInt ∧ y6_6.toInt ≤ 7) → (7 - y6_6.toInt) < (fu : Int) → wq (fX0_areOne_L6 N I0 M0 I1 M1 x2 x3 x4 fu y6_5 y6_6) (fun r => (0 ≤ r.toInt ∧ r.toInt ≤ 1) ∧ True) := by
  intro fu
  induction fu with
  | zero => intro y6_5 y6_6 h_y6_6 hm; exfalso; omega
  | succ fu ih =>
    intro y6_5 y6_6 h_y6_6 hm
    rw [fX0_areOne_L6.eq_2]
    have l_7 := il_7
    refine wq_le (fun hc_648 => ?_) (fun hc_649 => ?_)
    · have b_650 := i32b y6_5
      have b_651 := i32b x4
      refine wq_lt (fun hc_652 => ?_) (fun hc_653 => ?_)
      · have l_0 := il_0
        exact wq_s ⟨(show 0 ≤ (0 : Int32).toInt ∧ (0 : Int32).toInt ≤ 1 from ⟨by omega, by omega⟩), trivial⟩
      · have l_1 := il_1
        exact wq_s ⟨(show 0 ≤ (1 : Int32).toInt ∧ (1 : Int32).toInt ≤ 1 from ⟨by omega, by omega⟩), trivial⟩
    · refine wq_b (tt_fX1_degreeOf hN I1 M1 x2 y6_6 ⟨by omega, by omega⟩ ⟨by omega, by omega⟩ k_I1) (fun r1_q654 h_r1_q654 => ?_)
      obtain ⟨h_r1_q654_0, h_r1_q654_1, -⟩ := h_r1_q654
      refine wq_b (tt_fX1_degreeOf hN I1 M1 x3 y6_6 ⟨by omega, by omega⟩ ⟨by omega, by omega⟩ k_I1) (fun r2_q655 h_r2_q655 => ?_)
      obtain ⟨h_r2_q655_0, h_r2_q655_1, -⟩ := h_r2_q655
      have l_m1 := il_m1
      refine wq_eq (fun hc_656 => ?_) (fun hc_657 => ?_)
      · have l_1 := il_1
        have t_659 := ia_add y6_6 (1 : Int32) (by omega) (by omega)
        refine wq_v (fun v3_q658 h_v3_q658 => ?_)
        have t_v3_q658 := congrArg Int32.toInt h_v3_q658
        have b_660 := i32b y6_5
        exact ih y6_5 v3_q658 ⟨by omega, by omega⟩ (by omega)
      · refine wq_eq (fun hc_661 => ?_) (fun hc_662 => ?_)
        · have l_1 := il_1
          have t_664 := ia_add y6_6 (1 : Int32) (by omega) (by omega)
          refine wq_v (fun v4_q663 h_v4_q663 => ?_)
          have t_v4_q663 := congrArg Int32.toInt h_v4_q663
          have b_665 := i32b y6_5
          exact ih y6_5 v4_q663 ⟨by omega, by omega⟩ (by omega)
        · refine wq_b (tt_fX4_costBeside hN I0 M0 r1_q654 r2_q655 ⟨by omega, by omega⟩) (fun r5_q666 h_r5_q666 => ?_)
          obtain ⟨h_r5_q666_0, -⟩ := h_r5_q666
          have l_1 := il_1
          refine wq_le (fun hc_667 => ?_) (fun hc_668 => ?_)
          · have b_670 := i32b y6_5
            refine wq_v (fun v6_q669 h_v6_q669 => ?_)
            have t_v6_q669 := congrArg Int32.toInt h_v6_q669
            have t_672 := ia_add y6_6 (1 : Int32) (by omega) (by omega)
            refine wq_v (fun v7_q671 h_v7_q671 => ?_)
            have t_v7_q671 := congrArg Int32.toInt h_v7_q671
            have b_673 := i32b v6_q669
            exact ih v6_q669 v7_q671 ⟨by omega, by omega⟩ (by omega)
          · refine wq_b (tt_fX4_costBeside hN I0 M0 r2_q655 r1_q654 ⟨by omega, by omega⟩) (fun r8_q674 h_r8_q674 => ?_)
            obtain ⟨h_r8_q674_0, -⟩ := h_r8_q674
            refine wq_le (fun hc_675 => ?_) (fun hc_676 => ?_)
            · have b_678 := i32b y6_5
              refine wq_v (fun v9_q677 h_v9_q677 => ?_)
              have t_v9_q677 := congrArg Int32.toInt h_v9_q677
              have t_680 := ia_add y6_6 (1 : Int32) (by omega) (by omega)
              refine wq_v (fun v10_q679 h_v10_q679 => ?_)
              have t_v10_q679 := congrArg Int32.toInt h_v10_q679
              have b_681 := i32b v9_q677
              exact ih v9_q677 v10_q679 ⟨by omega, by omega⟩ (by omega)
            · have l_0 := il_0
              exact wq_s ⟨(show 0 ≤ (0 : Int32).toInt ∧ (0 : Int32).toInt ≤ 1 from ⟨by omega, by omega⟩), trivial⟩
set_option maxHeartbeats 4000000 in
theorem tt_fX0_areOne {N : Nat} (hN : 3000000000 ≤ N) (I0 : Nat → Int32) (M0 : Nat → Nat → Int32) (I1 : Nat → Int32) (M1 : Nat → Nat → Int32) (x2 : Int32) (x3 : Int32) (x4 : Int32) (h_x2 : 0 ≤ x2.toInt ∧ x2.toInt ≤ 119) (h_x3 : 0 ≤ x3.toInt ∧ x3.toInt ≤ 119) (k_I1 : KX1 I1 M1) : wq (fX0_areOne N I0 M0 I1 M1 x2 x3 x4) (fun r => (0 ≤ r.toInt ∧ r.toInt ≤ 1) ∧ True) := by
  unfold fX0_areOne
  have b_682 := i32b x4
  have l_0 := il_0
  exact tt_fX0_areOne_L6 hN I0 M0 I1 M1 x2 x3 x4 ⟨by omega, by omega⟩ ⟨by omega, by omega⟩ k_I1 N (0 : Int32) (0 : Int32) ⟨by omega, by omega⟩ (by omega)
set_option maxHeartbeats 4000000 in
theorem tt_fX0_join_L10 {N : Nat} (hN : 3000000000 ≤ N) (x1 : Int32) (x2 : Int32) (x3 : Int32) (v1 : Int32) (h_x3 : 0 ≤ x3.toInt ∧ x3.toInt ≤ 119)  : ∀ (fu : Nat) (I0_l10 : (Nat → Int32)) (M0_l10 : (Nat → Nat → Int32)) (y10_5 : Int32), (0 ≤ y10_5.toInt ∧ y10_5.toInt ≤ 120) → (120 - y10_5.toInt) < (fu : Int) → wq (fX0_join_L10 N x1 x2 x3 v1 fu I0_l10 M0_l10 y10_5) (fun r => True) := by
  intro fu
  induction fu with
  | zero => intro I0_l10 M0_l10 y10_5 h_y10_5 hm; exfalso; omega
  | succ fu ih =>
    intro I0_l10 M0_l10 y10_5 h_y10_5 hm
    rw [fX0_join_L10.eq_2]
    refine wq_lt (fun hc_893 => ?_) (fun hc_894 => ?_)
    · exact wq_s trivial
    · refine wq_in (n := 120) ⟨by omega, by omega⟩ ?_
      have b_895 := i32b x1
      refine wq_eq (fun hc_896 => ?_) (fun hc_897 => ?_)
      · refine wq_in (n := 120) ⟨by omega, by omega⟩ ?_
        refine wq_v (fun M0_2_q898 h_M0_2_q898 => ?_)
        have l_1 := il_1
        have t_900 := ia_add y10_5 (1 : Int32) (by omega) (by omega)
        refine wq_v (fun v3_q899 h_v3_q899 => ?_)
        have t_v3_q899 := congrArg Int32.toInt h_v3_q899
        exact ih I0_l10 M0_2_q898 v3_q899 ⟨by omega, by omega⟩ (by omega)
      · refine wq_in (n := 120) ⟨by omega, by omega⟩ ?_
        have b_901 := i32b x2
        refine wq_eq (fun hc_902 => ?_) (fun hc_903 => ?_)
        · refine wq_in (n := 120) ⟨by omega, by omega⟩ ?_
          refine wq_v (fun M0_5_q904 h_M0_5_q904 => ?_)
          have l_1 := il_1
          have t_906 := ia_add y10_5 (1 : Int32) (by omega) (by omega)
          refine wq_v (fun v6_q905 h_v6_q905 => ?_)
          have t_v6_q905 := congrArg Int32.toInt h_v6_q905
          exact ih I0_l10 M0_5_q904 v6_q905 ⟨by omega, by omega⟩ (by omega)
        · have l_1 := il_1
          have t_908 := ia_add y10_5 (1 : Int32) (by omega) (by omega)
          refine wq_v (fun v4_q907 h_v4_q907 => ?_)
          have t_v4_q907 := congrArg Int32.toInt h_v4_q907
          exact ih I0_l10 M0_l10 v4_q907 ⟨by omega, by omega⟩ (by omega)
set_option maxHeartbeats 4000000 in
theorem tt_fX0_join {N : Nat} (hN : 3000000000 ≤ N) (I0 : Nat → Int32) (M0 : Nat → Nat → Int32) (x1 : Int32) (x2 : Int32) (x3 : Int32) (h_x3 : 0 ≤ x3.toInt ∧ x3.toInt ≤ 119) : wq (fX0_join N I0 M0 x1 x2 x3) (fun r => True) := by
  unfold fX0_join
  have b_910 := i32b x2
  have b_911 := i32b x1
  have t_912 := ite_lt x2 x1 x2 x1
  refine wq_v (fun v1_q909 h_v1_q909 => ?_)
  have t_v1_q909 := congrArg Int32.toInt h_v1_q909
  have b_913 := i32b v1_q909
  have l_0 := il_0
  exact tt_fX0_join_L10 hN x1 x2 x3 v1_q909 ⟨by omega, by omega⟩ N I0 M0 (0 : Int32) ⟨by omega, by omega⟩ (by omega)
set_option maxHeartbeats 4000000 in
theorem tt_fX0_partBy_L22 {N : Nat} (hN : 3000000000 ≤ N) (I1 : Nat → Int32) (M1 : Nat → Nat → Int32) (I2 : Nat → Int32) (M2 : Nat → Nat → Int32) (x3 : Int32) (y3_4 : Int32) (g3 : (Nat → Int32) → (Nat → Nat → Int32) → Int32 → Option ((Nat → Int32) × (Nat → Nat → Int32))) (h_y3_4 : 0 ≤ y3_4.toInt ∧ y3_4.toInt ≤ 119) (k_I2 : KX1 I2 M2) (hg3 : ∀ (q0 : (Nat → Int32)) (q1 : (Nat → Nat → Int32)) (q2 : Int32), (0 ≤ q2.toInt ∧ q2.toInt ≤ 120) → (y3_4.toInt < q2.toInt) → wq (g3 q0 q1 q2) (fun r => True)) : ∀ (fu : Nat) (I0_l22 : (Nat → Int32)) (M0_l22 : (Nat → Nat → Int32)) (y22_5 : Int32), (0 ≤ y22_5.toInt ∧ y22_5.toInt ≤ 119) → (119 - y22_5.toInt) < (fu : Int) → wq (fX0_partBy_L22 N I1 M1 I2 M2 x3 y3_4 g3 fu I0_l22 M0_l22 y22_5) (fun r => True) := by
  intro fu
  induction fu with
  | zero => intro I0_l22 M0_l22 y22_5 h_y22_5 hm; exfalso; omega
  | succ fu ih =>
    intro I0_l22 M0_l22 y22_5 h_y22_5 hm
    rw [fX0_partBy_L22.eq_2]
    refine wq_le (fun hc_1165 => ?_) (fun hc_1166 => ?_)
    · have l_1 := il_1
      have t_1168 := ia_add y3_4 (1 : Int32) (by omega) (by omega)
      refine wq_v (fun v2_q1167 h_v2_q1167 => ?_)
      have t_v2_q1167 := congrArg Int32.toInt h_v2_q1167
      exact hg3 I0_l22 M0_l22 v2_q1167 ⟨by omega, by omega⟩ (by omega)
    · refine wq_in (n := 120) ⟨by omega, by omega⟩ ?_
      refine wq_in (n := 120) ⟨by omega, by omega⟩ ?_
      refine wq_eq (fun hc_1169 => ?_) (fun hc_1170 => ?_)
      · have l_1 := il_1
        have t_1172 := ia_add y22_5 (1 : Int32) (by omega) (by omega)
        refine wq_v (fun v3_q1171 h_v3_q1171 => ?_)
        have t_v3_q1171 := congrArg Int32.toInt h_v3_q1171
        exact ih I0_l22 M0_l22 v3_q1171 ⟨by omega, by omega⟩ (by omega)
      · have b_1173 := i32b x3
        refine wq_b (tt_fX0_areOne hN I1 M1 I2 M2 y3_4 y22_5 x3 ⟨by omega, by omega⟩ ⟨by omega, by omega⟩ k_I2) (fun r4_q1174 h_r4_q1174 => ?_)
        obtain ⟨h_r4_q1174_0, -⟩ := h_r4_q1174
        have l_0 := il_0
        refine wq_eq (fun hc_1175 => ?_) (fun hc_1176 => ?_)
        · have l_1 := il_1
          have t_1178 := ia_add y22_5 (1 : Int32) (by omega) (by omega)
          refine wq_v (fun v5_q1177 h_v5_q1177 => ?_)
          have t_v5_q1177 := congrArg Int32.toInt h_v5_q1177
          exact ih I0_l22 M0_l22 v5_q1177 ⟨by omega, by omega⟩ (by omega)
        · refine wq_in (n := 120) ⟨by omega, by omega⟩ ?_
          refine wq_in (n := 120) ⟨by omega, by omega⟩ ?_
          refine wq_b (tt_fX0_join hN I0_l22 M0_l22 (M0_l22 0 y3_4.toNatClampNeg) (M0_l22 0 y22_5.toNatClampNeg) y3_4 ⟨by omega, by omega⟩) (fun r6_q1179 h_r6_q1179 => ?_)
          obtain ⟨-⟩ := h_r6_q1179
          have l_1 := il_1
          have t_1181 := ia_add y22_5 (1 : Int32) (by omega) (by omega)
          refine wq_v (fun v7_q1180 h_v7_q1180 => ?_)
          have t_v7_q1180 := congrArg Int32.toInt h_v7_q1180
          exact ih r6_q1179.1 r6_q1179.2 v7_q1180 ⟨by omega, by omega⟩ (by omega)
set_option maxHeartbeats 4000000 in
theorem tt_fX0_partBy_L3 {N : Nat} (hN : 3000000000 ≤ N) (I1 : Nat → Int32) (M1 : Nat → Nat → Int32) (I2 : Nat → Int32) (M2 : Nat → Nat → Int32) (x3 : Int32) (k_I2 : KX1 I2 M2)  : ∀ (fu : Nat) (I0_l3 : (Nat → Int32)) (M0_l3 : (Nat → Nat → Int32)) (y3_4 : Int32), (0 ≤ y3_4.toInt ∧ y3_4.toInt ≤ 120) → (120 - y3_4.toInt) < (fu : Int) → wq (fX0_partBy_L3 N I1 M1 I2 M2 x3 fu I0_l3 M0_l3 y3_4) (fun r => True) := by
  intro fu
  induction fu with
  | zero => intro I0_l3 M0_l3 y3_4 h_y3_4 hm; exfalso; omega
  | succ fu ih =>
    intro I0_l3 M0_l3 y3_4 h_y3_4 hm
    rw [fX0_partBy_L3.eq_2]
    have l_120 := il_120
    refine wq_le (fun hc_1182 => ?_) (fun hc_1183 => ?_)
    · exact wq_s trivial
    · refine wq_in (n := 120) ⟨by omega, by omega⟩ ?_
      refine wq_v (fun M0_1_q1184 h_M0_1_q1184 => ?_)
      have b_1185 := i32b x3
      have l_0 := il_0
      exact tt_fX0_partBy_L22 hN I1 M1 I2 M2 x3 y3_4 _ ⟨by omega, by omega⟩ k_I2 (fun q0 q1 q2 hq0 hq1 => ih q0 q1 q2 hq0 (by omega)) N I0_l3 M0_1_q1184 (0 : Int32) ⟨by omega, by omega⟩ (by omega)
set_option maxHeartbeats 4000000 in
theorem tt_fX0_partBy {N : Nat} (hN : 3000000000 ≤ N) (I0 : Nat → Int32) (M0 : Nat → Nat → Int32) (I1 : Nat → Int32) (M1 : Nat → Nat → Int32) (I2 : Nat → Int32) (M2 : Nat → Nat → Int32) (x3 : Int32) (k_I2 : KX1 I2 M2) : wq (fX0_partBy N I0 M0 I1 M1 I2 M2 x3) (fun r => True) := by
  unfold fX0_partBy
  have b_1186 := i32b x3
  have l_0 := il_0
  exact tt_fX0_partBy_L3 hN I1 M1 I2 M2 x3 k_I2 N I0 M0 (0 : Int32) ⟨by omega, by omega⟩ (by omega)
set_option maxHeartbeats 4000000 in
theorem tt_fX0_leastOf {N : Nat} (hN : 3000000000 ≤ N) (I0 : Nat → Int32) (M0 : Nat → Nat → Int32) (x1 : Int32) (h_x1 : 0 ≤ x1.toInt ∧ x1.toInt ≤ 119) : wq (fX0_leastOf N I0 M0 x1) (fun r => True) := by
  unfold fX0_leastOf
  refine wq_in (n := 120) ⟨by omega, by omega⟩ ?_
  exact wq_s trivial
set_option maxHeartbeats 4000000 in
theorem tt_fX1_tellsSomething_L2 {N : Nat} (hN : 3000000000 ≤ N) (I0 : Nat → Int32) (M0 : Nat → Nat → Int32) (x1 : Int32) (h_x1 : 0 ≤ x1.toInt ∧ x1.toInt ≤ 119) (k_I0 : KX1 I0 M0)  : ∀ (fu : Nat) (y2_2 : Int32), (0 ≤ y2_2.toInt ∧ y2_2.toInt ≤ 22) → (22 - y2_2.toInt) < (fu : Int) → wq (fX1_tellsSomething_L2 N I0 M0 x1 fu y2_2) (fun r => (0 ≤ r.toInt ∧ r.toInt ≤ 1) ∧ True) := by
  intro fu
  induction fu with
  | zero => intro y2_2 h_y2_2 hm; exfalso; omega
  | succ fu ih =>
    intro y2_2 h_y2_2 hm
    rw [fX1_tellsSomething_L2.eq_2]
    have l_22 := il_22
    refine wq_le (fun hc_1264 => ?_) (fun hc_1265 => ?_)
    · have l_0 := il_0
      exact wq_s ⟨(show 0 ≤ (0 : Int32).toInt ∧ (0 : Int32).toInt ≤ 1 from ⟨by omega, by omega⟩), trivial⟩
    · refine wq_b (tt_fX1_degreeOf hN I0 M0 x1 y2_2 ⟨by omega, by omega⟩ ⟨by omega, by omega⟩ k_I0) (fun r1_q1266 h_r1_q1266 => ?_)
      obtain ⟨h_r1_q1266_0, h_r1_q1266_1, -⟩ := h_r1_q1266
      have l_m1 := il_m1
      refine wq_eq (fun hc_1267 => ?_) (fun hc_1268 => ?_)
      · have l_1 := il_1
        have t_1270 := ia_add y2_2 (1 : Int32) (by omega) (by omega)
        refine wq_v (fun v2_q1269 h_v2_q1269 => ?_)
        have t_v2_q1269 := congrArg Int32.toInt h_v2_q1269
        exact ih v2_q1269 ⟨by omega, by omega⟩ (by omega)
      · have l_1 := il_1
        exact wq_s ⟨(show 0 ≤ (1 : Int32).toInt ∧ (1 : Int32).toInt ≤ 1 from ⟨by omega, by omega⟩), trivial⟩
set_option maxHeartbeats 4000000 in
theorem tt_fX1_tellsSomething {N : Nat} (hN : 3000000000 ≤ N) (I0 : Nat → Int32) (M0 : Nat → Nat → Int32) (x1 : Int32) (h_x1 : 0 ≤ x1.toInt ∧ x1.toInt ≤ 119) (k_I0 : KX1 I0 M0) : wq (fX1_tellsSomething N I0 M0 x1) (fun r => (0 ≤ r.toInt ∧ r.toInt ≤ 1) ∧ True) := by
  unfold fX1_tellsSomething
  have l_0 := il_0
  exact tt_fX1_tellsSomething_L2 hN I0 M0 x1 ⟨by omega, by omega⟩ k_I0 N (0 : Int32) ⟨by omega, by omega⟩ (by omega)
set_option maxHeartbeats 4000000 in
theorem tt_fX0_howManyParts_L4 {N : Nat} (hN : 3000000000 ≤ N) (I0 : Nat → Int32) (M0 : Nat → Nat → Int32) (I1 : Nat → Int32) (M1 : Nat → Nat → Int32) (k_I1 : KX1 I1 M1)  : ∀ (fu : Nat) (y4_2 : Int32) (y4_3 : Int32), (0 ≤ y4_3.toInt ∧ y4_3.toInt ≤ 120) → (120 - y4_3.toInt) < (fu : Int) → wq (fX0_howManyParts_L4 N I0 M0 I1 M1 fu y4_2 y4_3) (fun r => True) := by
  intro fu
  induction fu with
  | zero => intro y4_2 y4_3 h_y4_3 hm; exfalso; omega
  | succ fu ih =>
    intro y4_2 y4_3 h_y4_3 hm
    rw [fX0_howManyParts_L4.eq_2]
    have l_120 := il_120
    refine wq_le (fun hc_1509 => ?_) (fun hc_1510 => ?_)
    · have b_1511 := i32b y4_2
      exact wq_s trivial
    · refine wq_in (n := 120) ⟨by omega, by omega⟩ ?_
      refine wq_eq (fun hc_1512 => ?_) (fun hc_1513 => ?_)
      · refine wq_b (tt_fX1_tellsSomething hN I1 M1 y4_3 ⟨by omega, by omega⟩ k_I1) (fun r2_q1514 h_r2_q1514 => ?_)
        obtain ⟨h_r2_q1514_0, -⟩ := h_r2_q1514
        have l_0 := il_0
        refine wq_eq (fun hc_1515 => ?_) (fun hc_1516 => ?_)
        · have l_1 := il_1
          have t_1518 := ia_add y4_3 (1 : Int32) (by omega) (by omega)
          refine wq_v (fun v3_q1517 h_v3_q1517 => ?_)
          have t_v3_q1517 := congrArg Int32.toInt h_v3_q1517
          have b_1519 := i32b y4_2
          exact ih y4_2 v3_q1517 ⟨by omega, by omega⟩ (by omega)
        · have b_1521 := i32b y4_2
          have l_1 := il_1
          refine wq_v (fun v4_q1520 h_v4_q1520 => ?_)
          have t_v4_q1520 := congrArg Int32.toInt h_v4_q1520
          have t_1523 := ia_add y4_3 (1 : Int32) (by omega) (by omega)
          refine wq_v (fun v5_q1522 h_v5_q1522 => ?_)
          have t_v5_q1522 := congrArg Int32.toInt h_v5_q1522
          have b_1524 := i32b v4_q1520
          exact ih v4_q1520 v5_q1522 ⟨by omega, by omega⟩ (by omega)
      · have l_1 := il_1
        have t_1526 := ia_add y4_3 (1 : Int32) (by omega) (by omega)
        refine wq_v (fun v1_q1525 h_v1_q1525 => ?_)
        have t_v1_q1525 := congrArg Int32.toInt h_v1_q1525
        have b_1527 := i32b y4_2
        exact ih y4_2 v1_q1525 ⟨by omega, by omega⟩ (by omega)
set_option maxHeartbeats 4000000 in
theorem tt_fX0_howManyParts {N : Nat} (hN : 3000000000 ≤ N) (I0 : Nat → Int32) (M0 : Nat → Nat → Int32) (I1 : Nat → Int32) (M1 : Nat → Nat → Int32) (k_I1 : KX1 I1 M1) : wq (fX0_howManyParts N I0 M0 I1 M1) (fun r => True) := by
  unfold fX0_howManyParts
  have l_0 := il_0
  exact tt_fX0_howManyParts_L4 hN I0 M0 I1 M1 k_I1 N (0 : Int32) (0 : Int32) ⟨by omega, by omega⟩ (by omega)
theorem tt_fX1_keepDraft {N : Nat} (hN : 3000000000 ≤ N) (I0 : Nat → Int32) (M0 : Nat → Nat → Int32) (x1 : Int32) (h_x1 : 0 ≤ x1.toInt ∧ x1.toInt ≤ 119) (k_I0 : KX1 I0 M0) : wq (fX1_keepDraft N I0 M0 x1) (fun r => KX1 r.1 r.2 ∧ True) := by
  unfold fX1_keepDraft
  have l_22 := il_22
  have l_0 := il_0
  have t1 := ia_mul (22 : Int32) 22 il_22 x1 (by omega) (by omega)
  have tn := tn_of ((22 : Int32) * x1) (by omega)
  have e22 : (22 : Int32).toNatClampNeg = 22 := by decide
  have e0 : (0 : Int32).toNatClampNeg = 0 := by decide
  refine wq_n ?_ ?_
  · intro q
    rw [e22, e0] at q
    rcases q with q | q | q | q | q
    · exact absurd q (by decide)
    · have := Int32.lt_iff_toInt_lt.mp q; omega
    · exact absurd q (by decide)
    · omega
    · omega
  · rw [e22, e0]
    refine wq_v (fun M h => ?_)
    rw [h]
    refine wq_s ⟨?_, trivial⟩
    refine KX1.sf0 k_I0 (fun j => ?_) ?_
    · unfold va_cpy
      by_cases q : ((22 : Int32) * x1).toNatClampNeg ≤ j ∧ j < ((22 : Int32) * x1).toNatClampNeg + 22
      · rw [if_pos q]; exact k_I0.m1 _
      · rw [if_neg q]; exact k_I0.m0 _
    · intro n e he
      unfold va_cpy
      by_cases q : ((22 : Int32) * x1).toNatClampNeg ≤ 22 * n + e ∧ 22 * n + e < ((22 : Int32) * x1).toNatClampNeg + 22
      · rw [if_pos q]
        have e2 : 0 + (22 * n + e - ((22 : Int32) * x1).toNatClampNeg) = e := by omega
        rw [e2]
        exact k_I0.edn e he
      · rw [if_neg q]; exact k_I0.een n e he
theorem fill_rng {f : Nat → Int32} (h : ∀ j : Nat, -1 ≤ (f j).toInt ∧ (f j).toInt ≤ 389) : ∀ j : Nat, -1 ≤ ((fun j => if j < 22 then (-1 : Int32) else f j) j).toInt ∧ ((fun j => if j < 22 then (-1 : Int32) else f j) j).toInt ≤ 389 := by
  intro j
  show -1 ≤ (if j < 22 then (-1 : Int32) else f j).toInt ∧ (if j < 22 then (-1 : Int32) else f j).toInt ≤ 389
  by_cases q : j < 22
  · rw [if_pos q]; exact ⟨by decide, by decide⟩
  · rw [if_neg q]; exact h j
theorem fill_dn {f : Nat → Int32} : DN (fun j => if j < 22 then (-1 : Int32) else f j) := by
  intro e he
  show (if e < 22 then (-1 : Int32) else f e).toInt ≤ 359
  rw [if_pos (by omega : e < 22)]
  decide
theorem tt_fJ7_fill_53178 {N : Nat} (hN : 3000000000 ≤ N) (n0 : Nat) (f0 : Nat → Int32) (x1 : Int32) (hr_0 : n0 ≤ 100000) : wq (fJ7_fill_53178 N n0 f0 x1) (fun r => (r = (fun j => if j < n0 then x1 else f0 j)) ∧ True) := ⟨_, wp_fill N n0 f0 x1 (by omega) (by omega), rfl, trivial⟩
set_option maxHeartbeats 4000000 in
theorem tt_fX9_isAtEnd {N : Nat} (hN : 3000000000 ≤ N) (I0 : Nat → Int32) (M0 : Nat → Nat → Int32) (k_I0 : KX9 I0 M0) : wq (fX9_isAtEnd N I0 M0) (fun r => (0 ≤ r.toInt ∧ r.toInt ≤ 1) ∧ True) := by
  unfold fX9_isAtEnd
  have l_0 := il_0
  refine wq_eq (fun hc_1540 => ?_) (fun hc_1541 => ?_)
  · have l_1 := il_1
    exact wq_s ⟨(show 0 ≤ (1 : Int32).toInt ∧ (1 : Int32).toInt ≤ 1 from ⟨by omega, by omega⟩), trivial⟩
  · exact wq_s ⟨(show 0 ≤ (0 : Int32).toInt ∧ (0 : Int32).toInt ≤ 1 from ⟨by omega, by omega⟩), trivial⟩
theorem zl_all : ∀ i : Nat, i < 19 → (zL i).toInt = ((zLen.getD i 0 : Nat) : Int) ∧ zLen.getD i 0 ≤ 7 := by decide
theorem tt_iw28 {N : Nat} (I0 : Nat → Int32) (M0 : Nat → Nat → Int32) (w1 : Nat) (hw : w1 < 19) (k : KX9 I0 M0) (h : (I0 3).toInt - (I0 2).toInt = (zL w1).toInt) : ∀ (fu : Nat) (y : Int32), (0 ≤ y.toInt ∧ y.toInt ≤ (zL w1).toInt) → (zL w1).toInt - y.toInt < (fu : Int) → wq (fX9_isWord_L28 N I0 M0 w1 fu y) (fun r => (0 ≤ r.toInt ∧ r.toInt ≤ 1) ∧ True) := by
  obtain ⟨z1, z2⟩ := zl_all w1 hw
  intro fu
  induction fu with
  | zero => intro y hy hm; exfalso; omega
  | succ fu ih =>
    intro y hy hm
    rw [fX9_isWord_L28.eq_2]
    have l_1 := il_1
    have l_0 := il_0
    have i2 := k.i2
    have i3 := k.i3
    refine wq_le (fun hc => wq_s ⟨⟨by omega, by omega⟩, trivial⟩) (fun hc => ?_)
    have t1 := ia_add (I0 2) y (by omega) (by omega)
    refine wq_in (n := 600) ⟨by omega, by omega⟩ ?_
    refine wq_in (n := zLen.getD w1 0) ⟨by omega, by omega⟩ ?_
    refine wq_i (fun _ => ?_) (fun _ => wq_s ⟨⟨by omega, by omega⟩, trivial⟩)
    refine wq_v (fun v e => ?_)
    have t6 := (congrArg Int32.toInt e).trans (ia_add y (1 : Int32) (by omega) (by omega))
    exact ih v ⟨by omega, by omega⟩ (by omega)
theorem tt_fX9_isWord {N : Nat} (hN : 3000000000 ≤ N) (I0 : Nat → Int32) (M0 : Nat → Nat → Int32) (w1 : Nat) (k_I0 : KX9 I0 M0) (hr_1 : w1 < 19) : wq (fX9_isWord N I0 M0 w1) (fun r => (0 ≤ r.toInt ∧ r.toInt ≤ 1) ∧ True) := by
  unfold fX9_isWord
  have l_1 := il_1
  have l_0 := il_0
  have i2 := k_I0.i2
  have i3 := k_I0.i3
  obtain ⟨z1, z2⟩ := zl_all w1 (by omega)
  have t := ia_sub (I0 3) (I0 2) (by omega) (by omega)
  refine wq_i (fun _ => ?_) (fun _ => wq_s ⟨⟨by omega, by omega⟩, trivial⟩)
  refine wq_eq (fun hc => ?_) (fun _ => wq_s ⟨⟨by omega, by omega⟩, trivial⟩)
  exact tt_iw28 I0 M0 w1 (by omega) k_I0 (by omega) N (0 : Int32) ⟨by omega, by omega⟩ (by omega)
theorem zn_lt (x : Int32) : zN x < 19 := by
  unfold zN
  repeat (first | (split; decide) | decide)
theorem tt_no2 {N : Nat} (hN : 3000000000 ≤ N) (I0 : Nat → Int32) (M0 : Nat → Nat → Int32) (x1 : Int32) (hx : 0 ≤ x1.toInt ∧ x1.toInt ≤ 9) (k : KX9 I0 M0) : ∀ (fu : Nat) (y : Int32), (0 ≤ y.toInt ∧ y.toInt ≤ x1.toInt) → x1.toInt - y.toInt < (fu : Int) → wq (fX9_namedOf_L2 N I0 M0 x1 fu y) (fun r => (r.toInt < x1.toInt ∨ r.toInt = -1) ∧ (-1 ≤ r.toInt ∧ r.toInt ≤ 8) ∧ True) := by
  intro fu
  induction fu with
  | zero => intro y hy hm; exfalso; omega
  | succ fu ih =>
    intro y hy hm
    rw [fX9_namedOf_L2.eq_2]
    have l_1 := il_1
    have l_m1 := il_m1
    refine wq_le (fun hc => wq_s ⟨by omega, ⟨by omega, by omega⟩, trivial⟩) (fun hc => ?_)
    refine wq_b (tt_fX9_isWord hN I0 M0 (zN y) k (zn_lt y)) (fun r _ => ?_)
    refine wq_i (fun _ => ?_) (fun _ => wq_s ⟨by omega, ⟨by omega, by omega⟩, trivial⟩)
    refine wq_v (fun v e => ?_)
    have t6 := (congrArg Int32.toInt e).trans (ia_add y (1 : Int32) (by omega) (by omega))
    exact ih v ⟨by omega, by omega⟩ (by omega)
theorem tt_fX9_namedOf {N : Nat} (hN : 3000000000 ≤ N) (I0 : Nat → Int32) (M0 : Nat → Nat → Int32) (x1 : Int32) (h_x1 : 0 ≤ x1.toInt ∧ x1.toInt ≤ 9) (k_I0 : KX9 I0 M0) : wq (fX9_namedOf N I0 M0 x1) (fun r => (r.toInt < x1.toInt ∨ r.toInt = -1) ∧ (-1 ≤ r.toInt ∧ r.toInt ≤ 8) ∧ True) := by
  unfold fX9_namedOf
  have l_0 := il_0
  exact tt_no2 hN I0 M0 x1 h_x1 k_I0 N (0 : Int32) ⟨by omega, by omega⟩ (by omega)
set_option maxHeartbeats 4000000 in
theorem tt_fX9_isLetter {N : Nat} (hN : 3000000000 ≤ N) (x0 : Int32)  : wq (fX9_isLetter N x0) (fun r => (0 ≤ r.toInt ∧ r.toInt ≤ 1) ∧ True) := by
  unfold fX9_isLetter
  have b_1572 := i32b x0
  have l_97 := il_97
  refine wq_lt (fun hc_1573 => ?_) (fun hc_1574 => ?_)
  · have l_0 := il_0
    exact wq_s ⟨(show 0 ≤ (0 : Int32).toInt ∧ (0 : Int32).toInt ≤ 1 from ⟨by omega, by omega⟩), trivial⟩
  · have l_122 := il_122
    refine wq_lt (fun hc_1575 => ?_) (fun hc_1576 => ?_)
    · have l_0 := il_0
      exact wq_s ⟨(show 0 ≤ (0 : Int32).toInt ∧ (0 : Int32).toInt ≤ 1 from ⟨by omega, by omega⟩), trivial⟩
    · have l_1 := il_1
      exact wq_s ⟨(show 0 ≤ (1 : Int32).toInt ∧ (1 : Int32).toInt ≤ 1 from ⟨by omega, by omega⟩), trivial⟩
set_option maxHeartbeats 4000000 in
theorem tt_fX9_isDigit {N : Nat} (hN : 3000000000 ≤ N) (x0 : Int32)  : wq (fX9_isDigit N x0) (fun r => (0 ≤ r.toInt ∧ r.toInt ≤ 1) ∧ True) := by
  unfold fX9_isDigit
  have b_1607 := i32b x0
  have l_48 := il_48
  refine wq_lt (fun hc_1608 => ?_) (fun hc_1609 => ?_)
  · have l_0 := il_0
    exact wq_s ⟨(show 0 ≤ (0 : Int32).toInt ∧ (0 : Int32).toInt ≤ 1 from ⟨by omega, by omega⟩), trivial⟩
  · have l_57 := il_57
    refine wq_lt (fun hc_1610 => ?_) (fun hc_1611 => ?_)
    · have l_0 := il_0
      exact wq_s ⟨(show 0 ≤ (0 : Int32).toInt ∧ (0 : Int32).toInt ≤ 1 from ⟨by omega, by omega⟩), trivial⟩
    · have l_1 := il_1
      exact wq_s ⟨(show 0 ≤ (1 : Int32).toInt ∧ (1 : Int32).toInt ≤ 1 from ⟨by omega, by omega⟩), trivial⟩
set_option maxHeartbeats 4000000 in
theorem tt_fX9_isBlank {N : Nat} (hN : 3000000000 ≤ N) (x0 : Int32)  : wq (fX9_isBlank N x0) (fun r => (0 ≤ r.toInt ∧ r.toInt ≤ 1) ∧ True) := by
  unfold fX9_isBlank
  have b_1642 := i32b x0
  have l_32 := il_32
  refine wq_eq (fun hc_1643 => ?_) (fun hc_1644 => ?_)
  · have l_1 := il_1
    exact wq_s ⟨(show 0 ≤ (1 : Int32).toInt ∧ (1 : Int32).toInt ≤ 1 from ⟨by omega, by omega⟩), trivial⟩
  · have l_10 := il_10
    refine wq_eq (fun hc_1645 => ?_) (fun hc_1646 => ?_)
    · have l_1 := il_1
      exact wq_s ⟨(show 0 ≤ (1 : Int32).toInt ∧ (1 : Int32).toInt ≤ 1 from ⟨by omega, by omega⟩), trivial⟩
    · have l_0 := il_0
      exact wq_s ⟨(show 0 ≤ (0 : Int32).toInt ∧ (0 : Int32).toInt ≤ 1 from ⟨by omega, by omega⟩), trivial⟩
set_option maxHeartbeats 4000000 in
theorem tt_fX9_step_L150 {N : Nat} (hN : 3000000000 ≤ N)    : ∀ (fu : Nat) (I0_l150 : (Nat → Int32)) (M0_l150 : (Nat → Nat → Int32)), (KX9 I0_l150 M0_l150) → (600 - (I0_l150 3).toInt) < (fu : Int) → wq (fX9_step_L150 N fu I0_l150 M0_l150) (fun r => KX9 r.1 r.2 ∧ True) := by
  intro fu
  induction fu with
  | zero => intro I0_l150 M0_l150 k_I0_l150 hm; have hz0 := KX9.i3 k_I0_l150; exfalso; omega
  | succ fu ih =>
    intro I0_l150 M0_l150 k_I0_l150 hm
    rw [fX9_step_L150.eq_2]
    have t_2322 := KX9.i1 k_I0_l150
    have t_2323 := KX9.i3 k_I0_l150
    refine wq_le (fun hc_2324 => ?_) (fun hc_2325 => ?_)
    · exact wq_s ⟨k_I0_l150, trivial⟩
    · refine wq_in (n := 600) ⟨by omega, by omega⟩ ?_
      refine wq_b (tt_fX9_isDigit hN (M0_l150 0 (I0_l150 3).toNatClampNeg)) (fun r10_q2326 h_r10_q2326 => ?_)
      obtain ⟨h_r10_q2326_0, -⟩ := h_r10_q2326
      have l_0 := il_0
      refine wq_eq (fun hc_2327 => ?_) (fun hc_2328 => ?_)
      · exact wq_s ⟨k_I0_l150, trivial⟩
      · have l_7 := il_7
        have t_2329 := KX9.i2 k_I0_l150
        have t_2330 := ia_sub (I0_l150 3) (I0_l150 2) (by omega) (by omega)
        refine wq_le (fun hc_2331 => ?_) (fun hc_2332 => ?_)
        · unfold fX9_step_J218
          refine wq_v (fun I0_8_q2333 h_I0_8_q2333 => ?_)
          have k_I0_8_q2333 : KX9 I0_8_q2333 M0_l150 := by rw [h_I0_8_q2333]; exact KX9.si5 k_I0_l150
          have tr_2334 : (I0_8_q2333 1).toInt = (I0_l150 1).toInt := by rw [h_I0_8_q2333]; rfl
          have tr_2335 : (I0_8_q2333 3).toInt = (I0_l150 3).toInt := by rw [h_I0_8_q2333]; rfl
          refine wq_v (fun I0_9_q2336 h_I0_9_q2336 => ?_)
          have t_2337 : (I0_8_q2333 3).toInt = (I0_l150 3).toInt := by rw [h_I0_8_q2333]; rfl
          have l_1 := il_1
          have t_2338 := ia_add (I0_8_q2333 3) (1 : Int32) (by omega) (by omega)
          have k_I0_9_q2336 : KX9 I0_9_q2336 M0_l150 := by rw [h_I0_9_q2336]; exact KX9.si3 k_I0_8_q2333 ⟨by omega, by omega⟩
          have tr_2339 : (I0_9_q2336 1).toInt = (I0_8_q2333 1).toInt := by rw [h_I0_9_q2336]; rfl
          have tr_2340 : (I0_9_q2336 3).toInt = ((I0_8_q2333 3) + (1 : Int32)).toInt := by rw [h_I0_9_q2336]; rfl
          have t_2341 := KX9.i3 k_I0_9_q2336
          exact ih I0_9_q2336 M0_l150 k_I0_9_q2336 (by omega)
        · refine wq_in (n := 600) ⟨by omega, by omega⟩ ?_
          unfold fX9_step_J218
          refine wq_v (fun I0_8_q2342 h_I0_8_q2342 => ?_)
          have k_I0_8_q2342 : KX9 I0_8_q2342 M0_l150 := by rw [h_I0_8_q2342]; exact KX9.si5 k_I0_l150
          have tr_2343 : (I0_8_q2342 1).toInt = (I0_l150 1).toInt := by rw [h_I0_8_q2342]; rfl
          have tr_2344 : (I0_8_q2342 3).toInt = (I0_l150 3).toInt := by rw [h_I0_8_q2342]; rfl
          refine wq_v (fun I0_9_q2345 h_I0_9_q2345 => ?_)
          have t_2346 : (I0_8_q2342 3).toInt = (I0_l150 3).toInt := by rw [h_I0_8_q2342]; rfl
          have l_1 := il_1
          have t_2347 := ia_add (I0_8_q2342 3) (1 : Int32) (by omega) (by omega)
          have k_I0_9_q2345 : KX9 I0_9_q2345 M0_l150 := by rw [h_I0_9_q2345]; exact KX9.si3 k_I0_8_q2342 ⟨by omega, by omega⟩
          have tr_2348 : (I0_9_q2345 1).toInt = (I0_8_q2342 1).toInt := by rw [h_I0_9_q2345]; rfl
          have tr_2349 : (I0_9_q2345 3).toInt = ((I0_8_q2342 3) + (1 : Int32)).toInt := by rw [h_I0_9_q2345]; rfl
          have t_2350 := KX9.i3 k_I0_9_q2345
          exact ih I0_9_q2345 M0_l150 k_I0_9_q2345 (by omega)
set_option maxHeartbeats 4000000 in
theorem tt_fX9_step_L86 {N : Nat} (hN : 3000000000 ≤ N)    : ∀ (fu : Nat) (I0_l86 : (Nat → Int32)) (M0_l86 : (Nat → Nat → Int32)), (KX9 I0_l86 M0_l86) → (600 - (I0_l86 3).toInt) < (fu : Int) → wq (fX9_step_L86 N fu I0_l86 M0_l86) (fun r => KX9 r.1 r.2 ∧ True) := by
  intro fu
  induction fu with
  | zero => intro I0_l86 M0_l86 k_I0_l86 hm; have hz0 := KX9.i3 k_I0_l86; exfalso; omega
  | succ fu ih =>
    intro I0_l86 M0_l86 k_I0_l86 hm
    rw [fX9_step_L86.eq_2]
    have t_2351 := KX9.i1 k_I0_l86
    have t_2352 := KX9.i3 k_I0_l86
    refine wq_le (fun hc_2353 => ?_) (fun hc_2354 => ?_)
    · exact wq_s ⟨k_I0_l86, trivial⟩
    · refine wq_in (n := 600) ⟨by omega, by omega⟩ ?_
      refine wq_b (tt_fX9_isLetter hN (M0_l86 0 (I0_l86 3).toNatClampNeg)) (fun r12_q2355 h_r12_q2355 => ?_)
      obtain ⟨h_r12_q2355_0, -⟩ := h_r12_q2355
      have l_0 := il_0
      refine wq_eq (fun hc_2356 => ?_) (fun hc_2357 => ?_)
      · exact wq_s ⟨k_I0_l86, trivial⟩
      · refine wq_v (fun I0_13_q2358 h_I0_13_q2358 => ?_)
        have l_1 := il_1
        have t_2359 := ia_add (I0_l86 3) (1 : Int32) (by omega) (by omega)
        have k_I0_13_q2358 : KX9 I0_13_q2358 M0_l86 := by rw [h_I0_13_q2358]; exact KX9.si3 k_I0_l86 ⟨by omega, by omega⟩
        have tr_2360 : (I0_13_q2358 1).toInt = (I0_l86 1).toInt := by rw [h_I0_13_q2358]; rfl
        have tr_2361 : (I0_13_q2358 3).toInt = ((I0_l86 3) + (1 : Int32)).toInt := by rw [h_I0_13_q2358]; rfl
        have t_2362 := KX9.i3 k_I0_13_q2358
        exact ih I0_13_q2358 M0_l86 k_I0_13_q2358 (by omega)
set_option maxHeartbeats 4000000 in
theorem tt_fX9_step_L0 {N : Nat} (hN : 3000000000 ≤ N)    : ∀ (fu : Nat) (I0_l0 : (Nat → Int32)) (M0_l0 : (Nat → Nat → Int32)), (KX9 I0_l0 M0_l0) → (600 - (I0_l0 3).toInt) < (fu : Int) → wq (fX9_step_L0 N fu I0_l0 M0_l0) (fun r => KX9 r.1 r.2 ∧ True) := by
  intro fu
  induction fu with
  | zero => intro I0_l0 M0_l0 k_I0_l0 hm; have hz0 := KX9.i3 k_I0_l0; exfalso; omega
  | succ fu ih =>
    intro I0_l0 M0_l0 k_I0_l0 hm
    rw [fX9_step_L0.eq_2]
    have t_2363 := KX9.i1 k_I0_l0
    have t_2364 := KX9.i3 k_I0_l0
    refine wq_le (fun hc_2365 => ?_) (fun hc_2366 => ?_)
    · unfold fX9_step_J39
      refine wq_v (fun I0_3_q2367 h_I0_3_q2367 => ?_)
      have k_I0_3_q2367 : KX9 I0_3_q2367 M0_l0 := by rw [h_I0_3_q2367]; exact KX9.si2 k_I0_l0 ⟨by omega, by omega⟩
      have tr_2368 : (I0_3_q2367 1).toInt = (I0_l0 1).toInt := by rw [h_I0_3_q2367]; rfl
      have tr_2369 : (I0_3_q2367 3).toInt = (I0_l0 3).toInt := by rw [h_I0_3_q2367]; rfl
      have t_2370 : (I0_3_q2367 3).toInt = (I0_l0 3).toInt := by rw [h_I0_3_q2367]; rfl
      have t_2371 : (I0_3_q2367 1).toInt = (I0_l0 1).toInt := by rw [h_I0_3_q2367]; rfl
      refine wq_lt (fun hc_2372 => ?_) (fun hc_2373 => ?_)
      · refine wq_in (n := 600) ⟨by omega, by omega⟩ ?_
        refine wq_b (tt_fX9_isLetter hN (M0_l0 0 (I0_3_q2367 3).toNatClampNeg)) (fun r4_q2374 h_r4_q2374 => ?_)
        obtain ⟨h_r4_q2374_0, -⟩ := h_r4_q2374
        have l_0 := il_0
        refine wq_eq (fun hc_2375 => ?_) (fun hc_2376 => ?_)
        · refine wq_in (n := 600) ⟨by omega, by omega⟩ ?_
          refine wq_b (tt_fX9_isDigit hN (M0_l0 0 (I0_3_q2367 3).toNatClampNeg)) (fun r5_q2377 h_r5_q2377 => ?_)
          obtain ⟨h_r5_q2377_0, -⟩ := h_r5_q2377
          refine wq_eq (fun hc_2378 => ?_) (fun hc_2379 => ?_)
          · refine wq_in (n := 600) ⟨by omega, by omega⟩ ?_
            have l_59 := il_59
            refine wq_eq (fun hc_2380 => ?_) (fun hc_2381 => ?_)
            · unfold fX9_step_J254
              refine wq_v (fun I0_1_q2382 h_I0_1_q2382 => ?_)
              have k_I0_1_q2382 : KX9 I0_1_q2382 M0_l0 := by rw [h_I0_1_q2382]; exact KX9.si4 k_I0_3_q2367
              have tr_2383 : (I0_1_q2382 1).toInt = (I0_3_q2367 1).toInt := by rw [h_I0_1_q2382]; rfl
              have tr_2384 : (I0_1_q2382 3).toInt = (I0_3_q2367 3).toInt := by rw [h_I0_1_q2382]; rfl
              refine wq_v (fun I0_2_q2385 h_I0_2_q2385 => ?_)
              have t_2386 : (I0_1_q2382 3).toInt = (I0_3_q2367 3).toInt := by rw [h_I0_1_q2382]; rfl
              have l_1 := il_1
              have t_2387 := ia_add (I0_1_q2382 3) (1 : Int32) (by omega) (by omega)
              have k_I0_2_q2385 : KX9 I0_2_q2385 M0_l0 := by rw [h_I0_2_q2385]; exact KX9.si3 k_I0_1_q2382 ⟨by omega, by omega⟩
              have tr_2388 : (I0_2_q2385 1).toInt = (I0_1_q2382 1).toInt := by rw [h_I0_2_q2385]; rfl
              have tr_2389 : (I0_2_q2385 3).toInt = ((I0_1_q2382 3) + (1 : Int32)).toInt := by rw [h_I0_2_q2385]; rfl
              exact wq_s ⟨k_I0_2_q2385, trivial⟩
            · unfold fX9_step_J254
              refine wq_v (fun I0_1_q2390 h_I0_1_q2390 => ?_)
              have k_I0_1_q2390 : KX9 I0_1_q2390 M0_l0 := by rw [h_I0_1_q2390]; exact KX9.si4 k_I0_3_q2367
              have tr_2391 : (I0_1_q2390 1).toInt = (I0_3_q2367 1).toInt := by rw [h_I0_1_q2390]; rfl
              have tr_2392 : (I0_1_q2390 3).toInt = (I0_3_q2367 3).toInt := by rw [h_I0_1_q2390]; rfl
              refine wq_v (fun I0_2_q2393 h_I0_2_q2393 => ?_)
              have t_2394 : (I0_1_q2390 3).toInt = (I0_3_q2367 3).toInt := by rw [h_I0_1_q2390]; rfl
              have l_1 := il_1
              have t_2395 := ia_add (I0_1_q2390 3) (1 : Int32) (by omega) (by omega)
              have k_I0_2_q2393 : KX9 I0_2_q2393 M0_l0 := by rw [h_I0_2_q2393]; exact KX9.si3 k_I0_1_q2390 ⟨by omega, by omega⟩
              have tr_2396 : (I0_2_q2393 1).toInt = (I0_1_q2390 1).toInt := by rw [h_I0_2_q2393]; rfl
              have tr_2397 : (I0_2_q2393 3).toInt = ((I0_1_q2390 3) + (1 : Int32)).toInt := by rw [h_I0_2_q2393]; rfl
              exact wq_s ⟨k_I0_2_q2393, trivial⟩
          · refine wq_v (fun I0_6_q2398 h_I0_6_q2398 => ?_)
            have k_I0_6_q2398 : KX9 I0_6_q2398 M0_l0 := by rw [h_I0_6_q2398]; exact KX9.si4 k_I0_3_q2367
            have tr_2399 : (I0_6_q2398 1).toInt = (I0_3_q2367 1).toInt := by rw [h_I0_6_q2398]; rfl
            have tr_2400 : (I0_6_q2398 3).toInt = (I0_3_q2367 3).toInt := by rw [h_I0_6_q2398]; rfl
            refine wq_v (fun I0_7_q2401 h_I0_7_q2401 => ?_)
            have k_I0_7_q2401 : KX9 I0_7_q2401 M0_l0 := by rw [h_I0_7_q2401]; exact KX9.si5 k_I0_6_q2398
            have tr_2402 : (I0_7_q2401 1).toInt = (I0_6_q2398 1).toInt := by rw [h_I0_7_q2401]; rfl
            have tr_2403 : (I0_7_q2401 3).toInt = (I0_6_q2398 3).toInt := by rw [h_I0_7_q2401]; rfl
            have t_2404 := KX9.i3 k_I0_7_q2401
            exact tt_fX9_step_L150 hN N I0_7_q2401 M0_l0 k_I0_7_q2401 (by omega)
        · refine wq_v (fun I0_11_q2405 h_I0_11_q2405 => ?_)
          have k_I0_11_q2405 : KX9 I0_11_q2405 M0_l0 := by rw [h_I0_11_q2405]; exact KX9.si4 k_I0_3_q2367
          have tr_2406 : (I0_11_q2405 1).toInt = (I0_3_q2367 1).toInt := by rw [h_I0_11_q2405]; rfl
          have tr_2407 : (I0_11_q2405 3).toInt = (I0_3_q2367 3).toInt := by rw [h_I0_11_q2405]; rfl
          have t_2408 := KX9.i3 k_I0_11_q2405
          exact tt_fX9_step_L86 hN N I0_11_q2405 M0_l0 k_I0_11_q2405 (by omega)
      · refine wq_v (fun I0_14_q2409 h_I0_14_q2409 => ?_)
        have k_I0_14_q2409 : KX9 I0_14_q2409 M0_l0 := by rw [h_I0_14_q2409]; exact KX9.si4 k_I0_3_q2367
        have tr_2410 : (I0_14_q2409 1).toInt = (I0_3_q2367 1).toInt := by rw [h_I0_14_q2409]; rfl
        have tr_2411 : (I0_14_q2409 3).toInt = (I0_3_q2367 3).toInt := by rw [h_I0_14_q2409]; rfl
        exact wq_s ⟨k_I0_14_q2409, trivial⟩
    · refine wq_in (n := 600) ⟨by omega, by omega⟩ ?_
      refine wq_b (tt_fX9_isBlank hN (M0_l0 0 (I0_l0 3).toNatClampNeg)) (fun r15_q2412 h_r15_q2412 => ?_)
      obtain ⟨h_r15_q2412_0, -⟩ := h_r15_q2412
      have l_0 := il_0
      refine wq_eq (fun hc_2413 => ?_) (fun hc_2414 => ?_)
      · unfold fX9_step_J39
        refine wq_v (fun I0_3_q2415 h_I0_3_q2415 => ?_)
        have k_I0_3_q2415 : KX9 I0_3_q2415 M0_l0 := by rw [h_I0_3_q2415]; exact KX9.si2 k_I0_l0 ⟨by omega, by omega⟩
        have tr_2416 : (I0_3_q2415 1).toInt = (I0_l0 1).toInt := by rw [h_I0_3_q2415]; rfl
        have tr_2417 : (I0_3_q2415 3).toInt = (I0_l0 3).toInt := by rw [h_I0_3_q2415]; rfl
        have t_2418 : (I0_3_q2415 3).toInt = (I0_l0 3).toInt := by rw [h_I0_3_q2415]; rfl
        have t_2419 : (I0_3_q2415 1).toInt = (I0_l0 1).toInt := by rw [h_I0_3_q2415]; rfl
        refine wq_lt (fun hc_2420 => ?_) (fun hc_2421 => ?_)
        · refine wq_in (n := 600) ⟨by omega, by omega⟩ ?_
          refine wq_b (tt_fX9_isLetter hN (M0_l0 0 (I0_3_q2415 3).toNatClampNeg)) (fun r4_q2422 h_r4_q2422 => ?_)
          obtain ⟨h_r4_q2422_0, -⟩ := h_r4_q2422
          refine wq_eq (fun hc_2423 => ?_) (fun hc_2424 => ?_)
          · refine wq_in (n := 600) ⟨by omega, by omega⟩ ?_
            refine wq_b (tt_fX9_isDigit hN (M0_l0 0 (I0_3_q2415 3).toNatClampNeg)) (fun r5_q2425 h_r5_q2425 => ?_)
            obtain ⟨h_r5_q2425_0, -⟩ := h_r5_q2425
            refine wq_eq (fun hc_2426 => ?_) (fun hc_2427 => ?_)
            · refine wq_in (n := 600) ⟨by omega, by omega⟩ ?_
              have l_59 := il_59
              refine wq_eq (fun hc_2428 => ?_) (fun hc_2429 => ?_)
              · unfold fX9_step_J254
                refine wq_v (fun I0_1_q2430 h_I0_1_q2430 => ?_)
                have k_I0_1_q2430 : KX9 I0_1_q2430 M0_l0 := by rw [h_I0_1_q2430]; exact KX9.si4 k_I0_3_q2415
                have tr_2431 : (I0_1_q2430 1).toInt = (I0_3_q2415 1).toInt := by rw [h_I0_1_q2430]; rfl
                have tr_2432 : (I0_1_q2430 3).toInt = (I0_3_q2415 3).toInt := by rw [h_I0_1_q2430]; rfl
                refine wq_v (fun I0_2_q2433 h_I0_2_q2433 => ?_)
                have t_2434 : (I0_1_q2430 3).toInt = (I0_3_q2415 3).toInt := by rw [h_I0_1_q2430]; rfl
                have l_1 := il_1
                have t_2435 := ia_add (I0_1_q2430 3) (1 : Int32) (by omega) (by omega)
                have k_I0_2_q2433 : KX9 I0_2_q2433 M0_l0 := by rw [h_I0_2_q2433]; exact KX9.si3 k_I0_1_q2430 ⟨by omega, by omega⟩
                have tr_2436 : (I0_2_q2433 1).toInt = (I0_1_q2430 1).toInt := by rw [h_I0_2_q2433]; rfl
                have tr_2437 : (I0_2_q2433 3).toInt = ((I0_1_q2430 3) + (1 : Int32)).toInt := by rw [h_I0_2_q2433]; rfl
                exact wq_s ⟨k_I0_2_q2433, trivial⟩
              · unfold fX9_step_J254
                refine wq_v (fun I0_1_q2438 h_I0_1_q2438 => ?_)
                have k_I0_1_q2438 : KX9 I0_1_q2438 M0_l0 := by rw [h_I0_1_q2438]; exact KX9.si4 k_I0_3_q2415
                have tr_2439 : (I0_1_q2438 1).toInt = (I0_3_q2415 1).toInt := by rw [h_I0_1_q2438]; rfl
                have tr_2440 : (I0_1_q2438 3).toInt = (I0_3_q2415 3).toInt := by rw [h_I0_1_q2438]; rfl
                refine wq_v (fun I0_2_q2441 h_I0_2_q2441 => ?_)
                have t_2442 : (I0_1_q2438 3).toInt = (I0_3_q2415 3).toInt := by rw [h_I0_1_q2438]; rfl
                have l_1 := il_1
                have t_2443 := ia_add (I0_1_q2438 3) (1 : Int32) (by omega) (by omega)
                have k_I0_2_q2441 : KX9 I0_2_q2441 M0_l0 := by rw [h_I0_2_q2441]; exact KX9.si3 k_I0_1_q2438 ⟨by omega, by omega⟩
                have tr_2444 : (I0_2_q2441 1).toInt = (I0_1_q2438 1).toInt := by rw [h_I0_2_q2441]; rfl
                have tr_2445 : (I0_2_q2441 3).toInt = ((I0_1_q2438 3) + (1 : Int32)).toInt := by rw [h_I0_2_q2441]; rfl
                exact wq_s ⟨k_I0_2_q2441, trivial⟩
            · refine wq_v (fun I0_6_q2446 h_I0_6_q2446 => ?_)
              have k_I0_6_q2446 : KX9 I0_6_q2446 M0_l0 := by rw [h_I0_6_q2446]; exact KX9.si4 k_I0_3_q2415
              have tr_2447 : (I0_6_q2446 1).toInt = (I0_3_q2415 1).toInt := by rw [h_I0_6_q2446]; rfl
              have tr_2448 : (I0_6_q2446 3).toInt = (I0_3_q2415 3).toInt := by rw [h_I0_6_q2446]; rfl
              refine wq_v (fun I0_7_q2449 h_I0_7_q2449 => ?_)
              have k_I0_7_q2449 : KX9 I0_7_q2449 M0_l0 := by rw [h_I0_7_q2449]; exact KX9.si5 k_I0_6_q2446
              have tr_2450 : (I0_7_q2449 1).toInt = (I0_6_q2446 1).toInt := by rw [h_I0_7_q2449]; rfl
              have tr_2451 : (I0_7_q2449 3).toInt = (I0_6_q2446 3).toInt := by rw [h_I0_7_q2449]; rfl
              have t_2452 := KX9.i3 k_I0_7_q2449
              exact tt_fX9_step_L150 hN N I0_7_q2449 M0_l0 k_I0_7_q2449 (by omega)
          · refine wq_v (fun I0_11_q2453 h_I0_11_q2453 => ?_)
            have k_I0_11_q2453 : KX9 I0_11_q2453 M0_l0 := by rw [h_I0_11_q2453]; exact KX9.si4 k_I0_3_q2415
            have tr_2454 : (I0_11_q2453 1).toInt = (I0_3_q2415 1).toInt := by rw [h_I0_11_q2453]; rfl
            have tr_2455 : (I0_11_q2453 3).toInt = (I0_3_q2415 3).toInt := by rw [h_I0_11_q2453]; rfl
            have t_2456 := KX9.i3 k_I0_11_q2453
            exact tt_fX9_step_L86 hN N I0_11_q2453 M0_l0 k_I0_11_q2453 (by omega)
        · refine wq_v (fun I0_14_q2457 h_I0_14_q2457 => ?_)
          have k_I0_14_q2457 : KX9 I0_14_q2457 M0_l0 := by rw [h_I0_14_q2457]; exact KX9.si4 k_I0_3_q2415
          have tr_2458 : (I0_14_q2457 1).toInt = (I0_3_q2415 1).toInt := by rw [h_I0_14_q2457]; rfl
          have tr_2459 : (I0_14_q2457 3).toInt = (I0_3_q2415 3).toInt := by rw [h_I0_14_q2457]; rfl
          exact wq_s ⟨k_I0_14_q2457, trivial⟩
      · refine wq_v (fun I0_16_q2460 h_I0_16_q2460 => ?_)
        have l_1 := il_1
        have t_2461 := ia_add (I0_l0 3) (1 : Int32) (by omega) (by omega)
        have k_I0_16_q2460 : KX9 I0_16_q2460 M0_l0 := by rw [h_I0_16_q2460]; exact KX9.si3 k_I0_l0 ⟨by omega, by omega⟩
        have tr_2462 : (I0_16_q2460 1).toInt = (I0_l0 1).toInt := by rw [h_I0_16_q2460]; rfl
        have tr_2463 : (I0_16_q2460 3).toInt = ((I0_l0 3) + (1 : Int32)).toInt := by rw [h_I0_16_q2460]; rfl
        have t_2464 := KX9.i3 k_I0_16_q2460
        exact ih I0_16_q2460 M0_l0 k_I0_16_q2460 (by omega)
set_option maxHeartbeats 4000000 in
theorem tt_fX9_step {N : Nat} (hN : 3000000000 ≤ N) (I0 : Nat → Int32) (M0 : Nat → Nat → Int32) (k_I0 : KX9 I0 M0) : wq (fX9_step N I0 M0) (fun r => KX9 r.1 r.2 ∧ True) := by
  unfold fX9_step
  have t_2465 := KX9.i3 k_I0
  exact tt_fX9_step_L0 hN N I0 M0 k_I0 (by omega)
set_option maxHeartbeats 4000000 in
theorem tt_fX9_refuse {N : Nat} (hN : 3000000000 ≤ N) (I0 : Nat → Int32) (M0 : Nat → Nat → Int32) (x1 : Int32) (k_I0 : KX9 I0 M0) : wq (fX9_refuse N I0 M0 x1) (fun r => (0 ≤ r.1.toInt ∧ r.1.toInt ≤ 0) ∧ KX9 r.2.1 r.2.2 ∧ True) := by
  unfold fX9_refuse
  refine wq_v (fun I0_1_q2478 h_I0_1_q2478 => ?_)
  have k_I0_1_q2478 : KX9 I0_1_q2478 M0 := by rw [h_I0_1_q2478]; exact KX9.si7 k_I0
  refine wq_v (fun I0_2_q2479 h_I0_2_q2479 => ?_)
  have k_I0_2_q2479 : KX9 I0_2_q2479 M0 := by rw [h_I0_2_q2479]; exact KX9.si8 k_I0_1_q2478
  have l_0 := il_0
  exact wq_s ⟨(show 0 ≤ (0 : Int32).toInt ∧ (0 : Int32).toInt ≤ 0 from ⟨by omega, by omega⟩), k_I0_2_q2479, trivial⟩
set_option maxHeartbeats 4000000 in
theorem tt_fX1_isNew {N : Nat} (hN : 3000000000 ≤ N) (I0 : Nat → Int32) (M0 : Nat → Nat → Int32) (I1 : Nat → Int32) (M1 : Nat → Nat → Int32) (x2 : Int32) (h_x2 : 0 ≤ x2.toInt ∧ x2.toInt ≤ 21) (k_I0 : KX1 I0 M0) (k_I1 : KX9 I1 M1) : wq (fX1_isNew N I0 M0 I1 M1 x2) (fun r => (0 ≤ r.1.toInt ∧ r.1.toInt ≤ 1) ∧ KX9 r.2.1 r.2.2 ∧ True) := by
  unfold fX1_isNew
  refine wq_in (n := 22) ⟨by omega, by omega⟩ ?_
  have t_2510 := KX1.m1 k_I0 x2.toNatClampNeg
  have l_m1 := il_m1
  refine wq_eq (fun hc_2511 => ?_) (fun hc_2512 => ?_)
  · refine wq_b (tt_fX9_step hN I1 M1 k_I1) (fun r1_q2513 h_r1_q2513 => ?_)
    obtain ⟨h_r1_q2513_0, -⟩ := h_r1_q2513
    have l_1 := il_1
    exact wq_s ⟨(show 0 ≤ (1 : Int32).toInt ∧ (1 : Int32).toInt ≤ 1 from ⟨by omega, by omega⟩), h_r1_q2513_0, trivial⟩
  · have l_3 := il_3
    refine wq_b (tt_fX9_refuse hN I1 M1 (3 : Int32) k_I1) (fun r2_q2514 h_r2_q2514 => ?_)
    obtain ⟨h_r2_q2514_0, h_r2_q2514_1, -⟩ := h_r2_q2514
    refine wq_bz (by omega) ?_
    exact wq_s ⟨(show 0 ≤ r2_q2514.1.toInt ∧ r2_q2514.1.toInt ≤ 1 from ⟨by omega, by omega⟩), h_r2_q2514_1, trivial⟩
set_option maxHeartbeats 4000000 in
theorem tt_fX9_holdsNumber {N : Nat} (hN : 3000000000 ≤ N) (I0 : Nat → Int32) (M0 : Nat → Nat → Int32) (x1 : Int32) (x2 : Int32) (k_I0 : KX9 I0 M0) : wq (fX9_holdsNumber N I0 M0 x1 x2) (fun r => (r.1.toInt = 0 ∨ (x1.toInt ≤ (r.2.1 6).toInt ∧ (r.2.1 6).toInt ≤ x2.toInt)) ∧ (0 ≤ r.1.toInt ∧ r.1.toInt ≤ 1) ∧ KX9 r.2.1 r.2.2 ∧ True) := by
  unfold fX9_holdsNumber
  have l_2 := il_2
  refine wq_eq (fun hc_2635 => ?_) (fun hc_2636 => ?_)
  · have l_7 := il_7
    have t_2637 := KX9.i3 k_I0
    have t_2638 := KX9.i2 k_I0
    have t_2639 := ia_sub (I0 3) (I0 2) (by omega) (by omega)
    refine wq_lt (fun hc_2640 => ?_) (fun hc_2641 => ?_)
    · refine wq_b (tt_fX9_refuse hN I0 M0 (2 : Int32) k_I0) (fun r1_q2642 h_r1_q2642 => ?_)
      obtain ⟨h_r1_q2642_0, h_r1_q2642_1, -⟩ := h_r1_q2642
      refine wq_bz (by omega) ?_
      have b_2643 := i32b x1
      have b_2644 := i32b x2
      exact wq_s ⟨(show (r1_q2642.1.toInt = 0 ∨ (x1.toInt ≤ (r1_q2642.2.1 6).toInt ∧ (r1_q2642.2.1 6).toInt ≤ x2.toInt)) from by omega), (show 0 ≤ r1_q2642.1.toInt ∧ r1_q2642.1.toInt ≤ 1 from ⟨by omega, by omega⟩), h_r1_q2642_1, trivial⟩
    · have b_2645 := i32b x1
      refine wq_lt (fun hc_2646 => ?_) (fun hc_2647 => ?_)
      · refine wq_b (tt_fX9_refuse hN I0 M0 (2 : Int32) k_I0) (fun r2_q2648 h_r2_q2648 => ?_)
        obtain ⟨h_r2_q2648_0, h_r2_q2648_1, -⟩ := h_r2_q2648
        refine wq_bz (by omega) ?_
        have b_2649 := i32b x2
        exact wq_s ⟨(show (r2_q2648.1.toInt = 0 ∨ (x1.toInt ≤ (r2_q2648.2.1 6).toInt ∧ (r2_q2648.2.1 6).toInt ≤ x2.toInt)) from by omega), (show 0 ≤ r2_q2648.1.toInt ∧ r2_q2648.1.toInt ≤ 1 from ⟨by omega, by omega⟩), h_r2_q2648_1, trivial⟩
      · have b_2650 := i32b x2
        refine wq_le (fun hc_2651 => ?_) (fun hc_2652 => ?_)
        · refine wq_v (fun I0_3_q2653 h_I0_3_q2653 => ?_)
          have k_I0_3_q2653 : KX9 I0_3_q2653 M0 := by rw [h_I0_3_q2653]; exact KX9.si6 k_I0
          have tr_2654 : (I0_3_q2653 6).toInt = (I0 5).toInt := by rw [h_I0_3_q2653]; rfl
          have t_2655 : (I0_3_q2653 6).toInt = (I0 5).toInt := by rw [h_I0_3_q2653]; rfl
          have l_1 := il_1
          exact wq_s ⟨(show ((1 : Int32).toInt = 0 ∨ (x1.toInt ≤ (I0_3_q2653 6).toInt ∧ (I0_3_q2653 6).toInt ≤ x2.toInt)) from by omega), (show 0 ≤ (1 : Int32).toInt ∧ (1 : Int32).toInt ≤ 1 from ⟨by omega, by omega⟩), k_I0_3_q2653, trivial⟩
        · refine wq_b (tt_fX9_refuse hN I0 M0 (2 : Int32) k_I0) (fun r4_q2656 h_r4_q2656 => ?_)
          obtain ⟨h_r4_q2656_0, h_r4_q2656_1, -⟩ := h_r4_q2656
          refine wq_bz (by omega) ?_
          exact wq_s ⟨(show (r4_q2656.1.toInt = 0 ∨ (x1.toInt ≤ (r4_q2656.2.1 6).toInt ∧ (r4_q2656.2.1 6).toInt ≤ x2.toInt)) from by omega), (show 0 ≤ r4_q2656.1.toInt ∧ r4_q2656.1.toInt ≤ 1 from ⟨by omega, by omega⟩), h_r4_q2656_1, trivial⟩
  · have l_1 := il_1
    refine wq_b (tt_fX9_refuse hN I0 M0 (1 : Int32) k_I0) (fun r5_q2657 h_r5_q2657 => ?_)
    obtain ⟨h_r5_q2657_0, h_r5_q2657_1, -⟩ := h_r5_q2657
    refine wq_bz (by omega) ?_
    have b_2658 := i32b x1
    have b_2659 := i32b x2
    exact wq_s ⟨(show (r5_q2657.1.toInt = 0 ∨ (x1.toInt ≤ (r5_q2657.2.1 6).toInt ∧ (r5_q2657.2.1 6).toInt ≤ x2.toInt)) from by omega), (show 0 ≤ r5_q2657.1.toInt ∧ r5_q2657.1.toInt ≤ 1 from ⟨by omega, by omega⟩), h_r5_q2657_1, trivial⟩
def wp {α : Type} (x : Option α) (Q : α → Prop) : Prop := ∀ r, x = some r → Q r
theorem wp_s {α : Type} {r : α} {Q : α → Prop} (h : Q r) : wp (some r) Q := fun q e => by
  have := Option.some.inj e
  rw [← this]; exact h
theorem wp_none {α : Type} {Q : α → Prop} : wp (none : Option α) Q := fun _ e => nomatch e
theorem wp_v {α β : Type} {e : α} {k : α → Option β} {Q : β → Prop} (h : wp (k e) Q) : wp ((some e).bind k) Q := h
theorem wp_b {α β : Type} {x : Option α} {k : α → Option β} {Q : β → Prop} (h : ∀ r, wp (k r) Q) : wp (x.bind k) Q := by
  cases x with
  | none => exact wp_none
  | some r => exact h r
theorem wp_i {α : Type} {c : Prop} [Decidable c] {A B : Option α} {Q : α → Prop} (h1 : wp A Q) (h2 : wp B Q) : wp (if c then A else B) Q := by
  by_cases h : c
  · rw [if_pos h]; exact h1
  · rw [if_neg h]; exact h2
theorem st6_254 {N : Nat} {I : Nat → Int32} {M : Nat → Nat → Int32} {x : Int32} : wp (fX9_step_J254 N I M x) (fun r => r.1 6 = I 6) := by
  unfold fX9_step_J254
  repeat' first | with_reducible exact wp_none | (with_reducible refine wp_i ?_ ?_) | (with_reducible refine wp_v ?_) | (with_reducible refine wp_b (fun _ => ?_)) | (refine wp_s ?_; show _ = _; rfl)
theorem st6_L150 {N : Nat} : ∀ (fu : Nat) (I : Nat → Int32) (M : Nat → Nat → Int32), wp (fX9_step_L150 N fu I M) (fun r => r.1 6 = I 6) := by
  intro fu
  induction fu with
  | zero => intro I M; rw [fX9_step_L150.eq_1]; exact wp_none
  | succ fu ih =>
    intro I M
    rw [fX9_step_L150.eq_2]
    unfold fX9_step_J218
    repeat' first | with_reducible exact wp_none | (with_reducible refine wp_i ?_ ?_) | (with_reducible refine wp_v ?_) | (with_reducible refine wp_b (fun _ => ?_)) | exact ih _ _ | (refine wp_s ?_; show _ = _; rfl)
theorem st6_L86 {N : Nat} : ∀ (fu : Nat) (I : Nat → Int32) (M : Nat → Nat → Int32), wp (fX9_step_L86 N fu I M) (fun r => r.1 6 = I 6) := by
  intro fu
  induction fu with
  | zero => intro I M; rw [fX9_step_L86.eq_1]; exact wp_none
  | succ fu ih =>
    intro I M
    rw [fX9_step_L86.eq_2]
    repeat' first | with_reducible exact wp_none | (with_reducible refine wp_i ?_ ?_) | (with_reducible refine wp_v ?_) | (with_reducible refine wp_b (fun _ => ?_)) | exact ih _ _ | (refine wp_s ?_; show _ = _; rfl)
theorem st6_J39 {N : Nat} {I : Nat → Int32} {M : Nat → Nat → Int32} : wp (fX9_step_J39 N I M) (fun r => r.1 6 = I 6) := by
  unfold fX9_step_J39
  repeat' first | with_reducible exact wp_none | (with_reducible refine wp_i ?_ ?_) | (with_reducible refine wp_v ?_) | (with_reducible refine wp_b (fun _ => ?_)) | exact st6_254 | exact st6_L150 _ _ _ | exact st6_L86 _ _ _ | (refine wp_s ?_; show _ = _; rfl)
theorem st6_L0 {N : Nat} : ∀ (fu : Nat) (I : Nat → Int32) (M : Nat → Nat → Int32), wp (fX9_step_L0 N fu I M) (fun r => r.1 6 = I 6) := by
  intro fu
  induction fu with
  | zero => intro I M; rw [fX9_step_L0.eq_1]; exact wp_none
  | succ fu ih =>
    intro I M
    rw [fX9_step_L0.eq_2]
    repeat' first | with_reducible exact wp_none | (with_reducible refine wp_i ?_ ?_) | (with_reducible refine wp_v ?_) | (with_reducible refine wp_b (fun _ => ?_)) | exact ih _ _ | exact st6_J39 | (refine wp_s ?_; show _ = _; rfl)
set_option maxHeartbeats 4000000 in
theorem tt_fX9_takeNumber {N : Nat} (hN : 3000000000 ≤ N) (I0 : Nat → Int32) (M0 : Nat → Nat → Int32) (x1 : Int32) (x2 : Int32) (k_I0 : KX9 I0 M0) : wq (fX9_takeNumber N I0 M0 x1 x2) (fun r => (r.1.toInt = 0 ∨ (x1.toInt ≤ (r.2.1 6).toInt ∧ (r.2.1 6).toInt ≤ x2.toInt)) ∧ (0 ≤ r.1.toInt ∧ r.1.toInt ≤ 1) ∧ KX9 r.2.1 r.2.2 ∧ True) := by
  unfold fX9_takeNumber
  refine wq_b (tt_fX9_holdsNumber hN I0 M0 x1 x2 k_I0) (fun r h => ?_)
  obtain ⟨hs, hr, hk, -⟩ := h
  have l_0 := il_0
  refine wq_eq (fun hc => ?_) (fun hc => ?_)
  · exact wq_s ⟨Or.inl il_0, (show 0 ≤ (0 : Int32).toInt ∧ (0 : Int32).toInt ≤ 1 from by decide), hk, trivial⟩
  · obtain ⟨r2, he, h2⟩ := tt_fX9_step hN _ _ hk
    have e6 : r2.1 6 = r.2.1 6 := st6_L0 _ _ _ _ he
    rw [he]
    show wq (some ((1 : Int32), r2.1, r2.2)) _
    exact wq_s ⟨Or.inr (show x1.toInt ≤ (r2.1 6).toInt ∧ (r2.1 6).toInt ≤ x2.toInt from by rw [e6]; omega), (show 0 ≤ (1 : Int32).toInt ∧ (1 : Int32).toInt ≤ 1 from by decide), h2.1, trivial⟩
set_option maxHeartbeats 4000000 in
theorem tt_fX9_takeStop {N : Nat} (hN : 3000000000 ≤ N) (I0 : Nat → Int32) (M0 : Nat → Nat → Int32) (k_I0 : KX9 I0 M0) : wq (fX9_takeStop N I0 M0) (fun r => (0 ≤ r.1.toInt ∧ r.1.toInt ≤ 1) ∧ KX9 r.2.1 r.2.2 ∧ True) := by
  unfold fX9_takeStop
  have l_3 := il_3
  refine wq_eq (fun hc_2684 => ?_) (fun hc_2685 => ?_)
  · refine wq_b (tt_fX9_step hN I0 M0 k_I0) (fun r1_q2686 h_r1_q2686 => ?_)
    obtain ⟨h_r1_q2686_0, -⟩ := h_r1_q2686
    have l_1 := il_1
    exact wq_s ⟨(show 0 ≤ (1 : Int32).toInt ∧ (1 : Int32).toInt ≤ 1 from ⟨by omega, by omega⟩), h_r1_q2686_0, trivial⟩
  · have l_1 := il_1
    refine wq_b (tt_fX9_refuse hN I0 M0 (1 : Int32) k_I0) (fun r2_q2687 h_r2_q2687 => ?_)
    obtain ⟨h_r2_q2687_0, h_r2_q2687_1, -⟩ := h_r2_q2687
    refine wq_bz (by omega) ?_
    exact wq_s ⟨(show 0 ≤ r2_q2687.1.toInt ∧ r2_q2687.1.toInt ≤ 1 from ⟨by omega, by omega⟩), h_r2_q2687_1, trivial⟩
set_option maxHeartbeats 4000000 in
theorem tt_fX1_readDegree {N : Nat} (hN : 3000000000 ≤ N) (I0 : Nat → Int32) (M0 : Nat → Nat → Int32) (I1 : Nat → Int32) (M1 : Nat → Nat → Int32) (x2 : Int32) (h_x2 : 0 ≤ x2.toInt ∧ x2.toInt ≤ 20) (k_I0 : KX1 I0 M0) (k_I1 : KX9 I1 M1) : wq (fX1_readDegree N I0 M0 I1 M1 x2) (fun r => (0 ≤ r.1.toInt ∧ r.1.toInt ≤ 1) ∧ KX1 r.2.1 r.2.2.1 ∧ KX9 r.2.2.2.1 r.2.2.2.2 ∧ True) := by
  unfold fX1_readDegree
  refine wq_b (tt_fX1_isNew hN I0 M0 I1 M1 x2 ⟨by omega, by omega⟩ k_I0 k_I1) (fun r1_q2778 h_r1_q2778 => ?_)
  obtain ⟨h_r1_q2778_0, h_r1_q2778_1, -⟩ := h_r1_q2778
  have l_0 := il_0
  refine wq_eq (fun hc_2779 => ?_) (fun hc_2780 => ?_)
  · exact wq_s ⟨(show 0 ≤ (0 : Int32).toInt ∧ (0 : Int32).toInt ≤ 1 from ⟨by omega, by omega⟩), k_I0, h_r1_q2778_1, trivial⟩
  · have l_11 := il_11
    refine wq_b (tt_fX9_takeNumber hN r1_q2778.2.1 r1_q2778.2.2 (0 : Int32) (11 : Int32) h_r1_q2778_1) (fun r2_q2781 h_r2_q2781 => ?_)
    obtain ⟨h_r2_q2781_0, h_r2_q2781_1, h_r2_q2781_2, -⟩ := h_r2_q2781
    refine wq_eq (fun hc_2782 => ?_) (fun hc_2783 => ?_)
    · exact wq_s ⟨(show 0 ≤ (0 : Int32).toInt ∧ (0 : Int32).toInt ≤ 1 from ⟨by omega, by omega⟩), k_I0, h_r2_q2781_2, trivial⟩
    · refine wq_v (fun v3_q2784 h_v3_q2784 => ?_)
      have t_v3_q2784 := congrArg Int32.toInt h_v3_q2784
      have l_29 := il_29
      refine wq_b (tt_fX9_takeNumber hN r2_q2781.2.1 r2_q2781.2.2 (0 : Int32) (29 : Int32) h_r2_q2781_2) (fun r4_q2785 h_r4_q2785 => ?_)
      obtain ⟨h_r4_q2785_0, h_r4_q2785_1, h_r4_q2785_2, -⟩ := h_r4_q2785
      refine wq_eq (fun hc_2786 => ?_) (fun hc_2787 => ?_)
      · exact wq_s ⟨(show 0 ≤ (0 : Int32).toInt ∧ (0 : Int32).toInt ≤ 1 from ⟨by omega, by omega⟩), k_I0, h_r4_q2785_2, trivial⟩
      · refine wq_in (n := 22) ⟨by omega, by omega⟩ ?_
        refine wq_v (fun M0_5_q2788 h_M0_5_q2788 => ?_)
        have l_30 := il_30
        have t_2789 := ia_mul (30 : Int32) (30) il_30 v3_q2784 (by omega) (by omega)
        have t_2790 := ia_add ((30 : Int32) * v3_q2784) (r4_q2785.2.1 6) (by omega) (by omega)
        have tn_2791 := tn_of x2 (by omega)
        have k_M0_5_q2788 : KX1 I0 M0_5_q2788 := by rw [h_M0_5_q2788]; exact KX1.sm1 k_I0 ⟨by omega, by omega⟩ (DN.um (KX1.edn k_I0) (fun q => by omega))
        refine wq_b (tt_fX9_takeStop hN r4_q2785.2.1 r4_q2785.2.2 h_r4_q2785_2) (fun r6_q2792 h_r6_q2792 => ?_)
        obtain ⟨h_r6_q2792_0, h_r6_q2792_1, -⟩ := h_r6_q2792
        refine wq_bz (by omega) ?_
        exact wq_s ⟨(show 0 ≤ r6_q2792.1.toInt ∧ r6_q2792.1.toInt ≤ 1 from ⟨by omega, by omega⟩), k_M0_5_q2788, h_r6_q2792_1, trivial⟩
set_option maxHeartbeats 4000000 in
theorem tt_fX1_readDate {N : Nat} (hN : 3000000000 ≤ N) (I0 : Nat → Int32) (M0 : Nat → Nat → Int32) (I1 : Nat → Int32) (M1 : Nat → Nat → Int32) (k_I0 : KX1 I0 M0) (k_I1 : KX9 I1 M1) : wq (fX1_readDate N I0 M0 I1 M1) (fun r => (0 ≤ r.1.toInt ∧ r.1.toInt ≤ 1) ∧ KX1 r.2.1 r.2.2.1 ∧ KX9 r.2.2.2.1 r.2.2.2.2 ∧ True) := by
  unfold fX1_readDate
  have l_21 := il_21
  refine wq_b (tt_fX1_isNew hN I0 M0 I1 M1 (21 : Int32) ⟨by omega, by omega⟩ k_I0 k_I1) (fun r4_q2943 h_r4_q2943 => ?_)
  obtain ⟨h_r4_q2943_0, h_r4_q2943_1, -⟩ := h_r4_q2943
  have l_0 := il_0
  refine wq_eq (fun hc_2944 => ?_) (fun hc_2945 => ?_)
  · exact wq_s ⟨(show 0 ≤ (0 : Int32).toInt ∧ (0 : Int32).toInt ≤ 1 from ⟨by omega, by omega⟩), k_I0, h_r4_q2943_1, trivial⟩
  · have l_12 := il_12
    refine wq_b (tt_fX9_takeNumber hN r4_q2943.2.1 r4_q2943.2.2 (0 : Int32) (12 : Int32) h_r4_q2943_1) (fun r5_q2946 h_r5_q2946 => ?_)
    obtain ⟨h_r5_q2946_0, h_r5_q2946_1, h_r5_q2946_2, -⟩ := h_r5_q2946
    refine wq_eq (fun hc_2947 => ?_) (fun hc_2948 => ?_)
    · exact wq_s ⟨(show 0 ≤ (0 : Int32).toInt ∧ (0 : Int32).toInt ≤ 1 from ⟨by omega, by omega⟩), k_I0, h_r5_q2946_2, trivial⟩
    · refine wq_v (fun v6_q2949 h_v6_q2949 => ?_)
      have t_v6_q2949 := congrArg Int32.toInt h_v6_q2949
      refine wq_eq (fun hc_2950 => ?_) (fun hc_2951 => ?_)
      · unfold fX1_readDate_J41
        have l_4 := il_4
        refine wq_b (tt_fX9_takeNumber hN r5_q2946.2.1 r5_q2946.2.2 (0 : Int32) (4 : Int32) h_r5_q2946_2) (fun r1_q2952 h_r1_q2952 => ?_)
        obtain ⟨h_r1_q2952_0, h_r1_q2952_1, h_r1_q2952_2, -⟩ := h_r1_q2952
        refine wq_eq (fun hc_2953 => ?_) (fun hc_2954 => ?_)
        · exact wq_s ⟨(show 0 ≤ (0 : Int32).toInt ∧ (0 : Int32).toInt ≤ 1 from ⟨by omega, by omega⟩), k_I0, h_r1_q2952_2, trivial⟩
        · refine wq_in (n := 22) ⟨by omega, by omega⟩ ?_
          refine wq_v (fun M0_2_q2955 h_M0_2_q2955 => ?_)
          have l_30 := il_30
          have t_2956 := ia_mul (30 : Int32) (30) il_30 v6_q2949 (by omega) (by omega)
          have t_2957 := ia_add ((30 : Int32) * v6_q2949) (r1_q2952.2.1 6) (by omega) (by omega)
          have tn_2958 := tn_of (21 : Int32) (by omega)
          have k_M0_2_q2955 : KX1 I0 M0_2_q2955 := by rw [h_M0_2_q2955]; exact KX1.sm1 k_I0 ⟨by omega, by omega⟩ (DN.um (KX1.edn k_I0) (fun q => by omega))
          refine wq_b (tt_fX9_takeStop hN r1_q2952.2.1 r1_q2952.2.2 h_r1_q2952_2) (fun r3_q2959 h_r3_q2959 => ?_)
          obtain ⟨h_r3_q2959_0, h_r3_q2959_1, -⟩ := h_r3_q2959
          refine wq_bz (by omega) ?_
          exact wq_s ⟨(show 0 ≤ r3_q2959.1.toInt ∧ r3_q2959.1.toInt ≤ 1 from ⟨by omega, by omega⟩), k_M0_2_q2955, h_r3_q2959_1, trivial⟩
      · unfold fX1_readDate_J41
        have l_29 := il_29
        refine wq_b (tt_fX9_takeNumber hN r5_q2946.2.1 r5_q2946.2.2 (0 : Int32) (29 : Int32) h_r5_q2946_2) (fun r1_q2960 h_r1_q2960 => ?_)
        obtain ⟨h_r1_q2960_0, h_r1_q2960_1, h_r1_q2960_2, -⟩ := h_r1_q2960
        refine wq_eq (fun hc_2961 => ?_) (fun hc_2962 => ?_)
        · exact wq_s ⟨(show 0 ≤ (0 : Int32).toInt ∧ (0 : Int32).toInt ≤ 1 from ⟨by omega, by omega⟩), k_I0, h_r1_q2960_2, trivial⟩
        · refine wq_in (n := 22) ⟨by omega, by omega⟩ ?_
          refine wq_v (fun M0_2_q2963 h_M0_2_q2963 => ?_)
          have l_30 := il_30
          have t_2964 := ia_mul (30 : Int32) (30) il_30 v6_q2949 (by omega) (by omega)
          have t_2965 := ia_add ((30 : Int32) * v6_q2949) (r1_q2960.2.1 6) (by omega) (by omega)
          have tn_2966 := tn_of (21 : Int32) (by omega)
          have k_M0_2_q2963 : KX1 I0 M0_2_q2963 := by rw [h_M0_2_q2963]; exact KX1.sm1 k_I0 ⟨by omega, by omega⟩ (DN.um (KX1.edn k_I0) (fun q => by omega))
          refine wq_b (tt_fX9_takeStop hN r1_q2960.2.1 r1_q2960.2.2 h_r1_q2960_2) (fun r3_q2967 h_r3_q2967 => ?_)
          obtain ⟨h_r3_q2967_0, h_r3_q2967_1, -⟩ := h_r3_q2967
          refine wq_bz (by omega) ?_
          exact wq_s ⟨(show 0 ≤ r3_q2967.1.toInt ∧ r3_q2967.1.toInt ≤ 1 from ⟨by omega, by omega⟩), k_M0_2_q2963, h_r3_q2967_1, trivial⟩
set_option maxHeartbeats 4000000 in
theorem tt_fX1_readEntry {N : Nat} (hN : 3000000000 ≤ N) (I0 : Nat → Int32) (M0 : Nat → Nat → Int32) (I1 : Nat → Int32) (M1 : Nat → Nat → Int32) (k_I0 : KX1 I0 M0) (k_I1 : KX9 I1 M1) : wq (fX1_readEntry N I0 M0 I1 M1) (fun r => (0 ≤ r.1.toInt ∧ r.1.toInt ≤ 1) ∧ KX1 r.2.1 r.2.2.1 ∧ KX9 r.2.2.2.1 r.2.2.2.2 ∧ True) := by
  unfold fX1_readEntry
  refine wq_b (tt_fX9_isWord hN I1 M1 0 k_I1 (by omega)) (fun r1_q3088 h_r1_q3088 => ?_)
  obtain ⟨h_r1_q3088_0, -⟩ := h_r1_q3088
  have l_0 := il_0
  refine wq_eq (fun hc_3089 => ?_) (fun hc_3090 => ?_)
  · refine wq_b (tt_fX9_isWord hN I1 M1 1 k_I1 (by omega)) (fun r2_q3091 h_r2_q3091 => ?_)
    obtain ⟨h_r2_q3091_0, -⟩ := h_r2_q3091
    refine wq_eq (fun hc_3092 => ?_) (fun hc_3093 => ?_)
    · have l_9 := il_9
      refine wq_b (tt_fX9_namedOf hN I1 M1 (9 : Int32) ⟨by omega, by omega⟩ k_I1) (fun r3_q3094 h_r3_q3094 => ?_)
      obtain ⟨h_r3_q3094_0, h_r3_q3094_1, -⟩ := h_r3_q3094
      have l_m1 := il_m1
      refine wq_eq (fun hc_3095 => ?_) (fun hc_3096 => ?_)
      · have l_1 := il_1
        refine wq_b (tt_fX9_refuse hN I1 M1 (1 : Int32) k_I1) (fun r5_q3097 h_r5_q3097 => ?_)
        obtain ⟨h_r5_q3097_0, h_r5_q3097_1, -⟩ := h_r5_q3097
        refine wq_bz (by omega) ?_
        exact wq_s ⟨(show 0 ≤ r5_q3097.1.toInt ∧ r5_q3097.1.toInt ≤ 1 from ⟨by omega, by omega⟩), k_I0, h_r5_q3097_1, trivial⟩
      · refine wq_b (tt_fX1_readDegree hN I0 M0 I1 M1 r3_q3094 ⟨by omega, by omega⟩ k_I0 k_I1) (fun r4_q3098 h_r4_q3098 => ?_)
        obtain ⟨h_r4_q3098_0, h_r4_q3098_1, h_r4_q3098_2, -⟩ := h_r4_q3098
        refine wq_bz (by omega) ?_
        exact wq_s ⟨(show 0 ≤ r4_q3098.1.toInt ∧ r4_q3098.1.toInt ≤ 1 from ⟨by omega, by omega⟩), h_r4_q3098_1, h_r4_q3098_2, trivial⟩
    · refine wq_b (tt_fX1_readDate hN I0 M0 I1 M1 k_I0 k_I1) (fun r6_q3099 h_r6_q3099 => ?_)
      obtain ⟨h_r6_q3099_0, h_r6_q3099_1, h_r6_q3099_2, -⟩ := h_r6_q3099
      refine wq_bz (by omega) ?_
      exact wq_s ⟨(show 0 ≤ r6_q3099.1.toInt ∧ r6_q3099.1.toInt ≤ 1 from ⟨by omega, by omega⟩), h_r6_q3099_1, h_r6_q3099_2, trivial⟩
  · refine wq_b (tt_fX9_step hN I1 M1 k_I1) (fun r7_q3100 h_r7_q3100 => ?_)
    obtain ⟨h_r7_q3100_0, -⟩ := h_r7_q3100
    have l_1 := il_1
    have l_12 := il_12
    refine wq_b (tt_fX9_holdsNumber hN r7_q3100.1 r7_q3100.2 (1 : Int32) (12 : Int32) h_r7_q3100_0) (fun r8_q3101 h_r8_q3101 => ?_)
    obtain ⟨h_r8_q3101_0, h_r8_q3101_1, h_r8_q3101_2, -⟩ := h_r8_q3101
    refine wq_eq (fun hc_3102 => ?_) (fun hc_3103 => ?_)
    · exact wq_s ⟨(show 0 ≤ (0 : Int32).toInt ∧ (0 : Int32).toInt ≤ 1 from ⟨by omega, by omega⟩), k_I0, h_r8_q3101_2, trivial⟩
    · have l_8 := il_8
      have t_3104 := ia_add (8 : Int32) (r8_q3101.2.1 6) (by omega) (by omega)
      refine wq_b (tt_fX1_readDegree hN I0 M0 r8_q3101.2.1 r8_q3101.2.2 ((8 : Int32) + (r8_q3101.2.1 6)) ⟨by omega, by omega⟩ k_I0 h_r8_q3101_2) (fun r9b_q3105 h_r9b_q3105 => ?_)
      obtain ⟨h_r9b_q3105_0, h_r9b_q3105_1, h_r9b_q3105_2, -⟩ := h_r9b_q3105
      refine wq_eq (fun hc_3106 => ?_) (fun hc_3107 => ?_)
      · exact wq_s ⟨(show 0 ≤ (0 : Int32).toInt ∧ (0 : Int32).toInt ≤ 1 from ⟨by omega, by omega⟩), h_r9b_q3105_1, h_r9b_q3105_2, trivial⟩
      · exact wq_s ⟨(show 0 ≤ (1 : Int32).toInt ∧ (1 : Int32).toInt ≤ 1 from ⟨by omega, by omega⟩), h_r9b_q3105_1, h_r9b_q3105_2, trivial⟩
set_option maxHeartbeats 4000000 in
theorem tt_fX1_readEntries_L10 {N : Nat} (hN : 3000000000 ≤ N)    : ∀ (fu : Nat) (I0_l10 : (Nat → Int32)) (M0_l10 : (Nat → Nat → Int32)) (I1_l10 : (Nat → Int32)) (M1_l10 : (Nat → Nat → Int32)) (y10_2 : Int32), (0 ≤ y10_2.toInt ∧ y10_2.toInt ≤ 600) → (KX1 I0_l10 M0_l10) → (KX9 I1_l10 M1_l10) → (600 - y10_2.toInt) < (fu : Int) → wq (fX1_readEntries_L10 N fu I0_l10 M0_l10 I1_l10 M1_l10 y10_2) (fun r => (0 ≤ r.1.toInt ∧ r.1.toInt ≤ 1) ∧ KX1 r.2.1 r.2.2.1 ∧ KX9 r.2.2.2.1 r.2.2.2.2 ∧ True) := by
  intro fu
  induction fu with
  | zero => intro I0_l10 M0_l10 I1_l10 M1_l10 y10_2 h_y10_2 k_I0_l10 k_I1_l10 hm; exfalso; omega
  | succ fu ih =>
    intro I0_l10 M0_l10 I1_l10 M1_l10 y10_2 h_y10_2 k_I0_l10 k_I1_l10 hm
    rw [fX1_readEntries_L10.eq_2]
    have l_600 := il_600
    refine wq_le (fun hc_3228 => ?_) (fun hc_3229 => ?_)
    · have l_1 := il_1
      exact wq_s ⟨(show 0 ≤ (1 : Int32).toInt ∧ (1 : Int32).toInt ≤ 1 from ⟨by omega, by omega⟩), k_I0_l10, k_I1_l10, trivial⟩
    · refine wq_b (tt_fX9_isAtEnd hN I1_l10 M1_l10 k_I1_l10) (fun r3_q3230 h_r3_q3230 => ?_)
      obtain ⟨h_r3_q3230_0, -⟩ := h_r3_q3230
      have l_0 := il_0
      refine wq_eq (fun hc_3231 => ?_) (fun hc_3232 => ?_)
      · refine wq_b (tt_fX1_readEntry hN I0_l10 M0_l10 I1_l10 M1_l10 k_I0_l10 k_I1_l10) (fun r4_q3233 h_r4_q3233 => ?_)
        obtain ⟨h_r4_q3233_0, h_r4_q3233_1, h_r4_q3233_2, -⟩ := h_r4_q3233
        refine wq_eq (fun hc_3234 => ?_) (fun hc_3235 => ?_)
        · exact wq_s ⟨(show 0 ≤ (0 : Int32).toInt ∧ (0 : Int32).toInt ≤ 1 from ⟨by omega, by omega⟩), h_r4_q3233_1, h_r4_q3233_2, trivial⟩
        · have l_1 := il_1
          have t_3237 := ia_add y10_2 (1 : Int32) (by omega) (by omega)
          refine wq_v (fun v5_q3236 h_v5_q3236 => ?_)
          have t_v5_q3236 := congrArg Int32.toInt h_v5_q3236
          exact ih r4_q3233.2.1 r4_q3233.2.2.1 r4_q3233.2.2.2.1 r4_q3233.2.2.2.2 v5_q3236 ⟨by omega, by omega⟩ h_r4_q3233_1 h_r4_q3233_2 (by omega)
      · have l_1 := il_1
        exact wq_s ⟨(show 0 ≤ (1 : Int32).toInt ∧ (1 : Int32).toInt ≤ 1 from ⟨by omega, by omega⟩), k_I0_l10, k_I1_l10, trivial⟩
set_option maxHeartbeats 4000000 in
theorem tt_fX1_readEntries {N : Nat} (hN : 3000000000 ≤ N) (I0 : Nat → Int32) (M0 : Nat → Nat → Int32) (I1 : Nat → Int32) (M1 : Nat → Nat → Int32) (k_I0 : KX1 I0 M0) (k_I1 : KX9 I1 M1) : wq (fX1_readEntries N I0 M0 I1 M1) (fun r => (0 ≤ r.1.toInt ∧ r.1.toInt ≤ 1) ∧ KX1 r.2.1 r.2.2.1 ∧ KX9 r.2.2.2.1 r.2.2.2.2 ∧ True) := by
  unfold fX1_readEntries
  have l_m1 := il_m1
  refine wq_b (tt_fJ7_fill_53178 hN 22 (M0 1) ((-1) : Int32) (by omega)) (fun r1_q3238 h_r1_q3238 => ?_)
  obtain ⟨h_r1_q3238_0, -⟩ := h_r1_q3238
  refine wq_v (fun M0_2_q3239 h_M0_2_q3239 => ?_)
  have k_M0_2_q3239 : KX1 I0 M0_2_q3239 := by rw [h_M0_2_q3239]; exact KX1.sf1 k_I0 (by rw [h_r1_q3238_0]; exact fill_rng (KX1.m1 k_I0)) (by rw [h_r1_q3238_0]; exact fill_dn)
  have l_0 := il_0
  exact tt_fX1_readEntries_L10 hN N I0 M0_2_q3239 I1 M1 (0 : Int32) ⟨by omega, by omega⟩ k_M0_2_q3239 k_I1 (by omega)
set_option maxHeartbeats 4000000 in
theorem tt_fX1_howManyTell_L4 {N : Nat} (hN : 3000000000 ≤ N) (I0 : Nat → Int32) (M0 : Nat → Nat → Int32) (k_I0 : KX1 I0 M0)  : ∀ (fu : Nat) (y4_1 : Int32) (y4_2 : Int32), (0 ≤ y4_2.toInt ∧ y4_2.toInt ≤ 120) → (120 - y4_2.toInt) < (fu : Int) → wq (fX1_howManyTell_L4 N I0 M0 fu y4_1 y4_2) (fun r => True) := by
  intro fu
  induction fu with
  | zero => intro y4_1 y4_2 h_y4_2 hm; exfalso; omega
  | succ fu ih =>
    intro y4_1 y4_2 h_y4_2 hm
    rw [fX1_howManyTell_L4.eq_2]
    have l_120 := il_120
    refine wq_le (fun hc_3415 => ?_) (fun hc_3416 => ?_)
    · have b_3417 := i32b y4_1
      exact wq_s trivial
    · refine wq_b (tt_fX1_tellsSomething hN I0 M0 y4_2 ⟨by omega, by omega⟩ k_I0) (fun r1_q3418 h_r1_q3418 => ?_)
      obtain ⟨h_r1_q3418_0, -⟩ := h_r1_q3418
      have l_0 := il_0
      refine wq_eq (fun hc_3419 => ?_) (fun hc_3420 => ?_)
      · have l_1 := il_1
        have t_3422 := ia_add y4_2 (1 : Int32) (by omega) (by omega)
        refine wq_v (fun v2_q3421 h_v2_q3421 => ?_)
        have t_v2_q3421 := congrArg Int32.toInt h_v2_q3421
        have b_3423 := i32b y4_1
        exact ih y4_1 v2_q3421 ⟨by omega, by omega⟩ (by omega)
      · have b_3425 := i32b y4_1
        have l_1 := il_1
        refine wq_v (fun v3_q3424 h_v3_q3424 => ?_)
        have t_v3_q3424 := congrArg Int32.toInt h_v3_q3424
        have t_3427 := ia_add y4_2 (1 : Int32) (by omega) (by omega)
        refine wq_v (fun v4_q3426 h_v4_q3426 => ?_)
        have t_v4_q3426 := congrArg Int32.toInt h_v4_q3426
        have b_3428 := i32b v3_q3424
        exact ih v3_q3424 v4_q3426 ⟨by omega, by omega⟩ (by omega)
set_option maxHeartbeats 4000000 in
theorem tt_fX1_howManyTell {N : Nat} (hN : 3000000000 ≤ N) (I0 : Nat → Int32) (M0 : Nat → Nat → Int32) (k_I0 : KX1 I0 M0) : wq (fX1_howManyTell N I0 M0) (fun r => True) := by
  unfold fX1_howManyTell
  have l_0 := il_0
  exact tt_fX1_howManyTell_L4 hN I0 M0 k_I0 N (0 : Int32) (0 : Int32) ⟨by omega, by omega⟩ (by omega)
set_option maxHeartbeats 4000000 in
theorem tt_fX1_bookTells_L2 {N : Nat} (hN : 3000000000 ≤ N) (I0 : Nat → Int32) (M0 : Nat → Nat → Int32) (x1 : Int32) (h_x1 : 0 ≤ x1.toInt ∧ x1.toInt ≤ 5) (k_I0 : KX1 I0 M0)  : ∀ (fu : Nat) (y2_2 : Int32), (0 ≤ y2_2.toInt ∧ y2_2.toInt ≤ 20) → (20 - y2_2.toInt) < (fu : Int) → wq (fX1_bookTells_L2 N I0 M0 x1 fu y2_2) (fun r => (0 ≤ r.toInt ∧ r.toInt ≤ 1) ∧ True) := by
  intro fu
  induction fu with
  | zero => intro y2_2 h_y2_2 hm; exfalso; omega
  | succ fu ih =>
    intro y2_2 h_y2_2 hm
    rw [fX1_bookTells_L2.eq_2]
    have l_20 := il_20
    refine wq_le (fun hc_3546 => ?_) (fun hc_3547 => ?_)
    · have l_0 := il_0
      exact wq_s ⟨(show 0 ≤ (0 : Int32).toInt ∧ (0 : Int32).toInt ≤ 1 from ⟨by omega, by omega⟩), trivial⟩
    · have t_3548 := ia_mul (20 : Int32) (20) il_20 x1 (by omega) (by omega)
      have t_3549 := ia_add ((20 : Int32) * x1) y2_2 (by omega) (by omega)
      refine wq_b (tt_fX1_tellsSomething hN I0 M0 (((20 : Int32) * x1) + y2_2) ⟨by omega, by omega⟩ k_I0) (fun r1_q3550 h_r1_q3550 => ?_)
      obtain ⟨h_r1_q3550_0, -⟩ := h_r1_q3550
      have l_0 := il_0
      refine wq_eq (fun hc_3551 => ?_) (fun hc_3552 => ?_)
      · have l_1 := il_1
        have t_3554 := ia_add y2_2 (1 : Int32) (by omega) (by omega)
        refine wq_v (fun v2_q3553 h_v2_q3553 => ?_)
        have t_v2_q3553 := congrArg Int32.toInt h_v2_q3553
        exact ih v2_q3553 ⟨by omega, by omega⟩ (by omega)
      · have l_1 := il_1
        exact wq_s ⟨(show 0 ≤ (1 : Int32).toInt ∧ (1 : Int32).toInt ≤ 1 from ⟨by omega, by omega⟩), trivial⟩
set_option maxHeartbeats 4000000 in
theorem tt_fX1_bookTells {N : Nat} (hN : 3000000000 ≤ N) (I0 : Nat → Int32) (M0 : Nat → Nat → Int32) (x1 : Int32) (h_x1 : 0 ≤ x1.toInt ∧ x1.toInt ≤ 5) (k_I0 : KX1 I0 M0) : wq (fX1_bookTells N I0 M0 x1) (fun r => (0 ≤ r.toInt ∧ r.toInt ≤ 1) ∧ True) := by
  unfold fX1_bookTells
  have l_0 := il_0
  exact tt_fX1_bookTells_L2 hN I0 M0 x1 ⟨by omega, by omega⟩ k_I0 N (0 : Int32) ⟨by omega, by omega⟩ (by omega)
set_option maxHeartbeats 4000000 in
theorem tt_fX1_howManyHouses_L4 {N : Nat} (hN : 3000000000 ≤ N) (I0 : Nat → Int32) (M0 : Nat → Nat → Int32) (x1 : Int32) (h_x1 : 0 ≤ x1.toInt ∧ x1.toInt ≤ 119) (k_I0 : KX1 I0 M0)  : ∀ (fu : Nat) (y4_2 : Int32) (y4_3 : Int32), (1 ≤ y4_3.toInt ∧ y4_3.toInt ≤ 13) → (13 - y4_3.toInt) < (fu : Int) → wq (fX1_howManyHouses_L4 N I0 M0 x1 fu y4_2 y4_3) (fun r => True) := by
  intro fu
  induction fu with
  | zero => intro y4_2 y4_3 h_y4_3 hm; exfalso; omega
  | succ fu ih =>
    intro y4_2 y4_3 h_y4_3 hm
    rw [fX1_howManyHouses_L4.eq_2]
    have l_12 := il_12
    refine wq_lt (fun hc_3804 => ?_) (fun hc_3805 => ?_)
    · have b_3806 := i32b y4_2
      exact wq_s trivial
    · have l_8 := il_8
      have t_3807 := ia_add (8 : Int32) y4_3 (by omega) (by omega)
      refine wq_b (tt_fX1_degreeOf hN I0 M0 x1 ((8 : Int32) + y4_3) ⟨by omega, by omega⟩ ⟨by omega, by omega⟩ k_I0) (fun r1_q3808 h_r1_q3808 => ?_)
      obtain ⟨h_r1_q3808_0, h_r1_q3808_1, -⟩ := h_r1_q3808
      have l_m1 := il_m1
      refine wq_eq (fun hc_3809 => ?_) (fun hc_3810 => ?_)
      · have l_1 := il_1
        have t_3812 := ia_add y4_3 (1 : Int32) (by omega) (by omega)
        refine wq_v (fun v2_q3811 h_v2_q3811 => ?_)
        have t_v2_q3811 := congrArg Int32.toInt h_v2_q3811
        have b_3813 := i32b y4_2
        exact ih y4_2 v2_q3811 ⟨by omega, by omega⟩ (by omega)
      · have b_3815 := i32b y4_2
        have l_1 := il_1
        refine wq_v (fun v3_q3814 h_v3_q3814 => ?_)
        have t_v3_q3814 := congrArg Int32.toInt h_v3_q3814
        have t_3817 := ia_add y4_3 (1 : Int32) (by omega) (by omega)
        refine wq_v (fun v4_q3816 h_v4_q3816 => ?_)
        have t_v4_q3816 := congrArg Int32.toInt h_v4_q3816
        have b_3818 := i32b v3_q3814
        exact ih v3_q3814 v4_q3816 ⟨by omega, by omega⟩ (by omega)
set_option maxHeartbeats 4000000 in
theorem tt_fX1_howManyHouses {N : Nat} (hN : 3000000000 ≤ N) (I0 : Nat → Int32) (M0 : Nat → Nat → Int32) (x1 : Int32) (h_x1 : 0 ≤ x1.toInt ∧ x1.toInt ≤ 119) (k_I0 : KX1 I0 M0) : wq (fX1_howManyHouses N I0 M0 x1) (fun r => True) := by
  unfold fX1_howManyHouses
  have l_0 := il_0
  have l_1 := il_1
  exact tt_fX1_howManyHouses_L4 hN I0 M0 x1 ⟨by omega, by omega⟩ k_I0 N (0 : Int32) (1 : Int32) ⟨by omega, by omega⟩ (by omega)
set_option maxHeartbeats 4000000 in
theorem tt_fX2_climbOf {N : Nat} (hN : 3000000000 ≤ N) (I0 : Nat → Int32) (M0 : Nat → Nat → Int32) (x1 : Int32) (x2 : Int32) (h_x1 : 0 ≤ x1.toInt ∧ x1.toInt ≤ 6) (h_x2 : -60 ≤ x2.toInt ∧ x2.toInt ≤ 21599) (k_I0 : KX2 I0 M0) : wq (fX2_climbOf N I0 M0 x1 x2) (fun r => True) := by
  unfold fX2_climbOf
  have l_1800 := il_1800
  have t_3868 := ia_div2 x2 (1800 : Int32) 1800 il_1800 (by decide)
  refine wq_v (fun v1_q3867 h_v1_q3867 => ?_)
  have t_v1_q3867 := congrArg Int32.toInt h_v1_q3867
  have l_13 := il_13
  have t_3869 := ia_mul (13 : Int32) (13) il_13 x1 (by omega) (by omega)
  have t_3870 := ia_add ((13 : Int32) * x1) v1_q3867 (by omega) (by omega)
  refine wq_in (n := 91) ⟨by omega, by omega⟩ ?_
  refine wq_v (fun v2_q3871 h_v2_q3871 => ?_)
  have t_v2_q3871 := congrArg Int32.toInt h_v2_q3871
  have l_1 := il_1
  have t_3872 := ia_add (((13 : Int32) * x1) + v1_q3867) (1 : Int32) (by omega) (by omega)
  refine wq_in (n := 91) ⟨by omega, by omega⟩ ?_
  have b_3874 := i32b v2_q3871
  refine wq_v (fun v3_q3873 h_v3_q3873 => ?_)
  have t_v3_q3873 := congrArg Int32.toInt h_v3_q3873
  exact wq_s trivial
set_option maxHeartbeats 4000000 in
theorem tt_fJ9_floorMod_7cf53 {N : Nat} (hN : 3000000000 ≤ N) (x0 : Int32) (x1 : Int32) (h_x1 : 1 ≤ x1.toInt ∧ x1.toInt ≤ 2147483647) : wq (fJ9_floorMod_7cf53 N x0 x1) (fun r => True) := by
  unfold fJ9_floorMod_7cf53
  have b_3929 := i32b x1
  refine wq_nz (by omega) ?_
  have b_3931 := i32b x0
  refine wq_v (fun v1_q3930 h_v1_q3930 => ?_)
  have t_v1_q3930 := congrArg Int32.toInt h_v1_q3930
  have l_0 := il_0
  refine wq_le (fun hc_3932 => ?_) (fun hc_3933 => ?_)
  · have b_3934 := i32b v1_q3930
    exact wq_s trivial
  · have b_3935 := i32b v1_q3930
    refine wq_eq (fun hc_3936 => ?_) (fun hc_3937 => ?_)
    · exact wq_s trivial
    · exact wq_s trivial
set_option maxHeartbeats 4000000 in
theorem tt_fX2_placeOf_L5 {N : Nat} (hN : 3000000000 ≤ N) (I0 : Nat → Int32) (M0 : Nat → Nat → Int32) (x1 : Int32) (x2 : Int32) (h_x1 : 0 ≤ x1.toInt ∧ x1.toInt ≤ 6) (k_I0 : KX2 I0 M0)  : ∀ (fu : Nat) (y5_3 : Int32) (y5_4 : Int32), (0 ≤ y5_3.toInt ∧ y5_3.toInt ≤ 11) → (1 ≤ y5_4.toInt ∧ y5_4.toInt ≤ 12) → (12 - y5_4.toInt) < (fu : Int) → wq (fX2_placeOf_L5 N I0 M0 x1 x2 fu y5_3 y5_4) (fun r => True) := by
  intro fu
  induction fu with
  | zero => intro y5_3 y5_4 h_y5_3 h_y5_4 hm; exfalso; omega
  | succ fu ih =>
    intro y5_3 y5_4 h_y5_3 h_y5_4 hm
    rw [fX2_placeOf_L5.eq_2]
    have l_12 := il_12
    refine wq_le (fun hc_4217 => ?_) (fun hc_4218 => ?_)
    · unfold fX2_placeOf_J41
      have l_13 := il_13
      have t_4219 := ia_mul (13 : Int32) (13) il_13 x1 (by omega) (by omega)
      have t_4220 := ia_add ((13 : Int32) * x1) y5_3 (by omega) (by omega)
      refine wq_in (n := 91) ⟨by omega, by omega⟩ ?_
      refine wq_v (fun v1_q4221 h_v1_q4221 => ?_)
      have t_v1_q4221 := congrArg Int32.toInt h_v1_q4221
      have l_1 := il_1
      have t_4222 := ia_add (((13 : Int32) * x1) + y5_3) (1 : Int32) (by omega) (by omega)
      refine wq_in (n := 91) ⟨by omega, by omega⟩ ?_
      have b_4224 := i32b v1_q4221
      refine wq_v (fun v2_q4223 h_v2_q4223 => ?_)
      have t_v2_q4223 := congrArg Int32.toInt h_v2_q4223
      have b_4225 := i32b v2_q4223
      refine wq_le (fun hc_4226 => ?_) (fun hc_4227 => ?_)
      · refine wq_nz (by omega) ?_
        have l_1800 := il_1800
        have t_4228 := ia_mul (1800 : Int32) (1800) il_1800 y5_3 (by omega) (by omega)
        exact wq_s trivial
      · have l_0 := il_0
        exact wq_s trivial
    · have l_13 := il_13
      have t_4229 := ia_mul (13 : Int32) (13) il_13 x1 (by omega) (by omega)
      have t_4230 := ia_add ((13 : Int32) * x1) y5_4 (by omega) (by omega)
      refine wq_in (n := 91) ⟨by omega, by omega⟩ ?_
      have b_4231 := i32b x2
      have l_1800 := il_1800
      refine wq_lt (fun hc_4232 => ?_) (fun hc_4233 => ?_)
      · unfold fX2_placeOf_J41
        have t_4234 := ia_add ((13 : Int32) * x1) y5_3 (by omega) (by omega)
        refine wq_in (n := 91) ⟨by omega, by omega⟩ ?_
        refine wq_v (fun v1_q4235 h_v1_q4235 => ?_)
        have t_v1_q4235 := congrArg Int32.toInt h_v1_q4235
        have l_1 := il_1
        have t_4236 := ia_add (((13 : Int32) * x1) + y5_3) (1 : Int32) (by omega) (by omega)
        refine wq_in (n := 91) ⟨by omega, by omega⟩ ?_
        have b_4238 := i32b v1_q4235
        refine wq_v (fun v2_q4237 h_v2_q4237 => ?_)
        have t_v2_q4237 := congrArg Int32.toInt h_v2_q4237
        have b_4239 := i32b v2_q4237
        refine wq_le (fun hc_4240 => ?_) (fun hc_4241 => ?_)
        · refine wq_nz (by omega) ?_
          have t_4242 := ia_mul (1800 : Int32) (1800) il_1800 y5_3 (by omega) (by omega)
          exact wq_s trivial
        · have l_0 := il_0
          exact wq_s trivial
      · have l_1 := il_1
        have t_4244 := ia_add y5_4 (1 : Int32) (by omega) (by omega)
        refine wq_v (fun v3_q4243 h_v3_q4243 => ?_)
        have t_v3_q4243 := congrArg Int32.toInt h_v3_q4243
        exact ih y5_4 v3_q4243 ⟨by omega, by omega⟩ ⟨by omega, by omega⟩ (by omega)
set_option maxHeartbeats 4000000 in
theorem tt_fX2_placeOf {N : Nat} (hN : 3000000000 ≤ N) (I0 : Nat → Int32) (M0 : Nat → Nat → Int32) (x1 : Int32) (x2 : Int32) (h_x1 : 0 ≤ x1.toInt ∧ x1.toInt ≤ 6) (k_I0 : KX2 I0 M0) : wq (fX2_placeOf N I0 M0 x1 x2) (fun r => True) := by
  unfold fX2_placeOf
  have b_4245 := i32b x2
  have l_0 := il_0
  have l_1 := il_1
  exact tt_fX2_placeOf_L5 hN I0 M0 x1 x2 ⟨by omega, by omega⟩ k_I0 N (0 : Int32) (1 : Int32) ⟨by omega, by omega⟩ ⟨by omega, by omega⟩ (by omega)
set_option maxHeartbeats 4000000 in
theorem tt_fX2_middleOf {N : Nat} (hN : 3000000000 ≤ N) (I0 : Nat → Int32) (M0 : Nat → Nat → Int32) (x1 : Int32) (x2 : Int32) (h_x1 : 0 ≤ x1.toInt ∧ x1.toInt ≤ 6) (h_x2 : -60 ≤ x2.toInt ∧ x2.toInt ≤ 21599) (k_I0 : KX2 I0 M0) : wq (fX2_middleOf N I0 M0 x1 x2) (fun r => True) := by
  unfold fX2_middleOf
  refine wq_b (tt_fX2_climbOf hN I0 M0 x1 x2 ⟨by omega, by omega⟩ ⟨by omega, by omega⟩ k_I0) (fun r1_q4282 h_r1_q4282 => ?_)
  obtain ⟨-⟩ := h_r1_q4282
  have b_4283 := i32b r1_q4282
  have l_1620000 := il_1620000
  have l_6480000 := il_6480000
  refine wq_b (tt_fJ9_floorMod_7cf53 hN (r1_q4282 - (1620000 : Int32)) (6480000 : Int32) ⟨by omega, by omega⟩) (fun r2_q4284 h_r2_q4284 => ?_)
  obtain ⟨-⟩ := h_r2_q4284
  have l_0 := il_0
  have b_4285 := i32b r2_q4284
  refine wq_b (tt_fX2_placeOf hN I0 M0 (0 : Int32) r2_q4284 ⟨by omega, by omega⟩ k_I0) (fun r3_q4286 h_r3_q4286 => ?_)
  obtain ⟨-⟩ := h_r3_q4286
  have b_4287 := i32b r3_q4286
  exact wq_s trivial
set_option maxHeartbeats 4000000 in
theorem tt_fX2_houseByMiddle {N : Nat} (hN : 3000000000 ≤ N) (I0 : Nat → Int32) (M0 : Nat → Nat → Int32) (x1 : Int32) (x2 : Int32) (x3 : Int32) (h_x1 : -1 ≤ x1.toInt ∧ x1.toInt ≤ 359) (h_x2 : 0 ≤ x2.toInt ∧ x2.toInt ≤ 6) (h_x3 : 1 ≤ x3.toInt ∧ x3.toInt ≤ 12) (k_I0 : KX2 I0 M0) : wq (fX2_houseByMiddle N I0 M0 x1 x2 x3) (fun r => (-359 ≤ r.toInt ∧ r.toInt ≤ 359) ∧ True) := by
  unfold fX2_houseByMiddle
  have l_4 := il_4
  refine wq_lt (fun hc_4804 => ?_) (fun hc_4805 => ?_)
  · unfold fX2_houseByMiddle_J15
    unfold fX2_houseByMiddle_J16
    have l_0 := il_0
    refine wq_eq (fun hc_4806 => ?_) (fun hc_4807 => ?_)
    · unfold fX2_houseByMiddle_J44
      have l_60 := il_60
      have t_4808 := ia_mul (60 : Int32) (60) il_60 x1 (by omega) (by omega)
      refine wq_b (tt_fX2_middleOf hN I0 M0 x2 ((60 : Int32) * x1) ⟨by omega, by omega⟩ ⟨by omega, by omega⟩ k_I0) (fun r1_q4809 h_r1_q4809 => ?_)
      obtain ⟨-⟩ := h_r1_q4809
      have b_4811 := i32b r1_q4809
      have t_4812 := i32b r1_q4809
      have t_4813 := ia_div2 r1_q4809 (60 : Int32) 60 il_60 (by decide)
      refine wq_v (fun v2_q4810 h_v2_q4810 => ?_)
      have t_v2_q4810 := congrArg Int32.toInt h_v2_q4810
      have l_10 := il_10
      refine wq_lt (fun hc_4814 => ?_) (fun hc_4815 => ?_)
      · have l_180 := il_180
        have t_4816 := ia_add v2_q4810 (180 : Int32) (by omega) (by omega)
        have t_4817 := ia_sub (v2_q4810 + (180 : Int32)) x1 (by omega) (by omega)
        have l_360 := il_360
        refine wq_b (tt_fJ9_floorMod_7cf53 hN ((v2_q4810 + (180 : Int32)) - x1) (360 : Int32) ⟨by omega, by omega⟩) (fun r3_q4818 h_r3_q4818 => ?_)
        obtain ⟨-⟩ := h_r3_q4818
        have l_3 := il_3
        have t_4820 := i32b ((x3 - (1 : Int32)) * r3_q4818)
        have t_4821 := ia_div2 ((x3 - (1 : Int32)) * r3_q4818) (3 : Int32) 3 il_3 (by decide)
        have t_4822 := ia_add x1 (((x3 - (1 : Int32)) * r3_q4818) / (3 : Int32)) (by omega) (by omega)
        refine wq_v (fun v4_q4819 h_v4_q4819 => ?_)
        have t_v4_q4819 := congrArg Int32.toInt h_v4_q4819
        unfold fX2_houseByMiddle_J118
        refine wq_eq (fun hc_4823 => ?_) (fun hc_4824 => ?_)
        · have t_4825 := ia_rem2 v4_q4819 (360 : Int32) 360 il_360 (by decide)
          exact wq_s ⟨(show -359 ≤ (v4_q4819 - ((v4_q4819 / (360 : Int32)) * (360 : Int32))).toInt ∧ (v4_q4819 - ((v4_q4819 / (360 : Int32)) * (360 : Int32))).toInt ≤ 359 from ⟨by omega, by omega⟩), trivial⟩
        · exfalso; omega
      · exfalso; omega
    · exfalso; omega
  · have l_9 := il_9
    refine wq_lt (fun hc_4826 => ?_) (fun hc_4827 => ?_)
    · unfold fX2_houseByMiddle_J15
      unfold fX2_houseByMiddle_J16
      have l_0 := il_0
      refine wq_eq (fun hc_4828 => ?_) (fun hc_4829 => ?_)
      · unfold fX2_houseByMiddle_J44
        have l_60 := il_60
        have t_4830 := ia_mul (60 : Int32) (60) il_60 x1 (by omega) (by omega)
        refine wq_b (tt_fX2_middleOf hN I0 M0 x2 ((60 : Int32) * x1) ⟨by omega, by omega⟩ ⟨by omega, by omega⟩ k_I0) (fun r1_q4831 h_r1_q4831 => ?_)
        obtain ⟨-⟩ := h_r1_q4831
        have b_4833 := i32b r1_q4831
        have t_4834 := i32b r1_q4831
        have t_4835 := ia_div2 r1_q4831 (60 : Int32) 60 il_60 (by decide)
        refine wq_v (fun v2_q4832 h_v2_q4832 => ?_)
        have t_v2_q4832 := congrArg Int32.toInt h_v2_q4832
        have l_10 := il_10
        refine wq_lt (fun hc_4836 => ?_) (fun hc_4837 => ?_)
        · exfalso; omega
        · have t_4838 := ia_sub x1 v2_q4832 (by omega) (by omega)
          have l_360 := il_360
          refine wq_b (tt_fJ9_floorMod_7cf53 hN (x1 - v2_q4832) (360 : Int32) ⟨by omega, by omega⟩) (fun r5_q4839 h_r5_q4839 => ?_)
          obtain ⟨-⟩ := h_r5_q4839
          have l_3 := il_3
          have t_4841 := i32b ((x3 - (10 : Int32)) * r5_q4839)
          have t_4842 := ia_div2 ((x3 - (10 : Int32)) * r5_q4839) (3 : Int32) 3 il_3 (by decide)
          have t_4843 := ia_add v2_q4832 (((x3 - (10 : Int32)) * r5_q4839) / (3 : Int32)) (by omega) (by omega)
          refine wq_v (fun v6_q4840 h_v6_q4840 => ?_)
          have t_v6_q4840 := congrArg Int32.toInt h_v6_q4840
          unfold fX2_houseByMiddle_J118
          refine wq_eq (fun hc_4844 => ?_) (fun hc_4845 => ?_)
          · have t_4846 := ia_rem2 v6_q4840 (360 : Int32) 360 il_360 (by decide)
            exact wq_s ⟨(show -359 ≤ (v6_q4840 - ((v6_q4840 / (360 : Int32)) * (360 : Int32))).toInt ∧ (v6_q4840 - ((v6_q4840 / (360 : Int32)) * (360 : Int32))).toInt ≤ 359 from ⟨by omega, by omega⟩), trivial⟩
          · exfalso; omega
      · exfalso; omega
    · unfold fX2_houseByMiddle_J16
      have l_1 := il_1
      have l_0 := il_0
      refine wq_eq (fun hc_4847 => ?_) (fun hc_4848 => ?_)
      · exfalso; omega
      · have l_7 := il_7
        refine wq_le (fun hc_4849 => ?_) (fun hc_4850 => ?_)
        · unfold fX2_houseByMiddle_J44
          have l_60 := il_60
          have t_4851 := ia_mul (60 : Int32) (60) il_60 x1 (by omega) (by omega)
          refine wq_b (tt_fX2_middleOf hN I0 M0 x2 ((60 : Int32) * x1) ⟨by omega, by omega⟩ ⟨by omega, by omega⟩ k_I0) (fun r1_q4852 h_r1_q4852 => ?_)
          obtain ⟨-⟩ := h_r1_q4852
          have b_4854 := i32b r1_q4852
          have t_4855 := i32b r1_q4852
          have t_4856 := ia_div2 r1_q4852 (60 : Int32) 60 il_60 (by decide)
          refine wq_v (fun v2_q4853 h_v2_q4853 => ?_)
          have t_v2_q4853 := congrArg Int32.toInt h_v2_q4853
          have l_6 := il_6
          have t_4857 := ia_sub x3 (6 : Int32) (by omega) (by omega)
          have l_10 := il_10
          refine wq_lt (fun hc_4858 => ?_) (fun hc_4859 => ?_)
          · have l_180 := il_180
            have t_4860 := ia_add v2_q4853 (180 : Int32) (by omega) (by omega)
            have t_4861 := ia_sub (v2_q4853 + (180 : Int32)) x1 (by omega) (by omega)
            have l_360 := il_360
            refine wq_b (tt_fJ9_floorMod_7cf53 hN ((v2_q4853 + (180 : Int32)) - x1) (360 : Int32) ⟨by omega, by omega⟩) (fun r3_q4862 h_r3_q4862 => ?_)
            obtain ⟨-⟩ := h_r3_q4862
            have l_3 := il_3
            have t_4864 := i32b (((x3 - (6 : Int32)) - (1 : Int32)) * r3_q4862)
            have t_4865 := ia_div2 (((x3 - (6 : Int32)) - (1 : Int32)) * r3_q4862) (3 : Int32) 3 il_3 (by decide)
            have t_4866 := ia_add x1 ((((x3 - (6 : Int32)) - (1 : Int32)) * r3_q4862) / (3 : Int32)) (by omega) (by omega)
            refine wq_v (fun v4_q4863 h_v4_q4863 => ?_)
            have t_v4_q4863 := congrArg Int32.toInt h_v4_q4863
            unfold fX2_houseByMiddle_J118
            refine wq_eq (fun hc_4867 => ?_) (fun hc_4868 => ?_)
            · exfalso; omega
            · have t_4869 := ia_add v4_q4863 (180 : Int32) (by omega) (by omega)
              have t_4870 := ia_rem2 (v4_q4863 + (180 : Int32)) (360 : Int32) 360 il_360 (by decide)
              exact wq_s ⟨(show -359 ≤ ((v4_q4863 + (180 : Int32)) - (((v4_q4863 + (180 : Int32)) / (360 : Int32)) * (360 : Int32))).toInt ∧ ((v4_q4863 + (180 : Int32)) - (((v4_q4863 + (180 : Int32)) / (360 : Int32)) * (360 : Int32))).toInt ≤ 359 from ⟨by omega, by omega⟩), trivial⟩
          · exfalso; omega
        · unfold fX2_houseByMiddle_J44
          have l_60 := il_60
          have t_4871 := ia_mul (60 : Int32) (60) il_60 x1 (by omega) (by omega)
          refine wq_b (tt_fX2_middleOf hN I0 M0 x2 ((60 : Int32) * x1) ⟨by omega, by omega⟩ ⟨by omega, by omega⟩ k_I0) (fun r1_q4872 h_r1_q4872 => ?_)
          obtain ⟨-⟩ := h_r1_q4872
          have b_4874 := i32b r1_q4872
          have t_4875 := i32b r1_q4872
          have t_4876 := ia_div2 r1_q4872 (60 : Int32) 60 il_60 (by decide)
          refine wq_v (fun v2_q4873 h_v2_q4873 => ?_)
          have t_v2_q4873 := congrArg Int32.toInt h_v2_q4873
          have l_6 := il_6
          have t_4877 := ia_add x3 (6 : Int32) (by omega) (by omega)
          have l_10 := il_10
          refine wq_lt (fun hc_4878 => ?_) (fun hc_4879 => ?_)
          · exfalso; omega
          · have t_4880 := ia_sub x1 v2_q4873 (by omega) (by omega)
            have l_360 := il_360
            refine wq_b (tt_fJ9_floorMod_7cf53 hN (x1 - v2_q4873) (360 : Int32) ⟨by omega, by omega⟩) (fun r5_q4881 h_r5_q4881 => ?_)
            obtain ⟨-⟩ := h_r5_q4881
            have l_3 := il_3
            have t_4883 := i32b (((x3 + (6 : Int32)) - (10 : Int32)) * r5_q4881)
            have t_4884 := ia_div2 (((x3 + (6 : Int32)) - (10 : Int32)) * r5_q4881) (3 : Int32) 3 il_3 (by decide)
            have t_4885 := ia_add v2_q4873 ((((x3 + (6 : Int32)) - (10 : Int32)) * r5_q4881) / (3 : Int32)) (by omega) (by omega)
            refine wq_v (fun v6_q4882 h_v6_q4882 => ?_)
            have t_v6_q4882 := congrArg Int32.toInt h_v6_q4882
            unfold fX2_houseByMiddle_J118
            refine wq_eq (fun hc_4886 => ?_) (fun hc_4887 => ?_)
            · exfalso; omega
            · have l_180 := il_180
              have t_4888 := ia_add v6_q4882 (180 : Int32) (by omega) (by omega)
              have t_4889 := ia_rem2 (v6_q4882 + (180 : Int32)) (360 : Int32) 360 il_360 (by decide)
              exact wq_s ⟨(show -359 ≤ ((v6_q4882 + (180 : Int32)) - (((v6_q4882 + (180 : Int32)) / (360 : Int32)) * (360 : Int32))).toInt ∧ ((v6_q4882 + (180 : Int32)) - (((v6_q4882 + (180 : Int32)) / (360 : Int32)) * (360 : Int32))).toInt ≤ 359 from ⟨by omega, by omega⟩), trivial⟩
set_option maxHeartbeats 4000000 in
theorem tt_fX2_houseDegree {N : Nat} (hN : 3000000000 ≤ N) (I0 : Nat → Int32) (M0 : Nat → Nat → Int32) (x1 : Int32) (x2 : Int32) (x3 : Int32) (x4 : Int32) (h_x1 : -1 ≤ x1.toInt ∧ x1.toInt ≤ 359) (h_x4 : 1 ≤ x4.toInt ∧ x4.toInt ≤ 12) (k_I0 : KX2 I0 M0) (hr_3 : (0 ≤ x2.toInt ∧ x2.toInt ≤ 1) ∨ (0 ≤ x3.toInt ∧ x3.toInt ≤ 6)) : wq (fX2_houseDegree N I0 M0 x1 x2 x3 x4) (fun r => True) := by
  unfold fX2_houseDegree
  have b_4956 := i32b x2
  have l_0 := il_0
  refine wq_eq (fun hc_4957 => ?_) (fun hc_4958 => ?_)
  · exact wq_s trivial
  · have l_1 := il_1
    refine wq_eq (fun hc_4959 => ?_) (fun hc_4960 => ?_)
    · have t_4961 := ia_sub x4 (1 : Int32) (by omega) (by omega)
      have l_30 := il_30
      have t_4962 := ia_mul (30 : Int32) (30) il_30 (x4 - (1 : Int32)) (by omega) (by omega)
      have t_4963 := ia_add x1 ((30 : Int32) * (x4 - (1 : Int32))) (by omega) (by omega)
      have l_360 := il_360
      have t_4964 := ia_rem2 (x1 + ((30 : Int32) * (x4 - (1 : Int32)))) (360 : Int32) 360 il_360 (by decide)
      exact wq_s trivial
    · have b_4965 := i32b x3
      refine wq_b (tt_fX2_houseByMiddle hN I0 M0 x1 x3 x4 ⟨by omega, by omega⟩ ⟨by omega, by omega⟩ ⟨by omega, by omega⟩ k_I0) (fun r1_q4966 h_r1_q4966 => ?_)
      obtain ⟨h_r1_q4966_0, -⟩ := h_r1_q4966
      exact wq_s trivial
set_option maxHeartbeats 4000000 in
theorem tt_fX1_howManyDiffer_L15 {N : Nat} (hN : 3000000000 ≤ N) (I0 : Nat → Int32) (M0 : Nat → Nat → Int32) (I1 : Nat → Int32) (M1 : Nat → Nat → Int32) (x2 : Int32) (x3 : Int32) (x4 : Int32) (r1 : Int32) (h_x2 : 0 ≤ x2.toInt ∧ x2.toInt ≤ 119) (h_r1 : -1 ≤ r1.toInt ∧ r1.toInt ≤ 359) (k_I0 : KX1 I0 M0) (k_I1 : KX2 I1 M1) (hr_4 : (0 ≤ x3.toInt ∧ x3.toInt ≤ 1) ∨ (0 ≤ x4.toInt ∧ x4.toInt ≤ 6))  : ∀ (fu : Nat) (y15_6 : Int32) (y15_7 : Int32), (1 ≤ y15_7.toInt ∧ y15_7.toInt ≤ 13) → (13 - y15_7.toInt) < (fu : Int) → wq (fX1_howManyDiffer_L15 N I0 M0 I1 M1 x2 x3 x4 r1 fu y15_6 y15_7) (fun r => True) := by
  intro fu
  induction fu with
  | zero => intro y15_6 y15_7 h_y15_7 hm; exfalso; omega
  | succ fu ih =>
    intro y15_6 y15_7 h_y15_7 hm
    rw [fX1_howManyDiffer_L15.eq_2]
    have l_12 := il_12
    refine wq_lt (fun hc_5501 => ?_) (fun hc_5502 => ?_)
    · have b_5503 := i32b y15_6
      exact wq_s trivial
    · have l_8 := il_8
      have t_5504 := ia_add (8 : Int32) y15_7 (by omega) (by omega)
      refine wq_b (tt_fX1_degreeOf hN I0 M0 x2 ((8 : Int32) + y15_7) ⟨by omega, by omega⟩ ⟨by omega, by omega⟩ k_I0) (fun r2_q5505 h_r2_q5505 => ?_)
      obtain ⟨h_r2_q5505_0, h_r2_q5505_1, -⟩ := h_r2_q5505
      have l_m1 := il_m1
      refine wq_eq (fun hc_5506 => ?_) (fun hc_5507 => ?_)
      · have l_1 := il_1
        have t_5509 := ia_add y15_7 (1 : Int32) (by omega) (by omega)
        refine wq_v (fun v3_q5508 h_v3_q5508 => ?_)
        have t_v3_q5508 := congrArg Int32.toInt h_v3_q5508
        have b_5510 := i32b y15_6
        exact ih y15_6 v3_q5508 ⟨by omega, by omega⟩ (by omega)
      · have b_5511 := i32b x3
        have b_5512 := i32b x4
        refine wq_b (tt_fX2_houseDegree hN I1 M1 r1 x3 x4 y15_7 ⟨by omega, by omega⟩ ⟨by omega, by omega⟩ k_I1 (by omega)) (fun r4_q5513 h_r4_q5513 => ?_)
        obtain ⟨-⟩ := h_r4_q5513
        have b_5514 := i32b r4_q5513
        refine wq_eq (fun hc_5515 => ?_) (fun hc_5516 => ?_)
        · have l_1 := il_1
          have t_5518 := ia_add y15_7 (1 : Int32) (by omega) (by omega)
          refine wq_v (fun v5_q5517 h_v5_q5517 => ?_)
          have t_v5_q5517 := congrArg Int32.toInt h_v5_q5517
          have b_5519 := i32b y15_6
          exact ih y15_6 v5_q5517 ⟨by omega, by omega⟩ (by omega)
        · have b_5521 := i32b y15_6
          have l_1 := il_1
          refine wq_v (fun v6_q5520 h_v6_q5520 => ?_)
          have t_v6_q5520 := congrArg Int32.toInt h_v6_q5520
          have t_5523 := ia_add y15_7 (1 : Int32) (by omega) (by omega)
          refine wq_v (fun v7_q5522 h_v7_q5522 => ?_)
          have t_v7_q5522 := congrArg Int32.toInt h_v7_q5522
          have b_5524 := i32b v6_q5520
          exact ih v6_q5520 v7_q5522 ⟨by omega, by omega⟩ (by omega)
set_option maxHeartbeats 4000000 in
theorem tt_fX1_howManyDiffer {N : Nat} (hN : 3000000000 ≤ N) (I0 : Nat → Int32) (M0 : Nat → Nat → Int32) (I1 : Nat → Int32) (M1 : Nat → Nat → Int32) (x2 : Int32) (x3 : Int32) (x4 : Int32) (h_x2 : 0 ≤ x2.toInt ∧ x2.toInt ≤ 119) (k_I0 : KX1 I0 M0) (k_I1 : KX2 I1 M1) (hr_3 : (0 ≤ x3.toInt ∧ x3.toInt ≤ 1) ∨ (0 ≤ x4.toInt ∧ x4.toInt ≤ 6)) : wq (fX1_howManyDiffer N I0 M0 I1 M1 x2 x3 x4) (fun r => True) := by
  unfold fX1_howManyDiffer
  have l_7 := il_7
  refine wq_b (tt_fX1_degreeOf hN I0 M0 x2 (7 : Int32) ⟨by omega, by omega⟩ ⟨by omega, by omega⟩ k_I0) (fun r1_q5525 h_r1_q5525 => ?_)
  obtain ⟨h_r1_q5525_0, h_r1_q5525_1, -⟩ := h_r1_q5525
  have b_5526 := i32b x3
  have b_5527 := i32b x4
  have l_0 := il_0
  have l_1 := il_1
  exact tt_fX1_howManyDiffer_L15 hN I0 M0 I1 M1 x2 x3 x4 r1_q5525 ⟨by omega, by omega⟩ ⟨by omega, by omega⟩ k_I0 k_I1 (by omega) N (0 : Int32) (1 : Int32) ⟨by omega, by omega⟩ (by omega)
set_option maxHeartbeats 4000000 in
theorem tt_fX1_lotOf {N : Nat} (hN : 3000000000 ≤ N) (I0 : Nat → Int32) (M0 : Nat → Nat → Int32) (x1 : Int32) (h_x1 : 0 ≤ x1.toInt ∧ x1.toInt ≤ 119) (k_I0 : KX1 I0 M0) : wq (fX1_lotOf N I0 M0 x1) (fun r => True) := by
  unfold fX1_lotOf
  have l_0 := il_0
  refine wq_b (tt_fX1_degreeOf hN I0 M0 x1 (0 : Int32) ⟨by omega, by omega⟩ ⟨by omega, by omega⟩ k_I0) (fun r3_q5684 h_r3_q5684 => ?_)
  obtain ⟨h_r3_q5684_0, h_r3_q5684_1, -⟩ := h_r3_q5684
  have l_1 := il_1
  refine wq_b (tt_fX1_degreeOf hN I0 M0 x1 (1 : Int32) ⟨by omega, by omega⟩ ⟨by omega, by omega⟩ k_I0) (fun r4_q5685 h_r4_q5685 => ?_)
  obtain ⟨h_r4_q5685_0, h_r4_q5685_1, -⟩ := h_r4_q5685
  have l_7 := il_7
  refine wq_b (tt_fX1_degreeOf hN I0 M0 x1 (7 : Int32) ⟨by omega, by omega⟩ ⟨by omega, by omega⟩ k_I0) (fun r5_q5686 h_r5_q5686 => ?_)
  obtain ⟨h_r5_q5686_0, h_r5_q5686_1, -⟩ := h_r5_q5686
  have l_m1 := il_m1
  refine wq_eq (fun hc_5687 => ?_) (fun hc_5688 => ?_)
  · exact wq_s trivial
  · refine wq_eq (fun hc_5689 => ?_) (fun hc_5690 => ?_)
    · exact wq_s trivial
    · refine wq_eq (fun hc_5691 => ?_) (fun hc_5692 => ?_)
      · exact wq_s trivial
      · have t_5693 := ia_sub r5_q5686 r3_q5684 (by omega) (by omega)
        have l_360 := il_360
        refine wq_b (tt_fJ9_floorMod_7cf53 hN (r5_q5686 - r3_q5684) (360 : Int32) ⟨by omega, by omega⟩) (fun r6_q5694 h_r6_q5694 => ?_)
        obtain ⟨-⟩ := h_r6_q5694
        have l_180 := il_180
        have b_5695 := i32b r6_q5694
        refine wq_le (fun hc_5696 => ?_) (fun hc_5697 => ?_)
        · unfold fX1_lotOf_J62
          refine wq_eq (fun hc_5698 => ?_) (fun hc_5699 => ?_)
          · have t_5700 := ia_add r5_q5686 r3_q5684 (by omega) (by omega)
            have t_5701 := ia_sub (r5_q5686 + r3_q5684) r4_q5685 (by omega) (by omega)
            refine wq_b (tt_fJ9_floorMod_7cf53 hN ((r5_q5686 + r3_q5684) - r4_q5685) (360 : Int32) ⟨by omega, by omega⟩) (fun r1_q5702 h_r1_q5702 => ?_)
            obtain ⟨-⟩ := h_r1_q5702
            have b_5703 := i32b r1_q5702
            exact wq_s trivial
          · exfalso; omega
        · unfold fX1_lotOf_J62
          refine wq_eq (fun hc_5704 => ?_) (fun hc_5705 => ?_)
          · exfalso; omega
          · have t_5706 := ia_add r5_q5686 r4_q5685 (by omega) (by omega)
            have t_5707 := ia_sub (r5_q5686 + r4_q5685) r3_q5684 (by omega) (by omega)
            refine wq_b (tt_fJ9_floorMod_7cf53 hN ((r5_q5686 + r4_q5685) - r3_q5684) (360 : Int32) ⟨by omega, by omega⟩) (fun r2_q5708 h_r2_q5708 => ?_)
            obtain ⟨-⟩ := h_r2_q5708
            have b_5709 := i32b r2_q5708
            exact wq_s trivial
set_option maxHeartbeats 4000000 in
theorem tt_fX1_howManyHanded_L6 {N : Nat} (hN : 3000000000 ≤ N) (I0 : Nat → Int32) (M0 : Nat → Nat → Int32) (x1 : Int32) (x2 : Int32) (x3 : Int32) (h_x1 : 0 ≤ x1.toInt ∧ x1.toInt ≤ 5) (h_x2 : 0 ≤ x2.toInt ∧ x2.toInt ≤ 5) (h_x3 : 0 ≤ x3.toInt ∧ x3.toInt ≤ 5) (k_I0 : KX1 I0 M0)  : ∀ (fu : Nat) (y6_4 : Int32) (y6_5 : Int32), (0 ≤ y6_5.toInt ∧ y6_5.toInt ≤ 440) → (440 - y6_5.toInt) < (fu : Int) → wq (fX1_howManyHanded_L6 N I0 M0 x1 x2 x3 fu y6_4 y6_5) (fun r => True) := by
  intro fu
  induction fu with
  | zero => intro y6_4 y6_5 h_y6_5 hm; exfalso; omega
  | succ fu ih =>
    intro y6_4 y6_5 h_y6_5 hm
    rw [fX1_howManyHanded_L6.eq_2]
    have l_440 := il_440
    refine wq_le (fun hc_6296 => ?_) (fun hc_6297 => ?_)
    · have b_6298 := i32b y6_4
      exact wq_s trivial
    · have t_6299 := ia_mul (440 : Int32) (440) il_440 x1 (by omega) (by omega)
      have t_6300 := ia_add ((440 : Int32) * x1) y6_5 (by omega) (by omega)
      refine wq_in (n := 2640) ⟨by omega, by omega⟩ ?_
      have t_6302 := KX1.m0 k_I0 ((((440 : Int32) * x1) + y6_5)).toNatClampNeg
      refine wq_v (fun v1_q6301 h_v1_q6301 => ?_)
      have t_v1_q6301 := congrArg Int32.toInt h_v1_q6301
      have t_6303 := ia_mul (440 : Int32) (440) il_440 x2 (by omega) (by omega)
      have t_6304 := ia_add ((440 : Int32) * x2) y6_5 (by omega) (by omega)
      refine wq_in (n := 2640) ⟨by omega, by omega⟩ ?_
      have t_6306 := KX1.m0 k_I0 ((((440 : Int32) * x2) + y6_5)).toNatClampNeg
      refine wq_v (fun v2_q6305 h_v2_q6305 => ?_)
      have t_v2_q6305 := congrArg Int32.toInt h_v2_q6305
      have t_6307 := ia_mul (440 : Int32) (440) il_440 x3 (by omega) (by omega)
      have t_6308 := ia_add ((440 : Int32) * x3) y6_5 (by omega) (by omega)
      refine wq_in (n := 2640) ⟨by omega, by omega⟩ ?_
      have t_6310 := KX1.m0 k_I0 ((((440 : Int32) * x3) + y6_5)).toNatClampNeg
      refine wq_v (fun v3_q6309 h_v3_q6309 => ?_)
      have t_v3_q6309 := congrArg Int32.toInt h_v3_q6309
      have l_m1 := il_m1
      refine wq_eq (fun hc_6311 => ?_) (fun hc_6312 => ?_)
      · have l_1 := il_1
        have t_6314 := ia_add y6_5 (1 : Int32) (by omega) (by omega)
        refine wq_v (fun v4_q6313 h_v4_q6313 => ?_)
        have t_v4_q6313 := congrArg Int32.toInt h_v4_q6313
        have b_6315 := i32b y6_4
        exact ih y6_4 v4_q6313 ⟨by omega, by omega⟩ (by omega)
      · refine wq_eq (fun hc_6316 => ?_) (fun hc_6317 => ?_)
        · refine wq_eq (fun hc_6318 => ?_) (fun hc_6319 => ?_)
          · have l_1 := il_1
            have t_6321 := ia_add y6_5 (1 : Int32) (by omega) (by omega)
            refine wq_v (fun v6_q6320 h_v6_q6320 => ?_)
            have t_v6_q6320 := congrArg Int32.toInt h_v6_q6320
            have b_6322 := i32b y6_4
            exact ih y6_4 v6_q6320 ⟨by omega, by omega⟩ (by omega)
          · refine wq_eq (fun hc_6323 => ?_) (fun hc_6324 => ?_)
            · have l_1 := il_1
              have t_6326 := ia_add y6_5 (1 : Int32) (by omega) (by omega)
              refine wq_v (fun v7_q6325 h_v7_q6325 => ?_)
              have t_v7_q6325 := congrArg Int32.toInt h_v7_q6325
              have b_6327 := i32b y6_4
              exact ih y6_4 v7_q6325 ⟨by omega, by omega⟩ (by omega)
            · have b_6329 := i32b y6_4
              have l_1 := il_1
              refine wq_v (fun v8_q6328 h_v8_q6328 => ?_)
              have t_v8_q6328 := congrArg Int32.toInt h_v8_q6328
              have t_6331 := ia_add y6_5 (1 : Int32) (by omega) (by omega)
              refine wq_v (fun v9_q6330 h_v9_q6330 => ?_)
              have t_v9_q6330 := congrArg Int32.toInt h_v9_q6330
              have b_6332 := i32b v8_q6328
              exact ih v8_q6328 v9_q6330 ⟨by omega, by omega⟩ (by omega)
        · have l_1 := il_1
          have t_6334 := ia_add y6_5 (1 : Int32) (by omega) (by omega)
          refine wq_v (fun v5_q6333 h_v5_q6333 => ?_)
          have t_v5_q6333 := congrArg Int32.toInt h_v5_q6333
          have b_6335 := i32b y6_4
          exact ih y6_4 v5_q6333 ⟨by omega, by omega⟩ (by omega)
set_option maxHeartbeats 4000000 in
theorem tt_fX1_howManyHanded {N : Nat} (hN : 3000000000 ≤ N) (I0 : Nat → Int32) (M0 : Nat → Nat → Int32) (x1 : Int32) (x2 : Int32) (x3 : Int32) (h_x1 : 0 ≤ x1.toInt ∧ x1.toInt ≤ 5) (h_x2 : 0 ≤ x2.toInt ∧ x2.toInt ≤ 5) (h_x3 : 0 ≤ x3.toInt ∧ x3.toInt ≤ 5) (k_I0 : KX1 I0 M0) : wq (fX1_howManyHanded N I0 M0 x1 x2 x3) (fun r => True) := by
  unfold fX1_howManyHanded
  have l_0 := il_0
  exact tt_fX1_howManyHanded_L6 hN I0 M0 x1 x2 x3 ⟨by omega, by omega⟩ ⟨by omega, by omega⟩ ⟨by omega, by omega⟩ k_I0 N (0 : Int32) (0 : Int32) ⟨by omega, by omega⟩ (by omega)
set_option maxHeartbeats 4000000 in
theorem tt_fX2_copyFrom {N : Nat} (hN : 3000000000 ≤ N) (I0 : Nat → Int32) (M0 : Nat → Nat → Int32) (I1 : Nat → Int32) (M1 : Nat → Nat → Int32) (k_I0 : KX2 I0 M0) (k_I1 : KX2 I1 M1) : wq (fX2_copyFrom N I0 M0 I1 M1) (fun r => KX2 r.1 r.2 ∧ True) := by
  unfold fX2_copyFrom
  refine wq_n (by decide) ?_
  refine wq_v (fun M0_1_q6351 h_M0_1_q6351 => ?_)
  have k_M0_1_q6351 : KX2 I0 M0_1_q6351 := by rw [h_M0_1_q6351]; exact KX2.sf0 k_I0
  refine wq_v (fun I0_2_q6352 h_I0_2_q6352 => ?_)
  have t_6353 := KX2.i0 k_I1
  have k_I0_2_q6352 : KX2 I0_2_q6352 M0_1_q6351 := by rw [h_I0_2_q6352]; exact KX2.si0 k_M0_1_q6351 ⟨by omega, by omega⟩
  exact wq_s ⟨k_I0_2_q6352, trivial⟩

theorem il_m8 : (-8 : Int32).toInt = -8 := by decide
theorem il_m3 : (-3 : Int32).toInt = -3 := by decide
theorem il_m2 : (-2 : Int32).toInt = -2 := by decide
theorem il_m1 : (-1 : Int32).toInt = -1 := by decide
theorem il_0 : (0 : Int32).toInt = 0 := by decide
theorem il_1 : (1 : Int32).toInt = 1 := by decide
theorem il_2 : (2 : Int32).toInt = 2 := by decide
theorem il_3 : (3 : Int32).toInt = 3 := by decide
theorem il_4 : (4 : Int32).toInt = 4 := by decide
theorem il_5 : (5 : Int32).toInt = 5 := by decide
theorem il_6 : (6 : Int32).toInt = 6 := by decide
theorem il_7 : (7 : Int32).toInt = 7 := by decide
theorem il_8 : (8 : Int32).toInt = 8 := by decide
theorem il_9 : (9 : Int32).toInt = 9 := by decide
theorem il_10 : (10 : Int32).toInt = 10 := by decide
theorem il_11 : (11 : Int32).toInt = 11 := by decide
theorem il_12 : (12 : Int32).toInt = 12 := by decide
theorem il_13 : (13 : Int32).toInt = 13 := by decide
theorem il_14 : (14 : Int32).toInt = 14 := by decide
theorem il_15 : (15 : Int32).toInt = 15 := by decide
theorem il_16 : (16 : Int32).toInt = 16 := by decide
theorem il_17 : (17 : Int32).toInt = 17 := by decide
theorem il_19 : (19 : Int32).toInt = 19 := by decide
theorem il_20 : (20 : Int32).toInt = 20 := by decide
theorem il_21 : (21 : Int32).toInt = 21 := by decide
theorem il_22 : (22 : Int32).toInt = 22 := by decide
theorem il_24 : (24 : Int32).toInt = 24 := by decide
theorem il_29 : (29 : Int32).toInt = 29 := by decide
theorem il_30 : (30 : Int32).toInt = 30 := by decide
theorem il_32 : (32 : Int32).toInt = 32 := by decide
theorem il_36 : (36 : Int32).toInt = 36 := by decide
theorem il_48 : (48 : Int32).toInt = 48 := by decide
theorem il_57 : (57 : Int32).toInt = 57 := by decide
theorem il_59 : (59 : Int32).toInt = 59 := by decide
theorem il_60 : (60 : Int32).toInt = 60 := by decide
theorem il_97 : (97 : Int32).toInt = 97 := by decide
theorem il_99 : (99 : Int32).toInt = 99 := by decide
theorem il_100 : (100 : Int32).toInt = 100 := by decide
theorem il_101 : (101 : Int32).toInt = 101 := by decide
theorem il_102 : (102 : Int32).toInt = 102 := by decide
theorem il_103 : (103 : Int32).toInt = 103 := by decide
theorem il_104 : (104 : Int32).toInt = 104 := by decide
theorem il_105 : (105 : Int32).toInt = 105 := by decide
theorem il_106 : (106 : Int32).toInt = 106 := by decide
theorem il_108 : (108 : Int32).toInt = 108 := by decide
theorem il_109 : (109 : Int32).toInt = 109 := by decide
theorem il_110 : (110 : Int32).toInt = 110 := by decide
theorem il_111 : (111 : Int32).toInt = 111 := by decide
theorem il_112 : (112 : Int32).toInt = 112 := by decide
theorem il_114 : (114 : Int32).toInt = 114 := by decide
theorem il_115 : (115 : Int32).toInt = 115 := by decide
theorem il_116 : (116 : Int32).toInt = 116 := by decide
theorem il_117 : (117 : Int32).toInt = 117 := by decide
theorem il_118 : (118 : Int32).toInt = 118 := by decide
theorem il_119 : (119 : Int32).toInt = 119 := by decide
theorem il_120 : (120 : Int32).toInt = 120 := by decide
theorem il_121 : (121 : Int32).toInt = 121 := by decide
theorem il_122 : (122 : Int32).toInt = 122 := by decide
theorem il_180 : (180 : Int32).toInt = 180 := by decide
theorem il_359 : (359 : Int32).toInt = 359 := by decide
theorem il_360 : (360 : Int32).toInt = 360 := by decide
theorem il_365 : (365 : Int32).toInt = 365 := by decide
theorem il_420 : (420 : Int32).toInt = 420 := by decide
theorem il_440 : (440 : Int32).toInt = 440 := by decide
theorem il_580 : (580 : Int32).toInt = 580 := by decide
theorem il_600 : (600 : Int32).toInt = 600 := by decide
theorem il_999 : (999 : Int32).toInt = 999 := by decide
theorem il_1000 : (1000 : Int32).toInt = 1000 := by decide
theorem il_1800 : (1800 : Int32).toInt = 1800 := by decide
theorem il_3600 : (3600 : Int32).toInt = 3600 := by decide
theorem il_18000 : (18000 : Int32).toInt = 18000 := by decide
theorem il_21599 : (21599 : Int32).toInt = 21599 := by decide
theorem il_50000 : (50000 : Int32).toInt = 50000 := by decide
theorem il_1000000 : (1000000 : Int32).toInt = 1000000 := by decide
theorem il_1620000 : (1620000 : Int32).toInt = 1620000 := by decide
theorem il_6480000 : (6480000 : Int32).toInt = 6480000 := by decide
theorem tt_fX1_degreeOf {N : Nat} (hN : 3000000000 ≤ N) (I0 : Nat → Int32) (M0 : Nat → Nat → Int32) (x1 : Int32) (x2 : Int32) (h_x1 : 0 ≤ x1.toInt ∧ x1.toInt ≤ 119) (h_x2 : 0 ≤ x2.toInt ∧ x2.toInt ≤ 21) (k_I0 : KX1 I0 M0) : wq (fX1_degreeOf N I0 M0 x1 x2) (fun r => (r.toInt ≤ 359 ∨ x2.toInt = 21) ∧ (-1 ≤ r.toInt ∧ r.toInt ≤ 389) ∧ True) := by
  unfold fX1_degreeOf
  have l_22 := il_22
  have t1 := ia_mul (22 : Int32) 22 il_22 x1 (by omega) (by omega)
  have t2 := ia_add ((22 : Int32) * x1) x2 (by omega) (by omega)
  refine wq_in (n := 2640) ⟨by omega, by omega⟩ ?_
  have tn := tn_of (((22 : Int32) * x1) + x2) (by omega)
  have e : (((22 : Int32) * x1) + x2).toNatClampNeg = 22 * x1.toInt.toNat + x2.toInt.toNat := by omega
  refine wq_s ⟨?_, k_I0.m0 _, trivial⟩
  by_cases h : x2.toInt = 21
  · exact Or.inr h
  · left
    rw [e]
    exact k_I0.een _ _ (by omega)
set_option maxHeartbeats 4000000 in
theorem tt_fX4_isRead {N : Nat} (hN : 3000000000 ≤ N) (I0 : Nat → Int32) (M0 : Nat → Nat → Int32) (x1 : Int32) (x2 : Int32) (h_x1 : 0 ≤ x1.toInt ∧ x1.toInt ≤ 29) : wq (fX4_isRead N I0 M0 x1 x2) (fun r => (0 ≤ r.toInt ∧ r.toInt ≤ 1) ∧ True) := by
  unfold fX4_isRead
  refine wq_in (n := 30) ⟨by omega, by omega⟩ ?_
  have l_1 := il_1
  refine wq_eq (fun hc_13 => ?_) (fun hc_14 => ?_)
  · exact wq_s ⟨(show 0 ≤ (1 : Int32).toInt ∧ (1 : Int32).toInt ≤ 1 from ⟨by omega, by omega⟩), trivial⟩
  · have l_0 := il_0
    exact wq_s ⟨(show 0 ≤ (0 : Int32).toInt ∧ (0 : Int32).toInt ≤ 1 from ⟨by omega, by omega⟩), trivial⟩
set_option maxHeartbeats 4000000 in
theorem tt_fX4_misreading {N : Nat} (hN : 3000000000 ≤ N) (I0 : Nat → Int32) (M0 : Nat → Nat → Int32) (x1 : Int32) (x2 : Int32) (h_x1 : 0 ≤ x1.toInt ∧ x1.toInt ≤ 389) : wq (fX4_misreading N I0 M0 x1 x2) (fun r => (0 ≤ r.toInt ∧ r.toInt ≤ 9) ∧ True) := by
  unfold fX4_misreading
  have b_135 := i32b x2
  refine wq_eq (fun hc_136 => ?_) (fun hc_137 => ?_)
  · have l_0 := il_0
    exact wq_s ⟨(show 0 ≤ (0 : Int32).toInt ∧ (0 : Int32).toInt ≤ 9 from ⟨by omega, by omega⟩), trivial⟩
  · have l_30 := il_30
    have t_138 := ia_div x1 (30 : Int32) 30 il_30 (by decide) (by omega)
    have t_139 := i32b x2
    have t_140 := ia_div2 x2 (30 : Int32) 30 il_30 (by decide)
    refine wq_eq (fun hc_141 => ?_) (fun hc_142 => ?_)
    · have t_143 := ia_rem x1 (30 : Int32) 30 il_30 (by decide) (by omega)
      have t_144 := ia_rem2 x2 (30 : Int32) 30 il_30 (by decide)
      refine wq_b (tt_fX4_isRead hN I0 M0 (x1 - ((x1 / (30 : Int32)) * (30 : Int32))) (x2 - ((x2 / (30 : Int32)) * (30 : Int32))) ⟨by omega, by omega⟩) (fun r2_q145 h_r2_q145 => ?_)
      obtain ⟨h_r2_q145_0, -⟩ := h_r2_q145
      have l_0 := il_0
      refine wq_eq (fun hc_146 => ?_) (fun hc_147 => ?_)
      · have l_9 := il_9
        exact wq_s ⟨(show 0 ≤ (9 : Int32).toInt ∧ (9 : Int32).toInt ≤ 9 from ⟨by omega, by omega⟩), trivial⟩
      · have l_1 := il_1
        exact wq_s ⟨(show 0 ≤ (1 : Int32).toInt ∧ (1 : Int32).toInt ≤ 9 from ⟨by omega, by omega⟩), trivial⟩
    · have t_148 := ia_rem x1 (30 : Int32) 30 il_30 (by decide) (by omega)
      have t_149 := ia_rem2 x2 (30 : Int32) 30 il_30 (by decide)
      refine wq_eq (fun hc_150 => ?_) (fun hc_151 => ?_)
      · refine wq_b (tt_fX4_isRead hN I0 M0 (x1 / (30 : Int32)) (x2 / (30 : Int32)) ⟨by omega, by omega⟩) (fun r1_q152 h_r1_q152 => ?_)
        obtain ⟨h_r1_q152_0, -⟩ := h_r1_q152
        have l_0 := il_0
        refine wq_eq (fun hc_153 => ?_) (fun hc_154 => ?_)
        · unfold fX4_misreading_J70
          have l_9 := il_9
          exact wq_s ⟨(show 0 ≤ (9 : Int32).toInt ∧ (9 : Int32).toInt ≤ 9 from ⟨by omega, by omega⟩), trivial⟩
        · have l_2 := il_2
          exact wq_s ⟨(show 0 ≤ (2 : Int32).toInt ∧ (2 : Int32).toInt ≤ 9 from ⟨by omega, by omega⟩), trivial⟩
      · unfold fX4_misreading_J70
        have l_9 := il_9
        exact wq_s ⟨(show 0 ≤ (9 : Int32).toInt ∧ (9 : Int32).toInt ≤ 9 from ⟨by omega, by omega⟩), trivial⟩
set_option maxHeartbeats 4000000 in
theorem tt_fX4_costBeside {N : Nat} (hN : 3000000000 ≤ N) (I0 : Nat → Int32) (M0 : Nat → Nat → Int32) (x1 : Int32) (x2 : Int32) (h_x1 : 0 ≤ x1.toInt ∧ x1.toInt ≤ 389) : wq (fX4_costBeside N I0 M0 x1 x2) (fun r => (0 ≤ r.toInt ∧ r.toInt ≤ 9) ∧ True) := by
  unfold fX4_costBeside
  have b_179 := i32b x2
  refine wq_b (tt_fX4_misreading hN I0 M0 x1 x2 ⟨by omega, by omega⟩) (fun r1_q180 h_r1_q180 => ?_)
  obtain ⟨h_r1_q180_0, -⟩ := h_r1_q180
  have l_2 := il_2
  refine wq_eq (fun hc_181 => ?_) (fun hc_182 => ?_)
  · have l_1 := il_1
    exact wq_s ⟨(show 0 ≤ (1 : Int32).toInt ∧ (1 : Int32).toInt ≤ 9 from ⟨by omega, by omega⟩), trivial⟩
  · exact wq_s ⟨(show 0 ≤ r1_q180.toInt ∧ r1_q180.toInt ≤ 9 from ⟨by omega, by omega⟩), trivial⟩
set_option maxHeartbeats 4000000 in
theorem tt_fX0_areOne_L6 {N : Nat} (hN : 3000000000 ≤ N) (I0 : Nat → Int32) (M0 : Nat → Nat → Int32) (I1 : Nat → Int32) (M1 : Nat → Nat → Int32) (x2 : Int32) (x3 : Int32) (x4 : Int32) (h_x2 : 0 ≤ x2.toInt ∧ x2.toInt ≤ 119) (h_x3 : 0 ≤ x3.toInt ∧ x3.toInt ≤ 119) (k_I1 : KX1 I1 M1)  : ∀ (fu : Nat) (y6_5 : Int32) (y6_6 : Int32), (0 ≤ y6_6.toInt ∧ y6_6.toInt ≤ 7) → (7 - y6_6.toInt) < (fu : Int) → wq (fX0_areOne_L6 N I0 M0 I1 M1 x2 x3 x4 fu y6_5 y6_6) (fun r => (0 ≤ r.toInt ∧ r.toInt ≤ 1) ∧ True) := by
  intro fu
  induction fu with
  | zero => intro y6_5 y6_6 h_y6_6 hm; exfalso; omega
  | succ fu ih =>
    intro y6_5 y6_6 h_y6_6 hm
    rw [fX0_areOne_L6.eq_2]
    have l_7 := il_7
    refine wq_le (fun hc_648 => ?_) (fun hc_649 => ?_)
    · have b_650 := i32b y6_5
      have b_651 := i32b x4
      refine wq_lt (fun hc_652 => ?_) (fun hc_653 => ?_)
      · have l_0 := il_0
        exact wq_s ⟨(show 0 ≤ (0 : Int32).toInt ∧ (0 : Int32).toInt ≤ 1 from ⟨by omega, by omega⟩), trivial⟩
      · have l_1 := il_1
        exact wq_s ⟨(show 0 ≤ (1 : Int32).toInt ∧ (1 : Int32).toInt ≤ 1 from ⟨by omega, by omega⟩), trivial⟩
    · refine wq_b (tt_fX1_degreeOf hN I1 M1 x2 y6_6 ⟨by omega, by omega⟩ ⟨by omega, by omega⟩ k_I1) (fun r1_q654 h_r1_q654 => ?_)
      obtain ⟨h_r1_q654_0, h_r1_q654_1, -⟩ := h_r1_q654
      refine wq_b (tt_fX1_degreeOf hN I1 M1 x3 y6_6 ⟨by omega, by omega⟩ ⟨by omega, by omega⟩ k_I1) (fun r2_q655 h_r2_q655 => ?_)
      obtain ⟨h_r2_q655_0, h_r2_q655_1, -⟩ := h_r2_q655
      have l_m1 := il_m1
      refine wq_eq (fun hc_656 => ?_) (fun hc_657 => ?_)
      · have l_1 := il_1
        have t_659 := ia_add y6_6 (1 : Int32) (by omega) (by omega)
        refine wq_v (fun v3_q658 h_v3_q658 => ?_)
        have t_v3_q658 := congrArg Int32.toInt h_v3_q658
        have b_660 := i32b y6_5
        exact ih y6_5 v3_q658 ⟨by omega, by omega⟩ (by omega)
      · refine wq_eq (fun hc_661 => ?_) (fun hc_662 => ?_)
        · have l_1 := il_1
          have t_664 := ia_add y6_6 (1 : Int32) (by omega) (by omega)
          refine wq_v (fun v4_q663 h_v4_q663 => ?_)
          have t_v4_q663 := congrArg Int32.toInt h_v4_q663
          have b_665 := i32b y6_5
          exact ih y6_5 v4_q663 ⟨by omega, by omega⟩ (by omega)
        · refine wq_b (tt_fX4_costBeside hN I0 M0 r1_q654 r2_q655 ⟨by omega, by omega⟩) (fun r5_q666 h_r5_q666 => ?_)
          obtain ⟨h_r5_q666_0, -⟩ := h_r5_q666
          have l_1 := il_1
          refine wq_le (fun hc_667 => ?_) (fun hc_668 => ?_)
          · have b_670 := i32b y6_5
            refine wq_v (fun v6_q669 h_v6_q669 => ?_)
            have t_v6_q669 := congrArg Int32.toInt h_v6_q669
            have t_672 := ia_add y6_6 (1 : Int32) (by omega) (by omega)
            refine wq_v (fun v7_q671 h_v7_q671 => ?_)
            have t_v7_q671 := congrArg Int32.toInt h_v7_q671
            have b_673 := i32b v6_q669
            exact ih v6_q669 v7_q671 ⟨by omega, by omega⟩ (by omega)
          · refine wq_b (tt_fX4_costBeside hN I0 M0 r2_q655 r1_q654 ⟨by omega, by omega⟩) (fun r8_q674 h_r8_q674 => ?_)
            obtain ⟨h_r8_q674_0, -⟩ := h_r8_q674
            refine wq_le (fun hc_675 => ?_) (fun hc_676 => ?_)
            · have b_678 := i32b y6_5
              refine wq_v (fun v9_q677 h_v9_q677 => ?_)
              have t_v9_q677 := congrArg Int32.toInt h_v9_q677
              have t_680 := ia_add y6_6 (1 : Int32) (by omega) (by omega)
              refine wq_v (fun v10_q679 h_v10_q679 => ?_)
              have t_v10_q679 := congrArg Int32.toInt h_v10_q679
              have b_681 := i32b v9_q677
              exact ih v9_q677 v10_q679 ⟨by omega, by omega⟩ (by omega)
            · have l_0 := il_0
              exact wq_s ⟨(show 0 ≤ (0 : Int32).toInt ∧ (0 : Int32).toInt ≤ 1 from ⟨by omega, by omega⟩), trivial⟩
set_option maxHeartbeats 4000000 in
theorem tt_fX0_areOne {N : Nat} (hN : 3000000000 ≤ N) (I0 : Nat → Int32) (M0 : Nat → Nat → Int32) (I1 : Nat → Int32) (M1 : Nat → Nat → Int32) (x2 : Int32) (x3 : Int32) (x4 : Int32) (h_x2 : 0 ≤ x2.toInt ∧ x2.toInt ≤ 119) (h_x3 : 0 ≤ x3.toInt ∧ x3.toInt ≤ 119) (k_I1 : KX1 I1 M1) : wq (fX0_areOne N I0 M0 I1 M1 x2 x3 x4) (fun r => (0 ≤ r.toInt ∧ r.toInt ≤ 1) ∧ True) := by
  unfold fX0_areOne
  have b_682 := i32b x4
  have l_0 := il_0
  exact tt_fX0_areOne_L6 hN I0 M0 I1 M1 x2 x3 x4 ⟨by omega, by omega⟩ ⟨by omega, by omega⟩ k_I1 N (0 : Int32) (0 : Int32) ⟨by omega, by omega⟩ (by omega)
set_option maxHeartbeats 4000000 in
theorem tt_fX0_join_L10 {N : Nat} (hN : 3000000000 ≤ N) (x1 : Int32) (x2 : Int32) (x3 : Int32) (v1 : Int32) (h_x3 : 0 ≤ x3.toInt ∧ x3.toInt ≤ 119)  : ∀ (fu : Nat) (I0_l10 : (Nat → Int32)) (M0_l10 : (Nat → Nat → Int32)) (y10_5 : Int32), (0 ≤ y10_5.toInt ∧ y10_5.toInt ≤ 120) → (120 - y10_5.toInt) < (fu : Int) → wq (fX0_join_L10 N x1 x2 x3 v1 fu I0_l10 M0_l10 y10_5) (fun r => True) := by
  intro fu
  induction fu with
  | zero => intro I0_l10 M0_l10 y10_5 h_y10_5 hm; exfalso; omega
  | succ fu ih =>
    intro I0_l10 M0_l10 y10_5 h_y10_5 hm
    rw [fX0_join_L10.eq_2]
    refine wq_lt (fun hc_893 => ?_) (fun hc_894 => ?_)
    · exact wq_s trivial
    · refine wq_in (n := 120) ⟨by omega, by omega⟩ ?_
      have b_895 := i32b x1
      refine wq_eq (fun hc_896 => ?_) (fun hc_897 => ?_)
      · refine wq_in (n := 120) ⟨by omega, by omega⟩ ?_
        refine wq_v (fun M0_2_q898 h_M0_2_q898 => ?_)
        have l_1 := il_1
        have t_900 := ia_add y10_5 (1 : Int32) (by omega) (by omega)
        refine wq_v (fun v3_q899 h_v3_q899 => ?_)
        have t_v3_q899 := congrArg Int32.toInt h_v3_q899
        exact ih I0_l10 M0_2_q898 v3_q899 ⟨by omega, by omega⟩ (by omega)
      · refine wq_in (n := 120) ⟨by omega, by omega⟩ ?_
        have b_901 := i32b x2
        refine wq_eq (fun hc_902 => ?_) (fun hc_903 => ?_)
        · refine wq_in (n := 120) ⟨by omega, by omega⟩ ?_
          refine wq_v (fun M0_5_q904 h_M0_5_q904 => ?_)
          have l_1 := il_1
          have t_906 := ia_add y10_5 (1 : Int32) (by omega) (by omega)
          refine wq_v (fun v6_q905 h_v6_q905 => ?_)
          have t_v6_q905 := congrArg Int32.toInt h_v6_q905
          exact ih I0_l10 M0_5_q904 v6_q905 ⟨by omega, by omega⟩ (by omega)
        · have l_1 := il_1
          have t_908 := ia_add y10_5 (1 : Int32) (by omega) (by omega)
          refine wq_v (fun v4_q907 h_v4_q907 => ?_)
          have t_v4_q907 := congrArg Int32.toInt h_v4_q907
          exact ih I0_l10 M0_l10 v4_q907 ⟨by omega, by omega⟩ (by omega)
set_option maxHeartbeats 4000000 in
theorem tt_fX0_join {N : Nat} (hN : 3000000000 ≤ N) (I0 : Nat → Int32) (M0 : Nat → Nat → Int32) (x1 : Int32) (x2 : Int32) (x3 : Int32) (h_x3 : 0 ≤ x3.toInt ∧ x3.toInt ≤ 119) : wq (fX0_join N I0 M0 x1 x2 x3) (fun r => True) := by
  unfold fX0_join
  have b_910 := i32b x2
  have b_911 := i32b x1
  have t_912 := ite_lt x2 x1 x2 x1
  refine wq_v (fun v1_q909 h_v1_q909 => ?_)
  have t_v1_q909 := congrArg Int32.toInt h_v1_q909
  have b_913 := i32b v1_q909
  have l_0 := il_0
  exact tt_fX0_join_L10 hN x1 x2 x3 v1_q909 ⟨by omega, by omega⟩ N I0 M0 (0 : Int32) ⟨by omega, by omega⟩ (by omega)
set_option maxHeartbeats 4000000 in
theorem tt_fX0_partBy_L22 {N : Nat} (hN : 3000000000 ≤ N) (I1 : Nat → Int32) (M1 : Nat → Nat → Int32) (I2 : Nat → Int32) (M2 : Nat → Nat → Int32) (x3 : Int32) (y3_4 : Int32) (g3 : (Nat → Int32) → (Nat → Nat → Int32) → Int32 → Option ((Nat → Int32) × (Nat → Nat → Int32))) (h_y3_4 : 0 ≤ y3_4.toInt ∧ y3_4.toInt ≤ 119) (k_I2 : KX1 I2 M2) (hg3 : ∀ (q0 : (Nat → Int32)) (q1 : (Nat → Nat → Int32)) (q2 : Int32), (0 ≤ q2.toInt ∧ q2.toInt ≤ 120) → (y3_4.toInt < q2.toInt) → wq (g3 q0 q1 q2) (fun r => True)) : ∀ (fu : Nat) (I0_l22 : (Nat → Int32)) (M0_l22 : (Nat → Nat → Int32)) (y22_5 : Int32), (0 ≤ y22_5.toInt ∧ y22_5.toInt ≤ 119) → (119 - y22_5.toInt) < (fu : Int) → wq (fX0_partBy_L22 N I1 M1 I2 M2 x3 y3_4 g3 fu I0_l22 M0_l22 y22_5) (fun r => True) := by
  intro fu
  induction fu with
  | zero => intro I0_l22 M0_l22 y22_5 h_y22_5 hm; exfalso; omega
  | succ fu ih =>
    intro I0_l22 M0_l22 y22_5 h_y22_5 hm
    rw [fX0_partBy_L22.eq_2]
    refine wq_le (fun hc_1165 => ?_) (fun hc_1166 => ?_)
    · have l_1 := il_1
      have t_1168 := ia_add y3_4 (1 : Int32) (by omega) (by omega)
      refine wq_v (fun v2_q1167 h_v2_q1167 => ?_)
      have t_v2_q1167 := congrArg Int32.toInt h_v2_q1167
      exact hg3 I0_l22 M0_l22 v2_q1167 ⟨by omega, by omega⟩ (by omega)
    · refine wq_in (n := 120) ⟨by omega, by omega⟩ ?_
      refine wq_in (n := 120) ⟨by omega, by omega⟩ ?_
      refine wq_eq (fun hc_1169 => ?_) (fun hc_1170 => ?_)
      · have l_1 := il_1
        have t_1172 := ia_add y22_5 (1 : Int32) (by omega) (by omega)
        refine wq_v (fun v3_q1171 h_v3_q1171 => ?_)
        have t_v3_q1171 := congrArg Int32.toInt h_v3_q1171
        exact ih I0_l22 M0_l22 v3_q1171 ⟨by omega, by omega⟩ (by omega)
      · have b_1173 := i32b x3
        refine wq_b (tt_fX0_areOne hN I1 M1 I2 M2 y3_4 y22_5 x3 ⟨by omega, by omega⟩ ⟨by omega, by omega⟩ k_I2) (fun r4_q1174 h_r4_q1174 => ?_)
        obtain ⟨h_r4_q1174_0, -⟩ := h_r4_q1174
        have l_0 := il_0
        refine wq_eq (fun hc_1175 => ?_) (fun hc_1176 => ?_)
        · have l_1 := il_1
          have t_1178 := ia_add y22_5 (1 : Int32) (by omega) (by omega)
          refine wq_v (fun v5_q1177 h_v5_q1177 => ?_)
          have t_v5_q1177 := congrArg Int32.toInt h_v5_q1177
          exact ih I0_l22 M0_l22 v5_q1177 ⟨by omega, by omega⟩ (by omega)
        · refine wq_in (n := 120) ⟨by omega, by omega⟩ ?_
          refine wq_in (n := 120) ⟨by omega, by omega⟩ ?_
          refine wq_b (tt_fX0_join hN I0_l22 M0_l22 (M0_l22 0 y3_4.toNatClampNeg) (M0_l22 0 y22_5.toNatClampNeg) y3_4 ⟨by omega, by omega⟩) (fun r6_q1179 h_r6_q1179 => ?_)
          obtain ⟨-⟩ := h_r6_q1179
          have l_1 := il_1
          have t_1181 := ia_add y22_5 (1 : Int32) (by omega) (by omega)
          refine wq_v (fun v7_q1180 h_v7_q1180 => ?_)
          have t_v7_q1180 := congrArg Int32.toInt h_v7_q1180
          exact ih r6_q1179.1 r6_q1179.2 v7_q1180 ⟨by omega, by omega⟩ (by omega)
set_option maxHeartbeats 4000000 in
theorem tt_fX0_partBy_L3 {N : Nat} (hN : 3000000000 ≤ N) (I1 : Nat → Int32) (M1 : Nat → Nat → Int32) (I2 : Nat → Int32) (M2 : Nat → Nat → Int32) (x3 : Int32) (k_I2 : KX1 I2 M2)  : ∀ (fu : Nat) (I0_l3 : (Nat → Int32)) (M0_l3 : (Nat → Nat → Int32)) (y3_4 : Int32), (0 ≤ y3_4.toInt ∧ y3_4.toInt ≤ 120) → (120 - y3_4.toInt) < (fu : Int) → wq (fX0_partBy_L3 N I1 M1 I2 M2 x3 fu I0_l3 M0_l3 y3_4) (fun r => True) := by
  intro fu
  induction fu with
  | zero => intro I0_l3 M0_l3 y3_4 h_y3_4 hm; exfalso; omega
  | succ fu ih =>
    intro I0_l3 M0_l3 y3_4 h_y3_4 hm
    rw [fX0_partBy_L3.eq_2]
    have l_120 := il_120
    refine wq_le (fun hc_1182 => ?_) (fun hc_1183 => ?_)
    · exact wq_s trivial
    · refine wq_in (n := 120) ⟨by omega, by omega⟩ ?_
      refine wq_v (fun M0_1_q1184 h_M0_1_q1184 => ?_)
      have b_1185 := i32b x3
      have l_0 := il_0
      exact tt_fX0_partBy_L22 hN I1 M1 I2 M2 x3 y3_4 _ ⟨by omega, by omega⟩ k_I2 (fun q0 q1 q2 hq0 hq1 => ih q0 q1 q2 hq0 (by omega)) N I0_l3 M0_1_q1184 (0 : Int32) ⟨by omega, by omega⟩ (by omega)
set_option maxHeartbeats 4000000 in
theorem tt_fX0_partBy {N : Nat} (hN : 3000000000 ≤ N) (I0 : Nat → Int32) (M0 : Nat → Nat → Int32) (I1 : Nat → Int32) (M1 : Nat → Nat → Int32) (I2 : Nat → Int32) (M2 : Nat → Nat → Int32) (x3 : Int32) (k_I2 : KX1 I2 M2) : wq (fX0_partBy N I0 M0 I1 M1 I2 M2 x3) (fun r => True) := by
  unfold fX0_partBy
  have b_1186 := i32b x3
  have l_0 := il_0
  exact tt_fX0_partBy_L3 hN I1 M1 I2 M2 x3 k_I2 N I0 M0 (0 : Int32) ⟨by omega, by omega⟩ (by omega)
set_option maxHeartbeats 4000000 in
theorem tt_fX0_leastOf {N : Nat} (hN : 3000000000 ≤ N) (I0 : Nat → Int32) (M0 : Nat → Nat → Int32) (x1 : Int32) (h_x1 : 0 ≤ x1.toInt ∧ x1.toInt ≤ 119) : wq (fX0_leastOf N I0 M0 x1) (fun r => True) := by
  unfold fX0_leastOf
  refine wq_in (n := 120) ⟨by omega, by omega⟩ ?_
  exact wq_s trivial
set_option maxHeartbeats 4000000 in
theorem tt_fX1_tellsSomething_L2 {N : Nat} (hN : 3000000000 ≤ N) (I0 : Nat → Int32) (M0 : Nat → Nat → Int32) (x1 : Int32) (h_x1 : 0 ≤ x1.toInt ∧ x1.toInt ≤ 119) (k_I0 : KX1 I0 M0)  : ∀ (fu : Nat) (y2_2 : Int32), (0 ≤ y2_2.toInt ∧ y2_2.toInt ≤ 22) → (22 - y2_2.toInt) < (fu : Int) → wq (fX1_tellsSomething_L2 N I0 M0 x1 fu y2_2) (fun r => (0 ≤ r.toInt ∧ r.toInt ≤ 1) ∧ True) := by
  intro fu
  induction fu with
  | zero => intro y2_2 h_y2_2 hm; exfalso; omega
  | succ fu ih =>
    intro y2_2 h_y2_2 hm
    rw [fX1_tellsSomething_L2.eq_2]
    have l_22 := il_22
    refine wq_le (fun hc_1264 => ?_) (fun hc_1265 => ?_)
    · have l_0 := il_0
      exact wq_s ⟨(show 0 ≤ (0 : Int32).toInt ∧ (0 : Int32).toInt ≤ 1 from ⟨by omega, by omega⟩), trivial⟩
    · refine wq_b (tt_fX1_degreeOf hN I0 M0 x1 y2_2 ⟨by omega, by omega⟩ ⟨by omega, by omega⟩ k_I0) (fun r1_q1266 h_r1_q1266 => ?_)
      obtain ⟨h_r1_q1266_0, h_r1_q1266_1, -⟩ := h_r1_q1266
      have l_m1 := il_m1
      refine wq_eq (fun hc_1267 => ?_) (fun hc_1268 => ?_)
      · have l_1 := il_1
        have t_1270 := ia_add y2_2 (1 : Int32) (by omega) (by omega)
        refine wq_v (fun v2_q1269 h_v2_q1269 => ?_)
        have t_v2_q1269 := congrArg Int32.toInt h_v2_q1269
        exact ih v2_q1269 ⟨by omega, by omega⟩ (by omega)
      · have l_1 := il_1
        exact wq_s ⟨(show 0 ≤ (1 : Int32).toInt ∧ (1 : Int32).toInt ≤ 1 from ⟨by omega, by omega⟩), trivial⟩
set_option maxHeartbeats 4000000 in
theorem tt_fX1_tellsSomething {N : Nat} (hN : 3000000000 ≤ N) (I0 : Nat → Int32) (M0 : Nat → Nat → Int32) (x1 : Int32) (h_x1 : 0 ≤ x1.toInt ∧ x1.toInt ≤ 119) (k_I0 : KX1 I0 M0) : wq (fX1_tellsSomething N I0 M0 x1) (fun r => (0 ≤ r.toInt ∧ r.toInt ≤ 1) ∧ True) := by
  unfold fX1_tellsSomething
  have l_0 := il_0
  exact tt_fX1_tellsSomething_L2 hN I0 M0 x1 ⟨by omega, by omega⟩ k_I0 N (0 : Int32) ⟨by omega, by omega⟩ (by omega)
set_option maxHeartbeats 4000000 in
theorem tt_fX0_howManyParts_L4 {N : Nat} (hN : 3000000000 ≤ N) (I0 : Nat → Int32) (M0 : Nat → Nat → Int32) (I1 : Nat → Int32) (M1 : Nat → Nat → Int32) (k_I1 : KX1 I1 M1)  : ∀ (fu : Nat) (y4_2 : Int32) (y4_3 : Int32), (0 ≤ y4_3.toInt ∧ y4_3.toInt ≤ 120) → (120 - y4_3.toInt) < (fu : Int) → wq (fX0_howManyParts_L4 N I0 M0 I1 M1 fu y4_2 y4_3) (fun r => True) := by
  intro fu
  induction fu with
  | zero => intro y4_2 y4_3 h_y4_3 hm; exfalso; omega
  | succ fu ih =>
    intro y4_2 y4_3 h_y4_3 hm
    rw [fX0_howManyParts_L4.eq_2]
    have l_120 := il_120
    refine wq_le (fun hc_1509 => ?_) (fun hc_1510 => ?_)
    · have b_1511 := i32b y4_2
      exact wq_s trivial
    · refine wq_in (n := 120) ⟨by omega, by omega⟩ ?_
      refine wq_eq (fun hc_1512 => ?_) (fun hc_1513 => ?_)
      · refine wq_b (tt_fX1_tellsSomething hN I1 M1 y4_3 ⟨by omega, by omega⟩ k_I1) (fun r2_q1514 h_r2_q1514 => ?_)
        obtain ⟨h_r2_q1514_0, -⟩ := h_r2_q1514
        have l_0 := il_0
        refine wq_eq (fun hc_1515 => ?_) (fun hc_1516 => ?_)
        · have l_1 := il_1
          have t_1518 := ia_add y4_3 (1 : Int32) (by omega) (by omega)
          refine wq_v (fun v3_q1517 h_v3_q1517 => ?_)
          have t_v3_q1517 := congrArg Int32.toInt h_v3_q1517
          have b_1519 := i32b y4_2
          exact ih y4_2 v3_q1517 ⟨by omega, by omega⟩ (by omega)
        · have b_1521 := i32b y4_2
          have l_1 := il_1
          refine wq_v (fun v4_q1520 h_v4_q1520 => ?_)
          have t_v4_q1520 := congrArg Int32.toInt h_v4_q1520
          have t_1523 := ia_add y4_3 (1 : Int32) (by omega) (by omega)
          refine wq_v (fun v5_q1522 h_v5_q1522 => ?_)
          have t_v5_q1522 := congrArg Int32.toInt h_v5_q1522
          have b_1524 := i32b v4_q1520
          exact ih v4_q1520 v5_q1522 ⟨by omega, by omega⟩ (by omega)
      · have l_1 := il_1
        have t_1526 := ia_add y4_3 (1 : Int32) (by omega) (by omega)
        refine wq_v (fun v1_q1525 h_v1_q1525 => ?_)
        have t_v1_q1525 := congrArg Int32.toInt h_v1_q1525
        have b_1527 := i32b y4_2
        exact ih y4_2 v1_q1525 ⟨by omega, by omega⟩ (by omega)
set_option maxHeartbeats 4000000 in
theorem tt_fX0_howManyParts {N : Nat} (hN : 3000000000 ≤ N) (I0 : Nat → Int32) (M0 : Nat → Nat → Int32) (I1 : Nat → Int32) (M1 : Nat → Nat → Int32) (k_I1 : KX1 I1 M1) : wq (fX0_howManyParts N I0 M0 I1 M1) (fun r => True) := by
  unfold fX0_howManyParts
  have l_0 := il_0
  exact tt_fX0_howManyParts_L4 hN I0 M0 I1 M1 k_I1 N (0 : Int32) (0 : Int32) ⟨by omega, by omega⟩ (by omega)
theorem tt_fX1_keepDraft {N : Nat} (hN : 3000000000 ≤ N) (I0 : Nat → Int32) (M0 : Nat → Nat → Int32) (x1 : Int32) (h_x1 : 0 ≤ x1.toInt ∧ x1.toInt ≤ 119) (k_I0 : KX1 I0 M0) : wq (fX1_keepDraft N I0 M0 x1) (fun r => KX1 r.1 r.2 ∧ True) := by
  unfold fX1_keepDraft
  have l_22 := il_22
  have l_0 := il_0
  have t1 := ia_mul (22 : Int32) 22 il_22 x1 (by omega) (by omega)
  have tn := tn_of ((22 : Int32) * x1) (by omega)
  have e22 : (22 : Int32).toNatClampNeg = 22 := by decide
  have e0 : (0 : Int32).toNatClampNeg = 0 := by decide
  refine wq_n ?_ ?_
  · intro q
    rw [e22, e0] at q
    rcases q with q | q | q | q | q
    · exact absurd q (by decide)
    · have := Int32.lt_iff_toInt_lt.mp q; omega
    · exact absurd q (by decide)
    · omega
    · omega
  · rw [e22, e0]
    refine wq_v (fun M h => ?_)
    rw [h]
    refine wq_s ⟨?_, trivial⟩
    refine KX1.sf0 k_I0 (fun j => ?_) ?_
    · unfold va_cpy
      by_cases q : ((22 : Int32) * x1).toNatClampNeg ≤ j ∧ j < ((22 : Int32) * x1).toNatClampNeg + 22
      · rw [if_pos q]; exact k_I0.m1 _
      · rw [if_neg q]; exact k_I0.m0 _
    · intro n e he
      unfold va_cpy
      by_cases q : ((22 : Int32) * x1).toNatClampNeg ≤ 22 * n + e ∧ 22 * n + e < ((22 : Int32) * x1).toNatClampNeg + 22
      · rw [if_pos q]
        have e2 : 0 + (22 * n + e - ((22 : Int32) * x1).toNatClampNeg) = e := by omega
        rw [e2]
        exact k_I0.edn e he
      · rw [if_neg q]; exact k_I0.een n e he
theorem tt_fJ7_fill_53178 {N : Nat} (hN : 3000000000 ≤ N) (n0 : Nat) (f0 : Nat → Int32) (x1 : Int32) (hr_0 : n0 ≤ 100000) : wq (fJ7_fill_53178 N n0 f0 x1) (fun r => True) := ⟨_, wp_fill N n0 f0 x1 (by omega) (by omega), trivial⟩
set_option maxHeartbeats 4000000 in
theorem tt_fX9_isAtEnd {N : Nat} (hN : 3000000000 ≤ N) (I0 : Nat → Int32) (M0 : Nat → Nat → Int32) (k_I0 : KX9 I0 M0) : wq (fX9_isAtEnd N I0 M0) (fun r => (0 ≤ r.toInt ∧ r.toInt ≤ 1) ∧ True) := by
  unfold fX9_isAtEnd
  have l_0 := il_0
  refine wq_eq (fun hc_1540 => ?_) (fun hc_1541 => ?_)
  · have l_1 := il_1
    exact wq_s ⟨(show 0 ≤ (1 : Int32).toInt ∧ (1 : Int32).toInt ≤ 1 from ⟨by omega, by omega⟩), trivial⟩
  · exact wq_s ⟨(show 0 ≤ (0 : Int32).toInt ∧ (0 : Int32).toInt ≤ 1 from ⟨by omega, by omega⟩), trivial⟩
set_option maxHeartbeats 4000000 in
theorem tt_fX1_readEntries {N : Nat} (hN : 3000000000 ≤ N) (I0 : Nat → Int32) (M0 : Nat → Nat → Int32) (I1 : Nat → Int32) (M1 : Nat → Nat → Int32) (k_I0 : KX1 I0 M0) (k_I1 : KX9 I1 M1) : wq (fX1_readEntries N I0 M0 I1 M1) (fun r => KX1 r.2.1 r.2.2 ∧ True) := by sorry
set_option maxHeartbeats 4000000 in
theorem tt_fX1_howManyTell_L4 {N : Nat} (hN : 3000000000 ≤ N) (I0 : Nat → Int32) (M0 : Nat → Nat → Int32) (k_I0 : KX1 I0 M0)  : ∀ (fu : Nat) (y4_1 : Int32) (y4_2 : Int32), (0 ≤ y4_2.toInt ∧ y4_2.toInt ≤ 120) → (120 - y4_2.toInt) < (fu : Int) → wq (fX1_howManyTell_L4 N I0 M0 fu y4_1 y4_2) (fun r => True) := by
  intro fu
  induction fu with
  | zero => intro y4_1 y4_2 h_y4_2 hm; exfalso; omega
  | succ fu ih =>
    intro y4_1 y4_2 h_y4_2 hm
    rw [fX1_howManyTell_L4.eq_2]
    have l_120 := il_120
    refine wq_le (fun hc_1719 => ?_) (fun hc_1720 => ?_)
    · have b_1721 := i32b y4_1
      exact wq_s trivial
    · refine wq_b (tt_fX1_tellsSomething hN I0 M0 y4_2 ⟨by omega, by omega⟩ k_I0) (fun r1_q1722 h_r1_q1722 => ?_)
      obtain ⟨h_r1_q1722_0, -⟩ := h_r1_q1722
      have l_0 := il_0
      refine wq_eq (fun hc_1723 => ?_) (fun hc_1724 => ?_)
      · have l_1 := il_1
        have t_1726 := ia_add y4_2 (1 : Int32) (by omega) (by omega)
        refine wq_v (fun v2_q1725 h_v2_q1725 => ?_)
        have t_v2_q1725 := congrArg Int32.toInt h_v2_q1725
        have b_1727 := i32b y4_1
        exact ih y4_1 v2_q1725 ⟨by omega, by omega⟩ (by omega)
      · have b_1729 := i32b y4_1
        have l_1 := il_1
        refine wq_v (fun v3_q1728 h_v3_q1728 => ?_)
        have t_v3_q1728 := congrArg Int32.toInt h_v3_q1728
        have t_1731 := ia_add y4_2 (1 : Int32) (by omega) (by omega)
        refine wq_v (fun v4_q1730 h_v4_q1730 => ?_)
        have t_v4_q1730 := congrArg Int32.toInt h_v4_q1730
        have b_1732 := i32b v3_q1728
        exact ih v3_q1728 v4_q1730 ⟨by omega, by omega⟩ (by omega)
set_option maxHeartbeats 4000000 in
theorem tt_fX1_howManyTell {N : Nat} (hN : 3000000000 ≤ N) (I0 : Nat → Int32) (M0 : Nat → Nat → Int32) (k_I0 : KX1 I0 M0) : wq (fX1_howManyTell N I0 M0) (fun r => True) := by
  unfold fX1_howManyTell
  have l_0 := il_0
  exact tt_fX1_howManyTell_L4 hN I0 M0 k_I0 N (0 : Int32) (0 : Int32) ⟨by omega, by omega⟩ (by omega)
set_option maxHeartbeats 4000000 in
theorem tt_fX1_bookTells_L2 {N : Nat} (hN : 3000000000 ≤ N) (I0 : Nat → Int32) (M0 : Nat → Nat → Int32) (x1 : Int32) (h_x1 : 0 ≤ x1.toInt ∧ x1.toInt ≤ 5) (k_I0 : KX1 I0 M0)  : ∀ (fu : Nat) (y2_2 : Int32), (0 ≤ y2_2.toInt ∧ y2_2.toInt ≤ 20) → (20 - y2_2.toInt) < (fu : Int) → wq (fX1_bookTells_L2 N I0 M0 x1 fu y2_2) (fun r => (0 ≤ r.toInt ∧ r.toInt ≤ 1) ∧ True) := by
  intro fu
  induction fu with
  | zero => intro y2_2 h_y2_2 hm; exfalso; omega
  | succ fu ih =>
    intro y2_2 h_y2_2 hm
    rw [fX1_bookTells_L2.eq_2]
    have l_20 := il_20
    refine wq_le (fun hc_1850 => ?_) (fun hc_1851 => ?_)
    · have l_0 := il_0
      exact wq_s ⟨(show 0 ≤ (0 : Int32).toInt ∧ (0 : Int32).toInt ≤ 1 from ⟨by omega, by omega⟩), trivial⟩
    · have t_1852 := ia_mul (20 : Int32) (20) il_20 x1 (by omega) (by omega)
      have t_1853 := ia_add ((20 : Int32) * x1) y2_2 (by omega) (by omega)
      refine wq_b (tt_fX1_tellsSomething hN I0 M0 (((20 : Int32) * x1) + y2_2) ⟨by omega, by omega⟩ k_I0) (fun r1_q1854 h_r1_q1854 => ?_)
      obtain ⟨h_r1_q1854_0, -⟩ := h_r1_q1854
      have l_0 := il_0
      refine wq_eq (fun hc_1855 => ?_) (fun hc_1856 => ?_)
      · have l_1 := il_1
        have t_1858 := ia_add y2_2 (1 : Int32) (by omega) (by omega)
        refine wq_v (fun v2_q1857 h_v2_q1857 => ?_)
        have t_v2_q1857 := congrArg Int32.toInt h_v2_q1857
        exact ih v2_q1857 ⟨by omega, by omega⟩ (by omega)
      · have l_1 := il_1
        exact wq_s ⟨(show 0 ≤ (1 : Int32).toInt ∧ (1 : Int32).toInt ≤ 1 from ⟨by omega, by omega⟩), trivial⟩
set_option maxHeartbeats 4000000 in
theorem tt_fX1_bookTells {N : Nat} (hN : 3000000000 ≤ N) (I0 : Nat → Int32) (M0 : Nat → Nat → Int32) (x1 : Int32) (h_x1 : 0 ≤ x1.toInt ∧ x1.toInt ≤ 5) (k_I0 : KX1 I0 M0) : wq (fX1_bookTells N I0 M0 x1) (fun r => (0 ≤ r.toInt ∧ r.toInt ≤ 1) ∧ True) := by
  unfold fX1_bookTells
  have l_0 := il_0
  exact tt_fX1_bookTells_L2 hN I0 M0 x1 ⟨by omega, by omega⟩ k_I0 N (0 : Int32) ⟨by omega, by omega⟩ (by omega)
set_option maxHeartbeats 4000000 in
theorem tt_fX1_howManyHouses_L4 {N : Nat} (hN : 3000000000 ≤ N) (I0 : Nat → Int32) (M0 : Nat → Nat → Int32) (x1 : Int32) (h_x1 : 0 ≤ x1.toInt ∧ x1.toInt ≤ 119) (k_I0 : KX1 I0 M0)  : ∀ (fu : Nat) (y4_2 : Int32) (y4_3 : Int32), (1 ≤ y4_3.toInt ∧ y4_3.toInt ≤ 13) → (13 - y4_3.toInt) < (fu : Int) → wq (fX1_howManyHouses_L4 N I0 M0 x1 fu y4_2 y4_3) (fun r => True) := by
  intro fu
  induction fu with
  | zero => intro y4_2 y4_3 h_y4_3 hm; exfalso; omega
  | succ fu ih =>
    intro y4_2 y4_3 h_y4_3 hm
    rw [fX1_howManyHouses_L4.eq_2]
    have l_12 := il_12
    refine wq_lt (fun hc_2108 => ?_) (fun hc_2109 => ?_)
    · have b_2110 := i32b y4_2
      exact wq_s trivial
    · have l_8 := il_8
      have t_2111 := ia_add (8 : Int32) y4_3 (by omega) (by omega)
      refine wq_b (tt_fX1_degreeOf hN I0 M0 x1 ((8 : Int32) + y4_3) ⟨by omega, by omega⟩ ⟨by omega, by omega⟩ k_I0) (fun r1_q2112 h_r1_q2112 => ?_)
      obtain ⟨h_r1_q2112_0, h_r1_q2112_1, -⟩ := h_r1_q2112
      have l_m1 := il_m1
      refine wq_eq (fun hc_2113 => ?_) (fun hc_2114 => ?_)
      · have l_1 := il_1
        have t_2116 := ia_add y4_3 (1 : Int32) (by omega) (by omega)
        refine wq_v (fun v2_q2115 h_v2_q2115 => ?_)
        have t_v2_q2115 := congrArg Int32.toInt h_v2_q2115
        have b_2117 := i32b y4_2
        exact ih y4_2 v2_q2115 ⟨by omega, by omega⟩ (by omega)
      · have b_2119 := i32b y4_2
        have l_1 := il_1
        refine wq_v (fun v3_q2118 h_v3_q2118 => ?_)
        have t_v3_q2118 := congrArg Int32.toInt h_v3_q2118
        have t_2121 := ia_add y4_3 (1 : Int32) (by omega) (by omega)
        refine wq_v (fun v4_q2120 h_v4_q2120 => ?_)
        have t_v4_q2120 := congrArg Int32.toInt h_v4_q2120
        have b_2122 := i32b v3_q2118
        exact ih v3_q2118 v4_q2120 ⟨by omega, by omega⟩ (by omega)
set_option maxHeartbeats 4000000 in
theorem tt_fX1_howManyHouses {N : Nat} (hN : 3000000000 ≤ N) (I0 : Nat → Int32) (M0 : Nat → Nat → Int32) (x1 : Int32) (h_x1 : 0 ≤ x1.toInt ∧ x1.toInt ≤ 119) (k_I0 : KX1 I0 M0) : wq (fX1_howManyHouses N I0 M0 x1) (fun r => True) := by
  unfold fX1_howManyHouses
  have l_0 := il_0
  have l_1 := il_1
  exact tt_fX1_howManyHouses_L4 hN I0 M0 x1 ⟨by omega, by omega⟩ k_I0 N (0 : Int32) (1 : Int32) ⟨by omega, by omega⟩ (by omega)
set_option maxHeartbeats 4000000 in
theorem tt_fX2_climbOf {N : Nat} (hN : 3000000000 ≤ N) (I0 : Nat → Int32) (M0 : Nat → Nat → Int32) (x1 : Int32) (x2 : Int32) (h_x1 : 0 ≤ x1.toInt ∧ x1.toInt ≤ 6) (h_x2 : -60 ≤ x2.toInt ∧ x2.toInt ≤ 21599) (k_I0 : KX2 I0 M0) : wq (fX2_climbOf N I0 M0 x1 x2) (fun r => True) := by
  unfold fX2_climbOf
  have l_1800 := il_1800
  have t_2172 := ia_div2 x2 (1800 : Int32) 1800 il_1800 (by decide)
  refine wq_v (fun v1_q2171 h_v1_q2171 => ?_)
  have t_v1_q2171 := congrArg Int32.toInt h_v1_q2171
  have l_13 := il_13
  have t_2173 := ia_mul (13 : Int32) (13) il_13 x1 (by omega) (by omega)
  have t_2174 := ia_add ((13 : Int32) * x1) v1_q2171 (by omega) (by omega)
  refine wq_in (n := 91) ⟨by omega, by omega⟩ ?_
  refine wq_v (fun v2_q2175 h_v2_q2175 => ?_)
  have t_v2_q2175 := congrArg Int32.toInt h_v2_q2175
  have l_1 := il_1
  have t_2176 := ia_add (((13 : Int32) * x1) + v1_q2171) (1 : Int32) (by omega) (by omega)
  refine wq_in (n := 91) ⟨by omega, by omega⟩ ?_
  have b_2178 := i32b v2_q2175
  refine wq_v (fun v3_q2177 h_v3_q2177 => ?_)
  have t_v3_q2177 := congrArg Int32.toInt h_v3_q2177
  exact wq_s trivial
set_option maxHeartbeats 4000000 in
theorem tt_fJ9_floorMod_7cf53 {N : Nat} (hN : 3000000000 ≤ N) (x0 : Int32) (x1 : Int32) (h_x1 : 1 ≤ x1.toInt ∧ x1.toInt ≤ 2147483647) : wq (fJ9_floorMod_7cf53 N x0 x1) (fun r => True) := by
  unfold fJ9_floorMod_7cf53
  have b_2233 := i32b x1
  refine wq_nz (by omega) ?_
  have b_2235 := i32b x0
  refine wq_v (fun v1_q2234 h_v1_q2234 => ?_)
  have t_v1_q2234 := congrArg Int32.toInt h_v1_q2234
  have l_0 := il_0
  refine wq_le (fun hc_2236 => ?_) (fun hc_2237 => ?_)
  · have b_2238 := i32b v1_q2234
    exact wq_s trivial
  · have b_2239 := i32b v1_q2234
    refine wq_eq (fun hc_2240 => ?_) (fun hc_2241 => ?_)
    · exact wq_s trivial
    · exact wq_s trivial

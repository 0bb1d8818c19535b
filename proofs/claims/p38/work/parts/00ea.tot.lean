theorem il_m8 : (-8 : Int32).toInt = -8 := by decide
theorem il_m3 : (-3 : Int32).toInt = -3 := by decide
theorem il_m2 : (-2 : Int32).toInt = -2 := by decide
theorem il_m1 : (-1 : Int32).toInt = -1 := by decide
theorem il_0 : (0 : Int32).toInt = 0 := by decide
theorem il_1 : (1 : Int32).toInt = 1 := by decide
theorem il_2 : (2 : Int32).toInt = 2 := by decide
theorem il_3 : (3 : Int32).toInt = 3 := by decide
theorem il_4 : (4 : Int32).toInt = 4 := by decide
theorem il_5 : (5 : Int32).toInt = 5 := by decide
theorem il_6 : (6 : Int32).toInt = 6 := by decide
theorem il_7 : (7 : Int32).toInt = 7 := by decide
theorem il_8 : (8 : Int32).toInt = 8 := by decide
theorem il_9 : (9 : Int32).toInt = 9 := by decide
theorem il_10 : (10 : Int32).toInt = 10 := by decide
theorem il_11 : (11 : Int32).toInt = 11 := by decide
theorem il_12 : (12 : Int32).toInt = 12 := by decide
theorem il_13 : (13 : Int32).toInt = 13 := by decide
theorem il_14 : (14 : Int32).toInt = 14 := by decide
theorem il_15 : (15 : Int32).toInt = 15 := by decide
theorem il_16 : (16 : Int32).toInt = 16 := by decide
theorem il_17 : (17 : Int32).toInt = 17 := by decide
theorem il_19 : (19 : Int32).toInt = 19 := by decide
theorem il_20 : (20 : Int32).toInt = 20 := by decide
theorem il_21 : (21 : Int32).toInt = 21 := by decide
theorem il_22 : (22 : Int32).toInt = 22 := by decide
theorem il_24 : (24 : Int32).toInt = 24 := by decide
theorem il_29 : (29 : Int32).toInt = 29 := by decide
theorem il_30 : (30 : Int32).toInt = 30 := by decide
theorem il_32 : (32 : Int32).toInt = 32 := by decide
theorem il_36 : (36 : Int32).toInt = 36 := by decide
theorem il_48 : (48 : Int32).toInt = 48 := by decide
theorem il_57 : (57 : Int32).toInt = 57 := by decide
theorem il_60 : (60 : Int32).toInt = 60 := by decide
theorem il_97 : (97 : Int32).toInt = 97 := by decide
theorem il_99 : (99 : Int32).toInt = 99 := by decide
theorem il_100 : (100 : Int32).toInt = 100 := by decide
theorem il_101 : (101 : Int32).toInt = 101 := by decide
theorem il_102 : (102 : Int32).toInt = 102 := by decide
theorem il_103 : (103 : Int32).toInt = 103 := by decide
theorem il_104 : (104 : Int32).toInt = 104 := by decide
theorem il_105 : (105 : Int32).toInt = 105 := by decide
theorem il_106 : (106 : Int32).toInt = 106 := by decide
theorem il_108 : (108 : Int32).toInt = 108 := by decide
theorem il_109 : (109 : Int32).toInt = 109 := by decide
theorem il_110 : (110 : Int32).toInt = 110 := by decide
theorem il_111 : (111 : Int32).toInt = 111 := by decide
theorem il_112 : (112 : Int32).toInt = 112 := by decide
theorem il_114 : (114 : Int32).toInt = 114 := by decide
theorem il_115 : (115 : Int32).toInt = 115 := by decide
theorem il_116 : (116 : Int32).toInt = 116 := by decide
theorem il_117 : (117 : Int32).toInt = 117 := by decide
theorem il_118 : (118 : Int32).toInt = 118 := by decide
theorem il_119 : (119 : Int32).toInt = 119 := by decide
theorem il_120 : (120 : Int32).toInt = 120 := by decide
theorem il_121 : (121 : Int32).toInt = 121 := by decide
theorem il_122 : (122 : Int32).toInt = 122 := by decide
theorem il_180 : (180 : Int32).toInt = 180 := by decide
theorem il_359 : (359 : Int32).toInt = 359 := by decide
theorem il_360 : (360 : Int32).toInt = 360 := by decide
theorem il_365 : (365 : Int32).toInt = 365 := by decide
theorem il_420 : (420 : Int32).toInt = 420 := by decide
theorem il_440 : (440 : Int32).toInt = 440 := by decide
theorem il_580 : (580 : Int32).toInt = 580 := by decide
theorem il_600 : (600 : Int32).toInt = 600 := by decide
theorem il_999 : (999 : Int32).toInt = 999 := by decide
theorem il_1000 : (1000 : Int32).toInt = 1000 := by decide
theorem il_1800 : (1800 : Int32).toInt = 1800 := by decide
theorem il_18000 : (18000 : Int32).toInt = 18000 := by decide
theorem il_21599 : (21599 : Int32).toInt = 21599 := by decide
theorem il_50000 : (50000 : Int32).toInt = 50000 := by decide
theorem il_1000000 : (1000000 : Int32).toInt = 1000000 := by decide
theorem il_1620000 : (1620000 : Int32).toInt = 1620000 := by decide
theorem il_6480000 : (6480000 : Int32).toInt = 6480000 := by decide
theorem tt_fX1_degreeOf {N : Nat} (hN : 3000000000 ≤ N) (I0 : Nat → Int32) (M0 : Nat → Nat → Int32) (x1 : Int32) (x2 : Int32) (h_x1 : 0 ≤ x1.toInt ∧ x1.toInt ≤ 119) (h_x2 : 0 ≤ x2.toInt ∧ x2.toInt ≤ 21) (k_I0 : KX1 I0 M0) : wq (fX1_degreeOf N I0 M0 x1 x2) (fun r => (r.toInt ≤ 359 ∨ x2.toInt = 21) ∧ (-1 ≤ r.toInt ∧ r.toInt ≤ 389) ∧ True) := by
  unfold fX1_degreeOf
  have l_22 := il_22
  have t1 := ia_mul (22 : Int32) 22 il_22 x1 (by omega) (by omega)
  have t2 := ia_add ((22 : Int32) * x1) x2 (by omega) (by omega)
  refine wq_in (n := 2640) ⟨by omega, by omega⟩ ?_
  have tn := tn_of (((22 : Int32) * x1) + x2) (by omega)
  have e : (((22 : Int32) * x1) + x2).toNatClampNeg = 22 * x1.toInt.toNat + x2.toInt.toNat := by omega
  refine wq_s ⟨?_, k_I0.m0 _, trivial⟩
  by_cases h : x2.toInt = 21
  · exact Or.inr h
  · left
    rw [e]
    exact k_I0.een _ _ (by omega)
set_option maxHeartbeats 4000000 in
theorem tt_fX4_isRead {N : Nat} (hN : 3000000000 ≤ N) (I0 : Nat → Int32) (M0 : Nat → Nat → Int32) (x1 : Int32) (x2 : Int32) (h_x1 : 0 ≤ x1.toInt ∧ x1.toInt ≤ 29) : wq (fX4_isRead N I0 M0 x1 x2) (fun r => (0 ≤ r.toInt ∧ r.toInt ≤ 1) ∧ True) := by
  unfold fX4_isRead
  refine wq_in (n := 30) ⟨by omega, by omega⟩ ?_
  have l_1 := il_1
  refine wq_eq (fun hc_13 => ?_) (fun hc_14 => ?_)
  · exact wq_s ⟨(show 0 ≤ (1 : Int32).toInt ∧ (1 : Int32).toInt ≤ 1 from ⟨by omega, by omega⟩), trivial⟩
  · have l_0 := il_0
    exact wq_s ⟨(show 0 ≤ (0 : Int32).toInt ∧ (0 : Int32).toInt ≤ 1 from ⟨by omega, by omega⟩), trivial⟩
set_option maxHeartbeats 4000000 in
theorem tt_fX4_misreading {N : Nat} (hN : 3000000000 ≤ N) (I0 : Nat → Int32) (M0 : Nat → Nat → Int32) (x1 : Int32) (x2 : Int32) (h_x1 : 0 ≤ x1.toInt ∧ x1.toInt ≤ 389) : wq (fX4_misreading N I0 M0 x1 x2) (fun r => (0 ≤ r.toInt ∧ r.toInt ≤ 9) ∧ True) := by
  unfold fX4_misreading
  have b_135 := i32b x2
  refine wq_eq (fun hc_136 => ?_) (fun hc_137 => ?_)
  · have l_0 := il_0
    exact wq_s ⟨(show 0 ≤ (0 : Int32).toInt ∧ (0 : Int32).toInt ≤ 9 from ⟨by omega, by omega⟩), trivial⟩
  · have l_30 := il_30
    have t_138 := ia_div x1 (30 : Int32) 30 il_30 (by decide) (by omega)
    have t_139 := i32b x2
    have t_140 := ia_div2 x2 (30 : Int32) 30 il_30 (by decide)
    refine wq_eq (fun hc_141 => ?_) (fun hc_142 => ?_)
    · have t_143 := ia_rem x1 (30 : Int32) 30 il_30 (by decide) (by omega)
      have t_144 := ia_rem2 x2 (30 : Int32) 30 il_30 (by decide)
      refine wq_b (tt_fX4_isRead hN I0 M0 (x1 - ((x1 / (30 : Int32)) * (30 : Int32))) (x2 - ((x2 / (30 : Int32)) * (30 : Int32))) ⟨by omega, by omega⟩) (fun r2_q145 h_r2_q145 => ?_)
      obtain ⟨h_r2_q145_0, -⟩ := h_r2_q145
      have l_0 := il_0
      refine wq_eq (fun hc_146 => ?_) (fun hc_147 => ?_)
      · have l_9 := il_9
        exact wq_s ⟨(show 0 ≤ (9 : Int32).toInt ∧ (9 : Int32).toInt ≤ 9 from ⟨by omega, by omega⟩), trivial⟩
      · have l_1 := il_1
        exact wq_s ⟨(show 0 ≤ (1 : Int32).toInt ∧ (1 : Int32).toInt ≤ 9 from ⟨by omega, by omega⟩), trivial⟩
    · have t_148 := ia_rem x1 (30 : Int32) 30 il_30 (by decide) (by omega)
      have t_149 := ia_rem2 x2 (30 : Int32) 30 il_30 (by decide)
      refine wq_eq (fun hc_150 => ?_) (fun hc_151 => ?_)
      · refine wq_b (tt_fX4_isRead hN I0 M0 (x1 / (30 : Int32)) (x2 / (30 : Int32)) ⟨by omega, by omega⟩) (fun r1_q152 h_r1_q152 => ?_)
        obtain ⟨h_r1_q152_0, -⟩ := h_r1_q152
        have l_0 := il_0
        refine wq_eq (fun hc_153 => ?_) (fun hc_154 => ?_)
        · unfold fX4_misreading_J70
          have l_9 := il_9
          exact wq_s ⟨(show 0 ≤ (9 : Int32).toInt ∧ (9 : Int32).toInt ≤ 9 from ⟨by omega, by omega⟩), trivial⟩
        · have l_2 := il_2
          exact wq_s ⟨(show 0 ≤ (2 : Int32).toInt ∧ (2 : Int32).toInt ≤ 9 from ⟨by omega, by omega⟩), trivial⟩
      · unfold fX4_misreading_J70
        have l_9 := il_9
        exact wq_s ⟨(show 0 ≤ (9 : Int32).toInt ∧ (9 : Int32).toInt ≤ 9 from ⟨by omega, by omega⟩), trivial⟩
set_option maxHeartbeats 4000000 in
theorem tt_fX4_costBeside {N : Nat} (hN : 3000000000 ≤ N) (I0 : Nat → Int32) (M0 : Nat → Nat → Int32) (x1 : Int32) (x2 : Int32) (h_x1 : 0 ≤ x1.toInt ∧ x1.toInt ≤ 389) : wq (fX4_costBeside N I0 M0 x1 x2) (fun r => (0 ≤ r.toInt ∧ r.toInt ≤ 9) ∧ True) := by
  unfold fX4_costBeside
  have b_179 := i32b x2
  refine wq_b (tt_fX4_misreading hN I0 M0 x1 x2 ⟨by omega, by omega⟩) (fun r1_q180 h_r1_q180 => ?_)
  obtain ⟨h_r1_q180_0, -⟩ := h_r1_q180
  have l_2 := il_2
  refine wq_eq (fun hc_181 => ?_) (fun hc_182 => ?_)
  · have l_1 := il_1
    exact wq_s ⟨(show 0 ≤ (1 : Int32).toInt ∧ (1 : Int32).toInt ≤ 9 from ⟨by omega, by omega⟩), trivial⟩
  · exact wq_s ⟨(show 0 ≤ r1_q180.toInt ∧ r1_q180.toInt ≤ 9 from ⟨by omega, by omega⟩), trivial⟩
set_option maxHeartbeats 4000000 in
theorem tt_fX0_areOne_L6 {N : Nat} (hN : 3000000000 ≤ N) (I0 : Nat → Int32) (M0 : Nat → Nat → Int32) (I1 : Nat → Int32) (M1 : Nat → Nat → Int32) (x2 : Int32) (x3 : Int32) (x4 : Int32) (h_x2 : 0 ≤ x2.toInt ∧ x2.toInt ≤ 119) (h_x3 : 0 ≤ x3.toInt ∧ x3.toInt ≤ 119) (k_I1 : KX1 I1 M1)  : ∀ (fu : Nat) (y6_5 : Int32) (y6_6 : Int32), (0 ≤ y6_6.toInt ∧ y6_6.toInt ≤ 7) → (7 - y6_6.toInt) < (fu : Int) → wq (fX0_areOne_L6 N I0 M0 I1 M1 x2 x3 x4 fu y6_5 y6_6) (fun r => (0 ≤ r.toInt ∧ r.toInt ≤ 1) ∧ True) := by
  intro fu
  induction fu with
  | zero => intro y6_5 y6_6 h_y6_6 hm; exfalso; omega
  | succ fu ih =>
    intro y6_5 y6_6 h_y6_6 hm
    rw [fX0_areOne_L6.eq_2]
    have l_7 := il_7
    refine wq_le (fun hc_648 => ?_) (fun hc_649 => ?_)
    · have b_650 := i32b y6_5
      have b_651 := i32b x4
      refine wq_lt (fun hc_652 => ?_) (fun hc_653 => ?_)
      · have l_0 := il_0
        exact wq_s ⟨(show 0 ≤ (0 : Int32).toInt ∧ (0 : Int32).toInt ≤ 1 from ⟨by omega, by omega⟩), trivial⟩
      · have l_1 := il_1
        exact wq_s ⟨(show 0 ≤ (1 : Int32).toInt ∧ (1 : Int32).toInt ≤ 1 from ⟨by omega, by omega⟩), trivial⟩
    · refine wq_b (tt_fX1_degreeOf hN I1 M1 x2 y6_6 ⟨by omega, by omega⟩ ⟨by omega, by omega⟩ k_I1) (fun r1_q654 h_r1_q654 => ?_)
      obtain ⟨h_r1_q654_0, h_r1_q654_1, -⟩ := h_r1_q654
      refine wq_b (tt_fX1_degreeOf hN I1 M1 x3 y6_6 ⟨by omega, by omega⟩ ⟨by omega, by omega⟩ k_I1) (fun r2_q655 h_r2_q655 => ?_)
      obtain ⟨h_r2_q655_0, h_r2_q655_1, -⟩ := h_r2_q655
      have l_m1 := il_m1
      refine wq_eq (fun hc_656 => ?_) (fun hc_657 => ?_)
      · have l_1 := il_1
        have t_659 := ia_add y6_6 (1 : Int32) (by omega) (by omega)
        refine wq_v (fun v3_q658 h_v3_q658 => ?_)
        have t_v3_q658 := congrArg Int32.toInt h_v3_q658
        have b_660 := i32b y6_5
        exact ih y6_5 v3_q658 ⟨by omega, by omega⟩ (by omega)
      · refine wq_eq (fun hc_661 => ?_) (fun hc_662 => ?_)
        · have l_1 := il_1
          have t_664 := ia_add y6_6 (1 : Int32) (by omega) (by omega)
          refine wq_v (fun v4_q663 h_v4_q663 => ?_)
          have t_v4_q663 := congrArg Int32.toInt h_v4_q663
          have b_665 := i32b y6_5
          exact ih y6_5 v4_q663 ⟨by omega, by omega⟩ (by omega)
        · refine wq_b (tt_fX4_costBeside hN I0 M0 r1_q654 r2_q655 ⟨by omega, by omega⟩) (fun r5_q666 h_r5_q666 => ?_)
          obtain ⟨h_r5_q666_0, -⟩ := h_r5_q666
          have l_1 := il_1
          refine wq_le (fun hc_667 => ?_) (fun hc_668 => ?_)
          · have b_670 := i32b y6_5
            refine wq_v (fun v6_q669 h_v6_q669 => ?_)
            have t_v6_q669 := congrArg Int32.toInt h_v6_q669
            have t_672 := ia_add y6_6 (1 : Int32) (by omega) (by omega)
            refine wq_v (fun v7_q671 h_v7_q671 => ?_)
            have t_v7_q671 := congrArg Int32.toInt h_v7_q671
            have b_673 := i32b v6_q669
            exact ih v6_q669 v7_q671 ⟨by omega, by omega⟩ (by omega)
          · refine wq_b (tt_fX4_costBeside hN I0 M0 r2_q655 r1_q654 ⟨by omega, by omega⟩) (fun r8_q674 h_r8_q674 => ?_)
            obtain ⟨h_r8_q674_0, -⟩ := h_r8_q674
            refine wq_le (fun hc_675 => ?_) (fun hc_676 => ?_)
            · have b_678 := i32b y6_5
              refine wq_v (fun v9_q677 h_v9_q677 => ?_)
              have t_v9_q677 := congrArg Int32.toInt h_v9_q677
              have t_680 := ia_add y6_6 (1 : Int32) (by omega) (by omega)
              refine wq_v (fun v10_q679 h_v10_q679 => ?_)
              have t_v10_q679 := congrArg Int32.toInt h_v10_q679
              have b_681 := i32b v9_q677
              exact ih v9_q677 v10_q679 ⟨by omega, by omega⟩ (by omega)
            · have l_0 := il_0
              exact wq_s ⟨(show 0 ≤ (0 : Int32).toInt ∧ (0 : Int32).toInt ≤ 1 from ⟨by omega, by omega⟩), trivial⟩
set_option maxHeartbeats 4000000 in
theorem tt_fX0_areOne {N : Nat} (hN : 3000000000 ≤ N) (I0 : Nat → Int32) (M0 : Nat → Nat → Int32) (I1 : Nat → Int32) (M1 : Nat → Nat → Int32) (x2 : Int32) (x3 : Int32) (x4 : Int32) (h_x2 : 0 ≤ x2.toInt ∧ x2.toInt ≤ 119) (h_x3 : 0 ≤ x3.toInt ∧ x3.toInt ≤ 119) (k_I1 : KX1 I1 M1) : wq (fX0_areOne N I0 M0 I1 M1 x2 x3 x4) (fun r => (0 ≤ r.toInt ∧ r.toInt ≤ 1) ∧ True) := by
  unfold fX0_areOne
  have b_682 := i32b x4
  have l_0 := il_0
  exact tt_fX0_areOne_L6 hN I0 M0 I1 M1 x2 x3 x4 ⟨by omega, by omega⟩ ⟨by omega, by omega⟩ k_I1 N (0 : Int32) (0 : Int32) ⟨by omega, by omega⟩ (by omega)
set_option maxHeartbeats 4000000 in
theorem tt_fX0_join_L10 {N : Nat} (hN : 3000000000 ≤ N) (x1 : Int32) (x2 : Int32) (x3 : Int32) (v1 : Int32) (h_x3 : 0 ≤ x3.toInt ∧ x3.toInt ≤ 119)  : ∀ (fu : Nat) (I0_l10 : (Nat → Int32)) (M0_l10 : (Nat → Nat → Int32)) (y10_5 : Int32), (0 ≤ y10_5.toInt ∧ y10_5.toInt ≤ 120) → (120 - y10_5.toInt) < (fu : Int) → wq (fX0_join_L10 N x1 x2 x3 v1 fu I0_l10 M0_l10 y10_5) (fun r => True) := by
  intro fu
  induction fu with
  | zero => intro I0_l10 M0_l10 y10_5 h_y10_5 hm; exfalso; omega
  | succ fu ih =>
    intro I0_l10 M0_l10 y10_5 h_y10_5 hm
    rw [fX0_join_L10.eq_2]
    refine wq_lt (fun hc_883 => ?_) (fun hc_884 => ?_)
    · exact wq_s trivial
    · refine wq_in (n := 120) ⟨by omega, by omega⟩ ?_
      have b_885 := i32b x1
      refine wq_eq (fun hc_886 => ?_) (fun hc_887 => ?_)
      · refine wq_in (n := 120) ⟨by omega, by omega⟩ ?_
        refine wq_v (fun M0_2_q888 h_M0_2_q888 => ?_)
        have l_1 := il_1
        have t_890 := ia_add y10_5 (1 : Int32) (by omega) (by omega)
        refine wq_v (fun v3_q889 h_v3_q889 => ?_)
        have t_v3_q889 := congrArg Int32.toInt h_v3_q889
        exact ih I0_l10 M0_2_q888 v3_q889 ⟨by omega, by omega⟩ (by omega)
      · refine wq_in (n := 120) ⟨by omega, by omega⟩ ?_
        have b_891 := i32b x2
        refine wq_eq (fun hc_892 => ?_) (fun hc_893 => ?_)
        · refine wq_in (n := 120) ⟨by omega, by omega⟩ ?_
          refine wq_v (fun M0_5_q894 h_M0_5_q894 => ?_)
          have l_1 := il_1
          have t_896 := ia_add y10_5 (1 : Int32) (by omega) (by omega)
          refine wq_v (fun v6_q895 h_v6_q895 => ?_)
          have t_v6_q895 := congrArg Int32.toInt h_v6_q895
          exact ih I0_l10 M0_5_q894 v6_q895 ⟨by omega, by omega⟩ (by omega)
        · have l_1 := il_1
          have t_898 := ia_add y10_5 (1 : Int32) (by omega) (by omega)
          refine wq_v (fun v4_q897 h_v4_q897 => ?_)
          have t_v4_q897 := congrArg Int32.toInt h_v4_q897
          exact ih I0_l10 M0_l10 v4_q897 ⟨by omega, by omega⟩ (by omega)
set_option maxHeartbeats 4000000 in
theorem tt_fX0_join {N : Nat} (hN : 3000000000 ≤ N) (I0 : Nat → Int32) (M0 : Nat → Nat → Int32) (x1 : Int32) (x2 : Int32) (x3 : Int32) (h_x3 : 0 ≤ x3.toInt ∧ x3.toInt ≤ 119) : wq (fX0_join N I0 M0 x1 x2 x3) (fun r => True) := by
  unfold fX0_join
  refine wq_v (fun v1_q899 h_v1_q899 => ?_)
  have t_v1_q899 := congrArg Int32.toInt h_v1_q899
  have b_900 := i32b x1
  have b_901 := i32b x2
  have b_902 := i32b v1_q899
  have l_0 := il_0
  exact tt_fX0_join_L10 hN x1 x2 x3 v1_q899 ⟨by omega, by omega⟩ N I0 M0 (0 : Int32) ⟨by omega, by omega⟩ (by omega)
set_option maxHeartbeats 4000000 in
theorem tt_fX0_partBy_L22 {N : Nat} (hN : 3000000000 ≤ N) (I1 : Nat → Int32) (M1 : Nat → Nat → Int32) (I2 : Nat → Int32) (M2 : Nat → Nat → Int32) (x3 : Int32) (y3_4 : Int32) (g3 : (Nat → Int32) → (Nat → Nat → Int32) → Int32 → Option ((Nat → Int32) × (Nat → Nat → Int32))) (h_y3_4 : 0 ≤ y3_4.toInt ∧ y3_4.toInt ≤ 119) (k_I2 : KX1 I2 M2) (hg3 : ∀ (q0 : (Nat → Int32)) (q1 : (Nat → Nat → Int32)) (q2 : Int32), (0 ≤ q2.toInt ∧ q2.toInt ≤ 120) → (y3_4.toInt < q2.toInt) → wq (g3 q0 q1 q2) (fun r => True)) : ∀ (fu : Nat) (I0_l22 : (Nat → Int32)) (M0_l22 : (Nat → Nat → Int32)) (y22_5 : Int32), (0 ≤ y22_5.toInt ∧ y22_5.toInt ≤ 119) → (119 - y22_5.toInt) < (fu : Int) → wq (fX0_partBy_L22 N I1 M1 I2 M2 x3 y3_4 g3 fu I0_l22 M0_l22 y22_5) (fun r => True) := by
  intro fu
  induction fu with
  | zero => intro I0_l22 M0_l22 y22_5 h_y22_5 hm; exfalso; omega
  | succ fu ih =>
    intro I0_l22 M0_l22 y22_5 h_y22_5 hm
    rw [fX0_partBy_L22.eq_2]
    refine wq_le (fun hc_1154 => ?_) (fun hc_1155 => ?_)
    · have l_1 := il_1
      have t_1157 := ia_add y3_4 (1 : Int32) (by omega) (by omega)
      refine wq_v (fun v2_q1156 h_v2_q1156 => ?_)
      have t_v2_q1156 := congrArg Int32.toInt h_v2_q1156
      exact hg3 I0_l22 M0_l22 v2_q1156 ⟨by omega, by omega⟩ (by omega)
    · refine wq_in (n := 120) ⟨by omega, by omega⟩ ?_
      refine wq_in (n := 120) ⟨by omega, by omega⟩ ?_
      refine wq_eq (fun hc_1158 => ?_) (fun hc_1159 => ?_)
      · have l_1 := il_1
        have t_1161 := ia_add y22_5 (1 : Int32) (by omega) (by omega)
        refine wq_v (fun v3_q1160 h_v3_q1160 => ?_)
        have t_v3_q1160 := congrArg Int32.toInt h_v3_q1160
        exact ih I0_l22 M0_l22 v3_q1160 ⟨by omega, by omega⟩ (by omega)
      · have b_1162 := i32b x3
        refine wq_b (tt_fX0_areOne hN I1 M1 I2 M2 y3_4 y22_5 x3 ⟨by omega, by omega⟩ ⟨by omega, by omega⟩ k_I2) (fun r4_q1163 h_r4_q1163 => ?_)
        obtain ⟨h_r4_q1163_0, -⟩ := h_r4_q1163
        have l_0 := il_0
        refine wq_eq (fun hc_1164 => ?_) (fun hc_1165 => ?_)
        · have l_1 := il_1
          have t_1167 := ia_add y22_5 (1 : Int32) (by omega) (by omega)
          refine wq_v (fun v5_q1166 h_v5_q1166 => ?_)
          have t_v5_q1166 := congrArg Int32.toInt h_v5_q1166
          exact ih I0_l22 M0_l22 v5_q1166 ⟨by omega, by omega⟩ (by omega)
        · refine wq_in (n := 120) ⟨by omega, by omega⟩ ?_
          refine wq_in (n := 120) ⟨by omega, by omega⟩ ?_
          refine wq_b (tt_fX0_join hN I0_l22 M0_l22 (M0_l22 0 y3_4.toNatClampNeg) (M0_l22 0 y22_5.toNatClampNeg) y3_4 ⟨by omega, by omega⟩) (fun r6_q1168 h_r6_q1168 => ?_)
          obtain ⟨-⟩ := h_r6_q1168
          have l_1 := il_1
          have t_1170 := ia_add y22_5 (1 : Int32) (by omega) (by omega)
          refine wq_v (fun v7_q1169 h_v7_q1169 => ?_)
          have t_v7_q1169 := congrArg Int32.toInt h_v7_q1169
          exact ih r6_q1168.1 r6_q1168.2 v7_q1169 ⟨by omega, by omega⟩ (by omega)
set_option maxHeartbeats 4000000 in
theorem tt_fX0_partBy_L3 {N : Nat} (hN : 3000000000 ≤ N) (I1 : Nat → Int32) (M1 : Nat → Nat → Int32) (I2 : Nat → Int32) (M2 : Nat → Nat → Int32) (x3 : Int32) (k_I2 : KX1 I2 M2)  : ∀ (fu : Nat) (I0_l3 : (Nat → Int32)) (M0_l3 : (Nat → Nat → Int32)) (y3_4 : Int32), (0 ≤ y3_4.toInt ∧ y3_4.toInt ≤ 120) → (120 - y3_4.toInt) < (fu : Int) → wq (fX0_partBy_L3 N I1 M1 I2 M2 x3 fu I0_l3 M0_l3 y3_4) (fun r => True) := by
  intro fu
  induction fu with
  | zero => intro I0_l3 M0_l3 y3_4 h_y3_4 hm; exfalso; omega
  | succ fu ih =>
    intro I0_l3 M0_l3 y3_4 h_y3_4 hm
    rw [fX0_partBy_L3.eq_2]
    have l_120 := il_120
    refine wq_le (fun hc_1171 => ?_) (fun hc_1172 => ?_)
    · exact wq_s trivial
    · refine wq_in (n := 120) ⟨by omega, by omega⟩ ?_
      refine wq_v (fun M0_1_q1173 h_M0_1_q1173 => ?_)
      have b_1174 := i32b x3
      have l_0 := il_0
      exact tt_fX0_partBy_L22 hN I1 M1 I2 M2 x3 y3_4 _ ⟨by omega, by omega⟩ k_I2 (fun q0 q1 q2 hq0 hq1 => ih q0 q1 q2 hq0 (by omega)) N I0_l3 M0_1_q1173 (0 : Int32) ⟨by omega, by omega⟩ (by omega)
set_option maxHeartbeats 4000000 in
theorem tt_fX0_partBy {N : Nat} (hN : 3000000000 ≤ N) (I0 : Nat → Int32) (M0 : Nat → Nat → Int32) (I1 : Nat → Int32) (M1 : Nat → Nat → Int32) (I2 : Nat → Int32) (M2 : Nat → Nat → Int32) (x3 : Int32) (k_I2 : KX1 I2 M2) : wq (fX0_partBy N I0 M0 I1 M1 I2 M2 x3) (fun r => True) := by
  unfold fX0_partBy
  have b_1175 := i32b x3
  have l_0 := il_0
  exact tt_fX0_partBy_L3 hN I1 M1 I2 M2 x3 k_I2 N I0 M0 (0 : Int32) ⟨by omega, by omega⟩ (by omega)
set_option maxHeartbeats 4000000 in
theorem tt_fX0_leastOf {N : Nat} (hN : 3000000000 ≤ N) (I0 : Nat → Int32) (M0 : Nat → Nat → Int32) (x1 : Int32) (h_x1 : 0 ≤ x1.toInt ∧ x1.toInt ≤ 119) : wq (fX0_leastOf N I0 M0 x1) (fun r => True) := by
  unfold fX0_leastOf
  refine wq_in (n := 120) ⟨by omega, by omega⟩ ?_
  exact wq_s trivial
set_option maxHeartbeats 4000000 in
theorem tt_fX1_tellsSomething_L2 {N : Nat} (hN : 3000000000 ≤ N) (I0 : Nat → Int32) (M0 : Nat → Nat → Int32) (x1 : Int32) (h_x1 : 0 ≤ x1.toInt ∧ x1.toInt ≤ 119) (k_I0 : KX1 I0 M0)  : ∀ (fu : Nat) (y2_2 : Int32), (0 ≤ y2_2.toInt ∧ y2_2.toInt ≤ 22) → (22 - y2_2.toInt) < (fu : Int) → wq (fX1_tellsSomething_L2 N I0 M0 x1 fu y2_2) (fun r => (0 ≤ r.toInt ∧ r.toInt ≤ 1) ∧ True) := by
  intro fu
  induction fu with
  | zero => intro y2_2 h_y2_2 hm; exfalso; omega
  | succ fu ih =>
    intro y2_2 h_y2_2 hm
    rw [fX1_tellsSomething_L2.eq_2]
    have l_22 := il_22
    refine wq_le (fun hc_1253 => ?_) (fun hc_1254 => ?_)
    · have l_0 := il_0
      exact wq_s ⟨(show 0 ≤ (0 : Int32).toInt ∧ (0 : Int32).toInt ≤ 1 from ⟨by omega, by omega⟩), trivial⟩
    · refine wq_b (tt_fX1_degreeOf hN I0 M0 x1 y2_2 ⟨by omega, by omega⟩ ⟨by omega, by omega⟩ k_I0) (fun r1_q1255 h_r1_q1255 => ?_)
      obtain ⟨h_r1_q1255_0, h_r1_q1255_1, -⟩ := h_r1_q1255
      have l_m1 := il_m1
      refine wq_eq (fun hc_1256 => ?_) (fun hc_1257 => ?_)
      · have l_1 := il_1
        have t_1259 := ia_add y2_2 (1 : Int32) (by omega) (by omega)
        refine wq_v (fun v2_q1258 h_v2_q1258 => ?_)
        have t_v2_q1258 := congrArg Int32.toInt h_v2_q1258
        exact ih v2_q1258 ⟨by omega, by omega⟩ (by omega)
      · have l_1 := il_1
        exact wq_s ⟨(show 0 ≤ (1 : Int32).toInt ∧ (1 : Int32).toInt ≤ 1 from ⟨by omega, by omega⟩), trivial⟩
set_option maxHeartbeats 4000000 in
theorem tt_fX1_tellsSomething {N : Nat} (hN : 3000000000 ≤ N) (I0 : Nat → Int32) (M0 : Nat → Nat → Int32) (x1 : Int32) (h_x1 : 0 ≤ x1.toInt ∧ x1.toInt ≤ 119) (k_I0 : KX1 I0 M0) : wq (fX1_tellsSomething N I0 M0 x1) (fun r => (0 ≤ r.toInt ∧ r.toInt ≤ 1) ∧ True) := by
  unfold fX1_tellsSomething
  have l_0 := il_0
  exact tt_fX1_tellsSomething_L2 hN I0 M0 x1 ⟨by omega, by omega⟩ k_I0 N (0 : Int32) ⟨by omega, by omega⟩ (by omega)
set_option maxHeartbeats 4000000 in
theorem tt_fX0_howManyParts_L4 {N : Nat} (hN : 3000000000 ≤ N) (I0 : Nat → Int32) (M0 : Nat → Nat → Int32) (I1 : Nat → Int32) (M1 : Nat → Nat → Int32) (k_I1 : KX1 I1 M1)  : ∀ (fu : Nat) (y4_2 : Int32) (y4_3 : Int32), (0 ≤ y4_3.toInt ∧ y4_3.toInt ≤ 120) → (120 - y4_3.toInt) < (fu : Int) → wq (fX0_howManyParts_L4 N I0 M0 I1 M1 fu y4_2 y4_3) (fun r => True) := by
  intro fu
  induction fu with
  | zero => intro y4_2 y4_3 h_y4_3 hm; exfalso; omega
  | succ fu ih =>
    intro y4_2 y4_3 h_y4_3 hm
    rw [fX0_howManyParts_L4.eq_2]
    have l_120 := il_120
    refine wq_le (fun hc_1498 => ?_) (fun hc_1499 => ?_)
    · have b_1500 := i32b y4_2
      exact wq_s trivial
    · refine wq_in (n := 120) ⟨by omega, by omega⟩ ?_
      refine wq_eq (fun hc_1501 => ?_) (fun hc_1502 => ?_)
      · refine wq_b (tt_fX1_tellsSomething hN I1 M1 y4_3 ⟨by omega, by omega⟩ k_I1) (fun r2_q1503 h_r2_q1503 => ?_)
        obtain ⟨h_r2_q1503_0, -⟩ := h_r2_q1503
        have l_0 := il_0
        refine wq_eq (fun hc_1504 => ?_) (fun hc_1505 => ?_)
        · have l_1 := il_1
          have t_1507 := ia_add y4_3 (1 : Int32) (by omega) (by omega)
          refine wq_v (fun v3_q1506 h_v3_q1506 => ?_)
          have t_v3_q1506 := congrArg Int32.toInt h_v3_q1506
          have b_1508 := i32b y4_2
          exact ih y4_2 v3_q1506 ⟨by omega, by omega⟩ (by omega)
        · have b_1510 := i32b y4_2
          have l_1 := il_1
          refine wq_v (fun v4_q1509 h_v4_q1509 => ?_)
          have t_v4_q1509 := congrArg Int32.toInt h_v4_q1509
          have t_1512 := ia_add y4_3 (1 : Int32) (by omega) (by omega)
          refine wq_v (fun v5_q1511 h_v5_q1511 => ?_)
          have t_v5_q1511 := congrArg Int32.toInt h_v5_q1511
          have b_1513 := i32b v4_q1509
          exact ih v4_q1509 v5_q1511 ⟨by omega, by omega⟩ (by omega)
      · have l_1 := il_1
        have t_1515 := ia_add y4_3 (1 : Int32) (by omega) (by omega)
        refine wq_v (fun v1_q1514 h_v1_q1514 => ?_)
        have t_v1_q1514 := congrArg Int32.toInt h_v1_q1514
        have b_1516 := i32b y4_2
        exact ih y4_2 v1_q1514 ⟨by omega, by omega⟩ (by omega)
set_option maxHeartbeats 4000000 in
theorem tt_fX0_howManyParts {N : Nat} (hN : 3000000000 ≤ N) (I0 : Nat → Int32) (M0 : Nat → Nat → Int32) (I1 : Nat → Int32) (M1 : Nat → Nat → Int32) (k_I1 : KX1 I1 M1) : wq (fX0_howManyParts N I0 M0 I1 M1) (fun r => True) := by
  unfold fX0_howManyParts
  have l_0 := il_0
  exact tt_fX0_howManyParts_L4 hN I0 M0 I1 M1 k_I1 N (0 : Int32) (0 : Int32) ⟨by omega, by omega⟩ (by omega)
theorem tt_fX1_keepDraft {N : Nat} (hN : 3000000000 ≤ N) (I0 : Nat → Int32) (M0 : Nat → Nat → Int32) (x1 : Int32) (h_x1 : 0 ≤ x1.toInt ∧ x1.toInt ≤ 119) (k_I0 : KX1 I0 M0) : wq (fX1_keepDraft N I0 M0 x1) (fun r => KX1 r.1 r.2 ∧ True) := by
  unfold fX1_keepDraft
  have l_22 := il_22
  have l_0 := il_0
  have t1 := ia_mul (22 : Int32) 22 il_22 x1 (by omega) (by omega)
  have tn := tn_of ((22 : Int32) * x1) (by omega)
  have e22 : (22 : Int32).toNatClampNeg = 22 := by decide
  have e0 : (0 : Int32).toNatClampNeg = 0 := by decide
  refine wq_n ?_ ?_
  · intro q
    rw [e22, e0] at q
    rcases q with q | q | q | q | q
    · exact absurd q (by decide)
    · have := Int32.lt_iff_toInt_lt.mp q; omega
    · exact absurd q (by decide)
    · omega
    · omega
  · rw [e22, e0]
    refine wq_v (fun M h => ?_)
    rw [h]
    refine wq_s ⟨?_, trivial⟩
    refine KX1.sf0 k_I0 (fun j => ?_) ?_
    · unfold va_cpy
      by_cases q : ((22 : Int32) * x1).toNatClampNeg ≤ j ∧ j < ((22 : Int32) * x1).toNatClampNeg + 22
      · rw [if_pos q]; exact k_I0.m1 _
      · rw [if_neg q]; exact k_I0.m0 _
    · intro n e he
      unfold va_cpy
      by_cases q : ((22 : Int32) * x1).toNatClampNeg ≤ 22 * n + e ∧ 22 * n + e < ((22 : Int32) * x1).toNatClampNeg + 22
      · rw [if_pos q]
        have e2 : 0 + (22 * n + e - ((22 : Int32) * x1).toNatClampNeg) = e := by omega
        rw [e2]
        exact k_I0.edn e he
      · rw [if_neg q]; exact k_I0.een n e he
theorem tt_fJ7_fill_53178 {N : Nat} (hN : 3000000000 ≤ N) (n0 : Nat) (f0 : Nat → Int32) (x1 : Int32) (hr_0 : n0 ≤ 100000) : wq (fJ7_fill_53178 N n0 f0 x1) (fun r => True) := ⟨_, wp_fill N n0 f0 x1 (by omega) (by omega), trivial⟩
set_option maxHeartbeats 4000000 in
theorem tt_fX9_isAtEnd {N : Nat} (hN : 3000000000 ≤ N) (I0 : Nat → Int32) (M0 : Nat → Nat → Int32) (k_I0 : KX9 I0 M0) : wq (fX9_isAtEnd N I0 M0) (fun r => (0 ≤ r.toInt ∧ r.toInt ≤ 1) ∧ True) := by
  unfold fX9_isAtEnd
  have l_0 := il_0
  refine wq_eq (fun hc_1529 => ?_) (fun hc_1530 => ?_)
  · have l_1 := il_1
    exact wq_s ⟨(show 0 ≤ (1 : Int32).toInt ∧ (1 : Int32).toInt ≤ 1 from ⟨by omega, by omega⟩), trivial⟩
  · exact wq_s ⟨(show 0 ≤ (0 : Int32).toInt ∧ (0 : Int32).toInt ≤ 1 from ⟨by omega, by omega⟩), trivial⟩
set_option maxHeartbeats 4000000 in
theorem tt_fX1_readEntries {N : Nat} (hN : 3000000000 ≤ N) (I0 : Nat → Int32) (M0 : Nat → Nat → Int32) (I1 : Nat → Int32) (M1 : Nat → Nat → Int32) (k_I0 : KX1 I0 M0) (k_I1 : KX9 I1 M1) : wq (fX1_readEntries N I0 M0 I1 M1) (fun r => KX1 r.2.1 r.2.2 ∧ True) := by sorry
set_option maxHeartbeats 4000000 in
theorem tt_fX1_howManyTell_L4 {N : Nat} (hN : 3000000000 ≤ N) (I0 : Nat → Int32) (M0 : Nat → Nat → Int32) (k_I0 : KX1 I0 M0)  : ∀ (fu : Nat) (y4_1 : Int32) (y4_2 : Int32), (0 ≤ y4_2.toInt ∧ y4_2.toInt ≤ 120) → (120 - y4_2.toInt) < (fu : Int) → wq (fX1_howManyTell_L4 N I0 M0 fu y4_1 y4_2) (fun r => True) := by
  intro fu
  induction fu with
  | zero => intro y4_1 y4_2 h_y4_2 hm; exfalso; omega
  | succ fu ih =>
    intro y4_1 y4_2 h_y4_2 hm
    rw [fX1_howManyTell_L4.eq_2]
    have l_120 := il_120
    refine wq_le (fun hc_1708 => ?_) (fun hc_1709 => ?_)
    · have b_1710 := i32b y4_1
      exact wq_s trivial
    · refine wq_b (tt_fX1_tellsSomething hN I0 M0 y4_2 ⟨by omega, by omega⟩ k_I0) (fun r1_q1711 h_r1_q1711 => ?_)
      obtain ⟨h_r1_q1711_0, -⟩ := h_r1_q1711
      have l_0 := il_0
      refine wq_eq (fun hc_1712 => ?_) (fun hc_1713 => ?_)
      · have l_1 := il_1
        have t_1715 := ia_add y4_2 (1 : Int32) (by omega) (by omega)
        refine wq_v (fun v2_q1714 h_v2_q1714 => ?_)
        have t_v2_q1714 := congrArg Int32.toInt h_v2_q1714
        have b_1716 := i32b y4_1
        exact ih y4_1 v2_q1714 ⟨by omega, by omega⟩ (by omega)
      · have b_1718 := i32b y4_1
        have l_1 := il_1
        refine wq_v (fun v3_q1717 h_v3_q1717 => ?_)
        have t_v3_q1717 := congrArg Int32.toInt h_v3_q1717
        have t_1720 := ia_add y4_2 (1 : Int32) (by omega) (by omega)
        refine wq_v (fun v4_q1719 h_v4_q1719 => ?_)
        have t_v4_q1719 := congrArg Int32.toInt h_v4_q1719
        have b_1721 := i32b v3_q1717
        exact ih v3_q1717 v4_q1719 ⟨by omega, by omega⟩ (by omega)
set_option maxHeartbeats 4000000 in
theorem tt_fX1_howManyTell {N : Nat} (hN : 3000000000 ≤ N) (I0 : Nat → Int32) (M0 : Nat → Nat → Int32) (k_I0 : KX1 I0 M0) : wq (fX1_howManyTell N I0 M0) (fun r => True) := by
  unfold fX1_howManyTell
  have l_0 := il_0
  exact tt_fX1_howManyTell_L4 hN I0 M0 k_I0 N (0 : Int32) (0 : Int32) ⟨by omega, by omega⟩ (by omega)
set_option maxHeartbeats 4000000 in
theorem tt_fX1_bookTells_L2 {N : Nat} (hN : 3000000000 ≤ N) (I0 : Nat → Int32) (M0 : Nat → Nat → Int32) (x1 : Int32) (h_x1 : 0 ≤ x1.toInt ∧ x1.toInt ≤ 5) (k_I0 : KX1 I0 M0)  : ∀ (fu : Nat) (y2_2 : Int32), (0 ≤ y2_2.toInt ∧ y2_2.toInt ≤ 20) → (20 - y2_2.toInt) < (fu : Int) → wq (fX1_bookTells_L2 N I0 M0 x1 fu y2_2) (fun r => (0 ≤ r.toInt ∧ r.toInt ≤ 1) ∧ True) := by
  intro fu
  induction fu with
  | zero => intro y2_2 h_y2_2 hm; exfalso; omega
  | succ fu ih =>
    intro y2_2 h_y2_2 hm
    rw [fX1_bookTells_L2.eq_2]
    have l_20 := il_20
    refine wq_le (fun hc_1839 => ?_) (fun hc_1840 => ?_)
    · have l_0 := il_0
      exact wq_s ⟨(show 0 ≤ (0 : Int32).toInt ∧ (0 : Int32).toInt ≤ 1 from ⟨by omega, by omega⟩), trivial⟩
    · have t_1841 := ia_mul (20 : Int32) (20) il_20 x1 (by omega) (by omega)
      have t_1842 := ia_add ((20 : Int32) * x1) y2_2 (by omega) (by omega)
      refine wq_b (tt_fX1_tellsSomething hN I0 M0 (((20 : Int32) * x1) + y2_2) ⟨by omega, by omega⟩ k_I0) (fun r1_q1843 h_r1_q1843 => ?_)
      obtain ⟨h_r1_q1843_0, -⟩ := h_r1_q1843
      have l_0 := il_0
      refine wq_eq (fun hc_1844 => ?_) (fun hc_1845 => ?_)
      · have l_1 := il_1
        have t_1847 := ia_add y2_2 (1 : Int32) (by omega) (by omega)
        refine wq_v (fun v2_q1846 h_v2_q1846 => ?_)
        have t_v2_q1846 := congrArg Int32.toInt h_v2_q1846
        exact ih v2_q1846 ⟨by omega, by omega⟩ (by omega)
      · have l_1 := il_1
        exact wq_s ⟨(show 0 ≤ (1 : Int32).toInt ∧ (1 : Int32).toInt ≤ 1 from ⟨by omega, by omega⟩), trivial⟩
set_option maxHeartbeats 4000000 in
theorem tt_fX1_bookTells {N : Nat} (hN : 3000000000 ≤ N) (I0 : Nat → Int32) (M0 : Nat → Nat → Int32) (x1 : Int32) (h_x1 : 0 ≤ x1.toInt ∧ x1.toInt ≤ 5) (k_I0 : KX1 I0 M0) : wq (fX1_bookTells N I0 M0 x1) (fun r => (0 ≤ r.toInt ∧ r.toInt ≤ 1) ∧ True) := by
  unfold fX1_bookTells
  have l_0 := il_0
  exact tt_fX1_bookTells_L2 hN I0 M0 x1 ⟨by omega, by omega⟩ k_I0 N (0 : Int32) ⟨by omega, by omega⟩ (by omega)
set_option maxHeartbeats 4000000 in
theorem tt_fX1_howManyHouses_L4 {N : Nat} (hN : 3000000000 ≤ N) (I0 : Nat → Int32) (M0 : Nat → Nat → Int32) (x1 : Int32) (h_x1 : 0 ≤ x1.toInt ∧ x1.toInt ≤ 119) (k_I0 : KX1 I0 M0)  : ∀ (fu : Nat) (y4_2 : Int32) (y4_3 : Int32), (1 ≤ y4_3.toInt ∧ y4_3.toInt ≤ 13) → (13 - y4_3.toInt) < (fu : Int) → wq (fX1_howManyHouses_L4 N I0 M0 x1 fu y4_2 y4_3) (fun r => True) := by
  intro fu
  induction fu with
  | zero => intro y4_2 y4_3 h_y4_3 hm; exfalso; omega
  | succ fu ih =>
    intro y4_2 y4_3 h_y4_3 hm
    rw [fX1_howManyHouses_L4.eq_2]
    have l_12 := il_12
    refine wq_lt (fun hc_2097 => ?_) (fun hc_2098 => ?_)
    · have b_2099 := i32b y4_2
      exact wq_s trivial
    · have l_8 := il_8
      have t_2100 := ia_add (8 : Int32) y4_3 (by omega) (by omega)
      refine wq_b (tt_fX1_degreeOf hN I0 M0 x1 ((8 : Int32) + y4_3) ⟨by omega, by omega⟩ ⟨by omega, by omega⟩ k_I0) (fun r1_q2101 h_r1_q2101 => ?_)
      obtain ⟨h_r1_q2101_0, h_r1_q2101_1, -⟩ := h_r1_q2101
      have l_m1 := il_m1
      refine wq_eq (fun hc_2102 => ?_) (fun hc_2103 => ?_)
      · have l_1 := il_1
        have t_2105 := ia_add y4_3 (1 : Int32) (by omega) (by omega)
        refine wq_v (fun v2_q2104 h_v2_q2104 => ?_)
        have t_v2_q2104 := congrArg Int32.toInt h_v2_q2104
        have b_2106 := i32b y4_2
        exact ih y4_2 v2_q2104 ⟨by omega, by omega⟩ (by omega)
      · have b_2108 := i32b y4_2
        have l_1 := il_1
        refine wq_v (fun v3_q2107 h_v3_q2107 => ?_)
        have t_v3_q2107 := congrArg Int32.toInt h_v3_q2107
        have t_2110 := ia_add y4_3 (1 : Int32) (by omega) (by omega)
        refine wq_v (fun v4_q2109 h_v4_q2109 => ?_)
        have t_v4_q2109 := congrArg Int32.toInt h_v4_q2109
        have b_2111 := i32b v3_q2107
        exact ih v3_q2107 v4_q2109 ⟨by omega, by omega⟩ (by omega)
set_option maxHeartbeats 4000000 in
theorem tt_fX1_howManyHouses {N : Nat} (hN : 3000000000 ≤ N) (I0 : Nat → Int32) (M0 : Nat → Nat → Int32) (x1 : Int32) (h_x1 : 0 ≤ x1.toInt ∧ x1.toInt ≤ 119) (k_I0 : KX1 I0 M0) : wq (fX1_howManyHouses N I0 M0 x1) (fun r => True) := by
  unfold fX1_howManyHouses
  have l_0 := il_0
  have l_1 := il_1
  exact tt_fX1_howManyHouses_L4 hN I0 M0 x1 ⟨by omega, by omega⟩ k_I0 N (0 : Int32) (1 : Int32) ⟨by omega, by omega⟩ (by omega)
set_option maxHeartbeats 4000000 in
theorem tt_fX2_climbOf {N : Nat} (hN : 3000000000 ≤ N) (I0 : Nat → Int32) (M0 : Nat → Nat → Int32) (x1 : Int32) (x2 : Int32) (h_x1 : 0 ≤ x1.toInt ∧ x1.toInt ≤ 6) (h_x2 : -60 ≤ x2.toInt ∧ x2.toInt ≤ 21599) (k_I0 : KX2 I0 M0) : wq (fX2_climbOf N I0 M0 x1 x2) (fun r => True) := by
  unfold fX2_climbOf
  have l_1800 := il_1800
  have t_2161 := ia_div2 x2 (1800 : Int32) 1800 il_1800 (by decide)
  refine wq_v (fun v1_q2160 h_v1_q2160 => ?_)
  have t_v1_q2160 := congrArg Int32.toInt h_v1_q2160
  have l_13 := il_13
  have t_2162 := ia_mul (13 : Int32) (13) il_13 x1 (by omega) (by omega)
  have t_2163 := ia_add ((13 : Int32) * x1) v1_q2160 (by omega) (by omega)
  refine wq_in (n := 91) ⟨by omega, by omega⟩ ?_
  refine wq_v (fun v2_q2164 h_v2_q2164 => ?_)
  have t_v2_q2164 := congrArg Int32.toInt h_v2_q2164
  have l_1 := il_1
  have t_2165 := ia_add (((13 : Int32) * x1) + v1_q2160) (1 : Int32) (by omega) (by omega)
  refine wq_in (n := 91) ⟨by omega, by omega⟩ ?_
  have b_2167 := i32b v2_q2164
  refine wq_v (fun v3_q2166 h_v3_q2166 => ?_)
  have t_v3_q2166 := congrArg Int32.toInt h_v3_q2166
  exact wq_s trivial
set_option maxHeartbeats 4000000 in
theorem tt_fJ9_floorMod_7cf53 {N : Nat} (hN : 3000000000 ≤ N) (x0 : Int32) (x1 : Int32) (h_x1 : 1 ≤ x1.toInt ∧ x1.toInt ≤ 2147483647) : wq (fJ9_floorMod_7cf53 N x0 x1) (fun r => True) := by
  unfold fJ9_floorMod_7cf53
  have b_2222 := i32b x1
  refine wq_nz (by omega) ?_
  have b_2224 := i32b x0
  refine wq_v (fun v1_q2223 h_v1_q2223 => ?_)
  have t_v1_q2223 := congrArg Int32.toInt h_v1_q2223
  have l_0 := il_0
  refine wq_le (fun hc_2225 => ?_) (fun hc_2226 => ?_)
  · have b_2227 := i32b v1_q2223
    exact wq_s trivial
  · have b_2228 := i32b v1_q2223
    refine wq_eq (fun hc_2229 => ?_) (fun hc_2230 => ?_)
    · exact wq_s trivial
    · exact wq_s trivial
set_option maxHeartbeats 4000000 in
theorem tt_fX2_placeOf_L5 {N : Nat} (hN : 3000000000 ≤ N) (I0 : Nat → Int32) (M0 : Nat → Nat → Int32) (x1 : Int32) (x2 : Int32) (h_x1 : 0 ≤ x1.toInt ∧ x1.toInt ≤ 6) (k_I0 : KX2 I0 M0)  : ∀ (fu : Nat) (y5_3 : Int32) (y5_4 : Int32), (0 ≤ y5_3.toInt ∧ y5_3.toInt ≤ 11) → (1 ≤ y5_4.toInt ∧ y5_4.toInt ≤ 12) → (12 - y5_4.toInt) < (fu : Int) → wq (fX2_placeOf_L5 N I0 M0 x1 x2 fu y5_3 y5_4) (fun r => True) := by
  intro fu
  induction fu with
  | zero => intro y5_3 y5_4 h_y5_3 h_y5_4 hm; exfalso; omega
  | succ fu ih =>
    intro y5_3 y5_4 h_y5_3 h_y5_4 hm
    rw [fX2_placeOf_L5.eq_2]
    have l_12 := il_12
    refine wq_le (fun hc_2510 => ?_) (fun hc_2511 => ?_)
    · unfold fX2_placeOf_J41
      have l_13 := il_13
      have t_2512 := ia_mul (13 : Int32) (13) il_13 x1 (by omega) (by omega)
      have t_2513 := ia_add ((13 : Int32) * x1) y5_3 (by omega) (by omega)
      refine wq_in (n := 91) ⟨by omega, by omega⟩ ?_
      refine wq_v (fun v1_q2514 h_v1_q2514 => ?_)
      have t_v1_q2514 := congrArg Int32.toInt h_v1_q2514
      have l_1 := il_1
      have t_2515 := ia_add (((13 : Int32) * x1) + y5_3) (1 : Int32) (by omega) (by omega)
      refine wq_in (n := 91) ⟨by omega, by omega⟩ ?_
      have b_2517 := i32b v1_q2514
      refine wq_v (fun v2_q2516 h_v2_q2516 => ?_)
      have t_v2_q2516 := congrArg Int32.toInt h_v2_q2516
      have b_2518 := i32b v2_q2516
      refine wq_le (fun hc_2519 => ?_) (fun hc_2520 => ?_)
      · refine wq_nz (by omega) ?_
        have l_1800 := il_1800
        have t_2521 := ia_mul (1800 : Int32) (1800) il_1800 y5_3 (by omega) (by omega)
        exact wq_s trivial
      · have l_0 := il_0
        exact wq_s trivial
    · have l_13 := il_13
      have t_2522 := ia_mul (13 : Int32) (13) il_13 x1 (by omega) (by omega)
      have t_2523 := ia_add ((13 : Int32) * x1) y5_4 (by omega) (by omega)
      refine wq_in (n := 91) ⟨by omega, by omega⟩ ?_
      have b_2524 := i32b x2
      have l_1800 := il_1800
      refine wq_lt (fun hc_2525 => ?_) (fun hc_2526 => ?_)
      · unfold fX2_placeOf_J41
        have t_2527 := ia_add ((13 : Int32) * x1) y5_3 (by omega) (by omega)
        refine wq_in (n := 91) ⟨by omega, by omega⟩ ?_
        refine wq_v (fun v1_q2528 h_v1_q2528 => ?_)
        have t_v1_q2528 := congrArg Int32.toInt h_v1_q2528
        have l_1 := il_1
        have t_2529 := ia_add (((13 : Int32) * x1) + y5_3) (1 : Int32) (by omega) (by omega)
        refine wq_in (n := 91) ⟨by omega, by omega⟩ ?_
        have b_2531 := i32b v1_q2528
        refine wq_v (fun v2_q2530 h_v2_q2530 => ?_)
        have t_v2_q2530 := congrArg Int32.toInt h_v2_q2530
        have b_2532 := i32b v2_q2530
        refine wq_le (fun hc_2533 => ?_) (fun hc_2534 => ?_)
        · refine wq_nz (by omega) ?_
          have t_2535 := ia_mul (1800 : Int32) (1800) il_1800 y5_3 (by omega) (by omega)
          exact wq_s trivial
        · have l_0 := il_0
          exact wq_s trivial
      · have l_1 := il_1
        have t_2537 := ia_add y5_4 (1 : Int32) (by omega) (by omega)
        refine wq_v (fun v3_q2536 h_v3_q2536 => ?_)
        have t_v3_q2536 := congrArg Int32.toInt h_v3_q2536
        exact ih y5_4 v3_q2536 ⟨by omega, by omega⟩ ⟨by omega, by omega⟩ (by omega)
set_option maxHeartbeats 4000000 in
theorem tt_fX2_placeOf {N : Nat} (hN : 3000000000 ≤ N) (I0 : Nat → Int32) (M0 : Nat → Nat → Int32) (x1 : Int32) (x2 : Int32) (h_x1 : 0 ≤ x1.toInt ∧ x1.toInt ≤ 6) (k_I0 : KX2 I0 M0) : wq (fX2_placeOf N I0 M0 x1 x2) (fun r => True) := by
  unfold fX2_placeOf
  have b_2538 := i32b x2
  have l_0 := il_0
  have l_1 := il_1
  exact tt_fX2_placeOf_L5 hN I0 M0 x1 x2 ⟨by omega, by omega⟩ k_I0 N (0 : Int32) (1 : Int32) ⟨by omega, by omega⟩ ⟨by omega, by omega⟩ (by omega)
set_option maxHeartbeats 4000000 in
theorem tt_fX2_middleOf {N : Nat} (hN : 3000000000 ≤ N) (I0 : Nat → Int32) (M0 : Nat → Nat → Int32) (x1 : Int32) (x2 : Int32) (h_x1 : 0 ≤ x1.toInt ∧ x1.toInt ≤ 6) (h_x2 : -60 ≤ x2.toInt ∧ x2.toInt ≤ 21599) (k_I0 : KX2 I0 M0) : wq (fX2_middleOf N I0 M0 x1 x2) (fun r => True) := by
  unfold fX2_middleOf
  refine wq_b (tt_fX2_climbOf hN I0 M0 x1 x2 ⟨by omega, by omega⟩ ⟨by omega, by omega⟩ k_I0) (fun r1_q2575 h_r1_q2575 => ?_)
  obtain ⟨-⟩ := h_r1_q2575
  have b_2576 := i32b r1_q2575
  have l_1620000 := il_1620000
  have l_6480000 := il_6480000
  refine wq_b (tt_fJ9_floorMod_7cf53 hN (r1_q2575 - (1620000 : Int32)) (6480000 : Int32) ⟨by omega, by omega⟩) (fun r2_q2577 h_r2_q2577 => ?_)
  obtain ⟨-⟩ := h_r2_q2577
  have l_0 := il_0
  have b_2578 := i32b r2_q2577
  refine wq_b (tt_fX2_placeOf hN I0 M0 (0 : Int32) r2_q2577 ⟨by omega, by omega⟩ k_I0) (fun r3_q2579 h_r3_q2579 => ?_)
  obtain ⟨-⟩ := h_r3_q2579
  have b_2580 := i32b r3_q2579
  exact wq_s trivial
set_option maxHeartbeats 4000000 in
theorem tt_fX2_houseByMiddle {N : Nat} (hN : 3000000000 ≤ N) (I0 : Nat → Int32) (M0 : Nat → Nat → Int32) (x1 : Int32) (x2 : Int32) (x3 : Int32) (h_x1 : -1 ≤ x1.toInt ∧ x1.toInt ≤ 359) (h_x2 : 0 ≤ x2.toInt ∧ x2.toInt ≤ 6) (h_x3 : 1 ≤ x3.toInt ∧ x3.toInt ≤ 12) (k_I0 : KX2 I0 M0) : wq (fX2_houseByMiddle N I0 M0 x1 x2 x3) (fun r => (-359 ≤ r.toInt ∧ r.toInt ≤ 359) ∧ True) := by
  unfold fX2_houseByMiddle
  have l_4 := il_4
  refine wq_lt (fun hc_3097 => ?_) (fun hc_3098 => ?_)
  · unfold fX2_houseByMiddle_J15
    unfold fX2_houseByMiddle_J16
    have l_0 := il_0
    refine wq_eq (fun hc_3099 => ?_) (fun hc_3100 => ?_)
    · unfold fX2_houseByMiddle_J44
      have l_60 := il_60
      have t_3101 := ia_mul (60 : Int32) (60) il_60 x1 (by omega) (by omega)
      refine wq_b (tt_fX2_middleOf hN I0 M0 x2 ((60 : Int32) * x1) ⟨by omega, by omega⟩ ⟨by omega, by omega⟩ k_I0) (fun r1_q3102 h_r1_q3102 => ?_)
      obtain ⟨-⟩ := h_r1_q3102
      have b_3104 := i32b r1_q3102
      have t_3105 := i32b r1_q3102
      have t_3106 := ia_div2 r1_q3102 (60 : Int32) 60 il_60 (by decide)
      refine wq_v (fun v2_q3103 h_v2_q3103 => ?_)
      have t_v2_q3103 := congrArg Int32.toInt h_v2_q3103
      have l_10 := il_10
      refine wq_lt (fun hc_3107 => ?_) (fun hc_3108 => ?_)
      · have l_180 := il_180
        have t_3109 := ia_add v2_q3103 (180 : Int32) (by omega) (by omega)
        have t_3110 := ia_sub (v2_q3103 + (180 : Int32)) x1 (by omega) (by omega)
        have l_360 := il_360
        refine wq_b (tt_fJ9_floorMod_7cf53 hN ((v2_q3103 + (180 : Int32)) - x1) (360 : Int32) ⟨by omega, by omega⟩) (fun r3_q3111 h_r3_q3111 => ?_)
        obtain ⟨-⟩ := h_r3_q3111
        have l_3 := il_3
        have t_3113 := i32b ((x3 - (1 : Int32)) * r3_q3111)
        have t_3114 := ia_div2 ((x3 - (1 : Int32)) * r3_q3111) (3 : Int32) 3 il_3 (by decide)
        have t_3115 := ia_add x1 (((x3 - (1 : Int32)) * r3_q3111) / (3 : Int32)) (by omega) (by omega)
        refine wq_v (fun v4_q3112 h_v4_q3112 => ?_)
        have t_v4_q3112 := congrArg Int32.toInt h_v4_q3112
        unfold fX2_houseByMiddle_J118
        refine wq_eq (fun hc_3116 => ?_) (fun hc_3117 => ?_)
        · have t_3118 := ia_rem2 v4_q3112 (360 : Int32) 360 il_360 (by decide)
          exact wq_s ⟨(show -359 ≤ (v4_q3112 - ((v4_q3112 / (360 : Int32)) * (360 : Int32))).toInt ∧ (v4_q3112 - ((v4_q3112 / (360 : Int32)) * (360 : Int32))).toInt ≤ 359 from ⟨by omega, by omega⟩), trivial⟩
        · exfalso; omega
      · exfalso; omega
    · exfalso; omega
  · have l_9 := il_9
    refine wq_lt (fun hc_3119 => ?_) (fun hc_3120 => ?_)
    · unfold fX2_houseByMiddle_J15
      unfold fX2_houseByMiddle_J16
      have l_0 := il_0
      refine wq_eq (fun hc_3121 => ?_) (fun hc_3122 => ?_)
      · unfold fX2_houseByMiddle_J44
        have l_60 := il_60
        have t_3123 := ia_mul (60 : Int32) (60) il_60 x1 (by omega) (by omega)
        refine wq_b (tt_fX2_middleOf hN I0 M0 x2 ((60 : Int32) * x1) ⟨by omega, by omega⟩ ⟨by omega, by omega⟩ k_I0) (fun r1_q3124 h_r1_q3124 => ?_)
        obtain ⟨-⟩ := h_r1_q3124
        have b_3126 := i32b r1_q3124
        have t_3127 := i32b r1_q3124
        have t_3128 := ia_div2 r1_q3124 (60 : Int32) 60 il_60 (by decide)
        refine wq_v (fun v2_q3125 h_v2_q3125 => ?_)
        have t_v2_q3125 := congrArg Int32.toInt h_v2_q3125
        have l_10 := il_10
        refine wq_lt (fun hc_3129 => ?_) (fun hc_3130 => ?_)
        · exfalso; omega
        · have t_3131 := ia_sub x1 v2_q3125 (by omega) (by omega)
          have l_360 := il_360
          refine wq_b (tt_fJ9_floorMod_7cf53 hN (x1 - v2_q3125) (360 : Int32) ⟨by omega, by omega⟩) (fun r5_q3132 h_r5_q3132 => ?_)
          obtain ⟨-⟩ := h_r5_q3132
          have l_3 := il_3
          have t_3134 := i32b ((x3 - (10 : Int32)) * r5_q3132)
          have t_3135 := ia_div2 ((x3 - (10 : Int32)) * r5_q3132) (3 : Int32) 3 il_3 (by decide)
          have t_3136 := ia_add v2_q3125 (((x3 - (10 : Int32)) * r5_q3132) / (3 : Int32)) (by omega) (by omega)
          refine wq_v (fun v6_q3133 h_v6_q3133 => ?_)
          have t_v6_q3133 := congrArg Int32.toInt h_v6_q3133
          unfold fX2_houseByMiddle_J118
          refine wq_eq (fun hc_3137 => ?_) (fun hc_3138 => ?_)
          · have t_3139 := ia_rem2 v6_q3133 (360 : Int32) 360 il_360 (by decide)
            exact wq_s ⟨(show -359 ≤ (v6_q3133 - ((v6_q3133 / (360 : Int32)) * (360 : Int32))).toInt ∧ (v6_q3133 - ((v6_q3133 / (360 : Int32)) * (360 : Int32))).toInt ≤ 359 from ⟨by omega, by omega⟩), trivial⟩
          · exfalso; omega
      · exfalso; omega
    · unfold fX2_houseByMiddle_J16
      have l_1 := il_1
      have l_0 := il_0
      refine wq_eq (fun hc_3140 => ?_) (fun hc_3141 => ?_)
      · exfalso; omega
      · have l_7 := il_7
        refine wq_le (fun hc_3142 => ?_) (fun hc_3143 => ?_)
        · unfold fX2_houseByMiddle_J44
          have l_60 := il_60
          have t_3144 := ia_mul (60 : Int32) (60) il_60 x1 (by omega) (by omega)
          refine wq_b (tt_fX2_middleOf hN I0 M0 x2 ((60 : Int32) * x1) ⟨by omega, by omega⟩ ⟨by omega, by omega⟩ k_I0) (fun r1_q3145 h_r1_q3145 => ?_)
          obtain ⟨-⟩ := h_r1_q3145
          have b_3147 := i32b r1_q3145
          have t_3148 := i32b r1_q3145
          have t_3149 := ia_div2 r1_q3145 (60 : Int32) 60 il_60 (by decide)
          refine wq_v (fun v2_q3146 h_v2_q3146 => ?_)
          have t_v2_q3146 := congrArg Int32.toInt h_v2_q3146
          have l_6 := il_6
          have t_3150 := ia_sub x3 (6 : Int32) (by omega) (by omega)
          have l_10 := il_10
          refine wq_lt (fun hc_3151 => ?_) (fun hc_3152 => ?_)
          · have l_180 := il_180
            have t_3153 := ia_add v2_q3146 (180 : Int32) (by omega) (by omega)
            have t_3154 := ia_sub (v2_q3146 + (180 : Int32)) x1 (by omega) (by omega)
            have l_360 := il_360
            refine wq_b (tt_fJ9_floorMod_7cf53 hN ((v2_q3146 + (180 : Int32)) - x1) (360 : Int32) ⟨by omega, by omega⟩) (fun r3_q3155 h_r3_q3155 => ?_)
            obtain ⟨-⟩ := h_r3_q3155
            have l_3 := il_3
            have t_3157 := i32b (((x3 - (6 : Int32)) - (1 : Int32)) * r3_q3155)
            have t_3158 := ia_div2 (((x3 - (6 : Int32)) - (1 : Int32)) * r3_q3155) (3 : Int32) 3 il_3 (by decide)
            have t_3159 := ia_add x1 ((((x3 - (6 : Int32)) - (1 : Int32)) * r3_q3155) / (3 : Int32)) (by omega) (by omega)
            refine wq_v (fun v4_q3156 h_v4_q3156 => ?_)
            have t_v4_q3156 := congrArg Int32.toInt h_v4_q3156
            unfold fX2_houseByMiddle_J118
            refine wq_eq (fun hc_3160 => ?_) (fun hc_3161 => ?_)
            · exfalso; omega
            · have t_3162 := ia_add v4_q3156 (180 : Int32) (by omega) (by omega)
              have t_3163 := ia_rem2 (v4_q3156 + (180 : Int32)) (360 : Int32) 360 il_360 (by decide)
              exact wq_s ⟨(show -359 ≤ ((v4_q3156 + (180 : Int32)) - (((v4_q3156 + (180 : Int32)) / (360 : Int32)) * (360 : Int32))).toInt ∧ ((v4_q3156 + (180 : Int32)) - (((v4_q3156 + (180 : Int32)) / (360 : Int32)) * (360 : Int32))).toInt ≤ 359 from ⟨by omega, by omega⟩), trivial⟩
          · exfalso; omega
        · unfold fX2_houseByMiddle_J44
          have l_60 := il_60
          have t_3164 := ia_mul (60 : Int32) (60) il_60 x1 (by omega) (by omega)
          refine wq_b (tt_fX2_middleOf hN I0 M0 x2 ((60 : Int32) * x1) ⟨by omega, by omega⟩ ⟨by omega, by omega⟩ k_I0) (fun r1_q3165 h_r1_q3165 => ?_)
          obtain ⟨-⟩ := h_r1_q3165
          have b_3167 := i32b r1_q3165
          have t_3168 := i32b r1_q3165
          have t_3169 := ia_div2 r1_q3165 (60 : Int32) 60 il_60 (by decide)
          refine wq_v (fun v2_q3166 h_v2_q3166 => ?_)
          have t_v2_q3166 := congrArg Int32.toInt h_v2_q3166
          have l_6 := il_6
          have t_3170 := ia_add x3 (6 : Int32) (by omega) (by omega)
          have l_10 := il_10
          refine wq_lt (fun hc_3171 => ?_) (fun hc_3172 => ?_)
          · exfalso; omega
          · have t_3173 := ia_sub x1 v2_q3166 (by omega) (by omega)
            have l_360 := il_360
            refine wq_b (tt_fJ9_floorMod_7cf53 hN (x1 - v2_q3166) (360 : Int32) ⟨by omega, by omega⟩) (fun r5_q3174 h_r5_q3174 => ?_)
            obtain ⟨-⟩ := h_r5_q3174
            have l_3 := il_3
            have t_3176 := i32b (((x3 + (6 : Int32)) - (10 : Int32)) * r5_q3174)
            have t_3177 := ia_div2 (((x3 + (6 : Int32)) - (10 : Int32)) * r5_q3174) (3 : Int32) 3 il_3 (by decide)
            have t_3178 := ia_add v2_q3166 ((((x3 + (6 : Int32)) - (10 : Int32)) * r5_q3174) / (3 : Int32)) (by omega) (by omega)
            refine wq_v (fun v6_q3175 h_v6_q3175 => ?_)
            have t_v6_q3175 := congrArg Int32.toInt h_v6_q3175
            unfold fX2_houseByMiddle_J118
            refine wq_eq (fun hc_3179 => ?_) (fun hc_3180 => ?_)
            · exfalso; omega
            · have l_180 := il_180
              have t_3181 := ia_add v6_q3175 (180 : Int32) (by omega) (by omega)
              have t_3182 := ia_rem2 (v6_q3175 + (180 : Int32)) (360 : Int32) 360 il_360 (by decide)
              exact wq_s ⟨(show -359 ≤ ((v6_q3175 + (180 : Int32)) - (((v6_q3175 + (180 : Int32)) / (360 : Int32)) * (360 : Int32))).toInt ∧ ((v6_q3175 + (180 : Int32)) - (((v6_q3175 + (180 : Int32)) / (360 : Int32)) * (360 : Int32))).toInt ≤ 359 from ⟨by omega, by omega⟩), trivial⟩
set_option maxHeartbeats 4000000 in
theorem tt_fX2_houseDegree {N : Nat} (hN : 3000000000 ≤ N) (I0 : Nat → Int32) (M0 : Nat → Nat → Int32) (x1 : Int32) (x2 : Int32) (x3 : Int32) (x4 : Int32) (h_x1 : -1 ≤ x1.toInt ∧ x1.toInt ≤ 359) (h_x4 : 1 ≤ x4.toInt ∧ x4.toInt ≤ 12) (k_I0 : KX2 I0 M0) (hr_3 : (0 ≤ x2.toInt ∧ x2.toInt ≤ 1) ∨ (0 ≤ x3.toInt ∧ x3.toInt ≤ 6)) : wq (fX2_houseDegree N I0 M0 x1 x2 x3 x4) (fun r => True) := by
  unfold fX2_houseDegree
  have b_3249 := i32b x2
  have l_0 := il_0
  refine wq_eq (fun hc_3250 => ?_) (fun hc_3251 => ?_)
  · exact wq_s trivial
  · have l_1 := il_1
    refine wq_eq (fun hc_3252 => ?_) (fun hc_3253 => ?_)
    · have t_3254 := ia_sub x4 (1 : Int32) (by omega) (by omega)
      have l_30 := il_30
      have t_3255 := ia_mul (30 : Int32) (30) il_30 (x4 - (1 : Int32)) (by omega) (by omega)
      have t_3256 := ia_add x1 ((30 : Int32) * (x4 - (1 : Int32))) (by omega) (by omega)
      have l_360 := il_360
      have t_3257 := ia_rem2 (x1 + ((30 : Int32) * (x4 - (1 : Int32)))) (360 : Int32) 360 il_360 (by decide)
      exact wq_s trivial
    · have b_3258 := i32b x3
      refine wq_b (tt_fX2_houseByMiddle hN I0 M0 x1 x3 x4 ⟨by omega, by omega⟩ ⟨by omega, by omega⟩ ⟨by omega, by omega⟩ k_I0) (fun r1_q3259 h_r1_q3259 => ?_)
      obtain ⟨h_r1_q3259_0, -⟩ := h_r1_q3259
      exact wq_s trivial
set_option maxHeartbeats 4000000 in
theorem tt_fX1_howManyDiffer_L15 {N : Nat} (hN : 3000000000 ≤ N) (I0 : Nat → Int32) (M0 : Nat → Nat → Int32) (I1 : Nat → Int32) (M1 : Nat → Nat → Int32) (x2 : Int32) (x3 : Int32) (x4 : Int32) (r1 : Int32) (h_x2 : 0 ≤ x2.toInt ∧ x2.toInt ≤ 119) (h_r1 : -1 ≤ r1.toInt ∧ r1.toInt ≤ 359) (k_I0 : KX1 I0 M0) (k_I1 : KX2 I1 M1) (hr_4 : (0 ≤ x3.toInt ∧ x3.toInt ≤ 1) ∨ (0 ≤ x4.toInt ∧ x4.toInt ≤ 6))  : ∀ (fu : Nat) (y15_6 : Int32) (y15_7 : Int32), (1 ≤ y15_7.toInt ∧ y15_7.toInt ≤ 13) → (13 - y15_7.toInt) < (fu : Int) → wq (fX1_howManyDiffer_L15 N I0 M0 I1 M1 x2 x3 x4 r1 fu y15_6 y15_7) (fun r => True) := by
  intro fu
  induction fu with
  | zero => intro y15_6 y15_7 h_y15_7 hm; exfalso; omega
  | succ fu ih =>
    intro y15_6 y15_7 h_y15_7 hm
    rw [fX1_howManyDiffer_L15.eq_2]
    have l_12 := il_12
    refine wq_lt (fun hc_3794 => ?_) (fun hc_3795 => ?_)
    · have b_3796 := i32b y15_6
      exact wq_s trivial
    · have l_8 := il_8
      have t_3797 := ia_add (8 : Int32) y15_7 (by omega) (by omega)
      refine wq_b (tt_fX1_degreeOf hN I0 M0 x2 ((8 : Int32) + y15_7) ⟨by omega, by omega⟩ ⟨by omega, by omega⟩ k_I0) (fun r2_q3798 h_r2_q3798 => ?_)
      obtain ⟨h_r2_q3798_0, h_r2_q3798_1, -⟩ := h_r2_q3798
      have l_m1 := il_m1
      refine wq_eq (fun hc_3799 => ?_) (fun hc_3800 => ?_)
      · have l_1 := il_1
        have t_3802 := ia_add y15_7 (1 : Int32) (by omega) (by omega)
        refine wq_v (fun v3_q3801 h_v3_q3801 => ?_)
        have t_v3_q3801 := congrArg Int32.toInt h_v3_q3801
        have b_3803 := i32b y15_6
        exact ih y15_6 v3_q3801 ⟨by omega, by omega⟩ (by omega)
      · have b_3804 := i32b x3
        have b_3805 := i32b x4
        refine wq_b (tt_fX2_houseDegree hN I1 M1 r1 x3 x4 y15_7 ⟨by omega, by omega⟩ ⟨by omega, by omega⟩ k_I1 (by omega)) (fun r4_q3806 h_r4_q3806 => ?_)
        obtain ⟨-⟩ := h_r4_q3806
        have b_3807 := i32b r4_q3806
        refine wq_eq (fun hc_3808 => ?_) (fun hc_3809 => ?_)
        · have l_1 := il_1
          have t_3811 := ia_add y15_7 (1 : Int32) (by omega) (by omega)
          refine wq_v (fun v5_q3810 h_v5_q3810 => ?_)
          have t_v5_q3810 := congrArg Int32.toInt h_v5_q3810
          have b_3812 := i32b y15_6
          exact ih y15_6 v5_q3810 ⟨by omega, by omega⟩ (by omega)
        · have b_3814 := i32b y15_6
          have l_1 := il_1
          refine wq_v (fun v6_q3813 h_v6_q3813 => ?_)
          have t_v6_q3813 := congrArg Int32.toInt h_v6_q3813
          have t_3816 := ia_add y15_7 (1 : Int32) (by omega) (by omega)
          refine wq_v (fun v7_q3815 h_v7_q3815 => ?_)
          have t_v7_q3815 := congrArg Int32.toInt h_v7_q3815
          have b_3817 := i32b v6_q3813
          exact ih v6_q3813 v7_q3815 ⟨by omega, by omega⟩ (by omega)
set_option maxHeartbeats 4000000 in
theorem tt_fX1_howManyDiffer {N : Nat} (hN : 3000000000 ≤ N) (I0 : Nat → Int32) (M0 : Nat → Nat → Int32) (I1 : Nat → Int32) (M1 : Nat → Nat → Int32) (x2 : Int32) (x3 : Int32) (x4 : Int32) (h_x2 : 0 ≤ x2.toInt ∧ x2.toInt ≤ 119) (k_I0 : KX1 I0 M0) (k_I1 : KX2 I1 M1) (hr_3 : (0 ≤ x3.toInt ∧ x3.toInt ≤ 1) ∨ (0 ≤ x4.toInt ∧ x4.toInt ≤ 6)) : wq (fX1_howManyDiffer N I0 M0 I1 M1 x2 x3 x4) (fun r => True) := by
  unfold fX1_howManyDiffer
  have l_7 := il_7
  refine wq_b (tt_fX1_degreeOf hN I0 M0 x2 (7 : Int32) ⟨by omega, by omega⟩ ⟨by omega, by omega⟩ k_I0) (fun r1_q3818 h_r1_q3818 => ?_)
  obtain ⟨h_r1_q3818_0, h_r1_q3818_1, -⟩ := h_r1_q3818
  have b_3819 := i32b x3
  have b_3820 := i32b x4
  have l_0 := il_0
  have l_1 := il_1
  exact tt_fX1_howManyDiffer_L15 hN I0 M0 I1 M1 x2 x3 x4 r1_q3818 ⟨by omega, by omega⟩ ⟨by omega, by omega⟩ k_I0 k_I1 (by omega) N (0 : Int32) (1 : Int32) ⟨by omega, by omega⟩ (by omega)
set_option maxHeartbeats 4000000 in
theorem tt_fX1_lotOf {N : Nat} (hN : 3000000000 ≤ N) (I0 : Nat → Int32) (M0 : Nat → Nat → Int32) (x1 : Int32) (h_x1 : 0 ≤ x1.toInt ∧ x1.toInt ≤ 119) (k_I0 : KX1 I0 M0) : wq (fX1_lotOf N I0 M0 x1) (fun r => True) := by
  unfold fX1_lotOf
  have l_0 := il_0
  refine wq_b (tt_fX1_degreeOf hN I0 M0 x1 (0 : Int32) ⟨by omega, by omega⟩ ⟨by omega, by omega⟩ k_I0) (fun r3_q3977 h_r3_q3977 => ?_)
  obtain ⟨h_r3_q3977_0, h_r3_q3977_1, -⟩ := h_r3_q3977
  have l_1 := il_1
  refine wq_b (tt_fX1_degreeOf hN I0 M0 x1 (1 : Int32) ⟨by omega, by omega⟩ ⟨by omega, by omega⟩ k_I0) (fun r4_q3978 h_r4_q3978 => ?_)
  obtain ⟨h_r4_q3978_0, h_r4_q3978_1, -⟩ := h_r4_q3978
  have l_7 := il_7
  refine wq_b (tt_fX1_degreeOf hN I0 M0 x1 (7 : Int32) ⟨by omega, by omega⟩ ⟨by omega, by omega⟩ k_I0) (fun r5_q3979 h_r5_q3979 => ?_)
  obtain ⟨h_r5_q3979_0, h_r5_q3979_1, -⟩ := h_r5_q3979
  have l_m1 := il_m1
  refine wq_eq (fun hc_3980 => ?_) (fun hc_3981 => ?_)
  · exact wq_s trivial
  · refine wq_eq (fun hc_3982 => ?_) (fun hc_3983 => ?_)
    · exact wq_s trivial
    · refine wq_eq (fun hc_3984 => ?_) (fun hc_3985 => ?_)
      · exact wq_s trivial
      · have t_3986 := ia_sub r5_q3979 r3_q3977 (by omega) (by omega)
        have l_360 := il_360
        refine wq_b (tt_fJ9_floorMod_7cf53 hN (r5_q3979 - r3_q3977) (360 : Int32) ⟨by omega, by omega⟩) (fun r6_q3987 h_r6_q3987 => ?_)
        obtain ⟨-⟩ := h_r6_q3987
        have l_180 := il_180
        have b_3988 := i32b r6_q3987
        refine wq_le (fun hc_3989 => ?_) (fun hc_3990 => ?_)
        · unfold fX1_lotOf_J62
          refine wq_eq (fun hc_3991 => ?_) (fun hc_3992 => ?_)
          · have t_3993 := ia_add r5_q3979 r3_q3977 (by omega) (by omega)
            have t_3994 := ia_sub (r5_q3979 + r3_q3977) r4_q3978 (by omega) (by omega)
            refine wq_b (tt_fJ9_floorMod_7cf53 hN ((r5_q3979 + r3_q3977) - r4_q3978) (360 : Int32) ⟨by omega, by omega⟩) (fun r1_q3995 h_r1_q3995 => ?_)
            obtain ⟨-⟩ := h_r1_q3995
            have b_3996 := i32b r1_q3995
            exact wq_s trivial
          · exfalso; omega
        · unfold fX1_lotOf_J62
          refine wq_eq (fun hc_3997 => ?_) (fun hc_3998 => ?_)
          · exfalso; omega
          · have t_3999 := ia_add r5_q3979 r4_q3978 (by omega) (by omega)
            have t_4000 := ia_sub (r5_q3979 + r4_q3978) r3_q3977 (by omega) (by omega)
            refine wq_b (tt_fJ9_floorMod_7cf53 hN ((r5_q3979 + r4_q3978) - r3_q3977) (360 : Int32) ⟨by omega, by omega⟩) (fun r2_q4001 h_r2_q4001 => ?_)
            obtain ⟨-⟩ := h_r2_q4001
            have b_4002 := i32b r2_q4001
            exact wq_s trivial
set_option maxHeartbeats 4000000 in
theorem tt_fX1_howManyHanded_L6 {N : Nat} (hN : 3000000000 ≤ N) (I0 : Nat → Int32) (M0 : Nat → Nat → Int32) (x1 : Int32) (x2 : Int32) (x3 : Int32) (h_x1 : 0 ≤ x1.toInt ∧ x1.toInt ≤ 5) (h_x2 : 0 ≤ x2.toInt ∧ x2.toInt ≤ 5) (h_x3 : 0 ≤ x3.toInt ∧ x3.toInt ≤ 5) (k_I0 : KX1 I0 M0)  : ∀ (fu : Nat) (y6_4 : Int32) (y6_5 : Int32), (0 ≤ y6_5.toInt ∧ y6_5.toInt ≤ 440) → (440 - y6_5.toInt) < (fu : Int) → wq (fX1_howManyHanded_L6 N I0 M0 x1 x2 x3 fu y6_4 y6_5) (fun r => True) := by
  intro fu
  induction fu with
  | zero => intro y6_4 y6_5 h_y6_5 hm; exfalso; omega
  | succ fu ih =>
    intro y6_4 y6_5 h_y6_5 hm
    rw [fX1_howManyHanded_L6.eq_2]
    have l_440 := il_440
    refine wq_le (fun hc_4589 => ?_) (fun hc_4590 => ?_)
    · have b_4591 := i32b y6_4
      exact wq_s trivial
    · have t_4592 := ia_mul (440 : Int32) (440) il_440 x1 (by omega) (by omega)
      have t_4593 := ia_add ((440 : Int32) * x1) y6_5 (by omega) (by omega)
      refine wq_in (n := 2640) ⟨by omega, by omega⟩ ?_
      have t_4595 := KX1.m0 k_I0 ((((440 : Int32) * x1) + y6_5)).toNatClampNeg
      refine wq_v (fun v1_q4594 h_v1_q4594 => ?_)
      have t_v1_q4594 := congrArg Int32.toInt h_v1_q4594
      have t_4596 := ia_mul (440 : Int32) (440) il_440 x2 (by omega) (by omega)
      have t_4597 := ia_add ((440 : Int32) * x2) y6_5 (by omega) (by omega)
      refine wq_in (n := 2640) ⟨by omega, by omega⟩ ?_
      have t_4599 := KX1.m0 k_I0 ((((440 : Int32) * x2) + y6_5)).toNatClampNeg
      refine wq_v (fun v2_q4598 h_v2_q4598 => ?_)
      have t_v2_q4598 := congrArg Int32.toInt h_v2_q4598
      have t_4600 := ia_mul (440 : Int32) (440) il_440 x3 (by omega) (by omega)
      have t_4601 := ia_add ((440 : Int32) * x3) y6_5 (by omega) (by omega)
      refine wq_in (n := 2640) ⟨by omega, by omega⟩ ?_
      have t_4603 := KX1.m0 k_I0 ((((440 : Int32) * x3) + y6_5)).toNatClampNeg
      refine wq_v (fun v3_q4602 h_v3_q4602 => ?_)
      have t_v3_q4602 := congrArg Int32.toInt h_v3_q4602
      have l_m1 := il_m1
      refine wq_eq (fun hc_4604 => ?_) (fun hc_4605 => ?_)
      · have l_1 := il_1
        have t_4607 := ia_add y6_5 (1 : Int32) (by omega) (by omega)
        refine wq_v (fun v4_q4606 h_v4_q4606 => ?_)
        have t_v4_q4606 := congrArg Int32.toInt h_v4_q4606
        have b_4608 := i32b y6_4
        exact ih y6_4 v4_q4606 ⟨by omega, by omega⟩ (by omega)
      · refine wq_eq (fun hc_4609 => ?_) (fun hc_4610 => ?_)
        · refine wq_eq (fun hc_4611 => ?_) (fun hc_4612 => ?_)
          · have l_1 := il_1
            have t_4614 := ia_add y6_5 (1 : Int32) (by omega) (by omega)
            refine wq_v (fun v6_q4613 h_v6_q4613 => ?_)
            have t_v6_q4613 := congrArg Int32.toInt h_v6_q4613
            have b_4615 := i32b y6_4
            exact ih y6_4 v6_q4613 ⟨by omega, by omega⟩ (by omega)
          · refine wq_eq (fun hc_4616 => ?_) (fun hc_4617 => ?_)
            · have l_1 := il_1
              have t_4619 := ia_add y6_5 (1 : Int32) (by omega) (by omega)
              refine wq_v (fun v7_q4618 h_v7_q4618 => ?_)
              have t_v7_q4618 := congrArg Int32.toInt h_v7_q4618
              have b_4620 := i32b y6_4
              exact ih y6_4 v7_q4618 ⟨by omega, by omega⟩ (by omega)
            · have b_4622 := i32b y6_4
              have l_1 := il_1
              refine wq_v (fun v8_q4621 h_v8_q4621 => ?_)
              have t_v8_q4621 := congrArg Int32.toInt h_v8_q4621
              have t_4624 := ia_add y6_5 (1 : Int32) (by omega) (by omega)
              refine wq_v (fun v9_q4623 h_v9_q4623 => ?_)
              have t_v9_q4623 := congrArg Int32.toInt h_v9_q4623
              have b_4625 := i32b v8_q4621
              exact ih v8_q4621 v9_q4623 ⟨by omega, by omega⟩ (by omega)
        · have l_1 := il_1
          have t_4627 := ia_add y6_5 (1 : Int32) (by omega) (by omega)
          refine wq_v (fun v5_q4626 h_v5_q4626 => ?_)
          have t_v5_q4626 := congrArg Int32.toInt h_v5_q4626
          have b_4628 := i32b y6_4
          exact ih y6_4 v5_q4626 ⟨by omega, by omega⟩ (by omega)
set_option maxHeartbeats 4000000 in
theorem tt_fX1_howManyHanded {N : Nat} (hN : 3000000000 ≤ N) (I0 : Nat → Int32) (M0 : Nat → Nat → Int32) (x1 : Int32) (x2 : Int32) (x3 : Int32) (h_x1 : 0 ≤ x1.toInt ∧ x1.toInt ≤ 5) (h_x2 : 0 ≤ x2.toInt ∧ x2.toInt ≤ 5) (h_x3 : 0 ≤ x3.toInt ∧ x3.toInt ≤ 5) (k_I0 : KX1 I0 M0) : wq (fX1_howManyHanded N I0 M0 x1 x2 x3) (fun r => True) := by
  unfold fX1_howManyHanded
  have l_0 := il_0
  exact tt_fX1_howManyHanded_L6 hN I0 M0 x1 x2 x3 ⟨by omega, by omega⟩ ⟨by omega, by omega⟩ ⟨by omega, by omega⟩ k_I0 N (0 : Int32) (0 : Int32) ⟨by omega, by omega⟩ (by omega)
set_option maxHeartbeats 4000000 in
theorem tt_fX2_copyFrom {N : Nat} (hN : 3000000000 ≤ N) (I0 : Nat → Int32) (M0 : Nat → Nat → Int32) (I1 : Nat → Int32) (M1 : Nat → Nat → Int32) (k_I0 : KX2 I0 M0) (k_I1 : KX2 I1 M1) : wq (fX2_copyFrom N I0 M0 I1 M1) (fun r => KX2 r.1 r.2 ∧ True) := by
  unfold fX2_copyFrom
  refine wq_n (by decide) ?_
  refine wq_v (fun M0_1_q4644 h_M0_1_q4644 => ?_)
  have k_M0_1_q4644 : KX2 I0 M0_1_q4644 := by rw [h_M0_1_q4644]; exact KX2.sf0 k_I0
  refine wq_v (fun I0_2_q4645 h_I0_2_q4645 => ?_)
  have t_4646 := KX2.i0 k_I1
  have k_I0_2_q4645 : KX2 I0_2_q4645 M0_1_q4644 := by rw [h_I0_2_q4645]; exact KX2.si0 k_M0_1_q4644 ⟨by omega, by omega⟩
  exact wq_s ⟨k_I0_2_q4645, trivial⟩
set_option maxHeartbeats 4000000 in
theorem tt_fX2_risingAt {N : Nat} (hN : 3000000000 ≤ N) (I0 : Nat → Int32) (M0 : Nat → Nat → Int32) (x1 : Int32) (x2 : Int32) (x3 : Int32) (h_x1 : 0 ≤ x1.toInt ∧ x1.toInt ≤ 6) (h_x2 : 0 ≤ x2.toInt ∧ x2.toInt ≤ 21599) (h_x3 : 0 ≤ x3.toInt ∧ x3.toInt ≤ 359) (k_I0 : KX2 I0 M0) : wq (fX2_risingAt N I0 M0 x1 x2 x3) (fun r => True) := by
  unfold fX2_risingAt
  refine wq_b (tt_fX2_climbOf hN I0 M0 x1 x2 ⟨by omega, by omega⟩ ⟨by omega, by omega⟩ k_I0) (fun r1_q4683 h_r1_q4683 => ?_)
  obtain ⟨-⟩ := h_r1_q4683
  have b_4684 := i32b r1_q4683
  have l_18000 := il_18000
  have t_4685 := ia_mul (18000 : Int32) (18000) il_18000 x3 (by omega) (by omega)
  have l_6480000 := il_6480000
  have t_4686 := ia_rem2 (r1_q4683 + ((18000 : Int32) * x3)) (6480000 : Int32) 6480000 il_6480000 (by decide)
  refine wq_b (tt_fX2_placeOf hN I0 M0 x1 ((r1_q4683 + ((18000 : Int32) * x3)) - (((r1_q4683 + ((18000 : Int32) * x3)) / (6480000 : Int32)) * (6480000 : Int32))) ⟨by omega, by omega⟩ k_I0) (fun r2_q4687 h_r2_q4687 => ?_)
  obtain ⟨-⟩ := h_r2_q4687
  have b_4688 := i32b r2_q4687
  exact wq_s trivial
set_option maxHeartbeats 4000000 in
theorem tt_fX2_isHour {N : Nat} (hN : 3000000000 ≤ N) (I0 : Nat → Int32) (M0 : Nat → Nat → Int32) (x1 : Int32) (x2 : Int32) (x3 : Int32) (x4 : Int32) (h_x1 : 0 ≤ x1.toInt ∧ x1.toInt ≤ 6) (h_x2 : 0 ≤ x2.toInt ∧ x2.toInt ≤ 359) (h_x3 : 0 ≤ x3.toInt ∧ x3.toInt ≤ 359) (k_I0 : KX2 I0 M0) : wq (fX2_isHour N I0 M0 x1 x2 x3 x4) (fun r => (0 ≤ r.toInt ∧ r.toInt ≤ 1) ∧ True) := by
  unfold fX2_isHour
  have l_60 := il_60
  have t_4737 := ia_mul (60 : Int32) (60) il_60 x3 (by omega) (by omega)
  refine wq_b (tt_fX2_risingAt hN I0 M0 x1 ((60 : Int32) * x3) x2 ⟨by omega, by omega⟩ ⟨by omega, by omega⟩ ⟨by omega, by omega⟩ k_I0) (fun r1_q4738 h_r1_q4738 => ?_)
  obtain ⟨-⟩ := h_r1_q4738
  have b_4739 := i32b r1_q4738
  have t_4740 := i32b r1_q4738
  have t_4741 := ia_div2 r1_q4738 (60 : Int32) 60 il_60 (by decide)
  have b_4742 := i32b x4
  refine wq_eq (fun hc_4743 => ?_) (fun hc_4744 => ?_)
  · have l_1 := il_1
    exact wq_s ⟨(show 0 ≤ (1 : Int32).toInt ∧ (1 : Int32).toInt ≤ 1 from ⟨by omega, by omega⟩), trivial⟩
  · have l_0 := il_0
    exact wq_s ⟨(show 0 ≤ (0 : Int32).toInt ∧ (0 : Int32).toInt ≤ 1 from ⟨by omega, by omega⟩), trivial⟩
set_option maxHeartbeats 4000000 in
theorem tt_fX2_hasHour_L3 {N : Nat} (hN : 3000000000 ≤ N) (I0 : Nat → Int32) (M0 : Nat → Nat → Int32) (x1 : Int32) (x2 : Int32) (x3 : Int32) (h_x1 : 0 ≤ x1.toInt ∧ x1.toInt ≤ 6) (h_x2 : 0 ≤ x2.toInt ∧ x2.toInt ≤ 359) (k_I0 : KX2 I0 M0)  : ∀ (fu : Nat) (y3_4 : Int32), (0 ≤ y3_4.toInt ∧ y3_4.toInt ≤ 360) → (360 - y3_4.toInt) < (fu : Int) → wq (fX2_hasHour_L3 N I0 M0 x1 x2 x3 fu y3_4) (fun r => (0 ≤ r.toInt ∧ r.toInt ≤ 1) ∧ True) := by
  intro fu
  induction fu with
  | zero => intro y3_4 h_y3_4 hm; exfalso; omega
  | succ fu ih =>
    intro y3_4 h_y3_4 hm
    rw [fX2_hasHour_L3.eq_2]
    have l_360 := il_360
    refine wq_le (fun hc_4862 => ?_) (fun hc_4863 => ?_)
    · have l_0 := il_0
      exact wq_s ⟨(show 0 ≤ (0 : Int32).toInt ∧ (0 : Int32).toInt ≤ 1 from ⟨by omega, by omega⟩), trivial⟩
    · have b_4864 := i32b x3
      refine wq_b (tt_fX2_isHour hN I0 M0 x1 y3_4 x2 x3 ⟨by omega, by omega⟩ ⟨by omega, by omega⟩ ⟨by omega, by omega⟩ k_I0) (fun r1_q4865 h_r1_q4865 => ?_)
      obtain ⟨h_r1_q4865_0, -⟩ := h_r1_q4865
      have l_0 := il_0
      refine wq_eq (fun hc_4866 => ?_) (fun hc_4867 => ?_)
      · have l_1 := il_1
        have t_4869 := ia_add y3_4 (1 : Int32) (by omega) (by omega)
        refine wq_v (fun v2_q4868 h_v2_q4868 => ?_)
        have t_v2_q4868 := congrArg Int32.toInt h_v2_q4868
        exact ih v2_q4868 ⟨by omega, by omega⟩ (by omega)
      · have l_1 := il_1
        exact wq_s ⟨(show 0 ≤ (1 : Int32).toInt ∧ (1 : Int32).toInt ≤ 1 from ⟨by omega, by omega⟩), trivial⟩
set_option maxHeartbeats 4000000 in
theorem tt_fX2_hasHour {N : Nat} (hN : 3000000000 ≤ N) (I0 : Nat → Int32) (M0 : Nat → Nat → Int32) (x1 : Int32) (x2 : Int32) (x3 : Int32) (h_x1 : 0 ≤ x1.toInt ∧ x1.toInt ≤ 6) (h_x2 : 0 ≤ x2.toInt ∧ x2.toInt ≤ 359) (k_I0 : KX2 I0 M0) : wq (fX2_hasHour N I0 M0 x1 x2 x3) (fun r => (0 ≤ r.toInt ∧ r.toInt ≤ 1) ∧ True) := by
  unfold fX2_hasHour
  have b_4870 := i32b x3
  have l_0 := il_0
  exact tt_fX2_hasHour_L3 hN I0 M0 x1 x2 x3 ⟨by omega, by omega⟩ ⟨by omega, by omega⟩ k_I0 N (0 : Int32) ⟨by omega, by omega⟩ (by omega)
set_option maxHeartbeats 4000000 in
theorem tt_fX2_howManyHours_L5 {N : Nat} (hN : 3000000000 ≤ N) (I0 : Nat → Int32) (M0 : Nat → Nat → Int32) (x1 : Int32) (x2 : Int32) (h_x1 : 0 ≤ x1.toInt ∧ x1.toInt ≤ 359) (k_I0 : KX2 I0 M0)  : ∀ (fu : Nat) (y5_3 : Int32) (y5_4 : Int32), (0 ≤ y5_4.toInt ∧ y5_4.toInt ≤ 2520) → (2520 - y5_4.toInt) < (fu : Int) → wq (fX2_howManyHours_L5 N I0 M0 x1 x2 fu y5_3 y5_4) (fun r => True) := by
  intro fu
  induction fu with
  | zero => intro y5_3 y5_4 h_y5_4 hm; exfalso; omega
  | succ fu ih =>
    intro y5_3 y5_4 h_y5_4 hm
    rw [fX2_howManyHours_L5.eq_2]
    have t_5134 := KX2.i0 k_I0
    have l_360 := il_360
    have t_5135 := ia_mul (360 : Int32) (360) il_360 (I0 0) (by omega) (by omega)
    refine wq_le (fun hc_5136 => ?_) (fun hc_5137 => ?_)
    · have b_5138 := i32b y5_3
      exact wq_s trivial
    · have t_5139 := ia_div y5_4 (360 : Int32) 360 il_360 (by decide) (by omega)
      have t_5140 := ia_rem y5_4 (360 : Int32) 360 il_360 (by decide) (by omega)
      have b_5141 := i32b x2
      refine wq_b (tt_fX2_isHour hN I0 M0 (y5_4 / (360 : Int32)) (y5_4 - ((y5_4 / (360 : Int32)) * (360 : Int32))) x1 x2 ⟨by omega, by omega⟩ ⟨by omega, by omega⟩ ⟨by omega, by omega⟩ k_I0) (fun r1_q5142 h_r1_q5142 => ?_)
      obtain ⟨h_r1_q5142_0, -⟩ := h_r1_q5142
      have l_0 := il_0
      refine wq_eq (fun hc_5143 => ?_) (fun hc_5144 => ?_)
      · have l_1 := il_1
        have t_5146 := ia_add y5_4 (1 : Int32) (by omega) (by omega)
        refine wq_v (fun v2_q5145 h_v2_q5145 => ?_)
        have t_v2_q5145 := congrArg Int32.toInt h_v2_q5145
        have b_5147 := i32b y5_3
        exact ih y5_3 v2_q5145 ⟨by omega, by omega⟩ (by omega)
      · have b_5149 := i32b y5_3
        have l_1 := il_1
        refine wq_v (fun v3_q5148 h_v3_q5148 => ?_)
        have t_v3_q5148 := congrArg Int32.toInt h_v3_q5148
        have t_5151 := ia_add y5_4 (1 : Int32) (by omega) (by omega)
        refine wq_v (fun v4_q5150 h_v4_q5150 => ?_)
        have t_v4_q5150 := congrArg Int32.toInt h_v4_q5150
        have b_5152 := i32b v3_q5148
        exact ih v3_q5148 v4_q5150 ⟨by omega, by omega⟩ (by omega)
set_option maxHeartbeats 4000000 in
theorem tt_fX2_howManyHours {N : Nat} (hN : 3000000000 ≤ N) (I0 : Nat → Int32) (M0 : Nat → Nat → Int32) (x1 : Int32) (x2 : Int32) (h_x1 : 0 ≤ x1.toInt ∧ x1.toInt ≤ 359) (k_I0 : KX2 I0 M0) : wq (fX2_howManyHours N I0 M0 x1 x2) (fun r => True) := by
  unfold fX2_howManyHours
  have b_5153 := i32b x2
  have l_0 := il_0
  exact tt_fX2_howManyHours_L5 hN I0 M0 x1 x2 ⟨by omega, by omega⟩ k_I0 N (0 : Int32) (0 : Int32) ⟨by omega, by omega⟩ (by omega)
set_option maxHeartbeats 4000000 in
theorem tt_fX2_nthHour_L6 {N : Nat} (hN : 3000000000 ≤ N) (I0 : Nat → Int32) (M0 : Nat → Nat → Int32) (x1 : Int32) (x2 : Int32) (x3 : Int32) (h_x1 : 0 ≤ x1.toInt ∧ x1.toInt ≤ 359) (k_I0 : KX2 I0 M0)  : ∀ (fu : Nat) (y6_4 : Int32) (y6_5 : Int32), (0 ≤ y6_5.toInt ∧ y6_5.toInt ≤ 2520) → (2520 - y6_5.toInt) < (fu : Int) → wq (fX2_nthHour_L6 N I0 M0 x1 x2 x3 fu y6_4 y6_5) (fun r => (-1 ≤ r.toInt ∧ r.toInt ≤ 2519) ∧ True) := by
  intro fu
  induction fu with
  | zero => intro y6_4 y6_5 h_y6_5 hm; exfalso; omega
  | succ fu ih =>
    intro y6_4 y6_5 h_y6_5 hm
    rw [fX2_nthHour_L6.eq_2]
    have t_5456 := KX2.i0 k_I0
    have l_360 := il_360
    have t_5457 := ia_mul (360 : Int32) (360) il_360 (I0 0) (by omega) (by omega)
    refine wq_le (fun hc_5458 => ?_) (fun hc_5459 => ?_)
    · have l_m1 := il_m1
      exact wq_s ⟨(show -1 ≤ (-1 : Int32).toInt ∧ (-1 : Int32).toInt ≤ 2519 from ⟨by omega, by omega⟩), trivial⟩
    · have b_5460 := i32b y6_4
      have l_0 := il_0
      refine wq_lt (fun hc_5461 => ?_) (fun hc_5462 => ?_)
      · have l_m1 := il_m1
        exact wq_s ⟨(show -1 ≤ (-1 : Int32).toInt ∧ (-1 : Int32).toInt ≤ 2519 from ⟨by omega, by omega⟩), trivial⟩
      · have t_5463 := ia_div y6_5 (360 : Int32) 360 il_360 (by decide) (by omega)
        have t_5464 := ia_rem y6_5 (360 : Int32) 360 il_360 (by decide) (by omega)
        have b_5465 := i32b x2
        refine wq_b (tt_fX2_isHour hN I0 M0 (y6_5 / (360 : Int32)) (y6_5 - ((y6_5 / (360 : Int32)) * (360 : Int32))) x1 x2 ⟨by omega, by omega⟩ ⟨by omega, by omega⟩ ⟨by omega, by omega⟩ k_I0) (fun r1_q5466 h_r1_q5466 => ?_)
        obtain ⟨h_r1_q5466_0, -⟩ := h_r1_q5466
        refine wq_eq (fun hc_5467 => ?_) (fun hc_5468 => ?_)
        · have l_1 := il_1
          have t_5470 := ia_add y6_5 (1 : Int32) (by omega) (by omega)
          refine wq_v (fun v2_q5469 h_v2_q5469 => ?_)
          have t_v2_q5469 := congrArg Int32.toInt h_v2_q5469
          exact ih y6_4 v2_q5469 ⟨by omega, by omega⟩ (by omega)
        · refine wq_eq (fun hc_5471 => ?_) (fun hc_5472 => ?_)
          · exact wq_s ⟨(show -1 ≤ y6_5.toInt ∧ y6_5.toInt ≤ 2519 from ⟨by omega, by omega⟩), trivial⟩
          · have l_m1 := il_m1
            have t_5474 := ia_add y6_4 ((-1) : Int32) (by omega) (by omega)
            refine wq_v (fun v3_q5473 h_v3_q5473 => ?_)
            have t_v3_q5473 := congrArg Int32.toInt h_v3_q5473
            have l_1 := il_1
            have t_5476 := ia_add y6_5 (1 : Int32) (by omega) (by omega)
            refine wq_v (fun v4_q5475 h_v4_q5475 => ?_)
            have t_v4_q5475 := congrArg Int32.toInt h_v4_q5475
            exact ih v3_q5473 v4_q5475 ⟨by omega, by omega⟩ (by omega)
set_option maxHeartbeats 4000000 in
theorem tt_fX2_nthHour {N : Nat} (hN : 3000000000 ≤ N) (I0 : Nat → Int32) (M0 : Nat → Nat → Int32) (x1 : Int32) (x2 : Int32) (x3 : Int32) (h_x1 : 0 ≤ x1.toInt ∧ x1.toInt ≤ 359) (k_I0 : KX2 I0 M0) : wq (fX2_nthHour N I0 M0 x1 x2 x3) (fun r => (-1 ≤ r.toInt ∧ r.toInt ≤ 2519) ∧ True) := by
  unfold fX2_nthHour
  have b_5477 := i32b x2
  have b_5478 := i32b x3
  have l_0 := il_0
  exact tt_fX2_nthHour_L6 hN I0 M0 x1 x2 x3 ⟨by omega, by omega⟩ k_I0 N x3 (0 : Int32) ⟨by omega, by omega⟩ (by omega)
theorem tt_fJ9_floorDiv_f86c9 {N : Nat} (hN : 3000000000 ≤ N) (x0 : Int64) (x1 : Int64) (hr_0 : x1 ≠ 0) : wq (fJ9_floorDiv_f86c9 N x0 x1) (fun r => True) := by
  unfold fJ9_floorDiv_f86c9
  refine wq_n hr_0 (wq_v (fun v1 e1 => ?_))
  refine wq_i (fun _ => wq_s trivial) (fun _ => wq_i (fun _ => wq_s trivial) (fun _ => wq_s trivial))
theorem i64nz {v : Int32} (h : v.toInt ≠ 0) : v.toInt64 ≠ 0 := by
  intro q
  apply h
  rw [← Int32.toInt_toInt64 v, q]
  rfl
theorem tt_fX5_swingOn {N : Nat} (hN : 3000000000 ≤ N) (I0 : Nat → Int32) (M0 : Nat → Nat → Int32) (x1 : Int32) (x2 : Int32) (h_x1 : 0 ≤ x1.toInt ∧ x1.toInt ≤ 27) (k_I0 : KX5 I0 M0) : wq (fX5_swingOn N I0 M0 x1 x2) (fun r => True) := by
  unfold fX5_swingOn
  have l_0 := il_0
  have l_1 := il_1
  refine wq_in (n := 28) ⟨by omega, by omega⟩ (wq_v (fun v1 e1 => ?_))
  refine wq_in (n := 28) ⟨by omega, by omega⟩ ?_
  refine wq_i (fun _ => wq_s trivial) (fun _ => ?_)
  refine wq_le (fun hc => ?_) (fun hc => wq_s trivial)
  refine wq_nz (by omega) (wq_v (fun v2 e2 => wq_v (fun v3 e3 => ?_)))
  refine wq_in (n := 28) ⟨by omega, by omega⟩ ?_
  exact wq_b (tt_fJ9_floorDiv_f86c9 hN _ _ (i64nz (by omega))) (fun r4 _ => wq_s trivial)
theorem tt_fJ9_floorMod_f86c9 {N : Nat} (hN : 3000000000 ≤ N) (x0 : Int64) (x1 : Int64) (hr_0 : x1 ≠ 0) : wq (fJ9_floorMod_f86c9 N x0 x1) (fun r => True) := by
  unfold fJ9_floorMod_f86c9
  refine wq_n hr_0 (wq_v (fun v1 e1 => ?_))
  refine wq_i (fun _ => wq_s trivial) (fun _ => wq_i (fun _ => wq_s trivial) (fun _ => wq_s trivial))

set_option maxHeartbeats 4000000 in
theorem tt_fX12_agrees_L6 {N : Nat} (hN : 3000000000 ≤ N) (I0 : Nat → Int32) (L0 : Int64) (M0 : Nat → Nat → Int32) (x1 : Int32) (x2 : Int32) (x3 : Int32) (h_x1 : 0 ≤ x1.toInt ∧ x1.toInt ≤ 119) (k_I0 : KX12 I0 M0) (hr_2 : ((0 ≤ x2.toInt ∧ x2.toInt ≤ 1) ∨ (0 ≤ x3.toInt ∧ x3.toInt < (I0 1).toInt)))  : ∀ (fu : Nat) (y6_4 : Int32) (y6_5 : Int32), (1 ≤ y6_5.toInt ∧ y6_5.toInt ≤ 13) → (13 - y6_5.toInt) < (fu : Int) → wq (fX12_agrees_L6 N I0 L0 M0 x1 x2 x3 fu y6_4 y6_5) (fun r => True) := by
  intro fu
  induction fu with
  | zero => intro y6_4 y6_5 h_y6_5 hm; exfalso; omega
  | succ fu ih =>
    intro y6_4 y6_5 h_y6_5 hm
    rw [fX12_agrees_L6.eq_2]
    have l_12 := il_12
    refine wq_lt (fun hc_42899 => ?_) (fun hc_42900 => ?_)
    · have b_42901 := i32b y6_4
      exact wq_s trivial
    · have l_9 := il_9
      have t_42902 := ia_add (9 : Int32) y6_5 (by omega) (by omega)
      have l_1 := il_1
      have t_42903 := ia_sub ((9 : Int32) + y6_5) (1 : Int32) (by omega) (by omega)
      refine wq_b (tt_fX12_at hN I0 L0 M0 x1 (((9 : Int32) + y6_5) - (1 : Int32)) ⟨by omega, by omega⟩ ⟨by omega, by omega⟩ k_I0) (fun r1_q42904 h_r1_q42904 => ?_)
      obtain ⟨h_r1_q42904_0, h_r1_q42904_1, h_r1_q42904_2, -⟩ := h_r1_q42904
      have l_m1 := il_m1
      refine wq_eq (fun hc_42905 => ?_) (fun hc_42906 => ?_)
      · have t_42908 := ia_add y6_5 (1 : Int32) (by omega) (by omega)
        refine wq_v (fun v2_q42907 h_v2_q42907 => ?_)
        have t_v2_q42907 := congrArg Int32.toInt h_v2_q42907
        have b_42909 := i32b y6_4
        exact ih y6_4 v2_q42907 ⟨by omega, by omega⟩ (by omega)
      · have l_7 := il_7
        refine wq_b (tt_fX12_at hN I0 L0 M0 x1 (7 : Int32) ⟨by omega, by omega⟩ ⟨by omega, by omega⟩ k_I0) (fun r3_q42910 h_r3_q42910 => ?_)
        obtain ⟨h_r3_q42910_0, h_r3_q42910_1, h_r3_q42910_2, -⟩ := h_r3_q42910
        have b_42911 := i32b x2
        have b_42912 := i32b x3
        have t_42913 := KX12.i1 k_I0
        refine wq_b (tt_fX12_houseAt hN I0 L0 M0 r3_q42910 x2 x3 y6_5 ⟨by omega, by omega⟩ ⟨by omega, by omega⟩ k_I0 (by omega)) (fun r4_q42914 h_r4_q42914 => ?_)
        obtain ⟨h_r4_q42914_0, -⟩ := h_r4_q42914
        refine wq_eq (fun hc_42915 => ?_) (fun hc_42916 => ?_)
        · have b_42918 := i32b y6_4
          refine wq_v (fun v6_q42917 h_v6_q42917 => ?_)
          have t_v6_q42917 := congrArg Int32.toInt h_v6_q42917
          have t_42920 := ia_add y6_5 (1 : Int32) (by omega) (by omega)
          refine wq_v (fun v7_q42919 h_v7_q42919 => ?_)
          have t_v7_q42919 := congrArg Int32.toInt h_v7_q42919
          have b_42921 := i32b v6_q42917
          exact ih v6_q42917 v7_q42919 ⟨by omega, by omega⟩ (by omega)
        · have t_42923 := ia_add y6_5 (1 : Int32) (by omega) (by omega)
          refine wq_v (fun v5_q42922 h_v5_q42922 => ?_)
          have t_v5_q42922 := congrArg Int32.toInt h_v5_q42922
          have b_42924 := i32b y6_4
          exact ih y6_4 v5_q42922 ⟨by omega, by omega⟩ (by omega)
set_option maxHeartbeats 4000000 in
theorem tt_fX12_agrees {N : Nat} (hN : 3000000000 ≤ N) (I0 : Nat → Int32) (L0 : Int64) (M0 : Nat → Nat → Int32) (x1 : Int32) (x2 : Int32) (x3 : Int32) (h_x1 : 0 ≤ x1.toInt ∧ x1.toInt ≤ 119) (k_I0 : KX12 I0 M0) (hr_2 : ((0 ≤ x2.toInt ∧ x2.toInt ≤ 1) ∨ (0 ≤ x3.toInt ∧ x3.toInt < (I0 1).toInt))) : wq (fX12_agrees N I0 L0 M0 x1 x2 x3) (fun r => True) := by
  unfold fX12_agrees
  have b_42925 := i32b x2
  have b_42926 := i32b x3
  have l_0 := il_0
  have l_1 := il_1
  have t_42927 := KX12.i1 k_I0
  exact tt_fX12_agrees_L6 hN I0 L0 M0 x1 x2 x3 ⟨by omega, by omega⟩ k_I0 (by omega) N (0 : Int32) (1 : Int32) ⟨by omega, by omega⟩ (by omega)
set_option maxHeartbeats 4000000 in
theorem tt_fX12_housesTold_L4 {N : Nat} (hN : 3000000000 ≤ N) (I0 : Nat → Int32) (L0 : Int64) (M0 : Nat → Nat → Int32) (x1 : Int32) (h_x1 : 0 ≤ x1.toInt ∧ x1.toInt ≤ 119) (k_I0 : KX12 I0 M0)  : ∀ (fu : Nat) (y4_2 : Int32) (y4_3 : Int32), (1 ≤ y4_3.toInt ∧ y4_3.toInt ≤ 13) → (13 - y4_3.toInt) < (fu : Int) → wq (fX12_housesTold_L4 N I0 L0 M0 x1 fu y4_2 y4_3) (fun r => True) := by
  intro fu
  induction fu with
  | zero => intro y4_2 y4_3 h_y4_3 hm; exfalso; omega
  | succ fu ih =>
    intro y4_2 y4_3 h_y4_3 hm
    rw [fX12_housesTold_L4.eq_2]
    have l_12 := il_12
    refine wq_lt (fun hc_43241 => ?_) (fun hc_43242 => ?_)
    · have b_43243 := i32b y4_2
      exact wq_s trivial
    · have l_9 := il_9
      have t_43244 := ia_add (9 : Int32) y4_3 (by omega) (by omega)
      have l_1 := il_1
      have t_43245 := ia_sub ((9 : Int32) + y4_3) (1 : Int32) (by omega) (by omega)
      refine wq_b (tt_fX12_at hN I0 L0 M0 x1 (((9 : Int32) + y4_3) - (1 : Int32)) ⟨by omega, by omega⟩ ⟨by omega, by omega⟩ k_I0) (fun r1_q43246 h_r1_q43246 => ?_)
      obtain ⟨h_r1_q43246_0, h_r1_q43246_1, h_r1_q43246_2, -⟩ := h_r1_q43246
      have l_m1 := il_m1
      refine wq_eq (fun hc_43247 => ?_) (fun hc_43248 => ?_)
      · have b_43250 := i32b y4_2
        have l_0 := il_0
        have t_43251 := ia_add y4_2 (0 : Int32) (by omega) (by omega)
        refine wq_v (fun v2_q43249 h_v2_q43249 => ?_)
        have t_v2_q43249 := congrArg Int32.toInt h_v2_q43249
        have t_43253 := ia_add y4_3 (1 : Int32) (by omega) (by omega)
        refine wq_v (fun v3_q43252 h_v3_q43252 => ?_)
        have t_v3_q43252 := congrArg Int32.toInt h_v3_q43252
        have b_43254 := i32b v2_q43249
        exact ih v2_q43249 v3_q43252 ⟨by omega, by omega⟩ (by omega)
      · have b_43256 := i32b y4_2
        refine wq_v (fun v4_q43255 h_v4_q43255 => ?_)
        have t_v4_q43255 := congrArg Int32.toInt h_v4_q43255
        have t_43258 := ia_add y4_3 (1 : Int32) (by omega) (by omega)
        refine wq_v (fun v5_q43257 h_v5_q43257 => ?_)
        have t_v5_q43257 := congrArg Int32.toInt h_v5_q43257
        have b_43259 := i32b v4_q43255
        exact ih v4_q43255 v5_q43257 ⟨by omega, by omega⟩ (by omega)
set_option maxHeartbeats 4000000 in
theorem tt_fX12_housesTold {N : Nat} (hN : 3000000000 ≤ N) (I0 : Nat → Int32) (L0 : Int64) (M0 : Nat → Nat → Int32) (x1 : Int32) (h_x1 : 0 ≤ x1.toInt ∧ x1.toInt ≤ 119) (k_I0 : KX12 I0 M0) : wq (fX12_housesTold N I0 L0 M0 x1) (fun r => True) := by
  unfold fX12_housesTold
  have l_0 := il_0
  have l_1 := il_1
  exact tt_fX12_housesTold_L4 hN I0 L0 M0 x1 ⟨by omega, by omega⟩ k_I0 N (0 : Int32) (1 : Int32) ⟨by omega, by omega⟩ (by omega)
set_option maxHeartbeats 4000000 in
theorem tt_fX12_agree {N : Nat} (hN : 3000000000 ≤ N) (I0 : Nat → Int32) (L0 : Int64) (M0 : Nat → Nat → Int32) (x1 : Int32) (x2 : Int32) (x3 : Int32) (x4 : Int32) (k_I0 : KX12 I0 M0) : wq (fX12_agree N I0 L0 M0 x1 x2 x3 x4) (fun r => KX12 r.2.1 r.2.2.2 ∧ True) := by
  unfold fX12_agree
  have b_43380 := i32b x1
  have b_43381 := i32b x2
  refine wq_b (tt_fX12_isWheel hN I0 L0 M0 x1 x2 k_I0) (fun r1_q43382 h_r1_q43382 => ?_)
  obtain ⟨h_r1_q43382_0, h_r1_q43382_1, h_r1_q43382_2, h_r1_q43382_3, -⟩ := h_r1_q43382
  have t_43383 := KX12.i1 h_r1_q43382_3
  have t_43384 := KX12.i1 k_I0
  have l_0 := il_0
  refine wq_eq (fun hc_43385 => ?_) (fun hc_43386 => ?_)
  · exact wq_s ⟨h_r1_q43382_3, trivial⟩
  · have b_43387 := i32b x3
    have b_43388 := i32b x4
    refine wq_b (tt_fX12_isWay hN r1_q43382.2.1 r1_q43382.2.2.1 r1_q43382.2.2.2 x3 x4 h_r1_q43382_3) (fun r2_q43389 h_r2_q43389 => ?_)
    obtain ⟨h_r2_q43389_0, h_r2_q43389_1, h_r2_q43389_2, h_r2_q43389_3, -⟩ := h_r2_q43389
    have t_43390 := KX12.i1 h_r2_q43389_3
    refine wq_eq (fun hc_43391 => ?_) (fun hc_43392 => ?_)
    · exact wq_s ⟨h_r2_q43389_3, trivial⟩
    · have l_20 := il_20
      have t_43393 := ia_mul (20 : Int32) (20) il_20 x1 (by omega) (by omega)
      have t_43394 := ia_add ((20 : Int32) * x1) x2 (by omega) (by omega)
      have l_7 := il_7
      refine wq_b (tt_fX12_at hN r2_q43389.2.1 r2_q43389.2.2.1 r2_q43389.2.2.2 (((20 : Int32) * x1) + x2) (7 : Int32) ⟨by omega, by omega⟩ ⟨by omega, by omega⟩ h_r2_q43389_3) (fun r3_q43395 h_r3_q43395 => ?_)
      obtain ⟨h_r3_q43395_0, h_r3_q43395_1, h_r3_q43395_2, -⟩ := h_r3_q43395
      have l_m1 := il_m1
      refine wq_eq (fun hc_43396 => ?_) (fun hc_43397 => ?_)
      · exact wq_s ⟨h_r2_q43389_3, trivial⟩
      · refine wq_b (tt_fX12_agrees hN r2_q43389.2.1 r2_q43389.2.2.1 r2_q43389.2.2.2 (((20 : Int32) * x1) + x2) x3 x4 ⟨by omega, by omega⟩ h_r2_q43389_3 (by omega)) (fun r4_q43398 h_r4_q43398 => ?_)
        obtain ⟨-⟩ := h_r4_q43398
        have b_43399 := i32b r4_q43398
        exact wq_s ⟨h_r2_q43389_3, trivial⟩
set_option maxHeartbeats 4000000 in
theorem tt_fX12_possible_L164 {N : Nat} (hN : 3000000000 ≤ N) (x1 : Int32) (x2 : Int32) (x3 : Int32) (r1 : Int32) (v6 : Int32) (y126_7 : Int32) (y126_8 : Int32) (y71_4 : Int32) (g88 : (Nat → Int32) → Int64 → (Nat → Nat → Int32) → Int32 → Int32 → Option (Int32 × (Nat → Int32) × Int64 × (Nat → Nat → Int32))) (g126 : (Nat → Int32) → Int64 → (Nat → Nat → Int32) → Int32 → Int32 → Int32 → Option (Int32 × (Nat → Int32) × Int64 × (Nat → Nat → Int32))) (h_x1 : 0 ≤ x1.toInt ∧ x1.toInt ≤ 5) (h_x2 : 0 ≤ x2.toInt ∧ x2.toInt ≤ 19) (h_y126_8 : 0 ≤ y126_8.toInt ∧ y126_8.toInt ≤ 6) (h_y71_4 : 0 ≤ y71_4.toInt ∧ y71_4.toInt ≤ 119) (hg126 : ∀ (q0 : (Nat → Int32)) (q1 : Int64) (q2 : (Nat → Nat → Int32)) (q3 : Int32) (q4 : Int32) (q5 : Int32), (0 ≤ q5.toInt ∧ q5.toInt ≤ 7) → (KX12 q0 q2) → (y126_8.toInt < q5.toInt) → wq (g126 q0 q1 q2 q3 q4 q5) (fun r => KX12 r.2.1 r.2.2.2 ∧ True)) : ∀ (fu : Nat) (I0_l164 : (Nat → Int32)) (L0_l164 : Int64) (M0_l164 : (Nat → Nat → Int32)) (y164_9 : Int32) (y164_10 : Int32), (0 ≤ y164_9.toInt ∧ y164_9.toInt ≤ 1) → (0 ≤ y164_10.toInt ∧ y164_10.toInt ≤ 360) → (KX12 I0_l164 M0_l164) → (y126_8.toInt < (I0_l164 1).toInt) → (360 - y164_10.toInt) < (fu : Int) → wq (fX12_possible_L164 N x1 x2 x3 r1 v6 y126_7 y126_8 y71_4 g88 g126 fu I0_l164 L0_l164 M0_l164 y164_9 y164_10) (fun r => KX12 r.2.1 r.2.2.2 ∧ True) := by
  intro fu
  induction fu with
  | zero => intro I0_l164 L0_l164 M0_l164 y164_9 y164_10 h_y164_9 h_y164_10 k_I0_l164 hl_3 hm; exfalso; omega
  | succ fu ih =>
    intro I0_l164 L0_l164 M0_l164 y164_9 y164_10 h_y164_9 h_y164_10 k_I0_l164 hl_3 hm
    rw [fX12_possible_L164.eq_2]
    have l_360 := il_360
    refine wq_le (fun hc_45854 => ?_) (fun hc_45855 => ?_)
    · unfold fX12_possible_J208
      have l_0 := il_0
      refine wq_eq (fun hc_45856 => ?_) (fun hc_45857 => ?_)
      · have l_1 := il_1
        have t_45859 := ia_add y126_8 (1 : Int32) (by omega) (by omega)
        refine wq_v (fun v2_q45858 h_v2_q45858 => ?_)
        have t_v2_q45858 := congrArg Int32.toInt h_v2_q45858
        have b_45860 := i32b v6
        have b_45861 := i32b y126_7
        exact hg126 I0_l164 L0_l164 M0_l164 v6 y126_7 v2_q45858 ⟨by omega, by omega⟩ k_I0_l164 (by omega)
      · have b_45863 := i32b y126_7
        refine wq_v (fun v3_q45862 h_v3_q45862 => ?_)
        have t_v3_q45862 := congrArg Int32.toInt h_v3_q45862
        have l_1 := il_1
        have t_45865 := ia_add y126_8 (1 : Int32) (by omega) (by omega)
        refine wq_v (fun v4_q45864 h_v4_q45864 => ?_)
        have t_v4_q45864 := congrArg Int32.toInt h_v4_q45864
        have b_45866 := i32b v6
        have b_45867 := i32b v3_q45862
        exact hg126 I0_l164 L0_l164 M0_l164 v6 v3_q45862 v4_q45864 ⟨by omega, by omega⟩ k_I0_l164 (by omega)
    · have b_45868 := i32b x3
      have l_1 := il_1
      refine wq_eq (fun hc_45869 => ?_) (fun hc_45870 => ?_)
      · have l_0 := il_0
        refine wq_eq (fun hc_45871 => ?_) (fun hc_45872 => ?_)
        · have t_45873 := KX12.i1 k_I0_l164
          refine wq_b (tt_fX12_isHour hN I0_l164 L0_l164 M0_l164 y71_4 y126_8 y164_10 ⟨by omega, by omega⟩ ⟨by omega, by omega⟩ ⟨by omega, by omega⟩ k_I0_l164 (by omega)) (fun r8_q45874 h_r8_q45874 => ?_)
          obtain ⟨h_r8_q45874_0, -⟩ := h_r8_q45874
          refine wq_eq (fun hc_45875 => ?_) (fun hc_45876 => ?_)
          · have t_45878 := ia_add y164_10 (1 : Int32) (by omega) (by omega)
            refine wq_v (fun v9_q45877 h_v9_q45877 => ?_)
            have t_v9_q45877 := congrArg Int32.toInt h_v9_q45877
            exact ih I0_l164 L0_l164 M0_l164 (0 : Int32) v9_q45877 ⟨by omega, by omega⟩ ⟨by omega, by omega⟩ k_I0_l164 (by omega) (by omega)
          · have t_45880 := ia_add y164_10 (1 : Int32) (by omega) (by omega)
            refine wq_v (fun v10_q45879 h_v10_q45879 => ?_)
            have t_v10_q45879 := congrArg Int32.toInt h_v10_q45879
            exact ih I0_l164 L0_l164 M0_l164 (1 : Int32) v10_q45879 ⟨by omega, by omega⟩ ⟨by omega, by omega⟩ k_I0_l164 (by omega) (by omega)
        · have t_45882 := ia_add y164_10 (1 : Int32) (by omega) (by omega)
          refine wq_v (fun v7_q45881 h_v7_q45881 => ?_)
          have t_v7_q45881 := congrArg Int32.toInt h_v7_q45881
          have t_45883 := KX12.i1 k_I0_l164
          exact ih I0_l164 L0_l164 M0_l164 (1 : Int32) v7_q45881 ⟨by omega, by omega⟩ ⟨by omega, by omega⟩ k_I0_l164 (by omega) (by omega)
      · unfold fX12_possible_J208
        have l_0 := il_0
        refine wq_eq (fun hc_45884 => ?_) (fun hc_45885 => ?_)
        · have t_45887 := ia_add y126_8 (1 : Int32) (by omega) (by omega)
          refine wq_v (fun v2_q45886 h_v2_q45886 => ?_)
          have t_v2_q45886 := congrArg Int32.toInt h_v2_q45886
          have b_45888 := i32b v6
          have b_45889 := i32b y126_7
          exact hg126 I0_l164 L0_l164 M0_l164 v6 y126_7 v2_q45886 ⟨by omega, by omega⟩ k_I0_l164 (by omega)
        · have b_45891 := i32b y126_7
          refine wq_v (fun v3_q45890 h_v3_q45890 => ?_)
          have t_v3_q45890 := congrArg Int32.toInt h_v3_q45890
          have t_45893 := ia_add y126_8 (1 : Int32) (by omega) (by omega)
          refine wq_v (fun v4_q45892 h_v4_q45892 => ?_)
          have t_v4_q45892 := congrArg Int32.toInt h_v4_q45892
          have b_45894 := i32b v6
          have b_45895 := i32b v3_q45890
          exact hg126 I0_l164 L0_l164 M0_l164 v6 v3_q45890 v4_q45892 ⟨by omega, by omega⟩ k_I0_l164 (by omega)
set_option maxHeartbeats 4000000 in
theorem tt_fX12_possible_L126 {N : Nat} (hN : 3000000000 ≤ N) (x1 : Int32) (x2 : Int32) (x3 : Int32) (r1 : Int32) (y71_4 : Int32) (g88 : (Nat → Int32) → Int64 → (Nat → Nat → Int32) → Int32 → Int32 → Option (Int32 × (Nat → Int32) × Int64 × (Nat → Nat → Int32))) (h_x1 : 0 ≤ x1.toInt ∧ x1.toInt ≤ 5) (h_x2 : 0 ≤ x2.toInt ∧ x2.toInt ≤ 19) (h_y71_4 : 0 ≤ y71_4.toInt ∧ y71_4.toInt ≤ 119)  : ∀ (fu : Nat) (I0_l126 : (Nat → Int32)) (L0_l126 : Int64) (M0_l126 : (Nat → Nat → Int32)) (y126_6 : Int32) (y126_7 : Int32) (y126_8 : Int32), (0 ≤ y126_8.toInt ∧ y126_8.toInt ≤ 7) → (KX12 I0_l126 M0_l126) → (7 - y126_8.toInt) < (fu : Int) → wq (fX12_possible_L126 N x1 x2 x3 r1 y71_4 g88 fu I0_l126 L0_l126 M0_l126 y126_6 y126_7 y126_8) (fun r => KX12 r.2.1 r.2.2.2 ∧ True) := by
  intro fu
  induction fu with
  | zero => intro I0_l126 L0_l126 M0_l126 y126_6 y126_7 y126_8 h_y126_8 k_I0_l126 hm; exfalso; omega
  | succ fu ih =>
    intro I0_l126 L0_l126 M0_l126 y126_6 y126_7 y126_8 h_y126_8 k_I0_l126 hm
    rw [fX12_possible_L126.eq_2]
    have t_45896 := KX12.i1 k_I0_l126
    refine wq_le (fun hc_45897 => ?_) (fun hc_45898 => ?_)
    · have b_45899 := i32b x3
      have l_0 := il_0
      refine wq_eq (fun hc_45900 => ?_) (fun hc_45901 => ?_)
      · have b_45902 := i32b y126_6
        exact wq_s ⟨k_I0_l126, trivial⟩
      · have b_45903 := i32b y126_7
        exact wq_s ⟨k_I0_l126, trivial⟩
    · have l_2 := il_2
      refine wq_b (tt_fX12_agrees hN I0_l126 L0_l126 M0_l126 y71_4 (2 : Int32) y126_8 ⟨by omega, by omega⟩ k_I0_l126 (by omega)) (fun r5_q45904 h_r5_q45904 => ?_)
      obtain ⟨-⟩ := h_r5_q45904
      have b_45905 := i32b r5_q45904
      have b_45906 := i32b r1
      refine wq_eq (fun hc_45907 => ?_) (fun hc_45908 => ?_)
      · refine wq_v (fun v6_q45909 h_v6_q45909 => ?_)
        have t_v6_q45909 := congrArg Int32.toInt h_v6_q45909
        have b_45910 := i32b x3
        have b_45911 := i32b v6_q45909
        have b_45912 := i32b y126_7
        have l_0 := il_0
        exact tt_fX12_possible_L164 hN x1 x2 x3 r1 v6_q45909 y126_7 y126_8 y71_4 g88 _ ⟨by omega, by omega⟩ ⟨by omega, by omega⟩ ⟨by omega, by omega⟩ ⟨by omega, by omega⟩ (fun q0 q1 q2 q3 q4 q5 hq0 hq1 hq2 => ih q0 q1 q2 q3 q4 q5 hq0 hq1 (by omega)) N I0_l126 L0_l126 M0_l126 (0 : Int32) (0 : Int32) ⟨by omega, by omega⟩ ⟨by omega, by omega⟩ k_I0_l126 (by omega) (by omega)
      · have l_1 := il_1
        have t_45914 := ia_add y126_8 (1 : Int32) (by omega) (by omega)
        refine wq_v (fun v11_q45913 h_v11_q45913 => ?_)
        have t_v11_q45913 := congrArg Int32.toInt h_v11_q45913
        have b_45915 := i32b y126_6
        have b_45916 := i32b y126_7
        exact ih I0_l126 L0_l126 M0_l126 y126_6 y126_7 v11_q45913 ⟨by omega, by omega⟩ k_I0_l126 (by omega)
set_option maxHeartbeats 4000000 in
theorem tt_fX12_possible_L88 {N : Nat} (hN : 3000000000 ≤ N) (x1 : Int32) (x2 : Int32) (x3 : Int32) (r1 : Int32) (y71_4 : Int32) (h_x1 : 0 ≤ x1.toInt ∧ x1.toInt ≤ 5) (h_x2 : 0 ≤ x2.toInt ∧ x2.toInt ≤ 19) (h_y71_4 : 0 ≤ y71_4.toInt ∧ y71_4.toInt ≤ 119)  : ∀ (fu : Nat) (I0_l88 : (Nat → Int32)) (L0_l88 : Int64) (M0_l88 : (Nat → Nat → Int32)) (y88_6 : Int32) (y88_8 : Int32), (0 ≤ y88_6.toInt ∧ y88_6.toInt ≤ 255) → (0 ≤ y88_8.toInt ∧ y88_8.toInt ≤ 2) → (KX12 I0_l88 M0_l88) → (2 - y88_8.toInt) < (fu : Int) → wq (fX12_possible_L88 N x1 x2 x3 r1 y71_4 fu I0_l88 L0_l88 M0_l88 y88_6 y88_8) (fun r => KX12 r.2.1 r.2.2.2 ∧ True) := by
  intro fu
  induction fu with
  | zero => intro I0_l88 L0_l88 M0_l88 y88_6 y88_8 h_y88_6 h_y88_8 k_I0_l88 hm; exfalso; omega
  | succ fu ih =>
    intro I0_l88 L0_l88 M0_l88 y88_6 y88_8 h_y88_6 h_y88_8 k_I0_l88 hm
    rw [fX12_possible_L88.eq_2]
    have l_2 := il_2
    refine wq_le (fun hc_45917 => ?_) (fun hc_45918 => ?_)
    · have b_45919 := i32b x3
      have b_45920 := i32b r1
      have l_0 := il_0
      exact tt_fX12_possible_L126 hN x1 x2 x3 r1 y71_4 _ ⟨by omega, by omega⟩ ⟨by omega, by omega⟩ ⟨by omega, by omega⟩ N I0_l88 L0_l88 M0_l88 y88_6 (0 : Int32) (0 : Int32) ⟨by omega, by omega⟩ k_I0_l88 (by omega)
    · have l_0 := il_0
      have t_45921 := KX12.i1 k_I0_l88
      refine wq_b (tt_fX12_agrees hN I0_l88 L0_l88 M0_l88 y71_4 y88_8 (0 : Int32) ⟨by omega, by omega⟩ k_I0_l88 (by omega)) (fun r12_q45922 h_r12_q45922 => ?_)
      obtain ⟨-⟩ := h_r12_q45922
      have b_45923 := i32b r12_q45922
      have b_45924 := i32b r1
      refine wq_eq (fun hc_45925 => ?_) (fun hc_45926 => ?_)
      · have t_45928 := or_sh y88_6 y88_8 ⟨by omega, by omega⟩ ⟨by omega, by omega⟩
        refine wq_v (fun v14_q45927 h_v14_q45927 => ?_)
        have t_v14_q45927 := congrArg Int32.toInt h_v14_q45927
        have l_1 := il_1
        have t_45930 := ia_add y88_8 (1 : Int32) (by omega) (by omega)
        refine wq_v (fun v15_q45929 h_v15_q45929 => ?_)
        have t_v15_q45929 := congrArg Int32.toInt h_v15_q45929
        exact ih I0_l88 L0_l88 M0_l88 v14_q45927 v15_q45929 ⟨by omega, by omega⟩ ⟨by omega, by omega⟩ k_I0_l88 (by omega)
      · have l_1 := il_1
        have t_45932 := ia_add y88_8 (1 : Int32) (by omega) (by omega)
        refine wq_v (fun v13_q45931 h_v13_q45931 => ?_)
        have t_v13_q45931 := congrArg Int32.toInt h_v13_q45931
        exact ih I0_l88 L0_l88 M0_l88 y88_6 v13_q45931 ⟨by omega, by omega⟩ ⟨by omega, by omega⟩ k_I0_l88 (by omega)
set_option maxHeartbeats 4000000 in
theorem tt_fX12_possible {N : Nat} (hN : 3000000000 ≤ N) (I0 : Nat → Int32) (L0 : Int64) (M0 : Nat → Nat → Int32) (x1 : Int32) (x2 : Int32) (x3 : Int32) (k_I0 : KX12 I0 M0) : wq (fX12_possible N I0 L0 M0 x1 x2 x3) (fun r => KX12 r.2.1 r.2.2.2 ∧ True) := by
  unfold fX12_possible
  have b_45933 := i32b x1
  have b_45934 := i32b x2
  refine wq_b (tt_fX12_isWheel hN I0 L0 M0 x1 x2 k_I0) (fun r20_q45935 h_r20_q45935 => ?_)
  obtain ⟨h_r20_q45935_0, h_r20_q45935_1, h_r20_q45935_2, h_r20_q45935_3, -⟩ := h_r20_q45935
  have t_45936 := KX12.i1 h_r20_q45935_3
  have t_45937 := KX12.i1 k_I0
  have l_0 := il_0
  refine wq_eq (fun hc_45938 => ?_) (fun hc_45939 => ?_)
  · exact wq_s ⟨h_r20_q45935_3, trivial⟩
  · have b_45940 := i32b x3
    refine wq_eq (fun hc_45941 => ?_) (fun hc_45942 => ?_)
    · unfold fX12_possible_J19
      unfold fX12_possible_J24
      have l_1 := il_1
      refine wq_b (tt_fX12_right hN r20_q45935.2.1 r20_q45935.2.2.1 r20_q45935.2.2.2 (1 : Int32) (1 : Int32) ⟨by omega, by omega⟩ h_r20_q45935_3) (fun r16_q45943 h_r16_q45943 => ?_)
      obtain ⟨h_r16_q45943_0, h_r16_q45943_1, h_r16_q45943_2, h_r16_q45943_3, -⟩ := h_r16_q45943
      have t_45944 := KX12.i1 h_r16_q45943_3
      refine wq_eq (fun hc_45945 => ?_) (fun hc_45946 => ?_)
      · exact wq_s ⟨h_r16_q45943_3, trivial⟩
      · have l_20 := il_20
        have t_45948 := ia_mul (20 : Int32) (20) il_20 x1 (by omega) (by omega)
        have t_45949 := ia_add ((20 : Int32) * x1) x2 (by omega) (by omega)
        refine wq_v (fun v17_q45947 h_v17_q45947 => ?_)
        have t_v17_q45947 := congrArg Int32.toInt h_v17_q45947
        have l_7 := il_7
        refine wq_b (tt_fX12_at hN r16_q45943.2.1 r16_q45943.2.2.1 r16_q45943.2.2.2 v17_q45947 (7 : Int32) ⟨by omega, by omega⟩ ⟨by omega, by omega⟩ h_r16_q45943_3) (fun r18_q45950 h_r18_q45950 => ?_)
        obtain ⟨h_r18_q45950_0, h_r18_q45950_1, h_r18_q45950_2, -⟩ := h_r18_q45950
        have l_m1 := il_m1
        refine wq_eq (fun hc_45951 => ?_) (fun hc_45952 => ?_)
        · exact wq_s ⟨h_r16_q45943_3, trivial⟩
        · refine wq_eq (fun hc_45953 => ?_) (fun hc_45954 => ?_)
          · exfalso; omega
          · unfold fX12_possible_J71
            refine wq_b (tt_fX12_housesTold hN r16_q45943.2.1 r16_q45943.2.2.1 r16_q45943.2.2.2 v17_q45947 ⟨by omega, by omega⟩ h_r16_q45943_3) (fun r1_q45955 h_r1_q45955 => ?_)
            obtain ⟨-⟩ := h_r1_q45955
            have b_45956 := i32b r1_q45955
            exact tt_fX12_possible_L88 hN x1 x2 x3 r1_q45955 v17_q45947 ⟨by omega, by omega⟩ ⟨by omega, by omega⟩ ⟨by omega, by omega⟩ N r16_q45943.2.1 r16_q45943.2.2.1 r16_q45943.2.2.2 (0 : Int32) (0 : Int32) ⟨by omega, by omega⟩ ⟨by omega, by omega⟩ h_r16_q45943_3 (by omega)
    · have l_1 := il_1
      refine wq_eq (fun hc_45957 => ?_) (fun hc_45958 => ?_)
      · unfold fX12_possible_J19
        unfold fX12_possible_J24
        refine wq_b (tt_fX12_right hN r20_q45935.2.1 r20_q45935.2.2.1 r20_q45935.2.2.2 (1 : Int32) (1 : Int32) ⟨by omega, by omega⟩ h_r20_q45935_3) (fun r16_q45959 h_r16_q45959 => ?_)
        obtain ⟨h_r16_q45959_0, h_r16_q45959_1, h_r16_q45959_2, h_r16_q45959_3, -⟩ := h_r16_q45959
        have t_45960 := KX12.i1 h_r16_q45959_3
        refine wq_eq (fun hc_45961 => ?_) (fun hc_45962 => ?_)
        · exact wq_s ⟨h_r16_q45959_3, trivial⟩
        · have l_20 := il_20
          have t_45964 := ia_mul (20 : Int32) (20) il_20 x1 (by omega) (by omega)
          have t_45965 := ia_add ((20 : Int32) * x1) x2 (by omega) (by omega)
          refine wq_v (fun v17_q45963 h_v17_q45963 => ?_)
          have t_v17_q45963 := congrArg Int32.toInt h_v17_q45963
          have l_7 := il_7
          refine wq_b (tt_fX12_at hN r16_q45959.2.1 r16_q45959.2.2.1 r16_q45959.2.2.2 v17_q45963 (7 : Int32) ⟨by omega, by omega⟩ ⟨by omega, by omega⟩ h_r16_q45959_3) (fun r18_q45966 h_r18_q45966 => ?_)
          obtain ⟨h_r18_q45966_0, h_r18_q45966_1, h_r18_q45966_2, -⟩ := h_r18_q45966
          have l_m1 := il_m1
          refine wq_eq (fun hc_45967 => ?_) (fun hc_45968 => ?_)
          · exact wq_s ⟨h_r16_q45959_3, trivial⟩
          · refine wq_eq (fun hc_45969 => ?_) (fun hc_45970 => ?_)
            · refine wq_b (tt_fX12_at hN r16_q45959.2.1 r16_q45959.2.2.1 r16_q45959.2.2.2 v17_q45963 (0 : Int32) ⟨by omega, by omega⟩ ⟨by omega, by omega⟩ h_r16_q45959_3) (fun r19_q45971 h_r19_q45971 => ?_)
              obtain ⟨h_r19_q45971_0, h_r19_q45971_1, h_r19_q45971_2, -⟩ := h_r19_q45971
              refine wq_eq (fun hc_45972 => ?_) (fun hc_45973 => ?_)
              · exact wq_s ⟨h_r16_q45959_3, trivial⟩
              · unfold fX12_possible_J71
                refine wq_b (tt_fX12_housesTold hN r16_q45959.2.1 r16_q45959.2.2.1 r16_q45959.2.2.2 v17_q45963 ⟨by omega, by omega⟩ h_r16_q45959_3) (fun r1_q45974 h_r1_q45974 => ?_)
                obtain ⟨-⟩ := h_r1_q45974
                have b_45975 := i32b r1_q45974
                exact tt_fX12_possible_L88 hN x1 x2 x3 r1_q45974 v17_q45963 ⟨by omega, by omega⟩ ⟨by omega, by omega⟩ ⟨by omega, by omega⟩ N r16_q45959.2.1 r16_q45959.2.2.1 r16_q45959.2.2.2 (0 : Int32) (0 : Int32) ⟨by omega, by omega⟩ ⟨by omega, by omega⟩ h_r16_q45959_3 (by omega)
            · exfalso; omega
      · unfold fX12_possible_J24
        refine wq_b (tt_fX12_right hN r20_q45935.2.1 r20_q45935.2.2.1 r20_q45935.2.2.2 (0 : Int32) (1 : Int32) ⟨by omega, by omega⟩ h_r20_q45935_3) (fun r16_q45976 h_r16_q45976 => ?_)
        obtain ⟨h_r16_q45976_0, h_r16_q45976_1, h_r16_q45976_2, h_r16_q45976_3, -⟩ := h_r16_q45976
        have t_45977 := KX12.i1 h_r16_q45976_3
        refine wq_eq (fun hc_45978 => ?_) (fun hc_45979 => ?_)
        · exact wq_s ⟨h_r16_q45976_3, trivial⟩
        · have l_20 := il_20
          have t_45981 := ia_mul (20 : Int32) (20) il_20 x1 (by omega) (by omega)
          have t_45982 := ia_add ((20 : Int32) * x1) x2 (by omega) (by omega)
          refine wq_v (fun v17_q45980 h_v17_q45980 => ?_)
          have t_v17_q45980 := congrArg Int32.toInt h_v17_q45980
          have l_7 := il_7
          refine wq_b (tt_fX12_at hN r16_q45976.2.1 r16_q45976.2.2.1 r16_q45976.2.2.2 v17_q45980 (7 : Int32) ⟨by omega, by omega⟩ ⟨by omega, by omega⟩ h_r16_q45976_3) (fun r18_q45983 h_r18_q45983 => ?_)
          obtain ⟨h_r18_q45983_0, h_r18_q45983_1, h_r18_q45983_2, -⟩ := h_r18_q45983
          have l_m1 := il_m1
          refine wq_eq (fun hc_45984 => ?_) (fun hc_45985 => ?_)
          · exact wq_s ⟨h_r16_q45976_3, trivial⟩
          · refine wq_eq (fun hc_45986 => ?_) (fun hc_45987 => ?_)
            · refine wq_b (tt_fX12_at hN r16_q45976.2.1 r16_q45976.2.2.1 r16_q45976.2.2.2 v17_q45980 (0 : Int32) ⟨by omega, by omega⟩ ⟨by omega, by omega⟩ h_r16_q45976_3) (fun r19_q45988 h_r19_q45988 => ?_)
              obtain ⟨h_r19_q45988_0, h_r19_q45988_1, h_r19_q45988_2, -⟩ := h_r19_q45988
              refine wq_eq (fun hc_45989 => ?_) (fun hc_45990 => ?_)
              · exact wq_s ⟨h_r16_q45976_3, trivial⟩
              · unfold fX12_possible_J71
                refine wq_b (tt_fX12_housesTold hN r16_q45976.2.1 r16_q45976.2.2.1 r16_q45976.2.2.2 v17_q45980 ⟨by omega, by omega⟩ h_r16_q45976_3) (fun r1_q45991 h_r1_q45991 => ?_)
                obtain ⟨-⟩ := h_r1_q45991
                have b_45992 := i32b r1_q45991
                exact tt_fX12_possible_L88 hN x1 x2 x3 r1_q45991 v17_q45980 ⟨by omega, by omega⟩ ⟨by omega, by omega⟩ ⟨by omega, by omega⟩ N r16_q45976.2.1 r16_q45976.2.2.1 r16_q45976.2.2.2 (0 : Int32) (0 : Int32) ⟨by omega, by omega⟩ ⟨by omega, by omega⟩ h_r16_q45976_3 (by omega)
            · unfold fX12_possible_J71
              refine wq_b (tt_fX12_housesTold hN r16_q45976.2.1 r16_q45976.2.2.1 r16_q45976.2.2.2 v17_q45980 ⟨by omega, by omega⟩ h_r16_q45976_3) (fun r1_q45993 h_r1_q45993 => ?_)
              obtain ⟨-⟩ := h_r1_q45993
              have b_45994 := i32b r1_q45993
              exact tt_fX12_possible_L88 hN x1 x2 x3 r1_q45993 v17_q45980 ⟨by omega, by omega⟩ ⟨by omega, by omega⟩ ⟨by omega, by omega⟩ N r16_q45976.2.1 r16_q45976.2.2.1 r16_q45976.2.2.2 (0 : Int32) (0 : Int32) ⟨by omega, by omega⟩ ⟨by omega, by omega⟩ h_r16_q45976_3 (by omega)

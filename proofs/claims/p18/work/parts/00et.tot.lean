set_option maxHeartbeats 4000000 in
theorem tt_fX12_agrees_L6 {N : Nat} (hN : 3000000000 ≤ N) (I0 : Nat → Int32) (L0 : Int64) (M0 : Nat → Nat → Int32) (x1 : Int32) (x2 : Int32) (x3 : Int32) (h_x1 : 0 ≤ x1.toInt ∧ x1.toInt ≤ 119) (k_I0 : KX12 I0 M0) (hr_2 : ((0 ≤ x2.toInt ∧ x2.toInt ≤ 1) ∨ (0 ≤ x3.toInt ∧ x3.toInt < (I0 1).toInt)))  : ∀ (fu : Nat) (y6_4 : Int32) (y6_5 : Int32), (1 ≤ y6_5.toInt ∧ y6_5.toInt ≤ 13) → (13 - y6_5.toInt) < (fu : Int) → wq (fX12_agrees_L6 N I0 L0 M0 x1 x2 x3 fu y6_4 y6_5) (fun r => True) := by
  intro fu
  induction fu with
  | zero => intro y6_4 y6_5 h_y6_5 hm; exfalso; omega
  | succ fu ih =>
    intro y6_4 y6_5 h_y6_5 hm
    rw [fX12_agrees_L6.eq_2]
    have l_12 := il_12
    refine wq_lt (fun hc_47825 => ?_) (fun hc_47826 => ?_)
    · have b_47827 := i32b y6_4
      exact wq_s trivial
    · have l_9 := il_9
      have t_47828 := ia_add (9 : Int32) y6_5 (by omega) (by omega)
      have l_1 := il_1
      have t_47829 := ia_sub ((9 : Int32) + y6_5) (1 : Int32) (by omega) (by omega)
      refine wq_b (tt_fX12_at hN I0 L0 M0 x1 (((9 : Int32) + y6_5) - (1 : Int32)) ⟨by omega, by omega⟩ ⟨by omega, by omega⟩ k_I0) (fun r1_q47830 h_r1_q47830 => ?_)
      obtain ⟨h_r1_q47830_0, h_r1_q47830_1, h_r1_q47830_2, -⟩ := h_r1_q47830
      have l_m1 := il_m1
      refine wq_eq (fun hc_47831 => ?_) (fun hc_47832 => ?_)
      · have t_47834 := ia_add y6_5 (1 : Int32) (by omega) (by omega)
        refine wq_v (fun v2_q47833 h_v2_q47833 => ?_)
        have t_v2_q47833 := congrArg Int32.toInt h_v2_q47833
        have b_47835 := i32b y6_4
        exact ih y6_4 v2_q47833 ⟨by omega, by omega⟩ (by omega)
      · have l_7 := il_7
        refine wq_b (tt_fX12_at hN I0 L0 M0 x1 (7 : Int32) ⟨by omega, by omega⟩ ⟨by omega, by omega⟩ k_I0) (fun r3_q47836 h_r3_q47836 => ?_)
        obtain ⟨h_r3_q47836_0, h_r3_q47836_1, h_r3_q47836_2, -⟩ := h_r3_q47836
        have b_47837 := i32b x2
        have b_47838 := i32b x3
        have t_47839 := KX12.i1 k_I0
        refine wq_b (tt_fX12_houseAt hN I0 L0 M0 r3_q47836 x2 x3 y6_5 ⟨by omega, by omega⟩ ⟨by omega, by omega⟩ k_I0 (by omega)) (fun r4_q47840 h_r4_q47840 => ?_)
        obtain ⟨h_r4_q47840_0, -⟩ := h_r4_q47840
        refine wq_eq (fun hc_47841 => ?_) (fun hc_47842 => ?_)
        · have b_47844 := i32b y6_4
          refine wq_v (fun v6_q47843 h_v6_q47843 => ?_)
          have t_v6_q47843 := congrArg Int32.toInt h_v6_q47843
          have t_47846 := ia_add y6_5 (1 : Int32) (by omega) (by omega)
          refine wq_v (fun v7_q47845 h_v7_q47845 => ?_)
          have t_v7_q47845 := congrArg Int32.toInt h_v7_q47845
          have b_47847 := i32b v6_q47843
          exact ih v6_q47843 v7_q47845 ⟨by omega, by omega⟩ (by omega)
        · have t_47849 := ia_add y6_5 (1 : Int32) (by omega) (by omega)
          refine wq_v (fun v5_q47848 h_v5_q47848 => ?_)
          have t_v5_q47848 := congrArg Int32.toInt h_v5_q47848
          have b_47850 := i32b y6_4
          exact ih y6_4 v5_q47848 ⟨by omega, by omega⟩ (by omega)
set_option maxHeartbeats 4000000 in
theorem tt_fX12_agrees {N : Nat} (hN : 3000000000 ≤ N) (I0 : Nat → Int32) (L0 : Int64) (M0 : Nat → Nat → Int32) (x1 : Int32) (x2 : Int32) (x3 : Int32) (h_x1 : 0 ≤ x1.toInt ∧ x1.toInt ≤ 119) (k_I0 : KX12 I0 M0) (hr_2 : ((0 ≤ x2.toInt ∧ x2.toInt ≤ 1) ∨ (0 ≤ x3.toInt ∧ x3.toInt < (I0 1).toInt))) : wq (fX12_agrees N I0 L0 M0 x1 x2 x3) (fun r => True) := by
  unfold fX12_agrees
  have b_47851 := i32b x2
  have b_47852 := i32b x3
  have l_0 := il_0
  have l_1 := il_1
  have t_47853 := KX12.i1 k_I0
  exact tt_fX12_agrees_L6 hN I0 L0 M0 x1 x2 x3 ⟨by omega, by omega⟩ k_I0 (by omega) N (0 : Int32) (1 : Int32) ⟨by omega, by omega⟩ (by omega)
set_option maxHeartbeats 4000000 in
theorem tt_fX12_housesTold_L4 {N : Nat} (hN : 3000000000 ≤ N) (I0 : Nat → Int32) (L0 : Int64) (M0 : Nat → Nat → Int32) (x1 : Int32) (h_x1 : 0 ≤ x1.toInt ∧ x1.toInt ≤ 119) (k_I0 : KX12 I0 M0)  : ∀ (fu : Nat) (y4_2 : Int32) (y4_3 : Int32), (1 ≤ y4_3.toInt ∧ y4_3.toInt ≤ 13) → (13 - y4_3.toInt) < (fu : Int) → wq (fX12_housesTold_L4 N I0 L0 M0 x1 fu y4_2 y4_3) (fun r => True) := by
  intro fu
  induction fu with
  | zero => intro y4_2 y4_3 h_y4_3 hm; exfalso; omega
  | succ fu ih =>
    intro y4_2 y4_3 h_y4_3 hm
    rw [fX12_housesTold_L4.eq_2]
    have l_12 := il_12
    refine wq_lt (fun hc_48167 => ?_) (fun hc_48168 => ?_)
    · have b_48169 := i32b y4_2
      exact wq_s trivial
    · have l_9 := il_9
      have t_48170 := ia_add (9 : Int32) y4_3 (by omega) (by omega)
      have l_1 := il_1
      have t_48171 := ia_sub ((9 : Int32) + y4_3) (1 : Int32) (by omega) (by omega)
      refine wq_b (tt_fX12_at hN I0 L0 M0 x1 (((9 : Int32) + y4_3) - (1 : Int32)) ⟨by omega, by omega⟩ ⟨by omega, by omega⟩ k_I0) (fun r1_q48172 h_r1_q48172 => ?_)
      obtain ⟨h_r1_q48172_0, h_r1_q48172_1, h_r1_q48172_2, -⟩ := h_r1_q48172
      have l_m1 := il_m1
      refine wq_eq (fun hc_48173 => ?_) (fun hc_48174 => ?_)
      · have b_48176 := i32b y4_2
        have l_0 := il_0
        have t_48177 := ia_add y4_2 (0 : Int32) (by omega) (by omega)
        refine wq_v (fun v2_q48175 h_v2_q48175 => ?_)
        have t_v2_q48175 := congrArg Int32.toInt h_v2_q48175
        have t_48179 := ia_add y4_3 (1 : Int32) (by omega) (by omega)
        refine wq_v (fun v3_q48178 h_v3_q48178 => ?_)
        have t_v3_q48178 := congrArg Int32.toInt h_v3_q48178
        have b_48180 := i32b v2_q48175
        exact ih v2_q48175 v3_q48178 ⟨by omega, by omega⟩ (by omega)
      · have b_48182 := i32b y4_2
        refine wq_v (fun v4_q48181 h_v4_q48181 => ?_)
        have t_v4_q48181 := congrArg Int32.toInt h_v4_q48181
        have t_48184 := ia_add y4_3 (1 : Int32) (by omega) (by omega)
        refine wq_v (fun v5_q48183 h_v5_q48183 => ?_)
        have t_v5_q48183 := congrArg Int32.toInt h_v5_q48183
        have b_48185 := i32b v4_q48181
        exact ih v4_q48181 v5_q48183 ⟨by omega, by omega⟩ (by omega)
set_option maxHeartbeats 4000000 in
theorem tt_fX12_housesTold {N : Nat} (hN : 3000000000 ≤ N) (I0 : Nat → Int32) (L0 : Int64) (M0 : Nat → Nat → Int32) (x1 : Int32) (h_x1 : 0 ≤ x1.toInt ∧ x1.toInt ≤ 119) (k_I0 : KX12 I0 M0) : wq (fX12_housesTold N I0 L0 M0 x1) (fun r => True) := by
  unfold fX12_housesTold
  have l_0 := il_0
  have l_1 := il_1
  exact tt_fX12_housesTold_L4 hN I0 L0 M0 x1 ⟨by omega, by omega⟩ k_I0 N (0 : Int32) (1 : Int32) ⟨by omega, by omega⟩ (by omega)
set_option maxHeartbeats 4000000 in
theorem tt_fX12_agree {N : Nat} (hN : 3000000000 ≤ N) (I0 : Nat → Int32) (L0 : Int64) (M0 : Nat → Nat → Int32) (x1 : Int32) (x2 : Int32) (x3 : Int32) (x4 : Int32) (k_I0 : KX12 I0 M0) : wq (fX12_agree N I0 L0 M0 x1 x2 x3 x4) (fun r => KX12 r.2.1 r.2.2.2 ∧ True) := by
  unfold fX12_agree
  have b_48306 := i32b x1
  have b_48307 := i32b x2
  refine wq_b (tt_fX12_isWheel hN I0 L0 M0 x1 x2 k_I0) (fun r1_q48308 h_r1_q48308 => ?_)
  obtain ⟨h_r1_q48308_0, h_r1_q48308_1, h_r1_q48308_2, h_r1_q48308_3, -⟩ := h_r1_q48308
  have t_48309 := KX12.i1 h_r1_q48308_3
  have t_48310 := KX12.i1 k_I0
  have l_0 := il_0
  refine wq_eq (fun hc_48311 => ?_) (fun hc_48312 => ?_)
  · exact wq_s ⟨h_r1_q48308_3, trivial⟩
  · have b_48313 := i32b x3
    have b_48314 := i32b x4
    refine wq_b (tt_fX12_isWay hN r1_q48308.2.1 r1_q48308.2.2.1 r1_q48308.2.2.2 x3 x4 h_r1_q48308_3) (fun r2_q48315 h_r2_q48315 => ?_)
    obtain ⟨h_r2_q48315_0, h_r2_q48315_1, h_r2_q48315_2, h_r2_q48315_3, -⟩ := h_r2_q48315
    have t_48316 := KX12.i1 h_r2_q48315_3
    refine wq_eq (fun hc_48317 => ?_) (fun hc_48318 => ?_)
    · exact wq_s ⟨h_r2_q48315_3, trivial⟩
    · have l_20 := il_20
      have t_48319 := ia_mul (20 : Int32) (20) il_20 x1 (by omega) (by omega)
      have t_48320 := ia_add ((20 : Int32) * x1) x2 (by omega) (by omega)
      have l_7 := il_7
      refine wq_b (tt_fX12_at hN r2_q48315.2.1 r2_q48315.2.2.1 r2_q48315.2.2.2 (((20 : Int32) * x1) + x2) (7 : Int32) ⟨by omega, by omega⟩ ⟨by omega, by omega⟩ h_r2_q48315_3) (fun r3_q48321 h_r3_q48321 => ?_)
      obtain ⟨h_r3_q48321_0, h_r3_q48321_1, h_r3_q48321_2, -⟩ := h_r3_q48321
      have l_m1 := il_m1
      refine wq_eq (fun hc_48322 => ?_) (fun hc_48323 => ?_)
      · exact wq_s ⟨h_r2_q48315_3, trivial⟩
      · refine wq_b (tt_fX12_agrees hN r2_q48315.2.1 r2_q48315.2.2.1 r2_q48315.2.2.2 (((20 : Int32) * x1) + x2) x3 x4 ⟨by omega, by omega⟩ h_r2_q48315_3 (by omega)) (fun r4_q48324 h_r4_q48324 => ?_)
        obtain ⟨-⟩ := h_r4_q48324
        have b_48325 := i32b r4_q48324
        exact wq_s ⟨h_r2_q48315_3, trivial⟩
set_option maxHeartbeats 4000000 in
theorem tt_fX12_possible_L164 {N : Nat} (hN : 3000000000 ≤ N) (x1 : Int32) (x2 : Int32) (x3 : Int32) (r1 : Int32) (v6 : Int32) (y126_7 : Int32) (y126_8 : Int32) (y71_4 : Int32) (g88 : (Nat → Int32) → Int64 → (Nat → Nat → Int32) → Int32 → Int32 → Option (Int32 × (Nat → Int32) × Int64 × (Nat → Nat → Int32))) (g126 : (Nat → Int32) → Int64 → (Nat → Nat → Int32) → Int32 → Int32 → Int32 → Option (Int32 × (Nat → Int32) × Int64 × (Nat → Nat → Int32))) (h_x1 : 0 ≤ x1.toInt ∧ x1.toInt ≤ 5) (h_x2 : 0 ≤ x2.toInt ∧ x2.toInt ≤ 19) (h_y126_8 : 0 ≤ y126_8.toInt ∧ y126_8.toInt ≤ 6) (h_y71_4 : 0 ≤ y71_4.toInt ∧ y71_4.toInt ≤ 119) (hg126 : ∀ (q0 : (Nat → Int32)) (q1 : Int64) (q2 : (Nat → Nat → Int32)) (q3 : Int32) (q4 : Int32) (q5 : Int32), (0 ≤ q5.toInt ∧ q5.toInt ≤ 7) → (KX12 q0 q2) → (y126_8.toInt < q5.toInt) → wq (g126 q0 q1 q2 q3 q4 q5) (fun r => KX12 r.2.1 r.2.2.2 ∧ True)) : ∀ (fu : Nat) (I0_l164 : (Nat → Int32)) (L0_l164 : Int64) (M0_l164 : (Nat → Nat → Int32)) (y164_9 : Int32) (y164_10 : Int32), (0 ≤ y164_9.toInt ∧ y164_9.toInt ≤ 1) → (0 ≤ y164_10.toInt ∧ y164_10.toInt ≤ 360) → (KX12 I0_l164 M0_l164) → (y126_8.toInt < (I0_l164 1).toInt) → (360 - y164_10.toInt) < (fu : Int) → wq (fX12_possible_L164 N x1 x2 x3 r1 v6 y126_7 y126_8 y71_4 g88 g126 fu I0_l164 L0_l164 M0_l164 y164_9 y164_10) (fun r => KX12 r.2.1 r.2.2.2 ∧ True) := by
  intro fu
  induction fu with
  | zero => intro I0_l164 L0_l164 M0_l164 y164_9 y164_10 h_y164_9 h_y164_10 k_I0_l164 hl_3 hm; exfalso; omega
  | succ fu ih =>
    intro I0_l164 L0_l164 M0_l164 y164_9 y164_10 h_y164_9 h_y164_10 k_I0_l164 hl_3 hm
    rw [fX12_possible_L164.eq_2]
    have l_360 := il_360
    refine wq_le (fun hc_50780 => ?_) (fun hc_50781 => ?_)
    · unfold fX12_possible_J208
      have l_0 := il_0
      refine wq_eq (fun hc_50782 => ?_) (fun hc_50783 => ?_)
      · have l_1 := il_1
        have t_50785 := ia_add y126_8 (1 : Int32) (by omega) (by omega)
        refine wq_v (fun v2_q50784 h_v2_q50784 => ?_)
        have t_v2_q50784 := congrArg Int32.toInt h_v2_q50784
        have b_50786 := i32b v6
        have b_50787 := i32b y126_7
        exact hg126 I0_l164 L0_l164 M0_l164 v6 y126_7 v2_q50784 ⟨by omega, by omega⟩ k_I0_l164 (by omega)
      · have b_50789 := i32b y126_7
        refine wq_v (fun v3_q50788 h_v3_q50788 => ?_)
        have t_v3_q50788 := congrArg Int32.toInt h_v3_q50788
        have l_1 := il_1
        have t_50791 := ia_add y126_8 (1 : Int32) (by omega) (by omega)
        refine wq_v (fun v4_q50790 h_v4_q50790 => ?_)
        have t_v4_q50790 := congrArg Int32.toInt h_v4_q50790
        have b_50792 := i32b v6
        have b_50793 := i32b v3_q50788
        exact hg126 I0_l164 L0_l164 M0_l164 v6 v3_q50788 v4_q50790 ⟨by omega, by omega⟩ k_I0_l164 (by omega)
    · have b_50794 := i32b x3
      have l_1 := il_1
      refine wq_eq (fun hc_50795 => ?_) (fun hc_50796 => ?_)
      · have l_0 := il_0
        refine wq_eq (fun hc_50797 => ?_) (fun hc_50798 => ?_)
        · have t_50799 := KX12.i1 k_I0_l164
          refine wq_b (tt_fX12_isHour hN I0_l164 L0_l164 M0_l164 y71_4 y126_8 y164_10 ⟨by omega, by omega⟩ ⟨by omega, by omega⟩ ⟨by omega, by omega⟩ k_I0_l164 (by omega)) (fun r8_q50800 h_r8_q50800 => ?_)
          obtain ⟨h_r8_q50800_0, -⟩ := h_r8_q50800
          refine wq_eq (fun hc_50801 => ?_) (fun hc_50802 => ?_)
          · have t_50804 := ia_add y164_10 (1 : Int32) (by omega) (by omega)
            refine wq_v (fun v9_q50803 h_v9_q50803 => ?_)
            have t_v9_q50803 := congrArg Int32.toInt h_v9_q50803
            exact ih I0_l164 L0_l164 M0_l164 (0 : Int32) v9_q50803 ⟨by omega, by omega⟩ ⟨by omega, by omega⟩ k_I0_l164 (by omega) (by omega)
          · have t_50806 := ia_add y164_10 (1 : Int32) (by omega) (by omega)
            refine wq_v (fun v10_q50805 h_v10_q50805 => ?_)
            have t_v10_q50805 := congrArg Int32.toInt h_v10_q50805
            exact ih I0_l164 L0_l164 M0_l164 (1 : Int32) v10_q50805 ⟨by omega, by omega⟩ ⟨by omega, by omega⟩ k_I0_l164 (by omega) (by omega)
        · have t_50808 := ia_add y164_10 (1 : Int32) (by omega) (by omega)
          refine wq_v (fun v7_q50807 h_v7_q50807 => ?_)
          have t_v7_q50807 := congrArg Int32.toInt h_v7_q50807
          have t_50809 := KX12.i1 k_I0_l164
          exact ih I0_l164 L0_l164 M0_l164 (1 : Int32) v7_q50807 ⟨by omega, by omega⟩ ⟨by omega, by omega⟩ k_I0_l164 (by omega) (by omega)
      · unfold fX12_possible_J208
        have l_0 := il_0
        refine wq_eq (fun hc_50810 => ?_) (fun hc_50811 => ?_)
        · have t_50813 := ia_add y126_8 (1 : Int32) (by omega) (by omega)
          refine wq_v (fun v2_q50812 h_v2_q50812 => ?_)
          have t_v2_q50812 := congrArg Int32.toInt h_v2_q50812
          have b_50814 := i32b v6
          have b_50815 := i32b y126_7
          exact hg126 I0_l164 L0_l164 M0_l164 v6 y126_7 v2_q50812 ⟨by omega, by omega⟩ k_I0_l164 (by omega)
        · have b_50817 := i32b y126_7
          refine wq_v (fun v3_q50816 h_v3_q50816 => ?_)
          have t_v3_q50816 := congrArg Int32.toInt h_v3_q50816
          have t_50819 := ia_add y126_8 (1 : Int32) (by omega) (by omega)
          refine wq_v (fun v4_q50818 h_v4_q50818 => ?_)
          have t_v4_q50818 := congrArg Int32.toInt h_v4_q50818
          have b_50820 := i32b v6
          have b_50821 := i32b v3_q50816
          exact hg126 I0_l164 L0_l164 M0_l164 v6 v3_q50816 v4_q50818 ⟨by omega, by omega⟩ k_I0_l164 (by omega)
set_option maxHeartbeats 4000000 in
theorem tt_fX12_possible_L126 {N : Nat} (hN : 3000000000 ≤ N) (x1 : Int32) (x2 : Int32) (x3 : Int32) (r1 : Int32) (y71_4 : Int32) (g88 : (Nat → Int32) → Int64 → (Nat → Nat → Int32) → Int32 → Int32 → Option (Int32 × (Nat → Int32) × Int64 × (Nat → Nat → Int32))) (h_x1 : 0 ≤ x1.toInt ∧ x1.toInt ≤ 5) (h_x2 : 0 ≤ x2.toInt ∧ x2.toInt ≤ 19) (h_y71_4 : 0 ≤ y71_4.toInt ∧ y71_4.toInt ≤ 119)  : ∀ (fu : Nat) (I0_l126 : (Nat → Int32)) (L0_l126 : Int64) (M0_l126 : (Nat → Nat → Int32)) (y126_6 : Int32) (y126_7 : Int32) (y126_8 : Int32), (0 ≤ y126_8.toInt ∧ y126_8.toInt ≤ 7) → (KX12 I0_l126 M0_l126) → (7 - y126_8.toInt) < (fu : Int) → wq (fX12_possible_L126 N x1 x2 x3 r1 y71_4 g88 fu I0_l126 L0_l126 M0_l126 y126_6 y126_7 y126_8) (fun r => KX12 r.2.1 r.2.2.2 ∧ True) := by
  intro fu
  induction fu with
  | zero => intro I0_l126 L0_l126 M0_l126 y126_6 y126_7 y126_8 h_y126_8 k_I0_l126 hm; exfalso; omega
  | succ fu ih =>
    intro I0_l126 L0_l126 M0_l126 y126_6 y126_7 y126_8 h_y126_8 k_I0_l126 hm
    rw [fX12_possible_L126.eq_2]
    have t_50822 := KX12.i1 k_I0_l126
    refine wq_le (fun hc_50823 => ?_) (fun hc_50824 => ?_)
    · have b_50825 := i32b x3
      have l_0 := il_0
      refine wq_eq (fun hc_50826 => ?_) (fun hc_50827 => ?_)
      · have b_50828 := i32b y126_6
        exact wq_s ⟨k_I0_l126, trivial⟩
      · have b_50829 := i32b y126_7
        exact wq_s ⟨k_I0_l126, trivial⟩
    · have l_2 := il_2
      refine wq_b (tt_fX12_agrees hN I0_l126 L0_l126 M0_l126 y71_4 (2 : Int32) y126_8 ⟨by omega, by omega⟩ k_I0_l126 (by omega)) (fun r5_q50830 h_r5_q50830 => ?_)
      obtain ⟨-⟩ := h_r5_q50830
      have b_50831 := i32b r5_q50830
      have b_50832 := i32b r1
      refine wq_eq (fun hc_50833 => ?_) (fun hc_50834 => ?_)
      · refine wq_v (fun v6_q50835 h_v6_q50835 => ?_)
        have t_v6_q50835 := congrArg Int32.toInt h_v6_q50835
        have b_50836 := i32b x3
        have b_50837 := i32b v6_q50835
        have b_50838 := i32b y126_7
        have l_0 := il_0
        exact tt_fX12_possible_L164 hN x1 x2 x3 r1 v6_q50835 y126_7 y126_8 y71_4 g88 _ ⟨by omega, by omega⟩ ⟨by omega, by omega⟩ ⟨by omega, by omega⟩ ⟨by omega, by omega⟩ (fun q0 q1 q2 q3 q4 q5 hq0 hq1 hq2 => ih q0 q1 q2 q3 q4 q5 hq0 hq1 (by omega)) N I0_l126 L0_l126 M0_l126 (0 : Int32) (0 : Int32) ⟨by omega, by omega⟩ ⟨by omega, by omega⟩ k_I0_l126 (by omega) (by omega)
      · have l_1 := il_1
        have t_50840 := ia_add y126_8 (1 : Int32) (by omega) (by omega)
        refine wq_v (fun v11_q50839 h_v11_q50839 => ?_)
        have t_v11_q50839 := congrArg Int32.toInt h_v11_q50839
        have b_50841 := i32b y126_6
        have b_50842 := i32b y126_7
        exact ih I0_l126 L0_l126 M0_l126 y126_6 y126_7 v11_q50839 ⟨by omega, by omega⟩ k_I0_l126 (by omega)
set_option maxHeartbeats 4000000 in
theorem tt_fX12_possible_L88 {N : Nat} (hN : 3000000000 ≤ N) (x1 : Int32) (x2 : Int32) (x3 : Int32) (r1 : Int32) (y71_4 : Int32) (h_x1 : 0 ≤ x1.toInt ∧ x1.toInt ≤ 5) (h_x2 : 0 ≤ x2.toInt ∧ x2.toInt ≤ 19) (h_y71_4 : 0 ≤ y71_4.toInt ∧ y71_4.toInt ≤ 119)  : ∀ (fu : Nat) (I0_l88 : (Nat → Int32)) (L0_l88 : Int64) (M0_l88 : (Nat → Nat → Int32)) (y88_6 : Int32) (y88_8 : Int32), (0 ≤ y88_6.toInt ∧ y88_6.toInt ≤ 255) → (0 ≤ y88_8.toInt ∧ y88_8.toInt ≤ 2) → (KX12 I0_l88 M0_l88) → (2 - y88_8.toInt) < (fu : Int) → wq (fX12_possible_L88 N x1 x2 x3 r1 y71_4 fu I0_l88 L0_l88 M0_l88 y88_6 y88_8) (fun r => KX12 r.2.1 r.2.2.2 ∧ True) := by
  intro fu
  induction fu with
  | zero => intro I0_l88 L0_l88 M0_l88 y88_6 y88_8 h_y88_6 h_y88_8 k_I0_l88 hm; exfalso; omega
  | succ fu ih =>
    intro I0_l88 L0_l88 M0_l88 y88_6 y88_8 h_y88_6 h_y88_8 k_I0_l88 hm
    rw [fX12_possible_L88.eq_2]
    have l_2 := il_2
    refine wq_le (fun hc_50843 => ?_) (fun hc_50844 => ?_)
    · have b_50845 := i32b x3
      have b_50846 := i32b r1
      have l_0 := il_0
      exact tt_fX12_possible_L126 hN x1 x2 x3 r1 y71_4 _ ⟨by omega, by omega⟩ ⟨by omega, by omega⟩ ⟨by omega, by omega⟩ N I0_l88 L0_l88 M0_l88 y88_6 (0 : Int32) (0 : Int32) ⟨by omega, by omega⟩ k_I0_l88 (by omega)
    · have l_0 := il_0
      have t_50847 := KX12.i1 k_I0_l88
      refine wq_b (tt_fX12_agrees hN I0_l88 L0_l88 M0_l88 y71_4 y88_8 (0 : Int32) ⟨by omega, by omega⟩ k_I0_l88 (by omega)) (fun r12_q50848 h_r12_q50848 => ?_)
      obtain ⟨-⟩ := h_r12_q50848
      have b_50849 := i32b r12_q50848
      have b_50850 := i32b r1
      refine wq_eq (fun hc_50851 => ?_) (fun hc_50852 => ?_)
      · have t_50854 := or_sh y88_6 y88_8 ⟨by omega, by omega⟩ ⟨by omega, by omega⟩
        refine wq_v (fun v14_q50853 h_v14_q50853 => ?_)
        have t_v14_q50853 := congrArg Int32.toInt h_v14_q50853
        have l_1 := il_1
        have t_50856 := ia_add y88_8 (1 : Int32) (by omega) (by omega)
        refine wq_v (fun v15_q50855 h_v15_q50855 => ?_)
        have t_v15_q50855 := congrArg Int32.toInt h_v15_q50855
        exact ih I0_l88 L0_l88 M0_l88 v14_q50853 v15_q50855 ⟨by omega, by omega⟩ ⟨by omega, by omega⟩ k_I0_l88 (by omega)
      · have l_1 := il_1
        have t_50858 := ia_add y88_8 (1 : Int32) (by omega) (by omega)
        refine wq_v (fun v13_q50857 h_v13_q50857 => ?_)
        have t_v13_q50857 := congrArg Int32.toInt h_v13_q50857
        exact ih I0_l88 L0_l88 M0_l88 y88_6 v13_q50857 ⟨by omega, by omega⟩ ⟨by omega, by omega⟩ k_I0_l88 (by omega)
set_option maxHeartbeats 4000000 in
theorem tt_fX12_possible {N : Nat} (hN : 3000000000 ≤ N) (I0 : Nat → Int32) (L0 : Int64) (M0 : Nat → Nat → Int32) (x1 : Int32) (x2 : Int32) (x3 : Int32) (k_I0 : KX12 I0 M0) : wq (fX12_possible N I0 L0 M0 x1 x2 x3) (fun r => KX12 r.2.1 r.2.2.2 ∧ True) := by
  unfold fX12_possible
  have b_50859 := i32b x1
  have b_50860 := i32b x2
  refine wq_b (tt_fX12_isWheel hN I0 L0 M0 x1 x2 k_I0) (fun r20_q50861 h_r20_q50861 => ?_)
  obtain ⟨h_r20_q50861_0, h_r20_q50861_1, h_r20_q50861_2, h_r20_q50861_3, -⟩ := h_r20_q50861
  have t_50862 := KX12.i1 h_r20_q50861_3
  have t_50863 := KX12.i1 k_I0
  have l_0 := il_0
  refine wq_eq (fun hc_50864 => ?_) (fun hc_50865 => ?_)
  · exact wq_s ⟨h_r20_q50861_3, trivial⟩
  · have b_50866 := i32b x3
    refine wq_eq (fun hc_50867 => ?_) (fun hc_50868 => ?_)
    · unfold fX12_possible_J19
      unfold fX12_possible_J24
      have l_1 := il_1
      refine wq_b (tt_fX12_right hN r20_q50861.2.1 r20_q50861.2.2.1 r20_q50861.2.2.2 (1 : Int32) (1 : Int32) ⟨by omega, by omega⟩ h_r20_q50861_3) (fun r16_q50869 h_r16_q50869 => ?_)
      obtain ⟨h_r16_q50869_0, h_r16_q50869_1, h_r16_q50869_2, h_r16_q50869_3, -⟩ := h_r16_q50869
      have t_50870 := KX12.i1 h_r16_q50869_3
      refine wq_eq (fun hc_50871 => ?_) (fun hc_50872 => ?_)
      · exact wq_s ⟨h_r16_q50869_3, trivial⟩
      · have l_20 := il_20
        have t_50874 := ia_mul (20 : Int32) (20) il_20 x1 (by omega) (by omega)
        have t_50875 := ia_add ((20 : Int32) * x1) x2 (by omega) (by omega)
        refine wq_v (fun v17_q50873 h_v17_q50873 => ?_)
        have t_v17_q50873 := congrArg Int32.toInt h_v17_q50873
        have l_7 := il_7
        refine wq_b (tt_fX12_at hN r16_q50869.2.1 r16_q50869.2.2.1 r16_q50869.2.2.2 v17_q50873 (7 : Int32) ⟨by omega, by omega⟩ ⟨by omega, by omega⟩ h_r16_q50869_3) (fun r18_q50876 h_r18_q50876 => ?_)
        obtain ⟨h_r18_q50876_0, h_r18_q50876_1, h_r18_q50876_2, -⟩ := h_r18_q50876
        have l_m1 := il_m1
        refine wq_eq (fun hc_50877 => ?_) (fun hc_50878 => ?_)
        · exact wq_s ⟨h_r16_q50869_3, trivial⟩
        · refine wq_eq (fun hc_50879 => ?_) (fun hc_50880 => ?_)
          · exfalso; omega
          · unfold fX12_possible_J71
            refine wq_b (tt_fX12_housesTold hN r16_q50869.2.1 r16_q50869.2.2.1 r16_q50869.2.2.2 v17_q50873 ⟨by omega, by omega⟩ h_r16_q50869_3) (fun r1_q50881 h_r1_q50881 => ?_)
            obtain ⟨-⟩ := h_r1_q50881
            have b_50882 := i32b r1_q50881
            exact tt_fX12_possible_L88 hN x1 x2 x3 r1_q50881 v17_q50873 ⟨by omega, by omega⟩ ⟨by omega, by omega⟩ ⟨by omega, by omega⟩ N r16_q50869.2.1 r16_q50869.2.2.1 r16_q50869.2.2.2 (0 : Int32) (0 : Int32) ⟨by omega, by omega⟩ ⟨by omega, by omega⟩ h_r16_q50869_3 (by omega)
    · have l_1 := il_1
      refine wq_eq (fun hc_50883 => ?_) (fun hc_50884 => ?_)
      · unfold fX12_possible_J19
        unfold fX12_possible_J24
        refine wq_b (tt_fX12_right hN r20_q50861.2.1 r20_q50861.2.2.1 r20_q50861.2.2.2 (1 : Int32) (1 : Int32) ⟨by omega, by omega⟩ h_r20_q50861_3) (fun r16_q50885 h_r16_q50885 => ?_)
        obtain ⟨h_r16_q50885_0, h_r16_q50885_1, h_r16_q50885_2, h_r16_q50885_3, -⟩ := h_r16_q50885
        have t_50886 := KX12.i1 h_r16_q50885_3
        refine wq_eq (fun hc_50887 => ?_) (fun hc_50888 => ?_)
        · exact wq_s ⟨h_r16_q50885_3, trivial⟩
        · have l_20 := il_20
          have t_50890 := ia_mul (20 : Int32) (20) il_20 x1 (by omega) (by omega)
          have t_50891 := ia_add ((20 : Int32) * x1) x2 (by omega) (by omega)
          refine wq_v (fun v17_q50889 h_v17_q50889 => ?_)
          have t_v17_q50889 := congrArg Int32.toInt h_v17_q50889
          have l_7 := il_7
          refine wq_b (tt_fX12_at hN r16_q50885.2.1 r16_q50885.2.2.1 r16_q50885.2.2.2 v17_q50889 (7 : Int32) ⟨by omega, by omega⟩ ⟨by omega, by omega⟩ h_r16_q50885_3) (fun r18_q50892 h_r18_q50892 => ?_)
          obtain ⟨h_r18_q50892_0, h_r18_q50892_1, h_r18_q50892_2, -⟩ := h_r18_q50892
          have l_m1 := il_m1
          refine wq_eq (fun hc_50893 => ?_) (fun hc_50894 => ?_)
          · exact wq_s ⟨h_r16_q50885_3, trivial⟩
          · refine wq_eq (fun hc_50895 => ?_) (fun hc_50896 => ?_)
            · refine wq_b (tt_fX12_at hN r16_q50885.2.1 r16_q50885.2.2.1 r16_q50885.2.2.2 v17_q50889 (0 : Int32) ⟨by omega, by omega⟩ ⟨by omega, by omega⟩ h_r16_q50885_3) (fun r19_q50897 h_r19_q50897 => ?_)
              obtain ⟨h_r19_q50897_0, h_r19_q50897_1, h_r19_q50897_2, -⟩ := h_r19_q50897
              refine wq_eq (fun hc_50898 => ?_) (fun hc_50899 => ?_)
              · exact wq_s ⟨h_r16_q50885_3, trivial⟩
              · unfold fX12_possible_J71
                refine wq_b (tt_fX12_housesTold hN r16_q50885.2.1 r16_q50885.2.2.1 r16_q50885.2.2.2 v17_q50889 ⟨by omega, by omega⟩ h_r16_q50885_3) (fun r1_q50900 h_r1_q50900 => ?_)
                obtain ⟨-⟩ := h_r1_q50900
                have b_50901 := i32b r1_q50900
                exact tt_fX12_possible_L88 hN x1 x2 x3 r1_q50900 v17_q50889 ⟨by omega, by omega⟩ ⟨by omega, by omega⟩ ⟨by omega, by omega⟩ N r16_q50885.2.1 r16_q50885.2.2.1 r16_q50885.2.2.2 (0 : Int32) (0 : Int32) ⟨by omega, by omega⟩ ⟨by omega, by omega⟩ h_r16_q50885_3 (by omega)
            · exfalso; omega
      · unfold fX12_possible_J24
        refine wq_b (tt_fX12_right hN r20_q50861.2.1 r20_q50861.2.2.1 r20_q50861.2.2.2 (0 : Int32) (1 : Int32) ⟨by omega, by omega⟩ h_r20_q50861_3) (fun r16_q50902 h_r16_q50902 => ?_)
        obtain ⟨h_r16_q50902_0, h_r16_q50902_1, h_r16_q50902_2, h_r16_q50902_3, -⟩ := h_r16_q50902
        have t_50903 := KX12.i1 h_r16_q50902_3
        refine wq_eq (fun hc_50904 => ?_) (fun hc_50905 => ?_)
        · exact wq_s ⟨h_r16_q50902_3, trivial⟩
        · have l_20 := il_20
          have t_50907 := ia_mul (20 : Int32) (20) il_20 x1 (by omega) (by omega)
          have t_50908 := ia_add ((20 : Int32) * x1) x2 (by omega) (by omega)
          refine wq_v (fun v17_q50906 h_v17_q50906 => ?_)
          have t_v17_q50906 := congrArg Int32.toInt h_v17_q50906
          have l_7 := il_7
          refine wq_b (tt_fX12_at hN r16_q50902.2.1 r16_q50902.2.2.1 r16_q50902.2.2.2 v17_q50906 (7 : Int32) ⟨by omega, by omega⟩ ⟨by omega, by omega⟩ h_r16_q50902_3) (fun r18_q50909 h_r18_q50909 => ?_)
          obtain ⟨h_r18_q50909_0, h_r18_q50909_1, h_r18_q50909_2, -⟩ := h_r18_q50909
          have l_m1 := il_m1
          refine wq_eq (fun hc_50910 => ?_) (fun hc_50911 => ?_)
          · exact wq_s ⟨h_r16_q50902_3, trivial⟩
          · refine wq_eq (fun hc_50912 => ?_) (fun hc_50913 => ?_)
            · refine wq_b (tt_fX12_at hN r16_q50902.2.1 r16_q50902.2.2.1 r16_q50902.2.2.2 v17_q50906 (0 : Int32) ⟨by omega, by omega⟩ ⟨by omega, by omega⟩ h_r16_q50902_3) (fun r19_q50914 h_r19_q50914 => ?_)
              obtain ⟨h_r19_q50914_0, h_r19_q50914_1, h_r19_q50914_2, -⟩ := h_r19_q50914
              refine wq_eq (fun hc_50915 => ?_) (fun hc_50916 => ?_)
              · exact wq_s ⟨h_r16_q50902_3, trivial⟩
              · unfold fX12_possible_J71
                refine wq_b (tt_fX12_housesTold hN r16_q50902.2.1 r16_q50902.2.2.1 r16_q50902.2.2.2 v17_q50906 ⟨by omega, by omega⟩ h_r16_q50902_3) (fun r1_q50917 h_r1_q50917 => ?_)
                obtain ⟨-⟩ := h_r1_q50917
                have b_50918 := i32b r1_q50917
                exact tt_fX12_possible_L88 hN x1 x2 x3 r1_q50917 v17_q50906 ⟨by omega, by omega⟩ ⟨by omega, by omega⟩ ⟨by omega, by omega⟩ N r16_q50902.2.1 r16_q50902.2.2.1 r16_q50902.2.2.2 (0 : Int32) (0 : Int32) ⟨by omega, by omega⟩ ⟨by omega, by omega⟩ h_r16_q50902_3 (by omega)
            · unfold fX12_possible_J71
              refine wq_b (tt_fX12_housesTold hN r16_q50902.2.1 r16_q50902.2.2.1 r16_q50902.2.2.2 v17_q50906 ⟨by omega, by omega⟩ h_r16_q50902_3) (fun r1_q50919 h_r1_q50919 => ?_)
              obtain ⟨-⟩ := h_r1_q50919
              have b_50920 := i32b r1_q50919
              exact tt_fX12_possible_L88 hN x1 x2 x3 r1_q50919 v17_q50906 ⟨by omega, by omega⟩ ⟨by omega, by omega⟩ ⟨by omega, by omega⟩ N r16_q50902.2.1 r16_q50902.2.2.1 r16_q50902.2.2.2 (0 : Int32) (0 : Int32) ⟨by omega, by omega⟩ ⟨by omega, by omega⟩ h_r16_q50902_3 (by omega)

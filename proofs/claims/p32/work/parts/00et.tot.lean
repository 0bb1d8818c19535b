set_option maxHeartbeats 4000000 in
theorem tt_fX12_agrees_L6 {N : Nat} (hN : 3000000000 ≤ N) (I0 : Nat → Int32) (L0 : Int64) (M0 : Nat → Nat → Int32) (x1 : Int32) (x2 : Int32) (x3 : Int32) (h_x1 : 0 ≤ x1.toInt ∧ x1.toInt ≤ 119) (k_I0 : KX12 I0 M0) (hr_2 : ((0 ≤ x2.toInt ∧ x2.toInt ≤ 1) ∨ (0 ≤ x3.toInt ∧ x3.toInt < (I0 1).toInt)))  : ∀ (fu : Nat) (y6_4 : Int32) (y6_5 : Int32), (1 ≤ y6_5.toInt ∧ y6_5.toInt ≤ 13) → (13 - y6_5.toInt) < (fu : Int) → wq (fX12_agrees_L6 N I0 L0 M0 x1 x2 x3 fu y6_4 y6_5) (fun r => True) := by
  intro fu
  induction fu with
  | zero => intro y6_4 y6_5 h_y6_5 hm; exfalso; omega
  | succ fu ih =>
    intro y6_4 y6_5 h_y6_5 hm
    rw [fX12_agrees_L6.eq_2]
    have l_12 := il_12
    refine wq_lt (fun hc_47825 => ?_) (fun hc_47826 => ?_)
    · have b_47827 := i32b y6_4
      exact wq_s trivial
    · have l_9 := il_9
      have t_47828 := ia_add (9 : Int32) y6_5 (by omega) (by omega)
      have l_1 := il_1
      have t_47829 := ia_sub ((9 : Int32) + y6_5) (1 : Int32) (by omega) (by omega)
      refine wq_b (tt_fX12_at hN I0 L0 M0 x1 (((9 : Int32) + y6_5) - (1 : Int32)) ⟨by omega, by omega⟩ ⟨by omega, by omega⟩ k_I0) (fun r1_q47830 h_r1_q47830 => ?_)
      obtain ⟨h_r1_q47830_0, h_r1_q47830_1, h_r1_q47830_2, -⟩ := h_r1_q47830
      have l_m1 := il_m1
      refine wq_eq (fun hc_47831 => ?_) (fun hc_47832 => ?_)
      · have t_47834 := ia_add y6_5 (1 : Int32) (by omega) (by omega)
        refine wq_v (fun v2_q47833 h_v2_q47833 => ?_)
        have t_v2_q47833 := congrArg Int32.toInt h_v2_q47833
        have b_47835 := i32b y6_4
        exact ih y6_4 v2_q47833 ⟨by omega, by omega⟩ (by omega)
      · have l_7 := il_7
        refine wq_b (tt_fX12_at hN I0 L0 M0 x1 (7 : Int32) ⟨by omega, by omega⟩ ⟨by omega, by omega⟩ k_I0) (fun r3_q47836 h_r3_q47836 => ?_)
        obtain ⟨h_r3_q47836_0, h_r3_q47836_1, h_r3_q47836_2, -⟩ := h_r3_q47836
        have b_47837 := i32b x2
        have b_47838 := i32b x3
        have t_47839 := KX12.i1 k_I0
        refine wq_b (tt_fX12_houseAt hN I0 L0 M0 r3_q47836 x2 x3 y6_5 ⟨by omega, by omega⟩ ⟨by omega, by omega⟩ k_I0 (by omega)) (fun r4_q47840 h_r4_q47840 => ?_)
        obtain ⟨h_r4_q47840_0, -⟩ := h_r4_q47840
        refine wq_eq (fun hc_47841 => ?_) (fun hc_47842 => ?_)
        · have b_47844 := i32b y6_4
          refine wq_v (fun v6_q47843 h_v6_q47843 => ?_)
          have t_v6_q47843 := congrArg Int32.toInt h_v6_q47843
          have t_47846 := ia_add y6_5 (1 : Int32) (by omega) (by omega)
          refine wq_v (fun v7_q47845 h_v7_q47845 => ?_)
          have t_v7_q47845 := congrArg Int32.toInt h_v7_q47845
          have b_47847 := i32b v6_q47843
          exact ih v6_q47843 v7_q47845 ⟨by omega, by omega⟩ (by omega)
        · have t_47849 := ia_add y6_5 (1 : Int32) (by omega) (by omega)
          refine wq_v (fun v5_q47848 h_v5_q47848 => ?_)
          have t_v5_q47848 := congrArg Int32.toInt h_v5_q47848
          have b_47850 := i32b y6_4
          exact ih y6_4 v5_q47848 ⟨by omega, by omega⟩ (by omega)
set_option maxHeartbeats 4000000 in
theorem tt_fX12_agrees {N : Nat} (hN : 3000000000 ≤ N) (I0 : Nat → Int32) (L0 : Int64) (M0 : Nat → Nat → Int32) (x1 : Int32) (x2 : Int32) (x3 : Int32) (h_x1 : 0 ≤ x1.toInt ∧ x1.toInt ≤ 119) (k_I0 : KX12 I0 M0) (hr_2 : ((0 ≤ x2.toInt ∧ x2.toInt ≤ 1) ∨ (0 ≤ x3.toInt ∧ x3.toInt < (I0 1).toInt))) : wq (fX12_agrees N I0 L0 M0 x1 x2 x3) (fun r => True) := by
  unfold fX12_agrees
  have b_47851 := i32b x2
  have b_47852 := i32b x3
  have l_0 := il_0
  have l_1 := il_1
  have t_47853 := KX12.i1 k_I0
  exact tt_fX12_agrees_L6 hN I0 L0 M0 x1 x2 x3 ⟨by omega, by omega⟩ k_I0 (by omega) N (0 : Int32) (1 : Int32) ⟨by omega, by omega⟩ (by omega)
set_option maxHeartbeats 4000000 in
theorem tt_fX12_housesTold_L4 {N : Nat} (hN : 3000000000 ≤ N) (I0 : Nat → Int32) (L0 : Int64) (M0 : Nat → Nat → Int32) (x1 : Int32) (h_x1 : 0 ≤ x1.toInt ∧ x1.toInt ≤ 119) (k_I0 : KX12 I0 M0)  : ∀ (fu : Nat) (y4_2 : Int32) (y4_3 : Int32), (1 ≤ y4_3.toInt ∧ y4_3.toInt ≤ 13) → (13 - y4_3.toInt) < (fu : Int) → wq (fX12_housesTold_L4 N I0 L0 M0 x1 fu y4_2 y4_3) (fun r => True) := by
  intro fu
  induction fu with
  | zero => intro y4_2 y4_3 h_y4_3 hm; exfalso; omega
  | succ fu ih =>
    intro y4_2 y4_3 h_y4_3 hm
    rw [fX12_housesTold_L4.eq_2]
    have l_12 := il_12
    refine wq_lt (fun hc_48167 => ?_) (fun hc_48168 => ?_)
    · have b_48169 := i32b y4_2
      exact wq_s trivial
    · have l_9 := il_9
      have t_48170 := ia_add (9 : Int32) y4_3 (by omega) (by omega)
      have l_1 := il_1
      have t_48171 := ia_sub ((9 : Int32) + y4_3) (1 : Int32) (by omega) (by omega)
      refine wq_b (tt_fX12_at hN I0 L0 M0 x1 (((9 : Int32) + y4_3) - (1 : Int32)) ⟨by omega, by omega⟩ ⟨by omega, by omega⟩ k_I0) (fun r1_q48172 h_r1_q48172 => ?_)
      obtain ⟨h_r1_q48172_0, h_r1_q48172_1, h_r1_q48172_2, -⟩ := h_r1_q48172
      have l_m1 := il_m1
      refine wq_eq (fun hc_48173 => ?_) (fun hc_48174 => ?_)
      · have b_48176 := i32b y4_2
        have l_0 := il_0
        have t_48177 := ia_add y4_2 (0 : Int32) (by omega) (by omega)
        refine wq_v (fun v2_q48175 h_v2_q48175 => ?_)
        have t_v2_q48175 := congrArg Int32.toInt h_v2_q48175
        have t_48179 := ia_add y4_3 (1 : Int32) (by omega) (by omega)
        refine wq_v (fun v3_q48178 h_v3_q48178 => ?_)
        have t_v3_q48178 := congrArg Int32.toInt h_v3_q48178
        have b_48180 := i32b v2_q48175
        exact ih v2_q48175 v3_q48178 ⟨by omega, by omega⟩ (by omega)
      · have b_48182 := i32b y4_2
        refine wq_v (fun v4_q48181 h_v4_q48181 => ?_)
        have t_v4_q48181 := congrArg Int32.toInt h_v4_q48181
        have t_48184 := ia_add y4_3 (1 : Int32) (by omega) (by omega)
        refine wq_v (fun v5_q48183 h_v5_q48183 => ?_)
        have t_v5_q48183 := congrArg Int32.toInt h_v5_q48183
        have b_48185 := i32b v4_q48181
        exact ih v4_q48181 v5_q48183 ⟨by omega, by omega⟩ (by omega)
set_option maxHeartbeats 4000000 in
theorem tt_fX12_housesTold {N : Nat} (hN : 3000000000 ≤ N) (I0 : Nat → Int32) (L0 : Int64) (M0 : Nat → Nat → Int32) (x1 : Int32) (h_x1 : 0 ≤ x1.toInt ∧ x1.toInt ≤ 119) (k_I0 : KX12 I0 M0) : wq (fX12_housesTold N I0 L0 M0 x1) (fun r => True) := by
  unfold fX12_housesTold
  have l_0 := il_0
  have l_1 := il_1
  exact tt_fX12_housesTold_L4 hN I0 L0 M0 x1 ⟨by omega, by omega⟩ k_I0 N (0 : Int32) (1 : Int32) ⟨by omega, by omega⟩ (by omega)
set_option maxHeartbeats 4000000 in
theorem tt_fX12_agree {N : Nat} (hN : 3000000000 ≤ N) (I0 : Nat → Int32) (L0 : Int64) (M0 : Nat → Nat → Int32) (x1 : Int32) (x2 : Int32) (x3 : Int32) (x4 : Int32) (k_I0 : KX12 I0 M0) : wq (fX12_agree N I0 L0 M0 x1 x2 x3 x4) (fun r => KX12 r.2.1 r.2.2.2 ∧ True) := by
  unfold fX12_agree
  have b_48306 := i32b x1
  have b_48307 := i32b x2
  refine wq_b (tt_fX12_isWheel hN I0 L0 M0 x1 x2 k_I0) (fun r1_q48308 h_r1_q48308 => ?_)
  obtain ⟨h_r1_q48308_0, h_r1_q48308_1, h_r1_q48308_2, h_r1_q48308_3, -⟩ := h_r1_q48308
  have t_48309 := KX12.i1 h_r1_q48308_3
  have t_48310 := KX12.i1 k_I0
  have l_0 := il_0
  refine wq_eq (fun hc_48311 => ?_) (fun hc_48312 => ?_)
  · exact wq_s ⟨h_r1_q48308_3, trivial⟩
  · have b_48313 := i32b x3
    have b_48314 := i32b x4
    refine wq_b (tt_fX12_isWay hN r1_q48308.2.1 r1_q48308.2.2.1 r1_q48308.2.2.2 x3 x4 h_r1_q48308_3) (fun r2_q48315 h_r2_q48315 => ?_)
    obtain ⟨h_r2_q48315_0, h_r2_q48315_1, h_r2_q48315_2, h_r2_q48315_3, -⟩ := h_r2_q48315
    have t_48316 := KX12.i1 h_r2_q48315_3
    refine wq_eq (fun hc_48317 => ?_) (fun hc_48318 => ?_)
    · exact wq_s ⟨h_r2_q48315_3, trivial⟩
    · have l_20 := il_20
      have t_48319 := ia_mul (20 : Int32) (20) il_20 x1 (by omega) (by omega)
      have t_48320 := ia_add ((20 : Int32) * x1) x2 (by omega) (by omega)
      have l_7 := il_7
      refine wq_b (tt_fX12_at hN r2_q48315.2.1 r2_q48315.2.2.1 r2_q48315.2.2.2 (((20 : Int32) * x1) + x2) (7 : Int32) ⟨by omega, by omega⟩ ⟨by omega, by omega⟩ h_r2_q48315_3) (fun r3_q48321 h_r3_q48321 => ?_)
      obtain ⟨h_r3_q48321_0, h_r3_q48321_1, h_r3_q48321_2, -⟩ := h_r3_q48321
      have l_m1 := il_m1
      refine wq_eq (fun hc_48322 => ?_) (fun hc_48323 => ?_)
      · exact wq_s ⟨h_r2_q48315_3, trivial⟩
      · refine wq_b (tt_fX12_agrees hN r2_q48315.2.1 r2_q48315.2.2.1 r2_q48315.2.2.2 (((20 : Int32) * x1) + x2) x3 x4 ⟨by omega, by omega⟩ h_r2_q48315_3 (by omega)) (fun r4_q48324 h_r4_q48324 => ?_)
        obtain ⟨-⟩ := h_r4_q48324
        have b_48325 := i32b r4_q48324
        exact wq_s ⟨h_r2_q48315_3, trivial⟩
set_option maxHeartbeats 4000000 in
theorem tt_fX12_possible_L164 {N : Nat} (hN : 3000000000 ≤ N) (x1 : Int32) (x2 : Int32) (x3 : Int32) (r1 : Int32) (v6 : Int32) (y126_7 : Int32) (y126_8 : Int32) (y71_4 : Int32) (g88 : (Nat → Int32) → Int64 → (Nat → Nat → Int32) → Int32 → Int32 → Option (Int32 × (Nat → Int32) × Int64 × (Nat → Nat → Int32))) (g126 : (Nat → Int32) → Int64 → (Nat → Nat → Int32) → Int32 → Int32 → Int32 → Option (Int32 × (Nat → Int32) × Int64 × (Nat → Nat → Int32))) (h_x1 : 0 ≤ x1.toInt ∧ x1.toInt ≤ 5) (h_x2 : 0 ≤ x2.toInt ∧ x2.toInt ≤ 19) (h_y126_8 : 0 ≤ y126_8.toInt ∧ y126_8.toInt ≤ 6) (h_y71_4 : 0 ≤ y71_4.toInt ∧ y71_4.toInt ≤ 119) (hg126 : ∀ (q0 : (Nat → Int32)) (q1 : Int64) (q2 : (Nat → Nat → Int32)) (q3 : Int32) (q4 : Int32) (q5 : Int32), (0 ≤ q5.toInt ∧ q5.toInt ≤ 7) → (KX12 q0 q2) → (y126_8.toInt < q5.toInt) → wq (g126 q0 q1 q2 q3 q4 q5) (fun r => KX12 r.2.1 r.2.2.2 ∧ True)) : ∀ (fu : Nat) (I0_l164 : (Nat → Int32)) (L0_l164 : Int64) (M0_l164 : (Nat → Nat → Int32)) (y164_9 : Int32) (y164_10 : Int32), (0 ≤ y164_9.toInt ∧ y164_9.toInt ≤ 1) → (0 ≤ y164_10.toInt ∧ y164_10.toInt ≤ 360) → (KX12 I0_l164 M0_l164) → (y126_8.toInt < (I0_l164 1).toInt) → (360 - y164_10.toInt) < (fu : Int) → wq (fX12_possible_L164 N x1 x2 x3 r1 v6 y126_7 y126_8 y71_4 g88 g126 fu I0_l164 L0_l164 M0_l164 y164_9 y164_10) (fun r => KX12 r.2.1 r.2.2.2 ∧ True) := by
  intro fu
  induction fu with
  | zero => intro I0_l164 L0_l164 M0_l164 y164_9 y164_10 h_y164_9 h_y164_10 k_I0_l164 hl_3 hm; exfalso; omega
  | succ fu ih =>
    intro I0_l164 L0_l164 M0_l164 y164_9 y164_10 h_y164_9 h_y164_10 k_I0_l164 hl_3 hm
    rw [fX12_possible_L164.eq_2]
    have l_360 := il_360
    refine wq_le (fun hc_50780 => ?_) (fun hc_50781 => ?_)
    · unfold fX12_possible_J208
      have l_0 := il_0
      refine wq_eq (fun hc_50782 => ?_) (fun hc_50783 => ?_)
      · have l_1 := il_1
        have t_50785 := ia_add y126_8 (1 : Int32) (by omega) (by omega)
        refine wq_v (fun v2_q50784 h_v2_q50784 => ?_)
        have t_v2_q50784 := congrArg Int32.toInt h_v2_q50784
        have b_50786 := i32b v6
        have b_50787 := i32b y126_7
        exact hg126 I0_l164 L0_l164 M0_l164 v6 y126_7 v2_q50784 ⟨by omega, by omega⟩ k_I0_l164 (by omega)
      · have b_50789 := i32b y126_7
        refine wq_v (fun v3_q50788 h_v3_q50788 => ?_)
        have t_v3_q50788 := congrArg Int32.toInt h_v3_q50788
        have l_1 := il_1
        have t_50791 := ia_add y126_8 (1 : Int32) (by omega) (by omega)
        refine wq_v (fun v4_q50790 h_v4_q50790 => ?_)
        have t_v4_q50790 := congrArg Int32.toInt h_v4_q50790
        have b_50792 := i32b v6
        have b_50793 := i32b v3_q50788
        exact hg126 I0_l164 L0_l164 M0_l164 v6 v3_q50788 v4_q50790 ⟨by omega, by omega⟩ k_I0_l164 (by omega)
    · have b_50794 := i32b x3
      have l_1 := il_1
      refine wq_eq (fun hc_50795 => ?_) (fun hc_50796 => ?_)
      · have l_0 := il_0
        refine wq_eq (fun hc_50797 => ?_) (fun hc_50798 => ?_)
        · have t_50799 := KX12.i1 k_I0_l164
          refine wq_b (tt_fX12_isHour hN I0_l164 L0_l164 M0_l164 y71_4 y126_8 y164_10 ⟨by omega, by omega⟩ ⟨by omega, by omega⟩ ⟨by omega, by omega⟩ k_I0_l164 (by omega)) (fun r8_q50800 h_r8_q50800 => ?_)
          obtain ⟨h_r8_q50800_0, -⟩ := h_r8_q50800
          refine wq_eq (fun hc_50801 => ?_) (fun hc_50802 => ?_)
          · have t_50804 := ia_add y164_10 (1 : Int32) (by omega) (by omega)
            refine wq_v (fun v9_q50803 h_v9_q50803 => ?_)
            have t_v9_q50803 := congrArg Int32.toInt h_v9_q50803
            exact ih I0_l164 L0_l164 M0_l164 (0 : Int32) v9_q50803 ⟨by omega, by omega⟩ ⟨by omega, by omega⟩ k_I0_l164 (by omega) (by omega)
          · have t_50806 := ia_add y164_10 (1 : Int32) (by omega) (by omega)
            refine wq_v (fun v10_q50805 h_v10_q50805 => ?_)
            have t_v10_q50805 := congrArg Int32.toInt h_v10_q50805
            exact ih I0_l164 L0_l164 M0_l164 (1 : Int32) v10_q50805 ⟨by omega, by omega⟩ ⟨by omega, by omega⟩ k_I0_l164 (by omega) (by omega)
        · have t_50808 := ia_add y164_10 (1 : Int32) (by omega) (by omega)
          refine wq_v (fun v7_q50807 h_v7_q50807 => ?_)
          have t_v7_q50807 := congrArg Int32.toInt h_v7_q50807
          have t_50809 := KX12.i1 k_I0_l164
          exact ih I0_l164 L0_l164 M0_l164 (1 : Int32) v7_q50807 ⟨by omega, by omega⟩ ⟨by omega, by omega⟩ k_I0_l164 (by omega) (by omega)
      · unfold fX12_possible_J208
        have l_0 := il_0
        refine wq_eq (fun hc_50810 => ?_) (fun hc_50811 => ?_)
        · have t_50813 := ia_add y126_8 (1 : Int32) (by omega) (by omega)
          refine wq_v (fun v2_q50812 h_v2_q50812 => ?_)
          have t_v2_q50812 := congrArg Int32.toInt h_v2_q50812
          have b_50814 := i32b v6
          have b_50815 := i32b y126_7
          exact hg126 I0_l164 L0_l164 M0_l164 v6 y126_7 v2_q50812 ⟨by omega, by omega⟩ k_I0_l164 (by omega)
        · have b_50817 := i32b y126_7
          refine wq_v (fun v3_q50816 h_v3_q50816 => ?_)
          have t_v3_q50816 := congrArg Int32.toInt h_v3_q50816
          have t_50819 := ia_add y126_8 (1 : Int32) (by omega) (by omega)
          refine wq_v (fun v4_q50818 h_v4_q50818 => ?_)
          have t_v4_q50818 := congrArg Int32.toInt h_v4_q50818
          have b_50820 := i32b v6
          have b_50821 := i32b v3_q50816
          exact hg126 I0_l164 L0_l164 M0_l164 v6 v3_q50816 v4_q50818 ⟨by omega, by omega⟩ k_I0_l164 (by omega)
set_option maxHeartbeats 4000000 in
theorem tt_fX12_possible_L126 {N : Nat} (hN : 3000000000 ≤ N) (x1 : Int32) (x2 : Int32) (x3 : Int32) (r1 : Int32) (y71_4 : Int32) (g88 : (Nat → Int32) → Int64 → (Nat → Nat → Int32) → Int32 → Int32 → Option (Int32 × (Nat → Int32) × Int64 × (Nat → Nat → Int32))) (h_x1 : 0 ≤ x1.toInt ∧ x1.toInt ≤ 5) (h_x2 : 0 ≤ x2.toInt ∧ x2.toInt ≤ 19) (h_y71_4 : 0 ≤ y71_4.toInt ∧ y71_4.toInt ≤ 119)  : ∀ (fu : Nat) (I0_l126 : (Nat → Int32)) (L0_l126 : Int64) (M0_l126 : (Nat → Nat → Int32)) (y126_6 : Int32) (y126_7 : Int32) (y126_8 : Int32), (0 ≤ y126_8.toInt ∧ y126_8.toInt ≤ 7) → (KX12 I0_l126 M0_l126) → (7 - y126_8.toInt) < (fu : Int) → wq (fX12_possible_L126 N x1 x2 x3 r1 y71_4 g88 fu I0_l126 L0_l126 M0_l126 y126_6 y126_7 y126_8) (fun r => KX12 r.2.1 r.2.2.2 ∧ True) := by
  intro fu
  induction fu with
  | zero => intro I0_l126 L0_l126 M0_l126 y126_6 y126_7 y126_8 h_y126_8 k_I0_l126 hm; exfalso; omega
  | succ fu ih =>
    intro I0_l126 L0_l126 M0_l126 y126_6 y126_7 y126_8 h_y126_8 k_I0_l126 hm
    rw [fX12_possible_L126.eq_2]
    have t_50822 := KX12.i1 k_I0_l126
    refine wq_le (fun hc_50823 => ?_) (fun hc_50824 => ?_)
    · have b_50825 := i32b x3
      have l_0 := il_0
      refine wq_eq (fun hc_50826 => ?_) (fun hc_50827 => ?_)
      · have b_50828 := i32b y126_6
        exact wq_s ⟨k_I0_l126, trivial⟩
      · have b_50829 := i32b y126_7
        exact wq_s ⟨k_I0_l126, trivial⟩
    · have l_2 := il_2
      refine wq_b (tt_fX12_agrees hN I0_l126 L0_l126 M0_l126 y71_4 (2 : Int32) y126_8 ⟨by omega, by omega⟩ k_I0_l126 (by omega)) (fun r5_q50830 h_r5_q50830 => ?_)
      obtain ⟨-⟩ := h_r5_q50830
      have b_50831 := i32b r5_q50830
      have b_50832 := i32b r1
      refine wq_eq (fun hc_50833 => ?_) (fun hc_50834 => ?_)
      · refine wq_v (fun v6_q50835 h_v6_q50835 => ?_)
        have t_v6_q50835 := congrArg Int32.toInt h_v6_q50835
        have b_50836 := i32b x3
        have b_50837 := i32b v6_q50835
        have b_50838 := i32b y126_7
        have l_0 := il_0
        exact tt_fX12_possible_L164 hN x1 x2 x3 r1 v6_q50835 y126_7 y126_8 y71_4 g88 _ ⟨by omega, by omega⟩ ⟨by omega, by omega⟩ ⟨by omega, by omega⟩ ⟨by omega, by omega⟩ (fun q0 q1 q2 q3 q4 q5 hq0 hq1 hq2 => ih q0 q1 q2 q3 q4 q5 hq0 hq1 (by omega)) N I0_l126 L0_l126 M0_l126 (0 : Int32) (0 : Int32) ⟨by omega, by omega⟩ ⟨by omega, by omega⟩ k_I0_l126 (by omega) (by omega)
      · have l_1 := il_1
        have t_50840 := ia_add y126_8 (1 : Int32) (by omega) (by omega)
        refine wq_v (fun v11_q50839 h_v11_q50839 => ?_)
        have t_v11_q50839 := congrArg Int32.toInt h_v11_q50839
        have b_50841 := i32b y126_6
        have b_50842 := i32b y126_7
        exact ih I0_l126 L0_l126 M0_l126 y126_6 y126_7 v11_q50839 ⟨by omega, by omega⟩ k_I0_l126 (by omega)
set_option maxHeartbeats 4000000 in
theorem tt_fX12_possible_L88 {N : Nat} (hN : 3000000000 ≤ N) (x1 : Int32) (x2 : Int32) (x3 : Int32) (r1 : Int32) (y71_4 : Int32) (h_x1 : 0 ≤ x1.toInt ∧ x1.toInt ≤ 5) (h_x2 : 0 ≤ x2.toInt ∧ x2.toInt ≤ 19) (h_y71_4 : 0 ≤ y71_4.toInt ∧ y71_4.toInt ≤ 119)  : ∀ (fu : Nat) (I0_l88 : (Nat → Int32)) (L0_l88 : Int64) (M0_l88 : (Nat → Nat → Int32)) (y88_6 : Int32) (y88_8 : Int32), (0 ≤ y88_6.toInt ∧ y88_6.toInt ≤ 255) → (0 ≤ y88_8.toInt ∧ y88_8.toInt ≤ 2) → (KX12 I0_l88 M0_l88) → (2 - y88_8.toInt) < (fu : Int) → wq (fX12_possible_L88 N x1 x2 x3 r1 y71_4 fu I0_l88 L0_l88 M0_l88 y88_6 y88_8) (fun r => KX12 r.2.1 r.2.2.2 ∧ True) := by
  intro fu
  induction fu with
  | zero => intro I0_l88 L0_l88 M0_l88 y88_6 y88_8 h_y88_6 h_y88_8 k_I0_l88 hm; exfalso; omega
  | succ fu ih =>
    intro I0_l88 L0_l88 M0_l88 y88_6 y88_8 h_y88_6 h_y88_8 k_I0_l88 hm
    rw [fX12_possible_L88.eq_2]
    have l_2 := il_2
    refine wq_le (fun hc_50843 => ?_) (fun hc_50844 => ?_)
    · have b_50845 := i32b x3
      have b_50846 := i32b r1
      have l_0 := il_0
      exact tt_fX12_possible_L126 hN x1 x2 x3 r1 y71_4 _ ⟨by omega, by omega⟩ ⟨by omega, by omega⟩ ⟨by omega, by omega⟩ N I0_l88 L0_l88 M0_l88 y88_6 (0 : Int32) (0 : Int32) ⟨by omega, by omega⟩ k_I0_l88 (by omega)
    · have l_0 := il_0
      have t_50847 := KX12.i1 k_I0_l88
      refine wq_b (tt_fX12_agrees hN I0_l88 L0_l88 M0_l88 y71_4 y88_8 (0 : Int32) ⟨by omega, by omega⟩ k_I0_l88 (by omega)) (fun r12_q50848 h_r12_q50848 => ?_)
      obtain ⟨-⟩ := h_r12_q50848
      have b_50849 := i32b r12_q50848
      have b_50850 := i32b r1
      refine wq_eq (fun hc_50851 => ?_) (fun hc_50852 => ?_)
      · have t_50854 := or_sh y88_6 y88_8 ⟨by omega, by omega⟩ ⟨by omega, by omega⟩
        refine wq_v (fun v14_q50853 h_v14_q50853 => ?_)
        have t_v14_q50853 := congrArg Int32.toInt h_v14_q50853
        have l_1 := il_1
        have t_50856 := ia_add y88_8 (1 : Int32) (by omega) (by omega)
        refine wq_v (fun v15_q50855 h_v15_q50855 => ?_)
        have t_v15_q50855 := congrArg Int32.toInt h_v15_q50855
        exact ih I0_l88 L0_l88 M0_l88 v14_q50853 v15_q50855 ⟨by omega, by omega⟩ ⟨by omega, by omega⟩ k_I0_l88 (by omega)
      · have l_1 := il_1
        have t_50858 := ia_add y88_8 (1 : Int32) (by omega) (by omega)
        refine wq_v (fun v13_q50857 h_v13_q50857 => ?_)
        have t_v13_q50857 := congrArg Int32.toInt h_v13_q50857
        exact ih I0_l88 L0_l88 M0_l88 y88_6 v13_q50857 ⟨by omega, by omega⟩ ⟨by omega, by omega⟩ k_I0_l88 (by omega)
set_option maxHeartbeats 4000000 in
theorem tt_fX12_possible {N : Nat} (hN : 3000000000 ≤ N) (I0 : Nat → Int32) (L0 : Int64) (M0 : Nat → Nat → Int32) (x1 : Int32) (x2 : Int32) (x3 : Int32) (k_I0 : KX12 I0 M0) : wq (fX12_possible N I0 L0 M0 x1 x2 x3) (fun r => KX12 r.2.1 r.2.2.2 ∧ True) := by
  unfold fX12_possible
  have b_50859 := i32b x1
  have b_50860 := i32b x2
  refine wq_b (tt_fX12_isWheel hN I0 L0 M0 x1 x2 k_I0) (fun r20_q50861 h_r20_q50861 => ?_)
  obtain ⟨h_r20_q50861_0, h_r20_q50861_1, h_r20_q50861_2, h_r20_q50861_3, -⟩ := h_r20_q50861
  have t_50862 := KX12.i1 h_r20_q50861_3
  have t_50863 := KX12.i1 k_I0
  have l_0 := il_0
  refine wq_eq (fun hc_50864 => ?_) (fun hc_50865 => ?_)
  · exact wq_s ⟨h_r20_q50861_3, trivial⟩
  · have b_50866 := i32b x3
    refine wq_eq (fun hc_50867 => ?_) (fun hc_50868 => ?_)
    · unfold fX12_possible_J19
      unfold fX12_possible_J24
      have l_1 := il_1
      refine wq_b (tt_fX12_right hN r20_q50861.2.1 r20_q50861.2.2.1 r20_q50861.2.2.2 (1 : Int32) (1 : Int32) ⟨by omega, by omega⟩ h_r20_q50861_3) (fun r16_q50869 h_r16_q50869 => ?_)
      obtain ⟨h_r16_q50869_0, h_r16_q50869_1, h_r16_q50869_2, h_r16_q50869_3, -⟩ := h_r16_q50869
      have t_50870 := KX12.i1 h_r16_q50869_3
      refine wq_eq (fun hc_50871 => ?_) (fun hc_50872 => ?_)
      · exact wq_s ⟨h_r16_q50869_3, trivial⟩
      · have l_20 := il_20
        have t_50874 := ia_mul (20 : Int32) (20) il_20 x1 (by omega) (by omega)
        have t_50875 := ia_add ((20 : Int32) * x1) x2 (by omega) (by omega)
        refine wq_v (fun v17_q50873 h_v17_q50873 => ?_)
        have t_v17_q50873 := congrArg Int32.toInt h_v17_q50873
        have l_7 := il_7
        refine wq_b (tt_fX12_at hN r16_q50869.2.1 r16_q50869.2.2.1 r16_q50869.2.2.2 v17_q50873 (7 : Int32) ⟨by omega, by omega⟩ ⟨by omega, by omega⟩ h_r16_q50869_3) (fun r18_q50876 h_r18_q50876 => ?_)
        obtain ⟨h_r18_q50876_0, h_r18_q50876_1, h_r18_q50876_2, -⟩ := h_r18_q50876
        have l_m1 := il_m1
        refine wq_eq (fun hc_50877 => ?_) (fun hc_50878 => ?_)
        · exact wq_s ⟨h_r16_q50869_3, trivial⟩
        · refine wq_eq (fun hc_50879 => ?_) (fun hc_50880 => ?_)
          · exfalso; omega
          · unfold fX12_possible_J71
            refine wq_b (tt_fX12_housesTold hN r16_q50869.2.1 r16_q50869.2.2.1 r16_q50869.2.2.2 v17_q50873 ⟨by omega, by omega⟩ h_r16_q50869_3) (fun r1_q50881 h_r1_q50881 => ?_)
            obtain ⟨-⟩ := h_r1_q50881
            have b_50882 := i32b r1_q50881
            exact tt_fX12_possible_L88 hN x1 x2 x3 r1_q50881 v17_q50873 ⟨by omega, by omega⟩ ⟨by omega, by omega⟩ ⟨by omega, by omega⟩ N r16_q50869.2.1 r16_q50869.2.2.1 r16_q50869.2.2.2 (0 : Int32) (0 : Int32) ⟨by omega, by omega⟩ ⟨by omega, by omega⟩ h_r16_q50869_3 (by omega)
    · have l_1 := il_1
      refine wq_eq (fun hc_50883 => ?_) (fun hc_50884 => ?_)
      · unfold fX12_possible_J19
        unfold fX12_possible_J24
        refine wq_b (tt_fX12_right hN r20_q50861.2.1 r20_q50861.2.2.1 r20_q50861.2.2.2 (1 : Int32) (1 : Int32) ⟨by omega, by omega⟩ h_r20_q50861_3) (fun r16_q50885 h_r16_q50885 => ?_)
        obtain ⟨h_r16_q50885_0, h_r16_q50885_1, h_r16_q50885_2, h_r16_q50885_3, -⟩ := h_r16_q50885
        have t_50886 := KX12.i1 h_r16_q50885_3
        refine wq_eq (fun hc_50887 => ?_) (fun hc_50888 => ?_)
        · exact wq_s ⟨h_r16_q50885_3, trivial⟩
        · have l_20 := il_20
          have t_50890 := ia_mul (20 : Int32) (20) il_20 x1 (by omega) (by omega)
          have t_50891 := ia_add ((20 : Int32) * x1) x2 (by omega) (by omega)
          refine wq_v (fun v17_q50889 h_v17_q50889 => ?_)
          have t_v17_q50889 := congrArg Int32.toInt h_v17_q50889
          have l_7 := il_7
          refine wq_b (tt_fX12_at hN r16_q50885.2.1 r16_q50885.2.2.1 r16_q50885.2.2.2 v17_q50889 (7 : Int32) ⟨by omega, by omega⟩ ⟨by omega, by omega⟩ h_r16_q50885_3) (fun r18_q50892 h_r18_q50892 => ?_)
          obtain ⟨h_r18_q50892_0, h_r18_q50892_1, h_r18_q50892_2, -⟩ := h_r18_q50892
          have l_m1 := il_m1
          refine wq_eq (fun hc_50893 => ?_) (fun hc_50894 => ?_)
          · exact wq_s ⟨h_r16_q50885_3, trivial⟩
          · refine wq_eq (fun hc_50895 => ?_) (fun hc_50896 => ?_)
            · refine wq_b (tt_fX12_at hN r16_q50885.2.1 r16_q50885.2.2.1 r16_q50885.2.2.2 v17_q50889 (0 : Int32) ⟨by omega, by omega⟩ ⟨by omega, by omega⟩ h_r16_q50885_3) (fun r19_q50897 h_r19_q50897 => ?_)
              obtain ⟨h_r19_q50897_0, h_r19_q50897_1, h_r19_q50897_2, -⟩ := h_r19_q50897
              refine wq_eq (fun hc_50898 => ?_) (fun hc_50899 => ?_)
              · exact wq_s ⟨h_r16_q50885_3, trivial⟩
              · unfold fX12_possible_J71
                refine wq_b (tt_fX12_housesTold hN r16_q50885.2.1 r16_q50885.2.2.1 r16_q50885.2.2.2 v17_q50889 ⟨by omega, by omega⟩ h_r16_q50885_3) (fun r1_q50900 h_r1_q50900 => ?_)
                obtain ⟨-⟩ := h_r1_q50900
                have b_50901 := i32b r1_q50900
                exact tt_fX12_possible_L88 hN x1 x2 x3 r1_q50900 v17_q50889 ⟨by omega, by omega⟩ ⟨by omega, by omega⟩ ⟨by omega, by omega⟩ N r16_q50885.2.1 r16_q50885.2.2.1 r16_q50885.2.2.2 (0 : Int32) (0 : Int32) ⟨by omega, by omega⟩ ⟨by omega, by omega⟩ h_r16_q50885_3 (by omega)
            · exfalso; omega
      · unfold fX12_possible_J24
        refine wq_b (tt_fX12_right hN r20_q50861.2.1 r20_q50861.2.2.1 r20_q50861.2.2.2 (0 : Int32) (1 : Int32) ⟨by omega, by omega⟩ h_r20_q50861_3) (fun r16_q50902 h_r16_q50902 => ?_)
        obtain ⟨h_r16_q50902_0, h_r16_q50902_1, h_r16_q50902_2, h_r16_q50902_3, -⟩ := h_r16_q50902
        have t_50903 := KX12.i1 h_r16_q50902_3
        refine wq_eq (fun hc_50904 => ?_) (fun hc_50905 => ?_)
        · exact wq_s ⟨h_r16_q50902_3, trivial⟩
        · have l_20 := il_20
          have t_50907 := ia_mul (20 : Int32) (20) il_20 x1 (by omega) (by omega)
          have t_50908 := ia_add ((20 : Int32) * x1) x2 (by omega) (by omega)
          refine wq_v (fun v17_q50906 h_v17_q50906 => ?_)
          have t_v17_q50906 := congrArg Int32.toInt h_v17_q50906
          have l_7 := il_7
          refine wq_b (tt_fX12_at hN r16_q50902.2.1 r16_q50902.2.2.1 r16_q50902.2.2.2 v17_q50906 (7 : Int32) ⟨by omega, by omega⟩ ⟨by omega, by omega⟩ h_r16_q50902_3) (fun r18_q50909 h_r18_q50909 => ?_)
          obtain ⟨h_r18_q50909_0, h_r18_q50909_1, h_r18_q50909_2, -⟩ := h_r18_q50909
          have l_m1 := il_m1
          refine wq_eq (fun hc_50910 => ?_) (fun hc_50911 => ?_)
          · exact wq_s ⟨h_r16_q50902_3, trivial⟩
          · refine wq_eq (fun hc_50912 => ?_) (fun hc_50913 => ?_)
            · refine wq_b (tt_fX12_at hN r16_q50902.2.1 r16_q50902.2.2.1 r16_q50902.2.2.2 v17_q50906 (0 : Int32) ⟨by omega, by omega⟩ ⟨by omega, by omega⟩ h_r16_q50902_3) (fun r19_q50914 h_r19_q50914 => ?_)
              obtain ⟨h_r19_q50914_0, h_r19_q50914_1, h_r19_q50914_2, -⟩ := h_r19_q50914
              refine wq_eq (fun hc_50915 => ?_) (fun hc_50916 => ?_)
              · exact wq_s ⟨h_r16_q50902_3, trivial⟩
              · unfold fX12_possible_J71
                refine wq_b (tt_fX12_housesTold hN r16_q50902.2.1 r16_q50902.2.2.1 r16_q50902.2.2.2 v17_q50906 ⟨by omega, by omega⟩ h_r16_q50902_3) (fun r1_q50917 h_r1_q50917 => ?_)
                obtain ⟨-⟩ := h_r1_q50917
                have b_50918 := i32b r1_q50917
                exact tt_fX12_possible_L88 hN x1 x2 x3 r1_q50917 v17_q50906 ⟨by omega, by omega⟩ ⟨by omega, by omega⟩ ⟨by omega, by omega⟩ N r16_q50902.2.1 r16_q50902.2.2.1 r16_q50902.2.2.2 (0 : Int32) (0 : Int32) ⟨by omega, by omega⟩ ⟨by omega, by omega⟩ h_r16_q50902_3 (by omega)
            · unfold fX12_possible_J71
              refine wq_b (tt_fX12_housesTold hN r16_q50902.2.1 r16_q50902.2.2.1 r16_q50902.2.2.2 v17_q50906 ⟨by omega, by omega⟩ h_r16_q50902_3) (fun r1_q50919 h_r1_q50919 => ?_)
              obtain ⟨-⟩ := h_r1_q50919
              have b_50920 := i32b r1_q50919
              exact tt_fX12_possible_L88 hN x1 x2 x3 r1_q50919 v17_q50906 ⟨by omega, by omega⟩ ⟨by omega, by omega⟩ ⟨by omega, by omega⟩ N r16_q50902.2.1 r16_q50902.2.2.1 r16_q50902.2.2.2 (0 : Int32) (0 : Int32) ⟨by omega, by omega⟩ ⟨by omega, by omega⟩ h_r16_q50902_3 (by omega)
set_option maxHeartbeats 4000000 in
theorem tt_fX12_lot {N : Nat} (hN : 3000000000 ≤ N) (I0 : Nat → Int32) (L0 : Int64) (M0 : Nat → Nat → Int32) (x1 : Int32) (x2 : Int32) (x3 : Int32) (k_I0 : KX12 I0 M0) : wq (fX12_lot N I0 L0 M0 x1 x2 x3) (fun r => (-1 ≤ r.1.toInt ∧ r.1.toInt ≤ 359) ∧ KX12 r.2.1 r.2.2.2 ∧ True) := by
  unfold fX12_lot
  have b_51887 := i32b x1
  have b_51888 := i32b x2
  refine wq_b (tt_fX12_isWheel hN I0 L0 M0 x1 x2 k_I0) (fun r10_q51889 h_r10_q51889 => ?_)
  obtain ⟨h_r10_q51889_0, h_r10_q51889_1, h_r10_q51889_2, h_r10_q51889_3, -⟩ := h_r10_q51889
  have t_51890 := KX12.i1 h_r10_q51889_3
  have t_51891 := KX12.i1 k_I0
  have l_0 := il_0
  refine wq_eq (fun hc_51892 => ?_) (fun hc_51893 => ?_)
  · exact wq_s ⟨(show -1 ≤ (0 : Int32).toInt ∧ (0 : Int32).toInt ≤ 359 from ⟨by omega, by omega⟩), h_r10_q51889_3, trivial⟩
  · have b_51894 := i32b x3
    refine wq_eq (fun hc_51895 => ?_) (fun hc_51896 => ?_)
    · unfold fX12_lot_J19
      unfold fX12_lot_J24
      have l_1 := il_1
      refine wq_b (tt_fX12_right hN r10_q51889.2.1 r10_q51889.2.2.1 r10_q51889.2.2.2 (1 : Int32) (1 : Int32) ⟨by omega, by omega⟩ h_r10_q51889_3) (fun r4_q51897 h_r4_q51897 => ?_)
      obtain ⟨h_r4_q51897_0, h_r4_q51897_1, h_r4_q51897_2, h_r4_q51897_3, -⟩ := h_r4_q51897
      have t_51898 := KX12.i1 h_r4_q51897_3
      refine wq_eq (fun hc_51899 => ?_) (fun hc_51900 => ?_)
      · exact wq_s ⟨(show -1 ≤ (0 : Int32).toInt ∧ (0 : Int32).toInt ≤ 359 from ⟨by omega, by omega⟩), h_r4_q51897_3, trivial⟩
      · have l_20 := il_20
        have t_51902 := ia_mul (20 : Int32) (20) il_20 x1 (by omega) (by omega)
        have t_51903 := ia_add ((20 : Int32) * x1) x2 (by omega) (by omega)
        refine wq_v (fun v5_q51901 h_v5_q51901 => ?_)
        have t_v5_q51901 := congrArg Int32.toInt h_v5_q51901
        refine wq_b (tt_fX12_at hN r4_q51897.2.1 r4_q51897.2.2.1 r4_q51897.2.2.2 v5_q51901 (0 : Int32) ⟨by omega, by omega⟩ ⟨by omega, by omega⟩ h_r4_q51897_3) (fun r6_q51904 h_r6_q51904 => ?_)
        obtain ⟨h_r6_q51904_0, h_r6_q51904_1, h_r6_q51904_2, -⟩ := h_r6_q51904
        refine wq_b (tt_fX12_at hN r4_q51897.2.1 r4_q51897.2.2.1 r4_q51897.2.2.2 v5_q51901 (1 : Int32) ⟨by omega, by omega⟩ ⟨by omega, by omega⟩ h_r4_q51897_3) (fun r7_q51905 h_r7_q51905 => ?_)
        obtain ⟨h_r7_q51905_0, h_r7_q51905_1, h_r7_q51905_2, -⟩ := h_r7_q51905
        have l_7 := il_7
        refine wq_b (tt_fX12_at hN r4_q51897.2.1 r4_q51897.2.2.1 r4_q51897.2.2.2 v5_q51901 (7 : Int32) ⟨by omega, by omega⟩ ⟨by omega, by omega⟩ h_r4_q51897_3) (fun r8_q51906 h_r8_q51906 => ?_)
        obtain ⟨h_r8_q51906_0, h_r8_q51906_1, h_r8_q51906_2, -⟩ := h_r8_q51906
        have l_m1 := il_m1
        refine wq_eq (fun hc_51907 => ?_) (fun hc_51908 => ?_)
        · exact wq_s ⟨(show -1 ≤ (-1 : Int32).toInt ∧ (-1 : Int32).toInt ≤ 359 from ⟨by omega, by omega⟩), h_r4_q51897_3, trivial⟩
        · refine wq_eq (fun hc_51909 => ?_) (fun hc_51910 => ?_)
          · exact wq_s ⟨(show -1 ≤ (-1 : Int32).toInt ∧ (-1 : Int32).toInt ≤ 359 from ⟨by omega, by omega⟩), h_r4_q51897_3, trivial⟩
          · refine wq_eq (fun hc_51911 => ?_) (fun hc_51912 => ?_)
            · exact wq_s ⟨(show -1 ≤ (-1 : Int32).toInt ∧ (-1 : Int32).toInt ≤ 359 from ⟨by omega, by omega⟩), h_r4_q51897_3, trivial⟩
            · refine wq_eq (fun hc_51913 => ?_) (fun hc_51914 => ?_)
              · exfalso; omega
              · unfold fX12_lot_J106
                have t_51916 := ia_sub r7_q51905 r6_q51904 (by omega) (by omega)
                have l_360 := il_360
                have t_51917 := ia_add (r7_q51905 - r6_q51904) (360 : Int32) (by omega) (by omega)
                have t_51918 := ia_rem ((r7_q51905 - r6_q51904) + (360 : Int32)) (360 : Int32) 360 il_360 (by decide) (by omega)
                refine wq_v (fun v3_q51915 h_v3_q51915 => ?_)
                have t_v3_q51915 := congrArg Int32.toInt h_v3_q51915
                have bv3 : 0 ≤ v3_q51915.toInt ∧ v3_q51915.toInt ≤ 359 := ⟨by omega, by omega⟩
                clear t_51916 t_51917 t_51918 t_v3_q51915
                have l_180 := il_180
                have t_51919 := ia_sub r8_q51906 r6_q51904 (by omega) (by omega)
                have t_51920 := ia_add (r8_q51906 - r6_q51904) (360 : Int32) (by omega) (by omega)
                have t_51921 := ia_rem ((r8_q51906 - r6_q51904) + (360 : Int32)) (360 : Int32) 360 il_360 (by decide) (by omega)
                clear t_51919 t_51920 t_51921
                refine wq_le (fun hc_51922 => ?_) (fun hc_51923 => ?_)
                · unfold fX12_lot_J165
                  refine wq_eq (fun hc_51924 => ?_) (fun hc_51925 => ?_)
                  · have t_51926 := ia_sub r8_q51906 v3_q51915 (by omega) (by omega)
                    have t_51927 := ia_add (r8_q51906 - v3_q51915) (360 : Int32) (by omega) (by omega)
                    have t_51928 := ia_rem ((r8_q51906 - v3_q51915) + (360 : Int32)) (360 : Int32) 360 il_360 (by decide) (by omega)
                    exact wq_s ⟨(show -1 ≤ (((r8_q51906 - v3_q51915) + (360 : Int32)) - ((((r8_q51906 - v3_q51915) + (360 : Int32)) / (360 : Int32)) * (360 : Int32))).toInt ∧ (((r8_q51906 - v3_q51915) + (360 : Int32)) - ((((r8_q51906 - v3_q51915) + (360 : Int32)) / (360 : Int32)) * (360 : Int32))).toInt ≤ 359 from ⟨by omega, by omega⟩), h_r4_q51897_3, trivial⟩
                  · exfalso; omega
                · unfold fX12_lot_J165
                  refine wq_eq (fun hc_51929 => ?_) (fun hc_51930 => ?_)
                  · have t_51931 := ia_add r8_q51906 v3_q51915 (by omega) (by omega)
                    have t_51932 := ia_rem (r8_q51906 + v3_q51915) (360 : Int32) 360 il_360 (by decide) (by omega)
                    exact wq_s ⟨(show -1 ≤ ((r8_q51906 + v3_q51915) - (((r8_q51906 + v3_q51915) / (360 : Int32)) * (360 : Int32))).toInt ∧ ((r8_q51906 + v3_q51915) - (((r8_q51906 + v3_q51915) / (360 : Int32)) * (360 : Int32))).toInt ≤ 359 from ⟨by omega, by omega⟩), h_r4_q51897_3, trivial⟩
                  · exfalso; omega
    · have l_1 := il_1
      refine wq_eq (fun hc_51933 => ?_) (fun hc_51934 => ?_)
      · unfold fX12_lot_J19
        unfold fX12_lot_J24
        refine wq_b (tt_fX12_right hN r10_q51889.2.1 r10_q51889.2.2.1 r10_q51889.2.2.2 (1 : Int32) (1 : Int32) ⟨by omega, by omega⟩ h_r10_q51889_3) (fun r4_q51935 h_r4_q51935 => ?_)
        obtain ⟨h_r4_q51935_0, h_r4_q51935_1, h_r4_q51935_2, h_r4_q51935_3, -⟩ := h_r4_q51935
        have t_51936 := KX12.i1 h_r4_q51935_3
        refine wq_eq (fun hc_51937 => ?_) (fun hc_51938 => ?_)
        · exact wq_s ⟨(show -1 ≤ (0 : Int32).toInt ∧ (0 : Int32).toInt ≤ 359 from ⟨by omega, by omega⟩), h_r4_q51935_3, trivial⟩
        · have l_20 := il_20
          have t_51940 := ia_mul (20 : Int32) (20) il_20 x1 (by omega) (by omega)
          have t_51941 := ia_add ((20 : Int32) * x1) x2 (by omega) (by omega)
          refine wq_v (fun v5_q51939 h_v5_q51939 => ?_)
          have t_v5_q51939 := congrArg Int32.toInt h_v5_q51939
          refine wq_b (tt_fX12_at hN r4_q51935.2.1 r4_q51935.2.2.1 r4_q51935.2.2.2 v5_q51939 (0 : Int32) ⟨by omega, by omega⟩ ⟨by omega, by omega⟩ h_r4_q51935_3) (fun r6_q51942 h_r6_q51942 => ?_)
          obtain ⟨h_r6_q51942_0, h_r6_q51942_1, h_r6_q51942_2, -⟩ := h_r6_q51942
          refine wq_b (tt_fX12_at hN r4_q51935.2.1 r4_q51935.2.2.1 r4_q51935.2.2.2 v5_q51939 (1 : Int32) ⟨by omega, by omega⟩ ⟨by omega, by omega⟩ h_r4_q51935_3) (fun r7_q51943 h_r7_q51943 => ?_)
          obtain ⟨h_r7_q51943_0, h_r7_q51943_1, h_r7_q51943_2, -⟩ := h_r7_q51943
          have l_7 := il_7
          refine wq_b (tt_fX12_at hN r4_q51935.2.1 r4_q51935.2.2.1 r4_q51935.2.2.2 v5_q51939 (7 : Int32) ⟨by omega, by omega⟩ ⟨by omega, by omega⟩ h_r4_q51935_3) (fun r8_q51944 h_r8_q51944 => ?_)
          obtain ⟨h_r8_q51944_0, h_r8_q51944_1, h_r8_q51944_2, -⟩ := h_r8_q51944
          have l_m1 := il_m1
          refine wq_eq (fun hc_51945 => ?_) (fun hc_51946 => ?_)
          · exact wq_s ⟨(show -1 ≤ (-1 : Int32).toInt ∧ (-1 : Int32).toInt ≤ 359 from ⟨by omega, by omega⟩), h_r4_q51935_3, trivial⟩
          · refine wq_eq (fun hc_51947 => ?_) (fun hc_51948 => ?_)
            · exact wq_s ⟨(show -1 ≤ (-1 : Int32).toInt ∧ (-1 : Int32).toInt ≤ 359 from ⟨by omega, by omega⟩), h_r4_q51935_3, trivial⟩
            · refine wq_eq (fun hc_51949 => ?_) (fun hc_51950 => ?_)
              · exact wq_s ⟨(show -1 ≤ (-1 : Int32).toInt ∧ (-1 : Int32).toInt ≤ 359 from ⟨by omega, by omega⟩), h_r4_q51935_3, trivial⟩
              · refine wq_eq (fun hc_51951 => ?_) (fun hc_51952 => ?_)
                · have l_8 := il_8
                  refine wq_b (tt_fX12_at hN r4_q51935.2.1 r4_q51935.2.2.1 r4_q51935.2.2.2 v5_q51939 (8 : Int32) ⟨by omega, by omega⟩ ⟨by omega, by omega⟩ h_r4_q51935_3) (fun r9b_q51953 h_r9b_q51953 => ?_)
                  obtain ⟨h_r9b_q51953_0, h_r9b_q51953_1, h_r9b_q51953_2, -⟩ := h_r9b_q51953
                  refine wq_eq (fun hc_51954 => ?_) (fun hc_51955 => ?_)
                  · exact wq_s ⟨(show -1 ≤ (-1 : Int32).toInt ∧ (-1 : Int32).toInt ≤ 359 from ⟨by omega, by omega⟩), h_r4_q51935_3, trivial⟩
                  · unfold fX12_lot_J106
                    have t_51957 := ia_sub r7_q51943 r6_q51942 (by omega) (by omega)
                    have l_360 := il_360
                    have t_51958 := ia_add (r7_q51943 - r6_q51942) (360 : Int32) (by omega) (by omega)
                    have t_51959 := ia_rem ((r7_q51943 - r6_q51942) + (360 : Int32)) (360 : Int32) 360 il_360 (by decide) (by omega)
                    refine wq_v (fun v3_q51956 h_v3_q51956 => ?_)
                    have t_v3_q51956 := congrArg Int32.toInt h_v3_q51956
                    have bv3 : 0 ≤ v3_q51956.toInt ∧ v3_q51956.toInt ≤ 359 := ⟨by omega, by omega⟩
                    clear t_51957 t_51958 t_51959 t_v3_q51956
                    have l_180 := il_180
                    have t_51960 := ia_sub r8_q51944 r6_q51942 (by omega) (by omega)
                    have t_51961 := ia_add (r8_q51944 - r6_q51942) (360 : Int32) (by omega) (by omega)
                    have t_51962 := ia_rem ((r8_q51944 - r6_q51942) + (360 : Int32)) (360 : Int32) 360 il_360 (by decide) (by omega)
                    clear t_51960 t_51961 t_51962
                    refine wq_le (fun hc_51963 => ?_) (fun hc_51964 => ?_)
                    · unfold fX12_lot_J165
                      refine wq_eq (fun hc_51965 => ?_) (fun hc_51966 => ?_)
                      · exfalso; omega
                      · refine wq_b (tt_fX12_at hN r4_q51935.2.1 r4_q51935.2.2.1 r4_q51935.2.2.2 v5_q51939 (8 : Int32) ⟨by omega, by omega⟩ ⟨by omega, by omega⟩ h_r4_q51935_3) (fun r1_q51967 h_r1_q51967 => ?_)
                        obtain ⟨h_r1_q51967_0, h_r1_q51967_1, h_r1_q51967_2, -⟩ := h_r1_q51967
                        have t_51968 := ia_sub r8_q51944 v3_q51956 (by omega) (by omega)
                        have t_51969 := ia_add (r8_q51944 - v3_q51956) (360 : Int32) (by omega) (by omega)
                        have t_51970 := ia_rem ((r8_q51944 - v3_q51956) + (360 : Int32)) (360 : Int32) 360 il_360 (by decide) (by omega)
                        refine wq_b (tt_fX12_costOf hN r4_q51935.2.1 r4_q51935.2.2.1 r4_q51935.2.2.2 r1_q51967 (((r8_q51944 - v3_q51956) + (360 : Int32)) - ((((r8_q51944 - v3_q51956) + (360 : Int32)) / (360 : Int32)) * (360 : Int32))) ⟨by omega, by omega⟩ h_r4_q51935_3) (fun r2_q51971 h_r2_q51971 => ?_)
                        obtain ⟨h_r2_q51971_0, -⟩ := h_r2_q51971
                        exact wq_s ⟨(show -1 ≤ r2_q51971.toInt ∧ r2_q51971.toInt ≤ 359 from ⟨by omega, by omega⟩), h_r4_q51935_3, trivial⟩
                    · unfold fX12_lot_J165
                      refine wq_eq (fun hc_51972 => ?_) (fun hc_51973 => ?_)
                      · exfalso; omega
                      · refine wq_b (tt_fX12_at hN r4_q51935.2.1 r4_q51935.2.2.1 r4_q51935.2.2.2 v5_q51939 (8 : Int32) ⟨by omega, by omega⟩ ⟨by omega, by omega⟩ h_r4_q51935_3) (fun r1_q51974 h_r1_q51974 => ?_)
                        obtain ⟨h_r1_q51974_0, h_r1_q51974_1, h_r1_q51974_2, -⟩ := h_r1_q51974
                        have t_51975 := ia_add r8_q51944 v3_q51956 (by omega) (by omega)
                        have t_51976 := ia_rem (r8_q51944 + v3_q51956) (360 : Int32) 360 il_360 (by decide) (by omega)
                        refine wq_b (tt_fX12_costOf hN r4_q51935.2.1 r4_q51935.2.2.1 r4_q51935.2.2.2 r1_q51974 ((r8_q51944 + v3_q51956) - (((r8_q51944 + v3_q51956) / (360 : Int32)) * (360 : Int32))) ⟨by omega, by omega⟩ h_r4_q51935_3) (fun r2_q51977 h_r2_q51977 => ?_)
                        obtain ⟨h_r2_q51977_0, -⟩ := h_r2_q51977
                        exact wq_s ⟨(show -1 ≤ r2_q51977.toInt ∧ r2_q51977.toInt ≤ 359 from ⟨by omega, by omega⟩), h_r4_q51935_3, trivial⟩
                · exfalso; omega
      · unfold fX12_lot_J24
        refine wq_b (tt_fX12_right hN r10_q51889.2.1 r10_q51889.2.2.1 r10_q51889.2.2.2 (0 : Int32) (1 : Int32) ⟨by omega, by omega⟩ h_r10_q51889_3) (fun r4_q51978 h_r4_q51978 => ?_)
        obtain ⟨h_r4_q51978_0, h_r4_q51978_1, h_r4_q51978_2, h_r4_q51978_3, -⟩ := h_r4_q51978
        have t_51979 := KX12.i1 h_r4_q51978_3
        refine wq_eq (fun hc_51980 => ?_) (fun hc_51981 => ?_)
        · exact wq_s ⟨(show -1 ≤ (0 : Int32).toInt ∧ (0 : Int32).toInt ≤ 359 from ⟨by omega, by omega⟩), h_r4_q51978_3, trivial⟩
        · have l_20 := il_20
          have t_51983 := ia_mul (20 : Int32) (20) il_20 x1 (by omega) (by omega)
          have t_51984 := ia_add ((20 : Int32) * x1) x2 (by omega) (by omega)
          refine wq_v (fun v5_q51982 h_v5_q51982 => ?_)
          have t_v5_q51982 := congrArg Int32.toInt h_v5_q51982
          refine wq_b (tt_fX12_at hN r4_q51978.2.1 r4_q51978.2.2.1 r4_q51978.2.2.2 v5_q51982 (0 : Int32) ⟨by omega, by omega⟩ ⟨by omega, by omega⟩ h_r4_q51978_3) (fun r6_q51985 h_r6_q51985 => ?_)
          obtain ⟨h_r6_q51985_0, h_r6_q51985_1, h_r6_q51985_2, -⟩ := h_r6_q51985
          refine wq_b (tt_fX12_at hN r4_q51978.2.1 r4_q51978.2.2.1 r4_q51978.2.2.2 v5_q51982 (1 : Int32) ⟨by omega, by omega⟩ ⟨by omega, by omega⟩ h_r4_q51978_3) (fun r7_q51986 h_r7_q51986 => ?_)
          obtain ⟨h_r7_q51986_0, h_r7_q51986_1, h_r7_q51986_2, -⟩ := h_r7_q51986
          have l_7 := il_7
          refine wq_b (tt_fX12_at hN r4_q51978.2.1 r4_q51978.2.2.1 r4_q51978.2.2.2 v5_q51982 (7 : Int32) ⟨by omega, by omega⟩ ⟨by omega, by omega⟩ h_r4_q51978_3) (fun r8_q51987 h_r8_q51987 => ?_)
          obtain ⟨h_r8_q51987_0, h_r8_q51987_1, h_r8_q51987_2, -⟩ := h_r8_q51987
          have l_m1 := il_m1
          refine wq_eq (fun hc_51988 => ?_) (fun hc_51989 => ?_)
          · exact wq_s ⟨(show -1 ≤ (-1 : Int32).toInt ∧ (-1 : Int32).toInt ≤ 359 from ⟨by omega, by omega⟩), h_r4_q51978_3, trivial⟩
          · refine wq_eq (fun hc_51990 => ?_) (fun hc_51991 => ?_)
            · exact wq_s ⟨(show -1 ≤ (-1 : Int32).toInt ∧ (-1 : Int32).toInt ≤ 359 from ⟨by omega, by omega⟩), h_r4_q51978_3, trivial⟩
            · refine wq_eq (fun hc_51992 => ?_) (fun hc_51993 => ?_)
              · exact wq_s ⟨(show -1 ≤ (-1 : Int32).toInt ∧ (-1 : Int32).toInt ≤ 359 from ⟨by omega, by omega⟩), h_r4_q51978_3, trivial⟩
              · refine wq_eq (fun hc_51994 => ?_) (fun hc_51995 => ?_)
                · have l_8 := il_8
                  refine wq_b (tt_fX12_at hN r4_q51978.2.1 r4_q51978.2.2.1 r4_q51978.2.2.2 v5_q51982 (8 : Int32) ⟨by omega, by omega⟩ ⟨by omega, by omega⟩ h_r4_q51978_3) (fun r9b_q51996 h_r9b_q51996 => ?_)
                  obtain ⟨h_r9b_q51996_0, h_r9b_q51996_1, h_r9b_q51996_2, -⟩ := h_r9b_q51996
                  refine wq_eq (fun hc_51997 => ?_) (fun hc_51998 => ?_)
                  · exact wq_s ⟨(show -1 ≤ (-1 : Int32).toInt ∧ (-1 : Int32).toInt ≤ 359 from ⟨by omega, by omega⟩), h_r4_q51978_3, trivial⟩
                  · unfold fX12_lot_J106
                    have t_52000 := ia_sub r7_q51986 r6_q51985 (by omega) (by omega)
                    have l_360 := il_360
                    have t_52001 := ia_add (r7_q51986 - r6_q51985) (360 : Int32) (by omega) (by omega)
                    have t_52002 := ia_rem ((r7_q51986 - r6_q51985) + (360 : Int32)) (360 : Int32) 360 il_360 (by decide) (by omega)
                    refine wq_v (fun v3_q51999 h_v3_q51999 => ?_)
                    have t_v3_q51999 := congrArg Int32.toInt h_v3_q51999
                    have bv3 : 0 ≤ v3_q51999.toInt ∧ v3_q51999.toInt ≤ 359 := ⟨by omega, by omega⟩
                    clear t_52000 t_52001 t_52002 t_v3_q51999
                    have l_180 := il_180
                    have t_52003 := ia_sub r8_q51987 r6_q51985 (by omega) (by omega)
                    have t_52004 := ia_add (r8_q51987 - r6_q51985) (360 : Int32) (by omega) (by omega)
                    have t_52005 := ia_rem ((r8_q51987 - r6_q51985) + (360 : Int32)) (360 : Int32) 360 il_360 (by decide) (by omega)
                    clear t_52003 t_52004 t_52005
                    refine wq_le (fun hc_52006 => ?_) (fun hc_52007 => ?_)
                    · unfold fX12_lot_J165
                      refine wq_eq (fun hc_52008 => ?_) (fun hc_52009 => ?_)
                      · exfalso; omega
                      · refine wq_b (tt_fX12_at hN r4_q51978.2.1 r4_q51978.2.2.1 r4_q51978.2.2.2 v5_q51982 (8 : Int32) ⟨by omega, by omega⟩ ⟨by omega, by omega⟩ h_r4_q51978_3) (fun r1_q52010 h_r1_q52010 => ?_)
                        obtain ⟨h_r1_q52010_0, h_r1_q52010_1, h_r1_q52010_2, -⟩ := h_r1_q52010
                        have t_52011 := ia_sub r8_q51987 v3_q51999 (by omega) (by omega)
                        have t_52012 := ia_add (r8_q51987 - v3_q51999) (360 : Int32) (by omega) (by omega)
                        have t_52013 := ia_rem ((r8_q51987 - v3_q51999) + (360 : Int32)) (360 : Int32) 360 il_360 (by decide) (by omega)
                        refine wq_b (tt_fX12_costOf hN r4_q51978.2.1 r4_q51978.2.2.1 r4_q51978.2.2.2 r1_q52010 (((r8_q51987 - v3_q51999) + (360 : Int32)) - ((((r8_q51987 - v3_q51999) + (360 : Int32)) / (360 : Int32)) * (360 : Int32))) ⟨by omega, by omega⟩ h_r4_q51978_3) (fun r2_q52014 h_r2_q52014 => ?_)
                        obtain ⟨h_r2_q52014_0, -⟩ := h_r2_q52014
                        exact wq_s ⟨(show -1 ≤ r2_q52014.toInt ∧ r2_q52014.toInt ≤ 359 from ⟨by omega, by omega⟩), h_r4_q51978_3, trivial⟩
                    · unfold fX12_lot_J165
                      refine wq_eq (fun hc_52015 => ?_) (fun hc_52016 => ?_)
                      · exfalso; omega
                      · refine wq_b (tt_fX12_at hN r4_q51978.2.1 r4_q51978.2.2.1 r4_q51978.2.2.2 v5_q51982 (8 : Int32) ⟨by omega, by omega⟩ ⟨by omega, by omega⟩ h_r4_q51978_3) (fun r1_q52017 h_r1_q52017 => ?_)
                        obtain ⟨h_r1_q52017_0, h_r1_q52017_1, h_r1_q52017_2, -⟩ := h_r1_q52017
                        have t_52018 := ia_add r8_q51987 v3_q51999 (by omega) (by omega)
                        have t_52019 := ia_rem (r8_q51987 + v3_q51999) (360 : Int32) 360 il_360 (by decide) (by omega)
                        refine wq_b (tt_fX12_costOf hN r4_q51978.2.1 r4_q51978.2.2.1 r4_q51978.2.2.2 r1_q52017 ((r8_q51987 + v3_q51999) - (((r8_q51987 + v3_q51999) / (360 : Int32)) * (360 : Int32))) ⟨by omega, by omega⟩ h_r4_q51978_3) (fun r2_q52020 h_r2_q52020 => ?_)
                        obtain ⟨h_r2_q52020_0, -⟩ := h_r2_q52020
                        exact wq_s ⟨(show -1 ≤ r2_q52020.toInt ∧ r2_q52020.toInt ≤ 359 from ⟨by omega, by omega⟩), h_r4_q51978_3, trivial⟩
                · unfold fX12_lot_J106
                  have t_52022 := ia_sub r7_q51986 r6_q51985 (by omega) (by omega)
                  have l_360 := il_360
                  have t_52023 := ia_add (r7_q51986 - r6_q51985) (360 : Int32) (by omega) (by omega)
                  have t_52024 := ia_rem ((r7_q51986 - r6_q51985) + (360 : Int32)) (360 : Int32) 360 il_360 (by decide) (by omega)
                  refine wq_v (fun v3_q52021 h_v3_q52021 => ?_)
                  have t_v3_q52021 := congrArg Int32.toInt h_v3_q52021
                  have bv3 : 0 ≤ v3_q52021.toInt ∧ v3_q52021.toInt ≤ 359 := ⟨by omega, by omega⟩
                  clear t_52022 t_52023 t_52024 t_v3_q52021
                  have l_180 := il_180
                  have t_52025 := ia_sub r8_q51987 r6_q51985 (by omega) (by omega)
                  have t_52026 := ia_add (r8_q51987 - r6_q51985) (360 : Int32) (by omega) (by omega)
                  have t_52027 := ia_rem ((r8_q51987 - r6_q51985) + (360 : Int32)) (360 : Int32) 360 il_360 (by decide) (by omega)
                  clear t_52025 t_52026 t_52027
                  refine wq_le (fun hc_52028 => ?_) (fun hc_52029 => ?_)
                  · unfold fX12_lot_J165
                    refine wq_eq (fun hc_52030 => ?_) (fun hc_52031 => ?_)
                    · have t_52032 := ia_sub r8_q51987 v3_q52021 (by omega) (by omega)
                      have t_52033 := ia_add (r8_q51987 - v3_q52021) (360 : Int32) (by omega) (by omega)
                      have t_52034 := ia_rem ((r8_q51987 - v3_q52021) + (360 : Int32)) (360 : Int32) 360 il_360 (by decide) (by omega)
                      exact wq_s ⟨(show -1 ≤ (((r8_q51987 - v3_q52021) + (360 : Int32)) - ((((r8_q51987 - v3_q52021) + (360 : Int32)) / (360 : Int32)) * (360 : Int32))).toInt ∧ (((r8_q51987 - v3_q52021) + (360 : Int32)) - ((((r8_q51987 - v3_q52021) + (360 : Int32)) / (360 : Int32)) * (360 : Int32))).toInt ≤ 359 from ⟨by omega, by omega⟩), h_r4_q51978_3, trivial⟩
                    · have l_8 := il_8
                      refine wq_b (tt_fX12_at hN r4_q51978.2.1 r4_q51978.2.2.1 r4_q51978.2.2.2 v5_q51982 (8 : Int32) ⟨by omega, by omega⟩ ⟨by omega, by omega⟩ h_r4_q51978_3) (fun r1_q52035 h_r1_q52035 => ?_)
                      obtain ⟨h_r1_q52035_0, h_r1_q52035_1, h_r1_q52035_2, -⟩ := h_r1_q52035
                      have t_52036 := ia_sub r8_q51987 v3_q52021 (by omega) (by omega)
                      have t_52037 := ia_add (r8_q51987 - v3_q52021) (360 : Int32) (by omega) (by omega)
                      have t_52038 := ia_rem ((r8_q51987 - v3_q52021) + (360 : Int32)) (360 : Int32) 360 il_360 (by decide) (by omega)
                      refine wq_b (tt_fX12_costOf hN r4_q51978.2.1 r4_q51978.2.2.1 r4_q51978.2.2.2 r1_q52035 (((r8_q51987 - v3_q52021) + (360 : Int32)) - ((((r8_q51987 - v3_q52021) + (360 : Int32)) / (360 : Int32)) * (360 : Int32))) ⟨by omega, by omega⟩ h_r4_q51978_3) (fun r2_q52039 h_r2_q52039 => ?_)
                      obtain ⟨h_r2_q52039_0, -⟩ := h_r2_q52039
                      exact wq_s ⟨(show -1 ≤ r2_q52039.toInt ∧ r2_q52039.toInt ≤ 359 from ⟨by omega, by omega⟩), h_r4_q51978_3, trivial⟩
                  · unfold fX12_lot_J165
                    refine wq_eq (fun hc_52040 => ?_) (fun hc_52041 => ?_)
                    · have t_52042 := ia_add r8_q51987 v3_q52021 (by omega) (by omega)
                      have t_52043 := ia_rem (r8_q51987 + v3_q52021) (360 : Int32) 360 il_360 (by decide) (by omega)
                      exact wq_s ⟨(show -1 ≤ ((r8_q51987 + v3_q52021) - (((r8_q51987 + v3_q52021) / (360 : Int32)) * (360 : Int32))).toInt ∧ ((r8_q51987 + v3_q52021) - (((r8_q51987 + v3_q52021) / (360 : Int32)) * (360 : Int32))).toInt ≤ 359 from ⟨by omega, by omega⟩), h_r4_q51978_3, trivial⟩
                    · have l_8 := il_8
                      refine wq_b (tt_fX12_at hN r4_q51978.2.1 r4_q51978.2.2.1 r4_q51978.2.2.2 v5_q51982 (8 : Int32) ⟨by omega, by omega⟩ ⟨by omega, by omega⟩ h_r4_q51978_3) (fun r1_q52044 h_r1_q52044 => ?_)
                      obtain ⟨h_r1_q52044_0, h_r1_q52044_1, h_r1_q52044_2, -⟩ := h_r1_q52044
                      have t_52045 := ia_add r8_q51987 v3_q52021 (by omega) (by omega)
                      have t_52046 := ia_rem (r8_q51987 + v3_q52021) (360 : Int32) 360 il_360 (by decide) (by omega)
                      refine wq_b (tt_fX12_costOf hN r4_q51978.2.1 r4_q51978.2.2.1 r4_q51978.2.2.2 r1_q52044 ((r8_q51987 + v3_q52021) - (((r8_q51987 + v3_q52021) / (360 : Int32)) * (360 : Int32))) ⟨by omega, by omega⟩ h_r4_q51978_3) (fun r2_q52047 h_r2_q52047 => ?_)
                      obtain ⟨h_r2_q52047_0, -⟩ := h_r2_q52047
                      exact wq_s ⟨(show -1 ≤ r2_q52047.toInt ∧ r2_q52047.toInt ≤ 359 from ⟨by omega, by omega⟩), h_r4_q51978_3, trivial⟩
set_option maxHeartbeats 4000000 in
theorem tt_fX12_priceOf {N : Nat} (hN : 3000000000 ≤ N) (I0 : Nat → Int32) (L0 : Int64) (M0 : Nat → Nat → Int32) (x1 : Int32) (x2 : Int32) (x3 : Int32) (h_x1 : -1 ≤ x1.toInt ∧ x1.toInt ≤ 389) (h_x2 : -1 ≤ x2.toInt ∧ x2.toInt ≤ 389) (k_I0 : KX12 I0 M0) : wq (fX12_priceOf N I0 L0 M0 x1 x2 x3) (fun r => (0 ≤ r.toInt ∧ r.toInt ≤ 4) ∧ True) := by
  unfold fX12_priceOf
  refine wq_eq (fun hc_52120 => ?_) (fun hc_52121 => ?_)
  · have l_0 := il_0
    exact wq_s ⟨(show 0 ≤ (0 : Int32).toInt ∧ (0 : Int32).toInt ≤ 4 from ⟨by omega, by omega⟩), trivial⟩
  · have l_m1 := il_m1
    refine wq_eq (fun hc_52122 => ?_) (fun hc_52123 => ?_)
    · have l_1 := il_1
      exact wq_s ⟨(show 0 ≤ (1 : Int32).toInt ∧ (1 : Int32).toInt ≤ 4 from ⟨by omega, by omega⟩), trivial⟩
    · refine wq_eq (fun hc_52124 => ?_) (fun hc_52125 => ?_)
      · have l_4 := il_4
        exact wq_s ⟨(show 0 ≤ (4 : Int32).toInt ∧ (4 : Int32).toInt ≤ 4 from ⟨by omega, by omega⟩), trivial⟩
      · have b_52126 := i32b x3
        have l_21 := il_21
        refine wq_eq (fun hc_52127 => ?_) (fun hc_52128 => ?_)
        · have l_3 := il_3
          exact wq_s ⟨(show 0 ≤ (3 : Int32).toInt ∧ (3 : Int32).toInt ≤ 4 from ⟨by omega, by omega⟩), trivial⟩
        · refine wq_b (tt_fX12_costOf hN I0 L0 M0 x2 x1 ⟨by omega, by omega⟩ k_I0) (fun r1_q52129 h_r1_q52129 => ?_)
          obtain ⟨h_r1_q52129_0, -⟩ := h_r1_q52129
          have l_1 := il_1
          refine wq_eq (fun hc_52130 => ?_) (fun hc_52131 => ?_)
          · exact wq_s ⟨(show 0 ≤ (1 : Int32).toInt ∧ (1 : Int32).toInt ≤ 4 from ⟨by omega, by omega⟩), trivial⟩
          · have l_3 := il_3
            exact wq_s ⟨(show 0 ≤ (3 : Int32).toInt ∧ (3 : Int32).toInt ≤ 4 from ⟨by omega, by omega⟩), trivial⟩
set_option maxHeartbeats 4000000 in
theorem tt_fX12_priceAll_L15 {N : Nat} (hN : 3000000000 ≤ N) (I0 : Nat → Int32) (L0 : Int64) (M0 : Nat → Nat → Int32) (x1 : Int32) (x2 : Int32) (y5_4 : Int32) (g5 : Int32 → Int32 → Option (Int32)) (h_x1 : 0 ≤ x1.toInt ∧ x1.toInt ≤ 5) (h_x2 : 0 ≤ x2.toInt ∧ x2.toInt ≤ 5) (h_y5_4 : 0 ≤ y5_4.toInt ∧ y5_4.toInt ≤ 19) (k_I0 : KX12 I0 M0) (hg5 : ∀ (q0 : Int32) (q1 : Int32), (0 ≤ q1.toInt ∧ q1.toInt ≤ 20) → (y5_4.toInt < q1.toInt) → wq (g5 q0 q1) (fun r => True)) : ∀ (fu : Nat) (y15_3 : Int32) (y15_5 : Int32), (0 ≤ y15_5.toInt ∧ y15_5.toInt ≤ 22) → (22 - y15_5.toInt) < (fu : Int) → wq (fX12_priceAll_L15 N I0 L0 M0 x1 x2 y5_4 g5 fu y15_3 y15_5) (fun r => True) := by
  intro fu
  induction fu with
  | zero => intro y15_3 y15_5 h_y15_5 hm; exfalso; omega
  | succ fu ih =>
    intro y15_3 y15_5 h_y15_5 hm
    rw [fX12_priceAll_L15.eq_2]
    have l_22 := il_22
    refine wq_le (fun hc_52515 => ?_) (fun hc_52516 => ?_)
    · have l_1 := il_1
      have t_52518 := ia_add y5_4 (1 : Int32) (by omega) (by omega)
      refine wq_v (fun v1_q52517 h_v1_q52517 => ?_)
      have t_v1_q52517 := congrArg Int32.toInt h_v1_q52517
      have b_52519 := i32b y15_3
      exact hg5 y15_3 v1_q52517 ⟨by omega, by omega⟩ (by omega)
    · have l_20 := il_20
      have t_52520 := ia_mul (20 : Int32) (20) il_20 x1 (by omega) (by omega)
      have t_52521 := ia_add ((20 : Int32) * x1) y5_4 (by omega) (by omega)
      refine wq_b (tt_fX12_at hN I0 L0 M0 (((20 : Int32) * x1) + y5_4) y15_5 ⟨by omega, by omega⟩ ⟨by omega, by omega⟩ k_I0) (fun r2_q52522 h_r2_q52522 => ?_)
      obtain ⟨h_r2_q52522_0, h_r2_q52522_1, h_r2_q52522_2, -⟩ := h_r2_q52522
      have t_52523 := ia_mul (20 : Int32) (20) il_20 x2 (by omega) (by omega)
      have t_52524 := ia_add ((20 : Int32) * x2) y5_4 (by omega) (by omega)
      refine wq_b (tt_fX12_at hN I0 L0 M0 (((20 : Int32) * x2) + y5_4) y15_5 ⟨by omega, by omega⟩ ⟨by omega, by omega⟩ k_I0) (fun r3_q52525 h_r3_q52525 => ?_)
      obtain ⟨h_r3_q52525_0, h_r3_q52525_1, h_r3_q52525_2, -⟩ := h_r3_q52525
      refine wq_b (tt_fX12_priceOf hN I0 L0 M0 r2_q52522 r3_q52525 y15_5 ⟨by omega, by omega⟩ ⟨by omega, by omega⟩ k_I0) (fun r4_q52526 h_r4_q52526 => ?_)
      obtain ⟨h_r4_q52526_0, -⟩ := h_r4_q52526
      have b_52528 := i32b y15_3
      refine wq_v (fun v5_q52527 h_v5_q52527 => ?_)
      have t_v5_q52527 := congrArg Int32.toInt h_v5_q52527
      have l_1 := il_1
      have t_52530 := ia_add y15_5 (1 : Int32) (by omega) (by omega)
      refine wq_v (fun v6_q52529 h_v6_q52529 => ?_)
      have t_v6_q52529 := congrArg Int32.toInt h_v6_q52529
      have b_52531 := i32b v5_q52527
      exact ih v5_q52527 v6_q52529 ⟨by omega, by omega⟩ (by omega)
set_option maxHeartbeats 4000000 in
theorem tt_fX12_priceAll_L5 {N : Nat} (hN : 3000000000 ≤ N) (I0 : Nat → Int32) (L0 : Int64) (M0 : Nat → Nat → Int32) (x1 : Int32) (x2 : Int32) (h_x1 : 0 ≤ x1.toInt ∧ x1.toInt ≤ 5) (h_x2 : 0 ≤ x2.toInt ∧ x2.toInt ≤ 5) (k_I0 : KX12 I0 M0)  : ∀ (fu : Nat) (y5_3 : Int32) (y5_4 : Int32), (0 ≤ y5_4.toInt ∧ y5_4.toInt ≤ 20) → (20 - y5_4.toInt) < (fu : Int) → wq (fX12_priceAll_L5 N I0 L0 M0 x1 x2 fu y5_3 y5_4) (fun r => True) := by
  intro fu
  induction fu with
  | zero => intro y5_3 y5_4 h_y5_4 hm; exfalso; omega
  | succ fu ih =>
    intro y5_3 y5_4 h_y5_4 hm
    rw [fX12_priceAll_L5.eq_2]
    have l_20 := il_20
    refine wq_le (fun hc_52532 => ?_) (fun hc_52533 => ?_)
    · have b_52534 := i32b y5_3
      exact wq_s trivial
    · have b_52535 := i32b y5_3
      have l_0 := il_0
      exact tt_fX12_priceAll_L15 hN I0 L0 M0 x1 x2 y5_4 _ ⟨by omega, by omega⟩ ⟨by omega, by omega⟩ ⟨by omega, by omega⟩ k_I0 (fun q0 q1 hq0 hq1 => ih q0 q1 hq0 (by omega)) N y5_3 (0 : Int32) ⟨by omega, by omega⟩ (by omega)
set_option maxHeartbeats 4000000 in
theorem tt_fX12_priceAll {N : Nat} (hN : 3000000000 ≤ N) (I0 : Nat → Int32) (L0 : Int64) (M0 : Nat → Nat → Int32) (x1 : Int32) (x2 : Int32) (h_x1 : 0 ≤ x1.toInt ∧ x1.toInt ≤ 5) (h_x2 : 0 ≤ x2.toInt ∧ x2.toInt ≤ 5) (k_I0 : KX12 I0 M0) : wq (fX12_priceAll N I0 L0 M0 x1 x2) (fun r => True) := by
  unfold fX12_priceAll
  have l_0 := il_0
  exact tt_fX12_priceAll_L5 hN I0 L0 M0 x1 x2 ⟨by omega, by omega⟩ ⟨by omega, by omega⟩ k_I0 N (0 : Int32) (0 : Int32) ⟨by omega, by omega⟩ (by omega)
set_option maxHeartbeats 4000000 in
theorem tt_fX12_price {N : Nat} (hN : 3000000000 ≤ N) (I0 : Nat → Int32) (L0 : Int64) (M0 : Nat → Nat → Int32) (x1 : Int32) (x2 : Int32) (k_I0 : KX12 I0 M0) : wq (fX12_price N I0 L0 M0 x1 x2) (fun r => KX12 r.2.1 r.2.2.2 ∧ True) := by
  unfold fX12_price
  refine wq_v (fun I0_1_q52626 h_I0_1_q52626 => ?_)
  have k_I0_1_q52626 : KX12 I0_1_q52626 M0 := by rw [h_I0_1_q52626]; exact KX12.si0 k_I0
  have b_52627 := i32b x1
  refine wq_b (tt_fX12_isBook hN I0_1_q52626 L0 M0 x1 k_I0_1_q52626) (fun r2_q52628 h_r2_q52628 => ?_)
  obtain ⟨h_r2_q52628_0, h_r2_q52628_1, h_r2_q52628_2, h_r2_q52628_3, -⟩ := h_r2_q52628
  have t_52629 := KX12.i1 h_r2_q52628_3
  have t_52630 := KX12.i1 k_I0
  have t_52631 : (I0_1_q52626 1).toInt = (I0 1).toInt := by rw [h_I0_1_q52626]; rfl
  have l_0 := il_0
  refine wq_eq (fun hc_52632 => ?_) (fun hc_52633 => ?_)
  · exact wq_s ⟨h_r2_q52628_3, trivial⟩
  · have b_52634 := i32b x2
    refine wq_b (tt_fX12_isBook hN r2_q52628.2.1 r2_q52628.2.2.1 r2_q52628.2.2.2 x2 h_r2_q52628_3) (fun r3_q52635 h_r3_q52635 => ?_)
    obtain ⟨h_r3_q52635_0, h_r3_q52635_1, h_r3_q52635_2, h_r3_q52635_3, -⟩ := h_r3_q52635
    have t_52636 := KX12.i1 h_r3_q52635_3
    refine wq_eq (fun hc_52637 => ?_) (fun hc_52638 => ?_)
    · exact wq_s ⟨h_r3_q52635_3, trivial⟩
    · refine wq_b (tt_fX12_priceAll hN r3_q52635.2.1 r3_q52635.2.2.1 r3_q52635.2.2.2 x1 x2 ⟨by omega, by omega⟩ ⟨by omega, by omega⟩ h_r3_q52635_3) (fun r4_q52639 h_r4_q52639 => ?_)
      obtain ⟨-⟩ := h_r4_q52639
      have b_52640 := i32b r4_q52639
      exact wq_s ⟨h_r3_q52635_3, trivial⟩
set_option maxHeartbeats 4000000 in
theorem tt_fX12_isTree_L76 {N : Nat} (hN : 3000000000 ≤ N) (I0 : Nat → Int32) (L0 : Int64) (M0 : Nat → Nat → Int32) (y71_1 : Int32) (y71_2 : Int32) (g4 : Int32 → Int32 → Option (Int32)) (h_y71_2 : 0 ≤ y71_2.toInt ∧ y71_2.toInt ≤ 5) (k_I0 : KX12 I0 M0) (hg4 : ∀ (q0 : Int32) (q1 : Int32), (0 ≤ q1.toInt ∧ q1.toInt ≤ 6) → (y71_2.toInt < q1.toInt) → wq (g4 q0 q1) (fun r => (0 ≤ r.toInt ∧ r.toInt ≤ 1) ∧ True)) : ∀ (fu : Nat) (y76_3 : Int32) (y76_4 : Int32), (0 ≤ y76_3.toInt ∧ y76_3.toInt ≤ 5) → (0 ≤ y76_4.toInt ∧ y76_4.toInt ≤ 6) → (6 - y76_4.toInt) < (fu : Int) → wq (fX12_isTree_L76 N I0 L0 M0 y71_1 y71_2 g4 fu y76_3 y76_4) (fun r => (0 ≤ r.toInt ∧ r.toInt ≤ 1) ∧ True) := by
  intro fu
  induction fu with
  | zero => intro y76_3 y76_4 h_y76_3 h_y76_4 hm; exfalso; omega
  | succ fu ih =>
    intro y76_3 y76_4 h_y76_3 h_y76_4 hm
    rw [fX12_isTree_L76.eq_2]
    refine wq_in (n := 6) ⟨by omega, by omega⟩ ?_
    have t_53135 := KX12.m24 k_I0 y76_3.toNatClampNeg
    have l_m1 := il_m1
    refine wq_eq (fun hc_53136 => ?_) (fun hc_53137 => ?_)
    · unfold fX12_isTree_J114
      refine wq_in (n := 6) ⟨by omega, by omega⟩ ?_
      refine wq_eq (fun hc_53138 => ?_) (fun hc_53139 => ?_)
      · have l_1 := il_1
        have t_53141 := ia_add y71_2 (1 : Int32) (by omega) (by omega)
        refine wq_v (fun v1_q53140 h_v1_q53140 => ?_)
        have t_v1_q53140 := congrArg Int32.toInt h_v1_q53140
        have b_53142 := i32b y71_1
        exact hg4 y71_1 v1_q53140 ⟨by omega, by omega⟩ (by omega)
      · exfalso; omega
    · have l_6 := il_6
      refine wq_le (fun hc_53143 => ?_) (fun hc_53144 => ?_)
      · unfold fX12_isTree_J114
        refine wq_in (n := 6) ⟨by omega, by omega⟩ ?_
        refine wq_eq (fun hc_53145 => ?_) (fun hc_53146 => ?_)
        · exfalso; omega
        · have l_0 := il_0
          exact wq_s ⟨(show 0 ≤ (0 : Int32).toInt ∧ (0 : Int32).toInt ≤ 1 from ⟨by omega, by omega⟩), trivial⟩
      · refine wq_in (n := 6) ⟨by omega, by omega⟩ ?_
        refine wq_v (fun v2_q53147 h_v2_q53147 => ?_)
        have t_v2_q53147 := congrArg Int32.toInt h_v2_q53147
        have l_1 := il_1
        have t_53149 := ia_add y76_4 (1 : Int32) (by omega) (by omega)
        refine wq_v (fun v3_q53148 h_v3_q53148 => ?_)
        have t_v3_q53148 := congrArg Int32.toInt h_v3_q53148
        refine wq_in (n := 6) ⟨by omega, by omega⟩ ?_
        have l_0 := il_0
        refine wq_eq (fun hc_53150 => ?_) (fun hc_53151 => ?_)
        · exact wq_s ⟨(show 0 ≤ (0 : Int32).toInt ∧ (0 : Int32).toInt ≤ 1 from ⟨by omega, by omega⟩), trivial⟩
        · exact ih v2_q53147 v3_q53148 ⟨by omega, by omega⟩ ⟨by omega, by omega⟩ (by omega)
set_option maxHeartbeats 4000000 in
theorem tt_fX12_isTree_L4 {N : Nat} (hN : 3000000000 ≤ N) (I0 : Nat → Int32) (L0 : Int64) (M0 : Nat → Nat → Int32) (k_I0 : KX12 I0 M0)  : ∀ (fu : Nat) (y4_1 : Int32) (y4_2 : Int32), (0 ≤ y4_2.toInt ∧ y4_2.toInt ≤ 6) → (6 - y4_2.toInt) < (fu : Int) → wq (fX12_isTree_L4 N I0 L0 M0 fu y4_1 y4_2) (fun r => (0 ≤ r.toInt ∧ r.toInt ≤ 1) ∧ True) := by
  intro fu
  induction fu with
  | zero => intro y4_1 y4_2 h_y4_2 hm; exfalso; omega
  | succ fu ih =>
    intro y4_1 y4_2 h_y4_2 hm
    rw [fX12_isTree_L4.eq_2]
    have l_6 := il_6
    refine wq_le (fun hc_53152 => ?_) (fun hc_53153 => ?_)
    · have b_53154 := i32b y4_1
      have l_1 := il_1
      refine wq_eq (fun hc_53155 => ?_) (fun hc_53156 => ?_)
      · exact wq_s ⟨(show 0 ≤ (1 : Int32).toInt ∧ (1 : Int32).toInt ≤ 1 from ⟨by omega, by omega⟩), trivial⟩
      · have l_0 := il_0
        exact wq_s ⟨(show 0 ≤ (0 : Int32).toInt ∧ (0 : Int32).toInt ≤ 1 from ⟨by omega, by omega⟩), trivial⟩
    · refine wq_in (n := 6) ⟨by omega, by omega⟩ ?_
      have l_0 := il_0
      refine wq_eq (fun hc_53157 => ?_) (fun hc_53158 => ?_)
      · have l_1 := il_1
        have t_53160 := ia_add y4_2 (1 : Int32) (by omega) (by omega)
        refine wq_v (fun v5_q53159 h_v5_q53159 => ?_)
        have t_v5_q53159 := congrArg Int32.toInt h_v5_q53159
        have b_53161 := i32b y4_1
        exact ih y4_1 v5_q53159 ⟨by omega, by omega⟩ (by omega)
      · refine wq_in (n := 6) ⟨by omega, by omega⟩ ?_
        have t_53162 := KX12.m24 k_I0 y4_2.toNatClampNeg
        have l_m1 := il_m1
        refine wq_eq (fun hc_53163 => ?_) (fun hc_53164 => ?_)
        · have b_53166 := i32b y4_1
          have l_1 := il_1
          refine wq_v (fun v4_q53165 h_v4_q53165 => ?_)
          have t_v4_q53165 := congrArg Int32.toInt h_v4_q53165
          unfold fX12_isTree_J35
          refine wq_in (n := 6) ⟨by omega, by omega⟩ ?_
          refine wq_eq (fun hc_53167 => ?_) (fun hc_53168 => ?_)
          · unfold fX12_isTree_J71
            have b_53169 := i32b v4_q53165
            exact tt_fX12_isTree_L76 hN I0 L0 M0 v4_q53165 y4_2 _ ⟨by omega, by omega⟩ k_I0 (fun q0 q1 hq0 hq1 => ih q0 q1 hq0 (by omega)) N y4_2 (0 : Int32) ⟨by omega, by omega⟩ ⟨by omega, by omega⟩ (by omega)
          · exfalso; omega
        · unfold fX12_isTree_J35
          refine wq_in (n := 6) ⟨by omega, by omega⟩ ?_
          refine wq_eq (fun hc_53170 => ?_) (fun hc_53171 => ?_)
          · exfalso; omega
          · refine wq_in (n := 6) ⟨by omega, by omega⟩ ?_
            refine wq_in (n := 6) ⟨by omega, by omega⟩ ?_
            refine wq_eq (fun hc_53172 => ?_) (fun hc_53173 => ?_)
            · exact wq_s ⟨(show 0 ≤ (0 : Int32).toInt ∧ (0 : Int32).toInt ≤ 1 from ⟨by omega, by omega⟩), trivial⟩
            · refine wq_in (n := 6) ⟨by omega, by omega⟩ ?_
              refine wq_eq (fun hc_53174 => ?_) (fun hc_53175 => ?_)
              · exact wq_s ⟨(show 0 ≤ (0 : Int32).toInt ∧ (0 : Int32).toInt ≤ 1 from ⟨by omega, by omega⟩), trivial⟩
              · unfold fX12_isTree_J71
                have b_53176 := i32b y4_1
                exact tt_fX12_isTree_L76 hN I0 L0 M0 y4_1 y4_2 _ ⟨by omega, by omega⟩ k_I0 (fun q0 q1 hq0 hq1 => ih q0 q1 hq0 (by omega)) N y4_2 (0 : Int32) ⟨by omega, by omega⟩ ⟨by omega, by omega⟩ (by omega)
set_option maxHeartbeats 4000000 in
theorem tt_fX12_isTree {N : Nat} (hN : 3000000000 ≤ N) (I0 : Nat → Int32) (L0 : Int64) (M0 : Nat → Nat → Int32) (k_I0 : KX12 I0 M0) : wq (fX12_isTree N I0 L0 M0) (fun r => (0 ≤ r.toInt ∧ r.toInt ≤ 1) ∧ True) := by
  unfold fX12_isTree
  have l_0 := il_0
  exact tt_fX12_isTree_L4 hN I0 L0 M0 k_I0 N (0 : Int32) (0 : Int32) ⟨by omega, by omega⟩ (by omega)
set_option maxHeartbeats 4000000 in
theorem tt_fX12_tree_L274 {N : Nat} (hN : 3000000000 ≤ N) (y258_4 : Int32) (y258_7 : Int32) (y94_3 : Int32) (g9 : (Nat → Int32) → Int64 → (Nat → Nat → Int32) → Int32 → Int32 → Option (Int32 × (Nat → Int32) × Int64 × (Nat → Nat → Int32))) (g57 : (Nat → Int32) → Int64 → (Nat → Nat → Int32) → Int32 → Option (Int32 × (Nat → Int32) × Int64 × (Nat → Nat → Int32))) (g94 : (Nat → Int32) → Int64 → (Nat → Nat → Int32) → Int32 → Int32 → Option (Int32 × (Nat → Int32) × Int64 × (Nat → Nat → Int32))) (g115 : (Nat → Int32) → Int64 → (Nat → Nat → Int32) → Int32 → Int32 → Option (Int32 × (Nat → Int32) × Int64 × (Nat → Nat → Int32))) (h_y258_4 : 0 ≤ y258_4.toInt ∧ y258_4.toInt ≤ 2147483646) (h_y94_3 : 1 ≤ y94_3.toInt ∧ y94_3.toInt ≤ 2147483647) (hg115 : ∀ (q0 : (Nat → Int32)) (q1 : Int64) (q2 : (Nat → Nat → Int32)) (q3 : Int32) (q4 : Int32), (0 ≤ q4.toInt ∧ q4.toInt ≤ 2147483647) → (KX12 q0 q2) → (y258_4.toInt < q4.toInt) → wq (g115 q0 q1 q2 q3 q4) (fun r => KX12 r.2.1 r.2.2.2 ∧ True)) : ∀ (fu : Nat) (I0_l274 : (Nat → Int32)) (L0_l274 : Int64) (M0_l274 : (Nat → Nat → Int32)) (y274_8 : Int32), (0 ≤ y274_8.toInt ∧ y274_8.toInt ≤ 6) → (KX12 I0_l274 M0_l274) → (6 - y274_8.toInt) < (fu : Int) → wq (fX12_tree_L274 N y258_4 y258_7 y94_3 g9 g57 g94 g115 fu I0_l274 L0_l274 M0_l274 y274_8) (fun r => KX12 r.2.1 r.2.2.2 ∧ True) := by
  intro fu
  induction fu with
  | zero => intro I0_l274 L0_l274 M0_l274 y274_8 h_y274_8 k_I0_l274 hm; exfalso; omega
  | succ fu ih =>
    intro I0_l274 L0_l274 M0_l274 y274_8 h_y274_8 k_I0_l274 hm
    rw [fX12_tree_L274.eq_2]
    have l_6 := il_6
    refine wq_le (fun hc_55792 => ?_) (fun hc_55793 => ?_)
    · have l_1 := il_1
      have t_55795 := ia_add y258_4 (1 : Int32) (by omega) (by omega)
      refine wq_v (fun v3_q55794 h_v3_q55794 => ?_)
      have t_v3_q55794 := congrArg Int32.toInt h_v3_q55794
      have b_55796 := i32b y258_7
      have b_55797 := i32b v3_q55794
      exact hg115 I0_l274 L0_l274 M0_l274 y258_7 v3_q55794 ⟨by omega, by omega⟩ k_I0_l274 (by omega)
    · refine wq_in (n := 6) ⟨by omega, by omega⟩ ?_
      have l_0 := il_0
      refine wq_eq (fun hc_55798 => ?_) (fun hc_55799 => ?_)
      · refine wq_in (n := 6) ⟨by omega, by omega⟩ ?_
        refine wq_v (fun M0_4_q55800 h_M0_4_q55800 => ?_)
        have l_m2 := il_m2
        have k_M0_4_q55800 : KX12 I0_l274 M0_4_q55800 := by rw [h_M0_4_q55800]; exact KX12.sm23 k_I0_l274 ⟨by omega, by omega⟩
        have l_1 := il_1
        have t_55802 := ia_add y274_8 (1 : Int32) (by omega) (by omega)
        refine wq_v (fun v5_q55801 h_v5_q55801 => ?_)
        have t_v5_q55801 := congrArg Int32.toInt h_v5_q55801
        exact ih I0_l274 L0_l274 M0_4_q55800 v5_q55801 ⟨by omega, by omega⟩ k_M0_4_q55800 (by omega)
      · refine wq_in (n := 6) ⟨by omega, by omega⟩ ?_
        refine wq_in (n := 6) ⟨by omega, by omega⟩ ?_
        refine wq_v (fun M0_6_q55803 h_M0_6_q55803 => ?_)
        have t_55804 := KX12.m24 k_I0_l274 y274_8.toNatClampNeg
        have k_M0_6_q55803 : KX12 I0_l274 M0_6_q55803 := by rw [h_M0_6_q55803]; exact KX12.sm23 k_I0_l274 ⟨by omega, by omega⟩
        have l_1 := il_1
        have t_55806 := ia_add y274_8 (1 : Int32) (by omega) (by omega)
        refine wq_v (fun v7_q55805 h_v7_q55805 => ?_)
        have t_v7_q55805 := congrArg Int32.toInt h_v7_q55805
        exact ih I0_l274 L0_l274 M0_6_q55803 v7_q55805 ⟨by omega, by omega⟩ k_M0_6_q55803 (by omega)
set_option maxHeartbeats 4000000 in
theorem tt_fX12_tree_L134 {N : Nat} (hN : 3000000000 ≤ N) (y115_2 : Int32) (y115_4 : Int32) (y94_3 : Int32) (g9 : (Nat → Int32) → Int64 → (Nat → Nat → Int32) → Int32 → Int32 → Option (Int32 × (Nat → Int32) × Int64 × (Nat → Nat → Int32))) (g57 : (Nat → Int32) → Int64 → (Nat → Nat → Int32) → Int32 → Option (Int32 × (Nat → Int32) × Int64 × (Nat → Nat → Int32))) (g94 : (Nat → Int32) → Int64 → (Nat → Nat → Int32) → Int32 → Int32 → Option (Int32 × (Nat → Int32) × Int64 × (Nat → Nat → Int32))) (g115 : (Nat → Int32) → Int64 → (Nat → Nat → Int32) → Int32 → Int32 → Option (Int32 × (Nat → Int32) × Int64 × (Nat → Nat → Int32))) (h_y115_4 : 0 ≤ y115_4.toInt ∧ y115_4.toInt ≤ 2147483646) (h_y94_3 : 1 ≤ y94_3.toInt ∧ y94_3.toInt ≤ 2147483647) (hg115 : ∀ (q0 : (Nat → Int32)) (q1 : Int64) (q2 : (Nat → Nat → Int32)) (q3 : Int32) (q4 : Int32), (0 ≤ q4.toInt ∧ q4.toInt ≤ 2147483647) → (KX12 q0 q2) → (y115_4.toInt < q4.toInt) → wq (g115 q0 q1 q2 q3 q4) (fun r => KX12 r.2.1 r.2.2.2 ∧ True)) : ∀ (fu : Nat) (I0_l134 : (Nat → Int32)) (L0_l134 : Int64) (M0_l134 : (Nat → Nat → Int32)) (y134_5 : Int32) (y134_6 : Int32) (y134_7 : Int32) (y134_8 : Int32), (0 ≤ y134_5.toInt ∧ y134_5.toInt ≤ 2147483647) → (0 ≤ y134_6.toInt ∧ y134_6.toInt ≤ 1) → (-1 ≤ y134_8.toInt ∧ y134_8.toInt ≤ 5) → (KX12 I0_l134 M0_l134) → (y134_8.toInt - -1) < (fu : Int) → wq (fX12_tree_L134 N y115_2 y115_4 y94_3 g9 g57 g94 g115 fu I0_l134 L0_l134 M0_l134 y134_5 y134_6 y134_7 y134_8) (fun r => KX12 r.2.1 r.2.2.2 ∧ True) := by
  intro fu
  induction fu with
  | zero => intro I0_l134 L0_l134 M0_l134 y134_5 y134_6 y134_7 y134_8 h_y134_5 h_y134_6 h_y134_8 k_I0_l134 hm; exfalso; omega
  | succ fu ih =>
    intro I0_l134 L0_l134 M0_l134 y134_5 y134_6 y134_7 y134_8 h_y134_5 h_y134_6 h_y134_8 k_I0_l134 hm
    rw [fX12_tree_L134.eq_2]
    have l_0 := il_0
    refine wq_lt (fun hc_55807 => ?_) (fun hc_55808 => ?_)
    · refine wq_eq (fun hc_55809 => ?_) (fun hc_55810 => ?_)
      · have l_1 := il_1
        refine wq_v (fun v16_q55811 h_v16_q55811 => ?_)
        have t_v16_q55811 := (congrArg Int32.toInt h_v16_q55811).trans (ia_add y115_4 (1 : Int32) (by omega) (by omega))
        have b_55813 := i32b y115_2
        have b_55814 := i32b v16_q55811
        exact hg115 I0_l134 L0_l134 M0_l134 y115_2 v16_q55811 ⟨by omega, by omega⟩ k_I0_l134 (by omega)
      · have b_55815 := i32b y115_2
        have l_m1 := il_m1
        refine wq_eq (fun hc_55816 => ?_) (fun hc_55817 => ?_)
        · unfold fX12_tree_J258
          refine wq_b (tt_fX12_isTree hN I0_l134 L0_l134 M0_l134 k_I0_l134) (fun r2_q55818 h_r2_q55818 => ?_)
          obtain ⟨h_r2_q55818_0, -⟩ := h_r2_q55818
          refine wq_eq (fun hc_55819 => ?_) (fun hc_55820 => ?_)
          · have l_1 := il_1
            refine wq_v (fun v8_q55821 h_v8_q55821 => ?_)
            have t_v8_q55821 := (congrArg Int32.toInt h_v8_q55821).trans (ia_add y115_4 (1 : Int32) (by omega) (by omega))
            have b_55823 := i32b v8_q55821
            exact hg115 I0_l134 L0_l134 M0_l134 y115_2 v8_q55821 ⟨by omega, by omega⟩ k_I0_l134 (by omega)
          · have b_55824 := i32b y134_7
            have b_55825 := i32b y94_3
            exact tt_fX12_tree_L274 hN y115_4 y134_7 y94_3 g9 g57 g94 g115 ⟨by omega, by omega⟩ ⟨by omega, by omega⟩ hg115 N I0_l134 L0_l134 M0_l134 (0 : Int32) ⟨by omega, by omega⟩ k_I0_l134 (by omega)
        · have b_55826 := i32b y134_7
          refine wq_le (fun hc_55827 => ?_) (fun hc_55828 => ?_)
          · have l_1 := il_1
            refine wq_v (fun v17_q55829 h_v17_q55829 => ?_)
            have t_v17_q55829 := (congrArg Int32.toInt h_v17_q55829).trans (ia_add y115_4 (1 : Int32) (by omega) (by omega))
            have b_55831 := i32b v17_q55829
            exact hg115 I0_l134 L0_l134 M0_l134 y115_2 v17_q55829 ⟨by omega, by omega⟩ k_I0_l134 (by omega)
          · unfold fX12_tree_J258
            refine wq_b (tt_fX12_isTree hN I0_l134 L0_l134 M0_l134 k_I0_l134) (fun r2_q55832 h_r2_q55832 => ?_)
            obtain ⟨h_r2_q55832_0, -⟩ := h_r2_q55832
            refine wq_eq (fun hc_55833 => ?_) (fun hc_55834 => ?_)
            · have l_1 := il_1
              refine wq_v (fun v8_q55835 h_v8_q55835 => ?_)
              have t_v8_q55835 := (congrArg Int32.toInt h_v8_q55835).trans (ia_add y115_4 (1 : Int32) (by omega) (by omega))
              have b_55837 := i32b v8_q55835
              exact hg115 I0_l134 L0_l134 M0_l134 y115_2 v8_q55835 ⟨by omega, by omega⟩ k_I0_l134 (by omega)
            · have b_55838 := i32b y94_3
              exact tt_fX12_tree_L274 hN y115_4 y134_7 y94_3 g9 g57 g94 g115 ⟨by omega, by omega⟩ ⟨by omega, by omega⟩ hg115 N I0_l134 L0_l134 M0_l134 (0 : Int32) ⟨by omega, by omega⟩ k_I0_l134 (by omega)
    · refine wq_in (n := 6) ⟨by omega, by omega⟩ ?_
      refine wq_v (fun M0_18_q55839 h_M0_18_q55839 => ?_)
      have b_55840 := i32b y134_5
      have l_7 := il_7
      have t_55841 := ia_rem y134_5 (7 : Int32) 7 il_7 (by decide) (by omega)
      have l_1 := il_1
      have t_55842 := ia_sub (y134_5 - ((y134_5 / (7 : Int32)) * (7 : Int32))) (1 : Int32) (by omega) (by omega)
      have k_M0_18_q55839 : KX12 I0_l134 M0_18_q55839 := by rw [h_M0_18_q55839]; exact KX12.sm24 k_I0_l134 ⟨by omega, by omega⟩
      clear t_55841 t_55842
      refine wq_v (fun v19_q55843 h_v19_q55843 => ?_)
      have t_v19_q55843 := (congrArg Int32.toInt h_v19_q55843).trans (ia_div y134_5 (7 : Int32) 7 il_7 (by decide) (by omega))
      refine wq_eq (fun hc_55845 => ?_) (fun hc_55846 => ?_)
      · unfold fX12_tree_J190
        unfold fX12_tree_J191
        refine wq_in (n := 6) ⟨by omega, by omega⟩ ?_
        have t_55847 := KX12.m24 k_M0_18_q55839 y134_8.toNatClampNeg
        have l_m1 := il_m1
        refine wq_eq (fun hc_55848 => ?_) (fun hc_55849 => ?_)
        · refine wq_v (fun v10_q55850 h_v10_q55850 => ?_)
          clear h_v10_q55850
          refine wq_v (fun v11_q55851 h_v11_q55851 => ?_)
          have t_v11_q55851 := (congrArg Int32.toInt h_v11_q55851).trans (ia_add y134_8 ((-1) : Int32) (by omega) (by omega))
          have b_55853 := i32b v10_q55850
          exact ih I0_l134 L0_l134 M0_18_q55839 v19_q55843 (0 : Int32) v10_q55850 v11_q55851 ⟨by omega, by omega⟩ ⟨by omega, by omega⟩ ⟨by omega, by omega⟩ k_M0_18_q55839 (by omega)
        · refine wq_eq (fun hc_55854 => ?_) (fun hc_55855 => ?_)
          · refine wq_v (fun v14_q55856 h_v14_q55856 => ?_)
            clear h_v14_q55856
            refine wq_v (fun v15_q55857 h_v15_q55857 => ?_)
            have t_v15_q55857 := (congrArg Int32.toInt h_v15_q55857).trans (ia_add y134_8 ((-1) : Int32) (by omega) (by omega))
            have b_55859 := i32b v14_q55856
            exact ih I0_l134 L0_l134 M0_18_q55839 v19_q55843 (0 : Int32) v14_q55856 v15_q55857 ⟨by omega, by omega⟩ ⟨by omega, by omega⟩ ⟨by omega, by omega⟩ k_M0_18_q55839 (by omega)
          · exfalso; omega
      · refine wq_in (n := 6) ⟨by omega, by omega⟩ ?_
        have t_55860 : (M0_18_q55839 26 y134_8.toNatClampNeg).toInt = (M0_l134 26 y134_8.toNatClampNeg).toInt := congrArg (fun z : Nat → Int32 => (z y134_8.toNatClampNeg).toInt) (show M0_18_q55839 26 = M0_l134 26 from by rw [h_M0_18_q55839]; rfl)
        refine wq_eq (fun hc_55861 => ?_) (fun hc_55862 => ?_)
        · refine wq_in (n := 6) ⟨by omega, by omega⟩ ?_
          have t_55863 := KX12.m24 k_M0_18_q55839 y134_8.toNatClampNeg
          have l_m1 := il_m1
          refine wq_eq (fun hc_55864 => ?_) (fun hc_55865 => ?_)
          · unfold fX12_tree_J186
            unfold fX12_tree_J191
            refine wq_in (n := 6) ⟨by omega, by omega⟩ ?_
            refine wq_eq (fun hc_55866 => ?_) (fun hc_55867 => ?_)
            · refine wq_v (fun v10_q55868 h_v10_q55868 => ?_)
              clear h_v10_q55868
              refine wq_v (fun v11_q55869 h_v11_q55869 => ?_)
              have t_v11_q55869 := (congrArg Int32.toInt h_v11_q55869).trans (ia_add y134_8 ((-1) : Int32) (by omega) (by omega))
              have b_55871 := i32b v10_q55868
              exact ih I0_l134 L0_l134 M0_18_q55839 v19_q55843 (1 : Int32) v10_q55868 v11_q55869 ⟨by omega, by omega⟩ ⟨by omega, by omega⟩ ⟨by omega, by omega⟩ k_M0_18_q55839 (by omega)
            · exfalso; omega
          · unfold fX12_tree_J190
            unfold fX12_tree_J191
            refine wq_in (n := 6) ⟨by omega, by omega⟩ ?_
            refine wq_eq (fun hc_55872 => ?_) (fun hc_55873 => ?_)
            · exfalso; omega
            · refine wq_eq (fun hc_55874 => ?_) (fun hc_55875 => ?_)
              · refine wq_v (fun v14_q55876 h_v14_q55876 => ?_)
                clear h_v14_q55876
                refine wq_v (fun v15_q55877 h_v15_q55877 => ?_)
                have t_v15_q55877 := (congrArg Int32.toInt h_v15_q55877).trans (ia_add y134_8 ((-1) : Int32) (by omega) (by omega))
                have b_55879 := i32b v14_q55876
                exact ih I0_l134 L0_l134 M0_18_q55839 v19_q55843 (0 : Int32) v14_q55876 v15_q55877 ⟨by omega, by omega⟩ ⟨by omega, by omega⟩ ⟨by omega, by omega⟩ k_M0_18_q55839 (by omega)
              · exfalso; omega
        · unfold fX12_tree_J186
          unfold fX12_tree_J191
          refine wq_in (n := 6) ⟨by omega, by omega⟩ ?_
          have t_55880 := KX12.m24 k_M0_18_q55839 y134_8.toNatClampNeg
          have l_m1 := il_m1
          refine wq_eq (fun hc_55881 => ?_) (fun hc_55882 => ?_)
          · refine wq_v (fun v10_q55883 h_v10_q55883 => ?_)
            clear h_v10_q55883
            refine wq_v (fun v11_q55884 h_v11_q55884 => ?_)
            have t_v11_q55884 := (congrArg Int32.toInt h_v11_q55884).trans (ia_add y134_8 ((-1) : Int32) (by omega) (by omega))
            have b_55886 := i32b v10_q55883
            exact ih I0_l134 L0_l134 M0_18_q55839 v19_q55843 (1 : Int32) v10_q55883 v11_q55884 ⟨by omega, by omega⟩ ⟨by omega, by omega⟩ ⟨by omega, by omega⟩ k_M0_18_q55839 (by omega)
          · refine wq_eq (fun hc_55887 => ?_) (fun hc_55888 => ?_)
            · exfalso; omega
            · refine wq_in (n := 6) ⟨by omega, by omega⟩ ?_
              have l_6 := il_6
              have t_55889 := ia_mul (6 : Int32) (6) il_6 (M0_18_q55839 24 y134_8.toNatClampNeg) (by omega) (by omega)
              have t_55890 := ia_add ((6 : Int32) * (M0_18_q55839 24 y134_8.toNatClampNeg)) y134_8 (by omega) (by omega)
              refine wq_in (n := 36) ⟨by omega, by omega⟩ ?_
              have b_55892 := i32b y134_7
              have t_55893 : (M0_18_q55839 25 (((6 : Int32) * (M0_18_q55839 24 y134_8.toNatClampNeg)) + y134_8).toNatClampNeg).toInt = (M0_l134 25 (((6 : Int32) * (M0_18_q55839 24 y134_8.toNatClampNeg)) + y134_8).toNatClampNeg).toInt := congrArg (fun z : Nat → Int32 => (z ((((6 : Int32) * (M0_18_q55839 24 y134_8.toNatClampNeg)) + y134_8)).toNatClampNeg).toInt) (show M0_18_q55839 25 = M0_l134 25 from by rw [h_M0_18_q55839]; rfl)
              refine wq_v (fun v12_q55891 h_v12_q55891 => ?_)
              clear h_v12_q55891
              refine wq_v (fun v13_q55894 h_v13_q55894 => ?_)
              have t_v13_q55894 := (congrArg Int32.toInt h_v13_q55894).trans (ia_add y134_8 ((-1) : Int32) (by omega) (by omega))
              have b_55896 := i32b v12_q55891
              exact ih I0_l134 L0_l134 M0_18_q55839 v19_q55843 (1 : Int32) v12_q55891 v13_q55894 ⟨by omega, by omega⟩ ⟨by omega, by omega⟩ ⟨by omega, by omega⟩ k_M0_18_q55839 (by omega)
set_option maxHeartbeats 4000000 in
theorem tt_fX12_tree_L115 {N : Nat} (hN : 3000000000 ≤ N) (y94_3 : Int32) (g9 : (Nat → Int32) → Int64 → (Nat → Nat → Int32) → Int32 → Int32 → Option (Int32 × (Nat → Int32) × Int64 × (Nat → Nat → Int32))) (g57 : (Nat → Int32) → Int64 → (Nat → Nat → Int32) → Int32 → Option (Int32 × (Nat → Int32) × Int64 × (Nat → Nat → Int32))) (g94 : (Nat → Int32) → Int64 → (Nat → Nat → Int32) → Int32 → Int32 → Option (Int32 × (Nat → Int32) × Int64 × (Nat → Nat → Int32)))   : ∀ (fu : Nat) (I0_l115 : (Nat → Int32)) (L0_l115 : Int64) (M0_l115 : (Nat → Nat → Int32)) (y115_2 : Int32) (y115_4 : Int32), (0 ≤ y115_4.toInt ∧ y115_4.toInt ≤ 2147483647) → (KX12 I0_l115 M0_l115) → (2147483647 - y115_4.toInt) < (fu : Int) → wq (fX12_tree_L115 N y94_3 g9 g57 g94 fu I0_l115 L0_l115 M0_l115 y115_2 y115_4) (fun r => KX12 r.2.1 r.2.2.2 ∧ True) := by
  intro fu
  induction fu with
  | zero => intro I0_l115 L0_l115 M0_l115 y115_2 y115_4 h_y115_4 k_I0_l115 hm; exfalso; omega
  | succ fu ih =>
    intro I0_l115 L0_l115 M0_l115 y115_2 y115_4 h_y115_4 k_I0_l115 hm
    rw [fX12_tree_L115.eq_2]
    have b_55897 := i32b y94_3
    have b_55898 := i32b y115_4
    refine wq_le (fun hc_55899 => ?_) (fun hc_55900 => ?_)
    · refine wq_v (fun I0_9_q55901 h_I0_9_q55901 => ?_)
      have l_1 := il_1
      have k_I0_9_q55901 : KX12 I0_9_q55901 M0_l115 := by rw [h_I0_9_q55901]; exact KX12.si18 k_I0_l115 ⟨by omega, by omega⟩
      have b_55902 := i32b y115_2
      exact wq_s ⟨k_I0_9_q55901, trivial⟩
    · have b_55903 := i32b y115_2
      have l_1 := il_1
      have l_0 := il_0
      have l_5 := il_5
      exact tt_fX12_tree_L134 hN y115_2 y115_4 y94_3 g9 g57 g94 _ ⟨by omega, by omega⟩ ⟨by omega, by omega⟩ (fun q0 q1 q2 q3 q4 hq0 hq1 hq2 => ih q0 q1 q2 q3 q4 hq0 hq1 (by omega)) N I0_l115 L0_l115 M0_l115 y115_4 (1 : Int32) (0 : Int32) (5 : Int32) ⟨by omega, by omega⟩ ⟨by omega, by omega⟩ ⟨by omega, by omega⟩ k_I0_l115 (by omega)
set_option maxHeartbeats 4000000 in
theorem tt_fX12_tree_L94 {N : Nat} (hN : 3000000000 ≤ N) (g9 : (Nat → Int32) → Int64 → (Nat → Nat → Int32) → Int32 → Int32 → Option (Int32 × (Nat → Int32) × Int64 × (Nat → Nat → Int32))) (g57 : (Nat → Int32) → Int64 → (Nat → Nat → Int32) → Int32 → Option (Int32 × (Nat → Int32) × Int64 × (Nat → Nat → Int32)))   : ∀ (fu : Nat) (I0_l94 : (Nat → Int32)) (L0_l94 : Int64) (M0_l94 : (Nat → Nat → Int32)) (y94_3 : Int32) (y94_4 : Int32), (0 ≤ y94_4.toInt ∧ y94_4.toInt ≤ 6) → (KX12 I0_l94 M0_l94) → (6 - y94_4.toInt) < (fu : Int) → wq (fX12_tree_L94 N g9 g57 fu I0_l94 L0_l94 M0_l94 y94_3 y94_4) (fun r => KX12 r.2.1 r.2.2.2 ∧ True) := by
  intro fu
  induction fu with
  | zero => intro I0_l94 L0_l94 M0_l94 y94_3 y94_4 h_y94_4 k_I0_l94 hm; exfalso; omega
  | succ fu ih =>
    intro I0_l94 L0_l94 M0_l94 y94_3 y94_4 h_y94_4 k_I0_l94 hm
    rw [fX12_tree_L94.eq_2]
    have l_6 := il_6
    refine wq_le (fun hc_55904 => ?_) (fun hc_55905 => ?_)
    · have b_55906 := i32b y94_3
      have l_m1 := il_m1
      have l_0 := il_0
      exact tt_fX12_tree_L115 hN y94_3 g9 g57 _ N I0_l94 L0_l94 M0_l94 ((-1) : Int32) (0 : Int32) ⟨by omega, by omega⟩ k_I0_l94 (by omega)
    · refine wq_v (fun v20_q55907 h_v20_q55907 => ?_)
      clear h_v20_q55907
      have l_1 := il_1
      have t_55909 := ia_add y94_4 (1 : Int32) (by omega) (by omega)
      refine wq_v (fun v21_q55908 h_v21_q55908 => ?_)
      have t_v21_q55908 := congrArg Int32.toInt h_v21_q55908
      have b_55910 := i32b v20_q55907
      exact ih I0_l94 L0_l94 M0_l94 v20_q55907 v21_q55908 ⟨by omega, by omega⟩ k_I0_l94 (by omega)
set_option maxHeartbeats 4000000 in
theorem tt_fX12_tree_L57 {N : Nat} (hN : 3000000000 ≤ N) (g9 : (Nat → Int32) → Int64 → (Nat → Nat → Int32) → Int32 → Int32 → Option (Int32 × (Nat → Int32) × Int64 × (Nat → Nat → Int32)))   : ∀ (fu : Nat) (I0_l57 : (Nat → Int32)) (L0_l57 : Int64) (M0_l57 : (Nat → Nat → Int32)) (y57_2 : Int32), (0 ≤ y57_2.toInt ∧ y57_2.toInt ≤ 36) → (KX12 I0_l57 M0_l57) → (36 - y57_2.toInt) < (fu : Int) → wq (fX12_tree_L57 N g9 fu I0_l57 L0_l57 M0_l57 y57_2) (fun r => KX12 r.2.1 r.2.2.2 ∧ True) := by
  intro fu
  induction fu with
  | zero => intro I0_l57 L0_l57 M0_l57 y57_2 h_y57_2 k_I0_l57 hm; exfalso; omega
  | succ fu ih =>
    intro I0_l57 L0_l57 M0_l57 y57_2 h_y57_2 k_I0_l57 hm
    rw [fX12_tree_L57.eq_2]
    have l_36 := il_36
    refine wq_le (fun hc_55911 => ?_) (fun hc_55912 => ?_)
    · have l_1 := il_1
      have l_0 := il_0
      exact tt_fX12_tree_L94 hN g9 _ N I0_l57 L0_l57 M0_l57 (1 : Int32) (0 : Int32) ⟨by omega, by omega⟩ k_I0_l57 (by omega)
    · have l_6 := il_6
      have t_55913 := ia_div y57_2 (6 : Int32) 6 il_6 (by decide) (by omega)
      have t_55914 := ia_rem y57_2 (6 : Int32) 6 il_6 (by decide) (by omega)
      refine wq_b (tt_fX12_priceAll hN I0_l57 L0_l57 M0_l57 (y57_2 / (6 : Int32)) (y57_2 - ((y57_2 / (6 : Int32)) * (6 : Int32))) ⟨by omega, by omega⟩ ⟨by omega, by omega⟩ k_I0_l57) (fun r22_q55915 h_r22_q55915 => ?_)
      obtain ⟨-⟩ := h_r22_q55915
      refine wq_in (n := 36) ⟨by omega, by omega⟩ ?_
      refine wq_v (fun M0_23_q55916 h_M0_23_q55916 => ?_)
      have k_M0_23_q55916 : KX12 I0_l57 M0_23_q55916 := by rw [h_M0_23_q55916]; exact KX12.sm25 k_I0_l57
      have l_1 := il_1
      have t_55918 := ia_add y57_2 (1 : Int32) (by omega) (by omega)
      refine wq_v (fun v24_q55917 h_v24_q55917 => ?_)
      have t_v24_q55917 := congrArg Int32.toInt h_v24_q55917
      exact ih I0_l57 L0_l57 M0_23_q55916 v24_q55917 ⟨by omega, by omega⟩ k_M0_23_q55916 (by omega)
set_option maxHeartbeats 4000000 in
theorem tt_fX12_tree_L9 {N : Nat} (hN : 3000000000 ≤ N)    : ∀ (fu : Nat) (I0_l9 : (Nat → Int32)) (L0_l9 : Int64) (M0_l9 : (Nat → Nat → Int32)) (y9_1 : Int32) (y9_2 : Int32), (0 ≤ y9_2.toInt ∧ y9_2.toInt ≤ 6) → (KX12 I0_l9 M0_l9) → (6 - y9_2.toInt) < (fu : Int) → wq (fX12_tree_L9 N fu I0_l9 L0_l9 M0_l9 y9_1 y9_2) (fun r => KX12 r.2.1 r.2.2.2 ∧ True) := by
  intro fu
  induction fu with
  | zero => intro I0_l9 L0_l9 M0_l9 y9_1 y9_2 h_y9_2 k_I0_l9 hm; exfalso; omega
  | succ fu ih =>
    intro I0_l9 L0_l9 M0_l9 y9_1 y9_2 h_y9_2 k_I0_l9 hm
    rw [fX12_tree_L9.eq_2]
    have l_6 := il_6
    refine wq_le (fun hc_55919 => ?_) (fun hc_55920 => ?_)
    · have b_55921 := i32b y9_1
      have l_0 := il_0
      refine wq_eq (fun hc_55922 => ?_) (fun hc_55923 => ?_)
      · have l_m1 := il_m1
        exact wq_s ⟨k_I0_l9, trivial⟩
      · exact tt_fX12_tree_L57 hN _ N I0_l9 L0_l9 M0_l9 (0 : Int32) ⟨by omega, by omega⟩ k_I0_l9 (by omega)
    · refine wq_b (tt_fX12_bookTells hN I0_l9 L0_l9 M0_l9 y9_2 ⟨by omega, by omega⟩ k_I0_l9) (fun r25_q55924 h_r25_q55924 => ?_)
      obtain ⟨h_r25_q55924_0, -⟩ := h_r25_q55924
      refine wq_in (n := 6) ⟨by omega, by omega⟩ ?_
      refine wq_v (fun M0_26_q55925 h_M0_26_q55925 => ?_)
      have k_M0_26_q55925 : KX12 I0_l9 M0_26_q55925 := by rw [h_M0_26_q55925]; exact KX12.sm26 k_I0_l9
      refine wq_in (n := 6) ⟨by omega, by omega⟩ ?_
      have l_0 := il_0
      refine wq_eq (fun hc_55926 => ?_) (fun hc_55927 => ?_)
      · refine wq_v (fun v27_q55928 h_v27_q55928 => ?_)
        clear h_v27_q55928
        have l_1 := il_1
        have t_55930 := ia_add y9_2 (1 : Int32) (by omega) (by omega)
        refine wq_v (fun v28_q55929 h_v28_q55929 => ?_)
        have t_v28_q55929 := congrArg Int32.toInt h_v28_q55929
        have b_55931 := i32b v27_q55928
        exact ih I0_l9 L0_l9 M0_26_q55925 v27_q55928 v28_q55929 ⟨by omega, by omega⟩ k_M0_26_q55925 (by omega)
      · have b_55933 := i32b y9_1
        have l_1 := il_1
        refine wq_v (fun v29_q55932 h_v29_q55932 => ?_)
        clear h_v29_q55932
        have t_55935 := ia_add y9_2 (1 : Int32) (by omega) (by omega)
        refine wq_v (fun v30_q55934 h_v30_q55934 => ?_)
        have t_v30_q55934 := congrArg Int32.toInt h_v30_q55934
        have b_55936 := i32b v29_q55932
        exact ih I0_l9 L0_l9 M0_26_q55925 v29_q55932 v30_q55934 ⟨by omega, by omega⟩ k_M0_26_q55925 (by omega)
set_option maxHeartbeats 4000000 in
theorem tt_fX12_tree {N : Nat} (hN : 3000000000 ≤ N) (I0 : Nat → Int32) (L0 : Int64) (M0 : Nat → Nat → Int32) (k_I0 : KX12 I0 M0) : wq (fX12_tree N I0 L0 M0) (fun r => KX12 r.2.1 r.2.2.2 ∧ True) := by
  unfold fX12_tree
  refine wq_v (fun I0_1_q55937 h_I0_1_q55937 => ?_)
  have k_I0_1_q55937 : KX12 I0_1_q55937 M0 := by rw [h_I0_1_q55937]; exact KX12.si0 k_I0
  have l_0 := il_0
  exact tt_fX12_tree_L9 hN N I0_1_q55937 L0 M0 (0 : Int32) (0 : Int32) ⟨by omega, by omega⟩ k_I0_1_q55937 (by omega)
set_option maxHeartbeats 4000000 in
theorem tt_fX12_whence {N : Nat} (hN : 3000000000 ≤ N) (I0 : Nat → Int32) (L0 : Int64) (M0 : Nat → Nat → Int32) (x1 : Int32) (k_I0 : KX12 I0 M0) : wq (fX12_whence N I0 L0 M0 x1) (fun r => (-2 ≤ r.1.toInt ∧ r.1.toInt ≤ 5) ∧ KX12 r.2.1 r.2.2.2 ∧ True) := by
  unfold fX12_whence
  refine wq_v (fun I0_2_q56112 h_I0_2_q56112 => ?_)
  have k_I0_2_q56112 : KX12 I0_2_q56112 M0 := by rw [h_I0_2_q56112]; exact KX12.si0 k_I0
  have b_56113 := i32b x1
  refine wq_b (tt_fX12_isBook hN I0_2_q56112 L0 M0 x1 k_I0_2_q56112) (fun r3_q56114 h_r3_q56114 => ?_)
  obtain ⟨h_r3_q56114_0, h_r3_q56114_1, h_r3_q56114_2, h_r3_q56114_3, -⟩ := h_r3_q56114
  have t_56115 := KX12.i1 h_r3_q56114_3
  have t_56116 := KX12.i1 k_I0
  have t_56117 : (I0_2_q56112 1).toInt = (I0 1).toInt := by rw [h_I0_2_q56112]; rfl
  have l_0 := il_0
  refine wq_eq (fun hc_56118 => ?_) (fun hc_56119 => ?_)
  · exact wq_s ⟨(show -2 ≤ (0 : Int32).toInt ∧ (0 : Int32).toInt ≤ 5 from ⟨by omega, by omega⟩), h_r3_q56114_3, trivial⟩
  · have t_56120 := KX12.i18 h_r3_q56114_3
    refine wq_eq (fun hc_56121 => ?_) (fun hc_56122 => ?_)
    · unfold fX12_whence_J36
      unfold fX12_whence_J37
      have l_1 := il_1
      refine wq_b (tt_fX12_right hN r3_q56114.2.1 r3_q56114.2.2.1 r3_q56114.2.2.2 (0 : Int32) (1 : Int32) ⟨by omega, by omega⟩ h_r3_q56114_3) (fun r1_q56123 h_r1_q56123 => ?_)
      obtain ⟨h_r1_q56123_0, h_r1_q56123_1, h_r1_q56123_2, h_r1_q56123_3, -⟩ := h_r1_q56123
      have t_56124 := KX12.i1 h_r1_q56123_3
      refine wq_eq (fun hc_56125 => ?_) (fun hc_56126 => ?_)
      · exact wq_s ⟨(show -2 ≤ (0 : Int32).toInt ∧ (0 : Int32).toInt ≤ 5 from ⟨by omega, by omega⟩), h_r1_q56123_3, trivial⟩
      · refine wq_in (n := 6) ⟨by omega, by omega⟩ ?_
        have t_56127 := KX12.m23 h_r1_q56123_3 x1.toNatClampNeg
        exact wq_s ⟨(show -2 ≤ (r1_q56123.2.2.2 23 x1.toNatClampNeg).toInt ∧ (r1_q56123.2.2.2 23 x1.toNatClampNeg).toInt ≤ 5 from ⟨by omega, by omega⟩), h_r1_q56123_3, trivial⟩
    · refine wq_in (n := 6) ⟨by omega, by omega⟩ ?_
      have t_56128 := KX12.m23 h_r3_q56114_3 x1.toNatClampNeg
      have l_m2 := il_m2
      refine wq_eq (fun hc_56129 => ?_) (fun hc_56130 => ?_)
      · unfold fX12_whence_J36
        unfold fX12_whence_J37
        have l_1 := il_1
        refine wq_b (tt_fX12_right hN r3_q56114.2.1 r3_q56114.2.2.1 r3_q56114.2.2.2 (0 : Int32) (1 : Int32) ⟨by omega, by omega⟩ h_r3_q56114_3) (fun r1_q56131 h_r1_q56131 => ?_)
        obtain ⟨h_r1_q56131_0, h_r1_q56131_1, h_r1_q56131_2, h_r1_q56131_3, -⟩ := h_r1_q56131
        have t_56132 := KX12.i1 h_r1_q56131_3
        refine wq_eq (fun hc_56133 => ?_) (fun hc_56134 => ?_)
        · exact wq_s ⟨(show -2 ≤ (0 : Int32).toInt ∧ (0 : Int32).toInt ≤ 5 from ⟨by omega, by omega⟩), h_r1_q56131_3, trivial⟩
        · refine wq_in (n := 6) ⟨by omega, by omega⟩ ?_
          have t_56135 := KX12.m23 h_r1_q56131_3 x1.toNatClampNeg
          exact wq_s ⟨(show -2 ≤ (r1_q56131.2.2.2 23 x1.toNatClampNeg).toInt ∧ (r1_q56131.2.2.2 23 x1.toNatClampNeg).toInt ≤ 5 from ⟨by omega, by omega⟩), h_r1_q56131_3, trivial⟩
      · unfold fX12_whence_J37
        have l_1 := il_1
        refine wq_b (tt_fX12_right hN r3_q56114.2.1 r3_q56114.2.2.1 r3_q56114.2.2.2 (1 : Int32) (1 : Int32) ⟨by omega, by omega⟩ h_r3_q56114_3) (fun r1_q56136 h_r1_q56136 => ?_)
        obtain ⟨h_r1_q56136_0, h_r1_q56136_1, h_r1_q56136_2, h_r1_q56136_3, -⟩ := h_r1_q56136
        have t_56137 := KX12.i1 h_r1_q56136_3
        refine wq_eq (fun hc_56138 => ?_) (fun hc_56139 => ?_)
        · exact wq_s ⟨(show -2 ≤ (0 : Int32).toInt ∧ (0 : Int32).toInt ≤ 5 from ⟨by omega, by omega⟩), h_r1_q56136_3, trivial⟩
        · refine wq_in (n := 6) ⟨by omega, by omega⟩ ?_
          have t_56140 := KX12.m23 h_r1_q56136_3 x1.toNatClampNeg
          exact wq_s ⟨(show -2 ≤ (r1_q56136.2.2.2 23 x1.toNatClampNeg).toInt ∧ (r1_q56136.2.2.2 23 x1.toNatClampNeg).toInt ≤ 5 from ⟨by omega, by omega⟩), h_r1_q56136_3, trivial⟩
set_option maxHeartbeats 4000000 in
theorem tt_fX12_slips_L62 {N : Nat} (hN : 3000000000 ≤ N) (x1 : Int32) (x2 : Int32) (y52_4 : Int32) (g52 : (Nat → Int32) → Int64 → (Nat → Nat → Int32) → Int32 → Int32 → Option (Int32 × (Nat → Int32) × Int64 × (Nat → Nat → Int32))) (h_y52_4 : 0 ≤ y52_4.toInt ∧ y52_4.toInt ≤ 5) (hg52 : ∀ (q0 : (Nat → Int32)) (q1 : Int64) (q2 : (Nat → Nat → Int32)) (q3 : Int32) (q4 : Int32), (0 ≤ q4.toInt ∧ q4.toInt ≤ 6) → (KX12 q0 q2) → (y52_4.toInt < q4.toInt) → wq (g52 q0 q1 q2 q3 q4) (fun r => KX12 r.2.1 r.2.2.2 ∧ True)) : ∀ (fu : Nat) (I0_l62 : (Nat → Int32)) (L0_l62 : Int64) (M0_l62 : (Nat → Nat → Int32)) (y62_3 : Int32) (y62_5 : Int32), (0 ≤ y62_5.toInt ∧ y62_5.toInt ≤ 420) → (KX12 I0_l62 M0_l62) → (420 - y62_5.toInt) < (fu : Int) → wq (fX12_slips_L62 N x1 x2 y52_4 g52 fu I0_l62 L0_l62 M0_l62 y62_3 y62_5) (fun r => KX12 r.2.1 r.2.2.2 ∧ True) := by
  intro fu
  induction fu with
  | zero => intro I0_l62 L0_l62 M0_l62 y62_3 y62_5 h_y62_5 k_I0_l62 hm; exfalso; omega
  | succ fu ih =>
    intro I0_l62 L0_l62 M0_l62 y62_3 y62_5 h_y62_5 k_I0_l62 hm
    rw [fX12_slips_L62.eq_2]
    have l_420 := il_420
    refine wq_le (fun hc_59071 => ?_) (fun hc_59072 => ?_)
    · have l_1 := il_1
      have t_59074 := ia_add y52_4 (1 : Int32) (by omega) (by omega)
      refine wq_v (fun v7_q59073 h_v7_q59073 => ?_)
      have t_v7_q59073 := congrArg Int32.toInt h_v7_q59073
      have b_59075 := i32b y62_3
      exact hg52 I0_l62 L0_l62 M0_l62 y62_3 v7_q59073 ⟨by omega, by omega⟩ k_I0_l62 (by omega)
    · refine wq_in (n := 6) ⟨by omega, by omega⟩ ?_
      have t_59076 := KX12.m23 k_I0_l62 y52_4.toNatClampNeg
      have l_0 := il_0
      refine wq_lt (fun hc_59077 => ?_) (fun hc_59078 => ?_)
      · have l_1 := il_1
        have t_59080 := ia_add y52_4 (1 : Int32) (by omega) (by omega)
        refine wq_v (fun v8_q59079 h_v8_q59079 => ?_)
        have t_v8_q59079 := congrArg Int32.toInt h_v8_q59079
        have b_59081 := i32b y62_3
        exact hg52 I0_l62 L0_l62 M0_l62 y62_3 v8_q59079 ⟨by omega, by omega⟩ k_I0_l62 (by omega)
      · have l_20 := il_20
        have t_59082 := ia_mul (20 : Int32) (20) il_20 y52_4 (by omega) (by omega)
        have l_21 := il_21
        have t_59083 := ia_div y62_5 (21 : Int32) 21 il_21 (by decide) (by omega)
        have t_59084 := ia_add ((20 : Int32) * y52_4) (y62_5 / (21 : Int32)) (by omega) (by omega)
        have t_59085 := ia_rem y62_5 (21 : Int32) 21 il_21 (by decide) (by omega)
        refine wq_b (tt_fX12_at hN I0_l62 L0_l62 M0_l62 (((20 : Int32) * y52_4) + (y62_5 / (21 : Int32))) (y62_5 - ((y62_5 / (21 : Int32)) * (21 : Int32))) ⟨by omega, by omega⟩ ⟨by omega, by omega⟩ k_I0_l62) (fun r9b_q59086 h_r9b_q59086 => ?_)
        obtain ⟨h_r9b_q59086_0, h_r9b_q59086_1, h_r9b_q59086_2, -⟩ := h_r9b_q59086
        refine wq_in (n := 6) ⟨by omega, by omega⟩ ?_
        have t_59087 := ia_mul (20 : Int32) (20) il_20 (M0_l62 23 y52_4.toNatClampNeg) (by omega) (by omega)
        have t_59088 := ia_add ((20 : Int32) * (M0_l62 23 y52_4.toNatClampNeg)) (y62_5 / (21 : Int32)) (by omega) (by omega)
        refine wq_b (tt_fX12_at hN I0_l62 L0_l62 M0_l62 (((20 : Int32) * (M0_l62 23 y52_4.toNatClampNeg)) + (y62_5 / (21 : Int32))) (y62_5 - ((y62_5 / (21 : Int32)) * (21 : Int32))) ⟨by omega, by omega⟩ ⟨by omega, by omega⟩ k_I0_l62) (fun r10_q59089 h_r10_q59089 => ?_)
        obtain ⟨h_r10_q59089_0, h_r10_q59089_1, h_r10_q59089_2, -⟩ := h_r10_q59089
        have l_m1 := il_m1
        refine wq_eq (fun hc_59090 => ?_) (fun hc_59091 => ?_)
        · have l_1 := il_1
          have t_59093 := ia_add y62_5 (1 : Int32) (by omega) (by omega)
          refine wq_v (fun v11_q59092 h_v11_q59092 => ?_)
          have t_v11_q59092 := congrArg Int32.toInt h_v11_q59092
          have b_59094 := i32b y62_3
          exact ih I0_l62 L0_l62 M0_l62 y62_3 v11_q59092 ⟨by omega, by omega⟩ k_I0_l62 (by omega)
        · refine wq_eq (fun hc_59095 => ?_) (fun hc_59096 => ?_)
          · have l_1 := il_1
            have t_59098 := ia_add y62_5 (1 : Int32) (by omega) (by omega)
            refine wq_v (fun v15_q59097 h_v15_q59097 => ?_)
            have t_v15_q59097 := congrArg Int32.toInt h_v15_q59097
            have b_59099 := i32b y62_3
            exact ih I0_l62 L0_l62 M0_l62 y62_3 v15_q59097 ⟨by omega, by omega⟩ k_I0_l62 (by omega)
          · refine wq_b (tt_fX12_beside hN I0_l62 L0_l62 M0_l62 r9b_q59086 r10_q59089 ⟨by omega, by omega⟩ k_I0_l62) (fun r12_q59100 h_r12_q59100 => ?_)
            obtain ⟨h_r12_q59100_0, -⟩ := h_r12_q59100
            have l_1 := il_1
            refine wq_eq (fun hc_59101 => ?_) (fun hc_59102 => ?_)
            · have l_30 := il_30
              have t_59103 := ia_rem r9b_q59086 (30 : Int32) 30 il_30 (by decide) (by omega)
              have b_59104 := i32b x1
              refine wq_eq (fun hc_59105 => ?_) (fun hc_59106 => ?_)
              · have t_59107 := ia_rem r10_q59089 (30 : Int32) 30 il_30 (by decide) (by omega)
                have b_59108 := i32b x2
                refine wq_eq (fun hc_59109 => ?_) (fun hc_59110 => ?_)
                · have b_59112 := i32b y62_3
                  refine wq_v (fun v13_q59111 h_v13_q59111 => ?_)
                  have t_v13_q59111 := congrArg Int32.toInt h_v13_q59111
                  have t_59114 := ia_add y62_5 (1 : Int32) (by omega) (by omega)
                  refine wq_v (fun v14_q59113 h_v14_q59113 => ?_)
                  have t_v14_q59113 := congrArg Int32.toInt h_v14_q59113
                  have b_59115 := i32b v13_q59111
                  exact ih I0_l62 L0_l62 M0_l62 v13_q59111 v14_q59113 ⟨by omega, by omega⟩ k_I0_l62 (by omega)
                · unfold fX12_slips_J178
                  have l_2 := il_2
                  refine wq_eq (fun hc_59116 => ?_) (fun hc_59117 => ?_)
                  · exfalso; omega
                  · have t_59119 := ia_add y62_5 (1 : Int32) (by omega) (by omega)
                    refine wq_v (fun v2_q59118 h_v2_q59118 => ?_)
                    have t_v2_q59118 := congrArg Int32.toInt h_v2_q59118
                    have b_59120 := i32b y62_3
                    exact ih I0_l62 L0_l62 M0_l62 y62_3 v2_q59118 ⟨by omega, by omega⟩ k_I0_l62 (by omega)
              · unfold fX12_slips_J178
                have l_2 := il_2
                refine wq_eq (fun hc_59121 => ?_) (fun hc_59122 => ?_)
                · exfalso; omega
                · have t_59124 := ia_add y62_5 (1 : Int32) (by omega) (by omega)
                  refine wq_v (fun v2_q59123 h_v2_q59123 => ?_)
                  have t_v2_q59123 := congrArg Int32.toInt h_v2_q59123
                  have b_59125 := i32b y62_3
                  exact ih I0_l62 L0_l62 M0_l62 y62_3 v2_q59123 ⟨by omega, by omega⟩ k_I0_l62 (by omega)
            · unfold fX12_slips_J178
              have l_2 := il_2
              refine wq_eq (fun hc_59126 => ?_) (fun hc_59127 => ?_)
              · have l_30 := il_30
                have t_59128 := ia_div r9b_q59086 (30 : Int32) 30 il_30 (by decide) (by omega)
                have b_59129 := i32b x1
                refine wq_eq (fun hc_59130 => ?_) (fun hc_59131 => ?_)
                · have t_59132 := ia_div r10_q59089 (30 : Int32) 30 il_30 (by decide) (by omega)
                  have b_59133 := i32b x2
                  refine wq_eq (fun hc_59134 => ?_) (fun hc_59135 => ?_)
                  · have b_59137 := i32b y62_3
                    refine wq_v (fun v5_q59136 h_v5_q59136 => ?_)
                    have t_v5_q59136 := congrArg Int32.toInt h_v5_q59136
                    have t_59139 := ia_add y62_5 (1 : Int32) (by omega) (by omega)
                    refine wq_v (fun v6_q59138 h_v6_q59138 => ?_)
                    have t_v6_q59138 := congrArg Int32.toInt h_v6_q59138
                    have b_59140 := i32b v5_q59136
                    exact ih I0_l62 L0_l62 M0_l62 v5_q59136 v6_q59138 ⟨by omega, by omega⟩ k_I0_l62 (by omega)
                  · have t_59142 := ia_add y62_5 (1 : Int32) (by omega) (by omega)
                    refine wq_v (fun v4_q59141 h_v4_q59141 => ?_)
                    have t_v4_q59141 := congrArg Int32.toInt h_v4_q59141
                    have b_59143 := i32b y62_3
                    exact ih I0_l62 L0_l62 M0_l62 y62_3 v4_q59141 ⟨by omega, by omega⟩ k_I0_l62 (by omega)
                · have t_59145 := ia_add y62_5 (1 : Int32) (by omega) (by omega)
                  refine wq_v (fun v3_q59144 h_v3_q59144 => ?_)
                  have t_v3_q59144 := congrArg Int32.toInt h_v3_q59144
                  have b_59146 := i32b y62_3
                  exact ih I0_l62 L0_l62 M0_l62 y62_3 v3_q59144 ⟨by omega, by omega⟩ k_I0_l62 (by omega)
              · have t_59148 := ia_add y62_5 (1 : Int32) (by omega) (by omega)
                refine wq_v (fun v2_q59147 h_v2_q59147 => ?_)
                have t_v2_q59147 := congrArg Int32.toInt h_v2_q59147
                have b_59149 := i32b y62_3
                exact ih I0_l62 L0_l62 M0_l62 y62_3 v2_q59147 ⟨by omega, by omega⟩ k_I0_l62 (by omega)
set_option maxHeartbeats 4000000 in
theorem tt_fX12_slips_L52 {N : Nat} (hN : 3000000000 ≤ N) (x1 : Int32) (x2 : Int32)   : ∀ (fu : Nat) (I0_l52 : (Nat → Int32)) (L0_l52 : Int64) (M0_l52 : (Nat → Nat → Int32)) (y52_3 : Int32) (y52_4 : Int32), (0 ≤ y52_4.toInt ∧ y52_4.toInt ≤ 6) → (KX12 I0_l52 M0_l52) → (6 - y52_4.toInt) < (fu : Int) → wq (fX12_slips_L52 N x1 x2 fu I0_l52 L0_l52 M0_l52 y52_3 y52_4) (fun r => KX12 r.2.1 r.2.2.2 ∧ True) := by
  intro fu
  induction fu with
  | zero => intro I0_l52 L0_l52 M0_l52 y52_3 y52_4 h_y52_4 k_I0_l52 hm; exfalso; omega
  | succ fu ih =>
    intro I0_l52 L0_l52 M0_l52 y52_3 y52_4 h_y52_4 k_I0_l52 hm
    rw [fX12_slips_L52.eq_2]
    have l_6 := il_6
    refine wq_le (fun hc_59150 => ?_) (fun hc_59151 => ?_)
    · have b_59152 := i32b y52_3
      exact wq_s ⟨k_I0_l52, trivial⟩
    · have b_59153 := i32b x1
      have b_59154 := i32b x2
      have b_59155 := i32b y52_3
      have l_0 := il_0
      exact tt_fX12_slips_L62 hN x1 x2 y52_4 _ ⟨by omega, by omega⟩ (fun q0 q1 q2 q3 q4 hq0 hq1 hq2 => ih q0 q1 q2 q3 q4 hq0 hq1 (by omega)) N I0_l52 L0_l52 M0_l52 y52_3 (0 : Int32) ⟨by omega, by omega⟩ k_I0_l52 (by omega)
set_option maxHeartbeats 4000000 in
theorem tt_fX12_slips {N : Nat} (hN : 3000000000 ≤ N) (I0 : Nat → Int32) (L0 : Int64) (M0 : Nat → Nat → Int32) (x1 : Int32) (x2 : Int32) (k_I0 : KX12 I0 M0) : wq (fX12_slips N I0 L0 M0 x1 x2) (fun r => KX12 r.2.1 r.2.2.2 ∧ True) := by
  unfold fX12_slips
  refine wq_v (fun I0_16_q59156 h_I0_16_q59156 => ?_)
  have k_I0_16_q59156 : KX12 I0_16_q59156 M0 := by rw [h_I0_16_q59156]; exact KX12.si0 k_I0
  have b_59157 := i32b x1
  have l_0 := il_0
  have l_29 := il_29
  refine wq_b (tt_fX12_within hN x1 (0 : Int32) (29 : Int32)) (fun r17_q59158 h_r17_q59158 => ?_)
  obtain ⟨h_r17_q59158_0, h_r17_q59158_1, -⟩ := h_r17_q59158
  refine wq_eq (fun hc_59159 => ?_) (fun hc_59160 => ?_)
  · unfold fX12_slips_J37
    unfold fX12_slips_J38
    have l_1 := il_1
    refine wq_b (tt_fX12_right hN I0_16_q59156 L0 M0 (0 : Int32) (1 : Int32) ⟨by omega, by omega⟩ k_I0_16_q59156) (fun r1_q59161 h_r1_q59161 => ?_)
    obtain ⟨h_r1_q59161_0, h_r1_q59161_1, h_r1_q59161_2, h_r1_q59161_3, -⟩ := h_r1_q59161
    have t_59162 := KX12.i1 h_r1_q59161_3
    have t_59163 := KX12.i1 k_I0
    have t_59164 : (I0_16_q59156 1).toInt = (I0 1).toInt := by rw [h_I0_16_q59156]; rfl
    refine wq_eq (fun hc_59165 => ?_) (fun hc_59166 => ?_)
    · exact wq_s ⟨h_r1_q59161_3, trivial⟩
    · have b_59167 := i32b x2
      exact tt_fX12_slips_L52 hN x1 x2 N r1_q59161.2.1 r1_q59161.2.2.1 r1_q59161.2.2.2 (0 : Int32) (0 : Int32) ⟨by omega, by omega⟩ h_r1_q59161_3 (by omega)
  · have b_59168 := i32b x2
    refine wq_b (tt_fX12_within hN x2 (0 : Int32) (29 : Int32)) (fun r18_q59169 h_r18_q59169 => ?_)
    obtain ⟨h_r18_q59169_0, h_r18_q59169_1, -⟩ := h_r18_q59169
    refine wq_eq (fun hc_59170 => ?_) (fun hc_59171 => ?_)
    · unfold fX12_slips_J37
      unfold fX12_slips_J38
      have l_1 := il_1
      refine wq_b (tt_fX12_right hN I0_16_q59156 L0 M0 (0 : Int32) (1 : Int32) ⟨by omega, by omega⟩ k_I0_16_q59156) (fun r1_q59172 h_r1_q59172 => ?_)
      obtain ⟨h_r1_q59172_0, h_r1_q59172_1, h_r1_q59172_2, h_r1_q59172_3, -⟩ := h_r1_q59172
      have t_59173 := KX12.i1 h_r1_q59172_3
      have t_59174 := KX12.i1 k_I0
      have t_59175 : (I0_16_q59156 1).toInt = (I0 1).toInt := by rw [h_I0_16_q59156]; rfl
      refine wq_eq (fun hc_59176 => ?_) (fun hc_59177 => ?_)
      · exact wq_s ⟨h_r1_q59172_3, trivial⟩
      · exact tt_fX12_slips_L52 hN x1 x2 N r1_q59172.2.1 r1_q59172.2.2.1 r1_q59172.2.2.2 (0 : Int32) (0 : Int32) ⟨by omega, by omega⟩ h_r1_q59172_3 (by omega)
    · have t_59178 := KX12.i18 k_I0
      have t_59179 : (I0_16_q59156 18).toInt = (I0 18).toInt := by rw [h_I0_16_q59156]; rfl
      refine wq_eq (fun hc_59180 => ?_) (fun hc_59181 => ?_)
      · unfold fX12_slips_J37
        unfold fX12_slips_J38
        have l_1 := il_1
        refine wq_b (tt_fX12_right hN I0_16_q59156 L0 M0 (0 : Int32) (1 : Int32) ⟨by omega, by omega⟩ k_I0_16_q59156) (fun r1_q59182 h_r1_q59182 => ?_)
        obtain ⟨h_r1_q59182_0, h_r1_q59182_1, h_r1_q59182_2, h_r1_q59182_3, -⟩ := h_r1_q59182
        have t_59183 := KX12.i1 h_r1_q59182_3
        have t_59184 := KX12.i1 k_I0
        have t_59185 : (I0_16_q59156 1).toInt = (I0 1).toInt := by rw [h_I0_16_q59156]; rfl
        refine wq_eq (fun hc_59186 => ?_) (fun hc_59187 => ?_)
        · exact wq_s ⟨h_r1_q59182_3, trivial⟩
        · exact tt_fX12_slips_L52 hN x1 x2 N r1_q59182.2.1 r1_q59182.2.2.1 r1_q59182.2.2.2 (0 : Int32) (0 : Int32) ⟨by omega, by omega⟩ h_r1_q59182_3 (by omega)
      · unfold fX12_slips_J38
        have l_1 := il_1
        refine wq_b (tt_fX12_right hN I0_16_q59156 L0 M0 (1 : Int32) (1 : Int32) ⟨by omega, by omega⟩ k_I0_16_q59156) (fun r1_q59188 h_r1_q59188 => ?_)
        obtain ⟨h_r1_q59188_0, h_r1_q59188_1, h_r1_q59188_2, h_r1_q59188_3, -⟩ := h_r1_q59188
        have t_59189 := KX12.i1 h_r1_q59188_3
        have t_59190 := KX12.i1 k_I0
        have t_59191 : (I0_16_q59156 1).toInt = (I0 1).toInt := by rw [h_I0_16_q59156]; rfl
        refine wq_eq (fun hc_59192 => ?_) (fun hc_59193 => ?_)
        · exact wq_s ⟨h_r1_q59188_3, trivial⟩
        · exact tt_fX12_slips_L52 hN x1 x2 N r1_q59188.2.1 r1_q59188.2.2.1 r1_q59188.2.2.2 (0 : Int32) (0 : Int32) ⟨by omega, by omega⟩ h_r1_q59188_3 (by omega)
set_option maxHeartbeats 4000000 in
theorem tt_fX12_handed_L37 {N : Nat} (hN : 3000000000 ≤ N) (x1 : Int32) (x2 : Int32) (x3 : Int32) (h_x1 : 0 ≤ x1.toInt ∧ x1.toInt ≤ 5) (h_x2 : 0 ≤ x2.toInt ∧ x2.toInt ≤ 5) (h_x3 : 0 ≤ x3.toInt ∧ x3.toInt ≤ 5)  : ∀ (fu : Nat) (I0_l37 : (Nat → Int32)) (L0_l37 : Int64) (M0_l37 : (Nat → Nat → Int32)) (y37_4 : Int32) (y37_5 : Int32), (0 ≤ y37_5.toInt ∧ y37_5.toInt ≤ 440) → (KX12 I0_l37 M0_l37) → (440 - y37_5.toInt) < (fu : Int) → wq (fX12_handed_L37 N x1 x2 x3 fu I0_l37 L0_l37 M0_l37 y37_4 y37_5) (fun r => KX12 r.2.1 r.2.2.2 ∧ True) := by
  intro fu
  induction fu with
  | zero => intro I0_l37 L0_l37 M0_l37 y37_4 y37_5 h_y37_5 k_I0_l37 hm; exfalso; omega
  | succ fu ih =>
    intro I0_l37 L0_l37 M0_l37 y37_4 y37_5 h_y37_5 k_I0_l37 hm
    rw [fX12_handed_L37.eq_2]
    have l_440 := il_440
    refine wq_le (fun hc_60068 => ?_) (fun hc_60069 => ?_)
    · have b_60070 := i32b y37_4
      exact wq_s ⟨k_I0_l37, trivial⟩
    · have t_60071 := ia_mul (440 : Int32) (440) il_440 x1 (by omega) (by omega)
      have t_60072 := ia_add ((440 : Int32) * x1) y37_5 (by omega) (by omega)
      refine wq_in (n := 2640) ⟨by omega, by omega⟩ ?_
      have t_60074 := KX12.m7 k_I0_l37 ((((440 : Int32) * x1) + y37_5)).toNatClampNeg
      refine wq_v (fun v5_q60073 h_v5_q60073 => ?_)
      have t_v5_q60073 := congrArg Int32.toInt h_v5_q60073
      have t_60075 := ia_mul (440 : Int32) (440) il_440 x2 (by omega) (by omega)
      have t_60076 := ia_add ((440 : Int32) * x2) y37_5 (by omega) (by omega)
      refine wq_in (n := 2640) ⟨by omega, by omega⟩ ?_
      have t_60078 := KX12.m7 k_I0_l37 ((((440 : Int32) * x2) + y37_5)).toNatClampNeg
      refine wq_v (fun v6_q60077 h_v6_q60077 => ?_)
      have t_v6_q60077 := congrArg Int32.toInt h_v6_q60077
      have t_60079 := ia_mul (440 : Int32) (440) il_440 x3 (by omega) (by omega)
      have t_60080 := ia_add ((440 : Int32) * x3) y37_5 (by omega) (by omega)
      refine wq_in (n := 2640) ⟨by omega, by omega⟩ ?_
      have t_60082 := KX12.m7 k_I0_l37 ((((440 : Int32) * x3) + y37_5)).toNatClampNeg
      refine wq_v (fun v7_q60081 h_v7_q60081 => ?_)
      have t_v7_q60081 := congrArg Int32.toInt h_v7_q60081
      have l_m1 := il_m1
      refine wq_eq (fun hc_60083 => ?_) (fun hc_60084 => ?_)
      · have l_1 := il_1
        have t_60086 := ia_add y37_5 (1 : Int32) (by omega) (by omega)
        refine wq_v (fun v8_q60085 h_v8_q60085 => ?_)
        have t_v8_q60085 := congrArg Int32.toInt h_v8_q60085
        have b_60087 := i32b y37_4
        exact ih I0_l37 L0_l37 M0_l37 y37_4 v8_q60085 ⟨by omega, by omega⟩ k_I0_l37 (by omega)
      · refine wq_eq (fun hc_60088 => ?_) (fun hc_60089 => ?_)
        · refine wq_eq (fun hc_60090 => ?_) (fun hc_60091 => ?_)
          · have l_1 := il_1
            have t_60093 := ia_add y37_5 (1 : Int32) (by omega) (by omega)
            refine wq_v (fun v10_q60092 h_v10_q60092 => ?_)
            have t_v10_q60092 := congrArg Int32.toInt h_v10_q60092
            have b_60094 := i32b y37_4
            exact ih I0_l37 L0_l37 M0_l37 y37_4 v10_q60092 ⟨by omega, by omega⟩ k_I0_l37 (by omega)
          · refine wq_eq (fun hc_60095 => ?_) (fun hc_60096 => ?_)
            · have l_1 := il_1
              have t_60098 := ia_add y37_5 (1 : Int32) (by omega) (by omega)
              refine wq_v (fun v11_q60097 h_v11_q60097 => ?_)
              have t_v11_q60097 := congrArg Int32.toInt h_v11_q60097
              have b_60099 := i32b y37_4
              exact ih I0_l37 L0_l37 M0_l37 y37_4 v11_q60097 ⟨by omega, by omega⟩ k_I0_l37 (by omega)
            · have b_60101 := i32b y37_4
              have l_1 := il_1
              refine wq_v (fun v12_q60100 h_v12_q60100 => ?_)
              have t_v12_q60100 := congrArg Int32.toInt h_v12_q60100
              have t_60103 := ia_add y37_5 (1 : Int32) (by omega) (by omega)
              refine wq_v (fun v13_q60102 h_v13_q60102 => ?_)
              have t_v13_q60102 := congrArg Int32.toInt h_v13_q60102
              have b_60104 := i32b v12_q60100
              exact ih I0_l37 L0_l37 M0_l37 v12_q60100 v13_q60102 ⟨by omega, by omega⟩ k_I0_l37 (by omega)
        · have l_1 := il_1
          have t_60106 := ia_add y37_5 (1 : Int32) (by omega) (by omega)
          refine wq_v (fun v9_q60105 h_v9_q60105 => ?_)
          have t_v9_q60105 := congrArg Int32.toInt h_v9_q60105
          have b_60107 := i32b y37_4
          exact ih I0_l37 L0_l37 M0_l37 y37_4 v9_q60105 ⟨by omega, by omega⟩ k_I0_l37 (by omega)

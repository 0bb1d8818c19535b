set_option maxHeartbeats 4000000 in
theorem tt_fX12_day {N : Nat} (hN : 3000000000 ≤ N) (I0 : Nat → Int32) (L0 : Int64) (M0 : Nat → Nat → Int32) (x1 : Int32) (k_I0 : KX12 I0 M0) : wq (fX12_day N I0 L0 M0 x1) (fun r => KX12 r.2.1 r.2.2.2 ∧ True) := by
  unfold fX12_day
  refine wq_v (fun I0_2_q28711 h_I0_2_q28711 => ?_)
  have k_I0_2_q28711 : KX12 I0_2_q28711 M0 := by rw [h_I0_2_q28711]; exact KX12.si0 k_I0
  have t_28712 : (I0_2_q28711 15).toInt = (I0 15).toInt := by rw [h_I0_2_q28711]; rfl
  have l_m1 := il_m1
  refine wq_eq (fun hc_28713 => ?_) (fun hc_28714 => ?_)
  · unfold fX12_day_J37
    unfold fX12_day_J38
    have l_0 := il_0
    have l_1 := il_1
    refine wq_b (tt_fX12_right hN I0_2_q28711 L0 M0 (0 : Int32) (1 : Int32) ⟨by omega, by omega⟩ k_I0_2_q28711) (fun r1_q28715 h_r1_q28715 => ?_)
    obtain ⟨h_r1_q28715_0, h_r1_q28715_1, h_r1_q28715_2, h_r1_q28715_3, -⟩ := h_r1_q28715
    have t_28716 := KX12.i1 h_r1_q28715_3
    have t_28717 := KX12.i1 k_I0
    have t_28718 : (I0_2_q28711 1).toInt = (I0 1).toInt := by rw [h_I0_2_q28711]; rfl
    refine wq_eq (fun hc_28719 => ?_) (fun hc_28720 => ?_)
    · exact wq_s ⟨h_r1_q28715_3, trivial⟩
    · have b_28721 := i32b x1
      refine wq_eq (fun hc_28722 => ?_) (fun hc_28723 => ?_)
      · exact wq_s ⟨h_r1_q28715_3, trivial⟩
      · refine wq_in (n := 20) ⟨by omega, by omega⟩ ?_
        exact wq_s ⟨h_r1_q28715_3, trivial⟩
  · have b_28724 := i32b x1
    refine wq_lt (fun hc_28725 => ?_) (fun hc_28726 => ?_)
    · unfold fX12_day_J37
      unfold fX12_day_J38
      have l_0 := il_0
      have l_1 := il_1
      refine wq_b (tt_fX12_right hN I0_2_q28711 L0 M0 (0 : Int32) (1 : Int32) ⟨by omega, by omega⟩ k_I0_2_q28711) (fun r1_q28727 h_r1_q28727 => ?_)
      obtain ⟨h_r1_q28727_0, h_r1_q28727_1, h_r1_q28727_2, h_r1_q28727_3, -⟩ := h_r1_q28727
      have t_28728 := KX12.i1 h_r1_q28727_3
      have t_28729 := KX12.i1 k_I0
      have t_28730 : (I0_2_q28711 1).toInt = (I0 1).toInt := by rw [h_I0_2_q28711]; rfl
      refine wq_eq (fun hc_28731 => ?_) (fun hc_28732 => ?_)
      · exact wq_s ⟨h_r1_q28727_3, trivial⟩
      · refine wq_eq (fun hc_28733 => ?_) (fun hc_28734 => ?_)
        · exfalso; omega
        · refine wq_in (n := 20) ⟨by omega, by omega⟩ ?_
          exact wq_s ⟨h_r1_q28727_3, trivial⟩
    · refine wq_le (fun hc_28735 => ?_) (fun hc_28736 => ?_)
      · unfold fX12_day_J37
        unfold fX12_day_J38
        have l_0 := il_0
        have l_1 := il_1
        refine wq_b (tt_fX12_right hN I0_2_q28711 L0 M0 (0 : Int32) (1 : Int32) ⟨by omega, by omega⟩ k_I0_2_q28711) (fun r1_q28737 h_r1_q28737 => ?_)
        obtain ⟨h_r1_q28737_0, h_r1_q28737_1, h_r1_q28737_2, h_r1_q28737_3, -⟩ := h_r1_q28737
        have t_28738 := KX12.i1 h_r1_q28737_3
        have t_28739 := KX12.i1 k_I0
        have t_28740 : (I0_2_q28711 1).toInt = (I0 1).toInt := by rw [h_I0_2_q28711]; rfl
        refine wq_eq (fun hc_28741 => ?_) (fun hc_28742 => ?_)
        · exact wq_s ⟨h_r1_q28737_3, trivial⟩
        · refine wq_eq (fun hc_28743 => ?_) (fun hc_28744 => ?_)
          · exact wq_s ⟨h_r1_q28737_3, trivial⟩
          · refine wq_in (n := 20) ⟨by omega, by omega⟩ ?_
            exact wq_s ⟨h_r1_q28737_3, trivial⟩
      · have l_20 := il_20
        refine wq_le (fun hc_28745 => ?_) (fun hc_28746 => ?_)
        · unfold fX12_day_J37
          unfold fX12_day_J38
          have l_0 := il_0
          have l_1 := il_1
          refine wq_b (tt_fX12_right hN I0_2_q28711 L0 M0 (0 : Int32) (1 : Int32) ⟨by omega, by omega⟩ k_I0_2_q28711) (fun r1_q28747 h_r1_q28747 => ?_)
          obtain ⟨h_r1_q28747_0, h_r1_q28747_1, h_r1_q28747_2, h_r1_q28747_3, -⟩ := h_r1_q28747
          have t_28748 := KX12.i1 h_r1_q28747_3
          have t_28749 := KX12.i1 k_I0
          have t_28750 : (I0_2_q28711 1).toInt = (I0 1).toInt := by rw [h_I0_2_q28711]; rfl
          refine wq_eq (fun hc_28751 => ?_) (fun hc_28752 => ?_)
          · exact wq_s ⟨h_r1_q28747_3, trivial⟩
          · refine wq_eq (fun hc_28753 => ?_) (fun hc_28754 => ?_)
            · exfalso; omega
            · refine wq_in (n := 20) ⟨by omega, by omega⟩ ?_
              exact wq_s ⟨h_r1_q28747_3, trivial⟩
        · unfold fX12_day_J38
          have l_1 := il_1
          refine wq_b (tt_fX12_right hN I0_2_q28711 L0 M0 (1 : Int32) (1 : Int32) ⟨by omega, by omega⟩ k_I0_2_q28711) (fun r1_q28755 h_r1_q28755 => ?_)
          obtain ⟨h_r1_q28755_0, h_r1_q28755_1, h_r1_q28755_2, h_r1_q28755_3, -⟩ := h_r1_q28755
          have t_28756 := KX12.i1 h_r1_q28755_3
          have t_28757 := KX12.i1 k_I0
          have t_28758 : (I0_2_q28711 1).toInt = (I0 1).toInt := by rw [h_I0_2_q28711]; rfl
          have l_0 := il_0
          refine wq_eq (fun hc_28759 => ?_) (fun hc_28760 => ?_)
          · exact wq_s ⟨h_r1_q28755_3, trivial⟩
          · refine wq_eq (fun hc_28761 => ?_) (fun hc_28762 => ?_)
            · exact wq_s ⟨h_r1_q28755_3, trivial⟩
            · refine wq_in (n := 20) ⟨by omega, by omega⟩ ?_
              exact wq_s ⟨h_r1_q28755_3, trivial⟩
set_option maxHeartbeats 4000000 in
theorem tt_fX12_whose_L64 {N : Nat} (hN : 3000000000 ≤ N) (x1 : Int32) (x2 : Int32) (x3 : Int32) (x4 : Int32) (x5 : Int32) (y50_6 : Int32) (y50_7 : Int32) (y50_8 : Int32) (y50_9 : Int32) (g50 : (Nat → Int32) → Int64 → (Nat → Nat → Int32) → Int32 → Int32 → Int32 → Int32 → Option (Int32 × (Nat → Int32) × Int64 × (Nat → Nat → Int32))) (h_x1 : 0 ≤ x1.toInt ∧ x1.toInt ≤ 5) (h_x2 : 0 ≤ x2.toInt ∧ x2.toInt ≤ 19) (h_x3 : 0 ≤ x3.toInt ∧ x3.toInt ≤ 1000000) (h_x4 : 0 ≤ x4.toInt ∧ x4.toInt ≤ 50000) (h_x5 : 0 ≤ x5.toInt ∧ x5.toInt ≤ 2) (h_y50_6 : 0 ≤ y50_6.toInt ∧ y50_6.toInt ≤ 999) (h_y50_7 : -1 ≤ y50_7.toInt ∧ y50_7.toInt ≤ 3) (h_y50_9 : 0 ≤ y50_9.toInt ∧ y50_9.toInt ≤ 3) (hg50 : ∀ (q0 : (Nat → Int32)) (q1 : Int64) (q2 : (Nat → Nat → Int32)) (q3 : Int32) (q4 : Int32) (q5 : Int32) (q6 : Int32), (0 ≤ q3.toInt ∧ q3.toInt ≤ 999) → (-1 ≤ q4.toInt ∧ q4.toInt ≤ 3) → (0 ≤ q6.toInt ∧ q6.toInt ≤ 4) → (KX12 q0 q2) → (y50_9.toInt < q6.toInt) → wq (g50 q0 q1 q2 q3 q4 q5 q6) (fun r => KX12 r.2.1 r.2.2.2 ∧ True)) : ∀ (fu : Nat) (I0_l64 : (Nat → Int32)) (L0_l64 : Int64) (M0_l64 : (Nat → Nat → Int32)) (y64_10 : Int32) (y64_11 : Int32), (0 ≤ y64_10.toInt ∧ y64_10.toInt ≤ 999) → (0 ≤ y64_11.toInt ∧ y64_11.toInt ≤ 1050001) → (KX12 I0_l64 M0_l64) → (1050001 - y64_11.toInt) < (fu : Int) → wq (fX12_whose_L64 N x1 x2 x3 x4 x5 y50_6 y50_7 y50_8 y50_9 g50 fu I0_l64 L0_l64 M0_l64 y64_10 y64_11) (fun r => KX12 r.2.1 r.2.2.2 ∧ True) := by
  intro fu
  induction fu with
  | zero => intro I0_l64 L0_l64 M0_l64 y64_10 y64_11 h_y64_10 h_y64_11 k_I0_l64 hm; exfalso; omega
  | succ fu ih =>
    intro I0_l64 L0_l64 M0_l64 y64_10 y64_11 h_y64_10 h_y64_11 k_I0_l64 hm
    rw [fX12_whose_L64.eq_2]
    have t_30133 := ia_add x3 x4 (by omega) (by omega)
    refine wq_lt (fun hc_30134 => ?_) (fun hc_30135 => ?_)
    · refine wq_le (fun hc_30136 => ?_) (fun hc_30137 => ?_)
      · refine wq_le (fun hc_30138 => ?_) (fun hc_30139 => ?_)
        · unfold fX12_whose_J138
          refine wq_le (fun hc_30140 => ?_) (fun hc_30141 => ?_)
          · have l_1 := il_1
            have t_30143 := ia_add y50_9 (1 : Int32) (by omega) (by omega)
            refine wq_v (fun v5_q30142 h_v5_q30142 => ?_)
            have t_v5_q30142 := congrArg Int32.toInt h_v5_q30142
            have b_30144 := i32b y50_8
            exact hg50 I0_l64 L0_l64 M0_l64 y64_10 y50_7 (y50_8 + (1 : Int32)) v5_q30142 ⟨by omega, by omega⟩ ⟨by omega, by omega⟩ ⟨by omega, by omega⟩ k_I0_l64 (by omega)
          · have l_1 := il_1
            have t_30146 := ia_add y50_9 (1 : Int32) (by omega) (by omega)
            refine wq_v (fun v6_q30145 h_v6_q30145 => ?_)
            have t_v6_q30145 := congrArg Int32.toInt h_v6_q30145
            have b_30147 := i32b y50_8
            exact hg50 I0_l64 L0_l64 M0_l64 y64_10 y50_9 (y50_8 + (1 : Int32)) v6_q30145 ⟨by omega, by omega⟩ ⟨by omega, by omega⟩ ⟨by omega, by omega⟩ k_I0_l64 (by omega)
        · unfold fX12_whose_J138
          refine wq_le (fun hc_30148 => ?_) (fun hc_30149 => ?_)
          · have l_1 := il_1
            have t_30151 := ia_add y50_9 (1 : Int32) (by omega) (by omega)
            refine wq_v (fun v5_q30150 h_v5_q30150 => ?_)
            have t_v5_q30150 := congrArg Int32.toInt h_v5_q30150
            exact hg50 I0_l64 L0_l64 M0_l64 y64_10 y50_7 (1 : Int32) v5_q30150 ⟨by omega, by omega⟩ ⟨by omega, by omega⟩ ⟨by omega, by omega⟩ k_I0_l64 (by omega)
          · have l_1 := il_1
            have t_30153 := ia_add y50_9 (1 : Int32) (by omega) (by omega)
            refine wq_v (fun v6_q30152 h_v6_q30152 => ?_)
            have t_v6_q30152 := congrArg Int32.toInt h_v6_q30152
            exact hg50 I0_l64 L0_l64 M0_l64 y64_10 y50_9 (1 : Int32) v6_q30152 ⟨by omega, by omega⟩ ⟨by omega, by omega⟩ ⟨by omega, by omega⟩ k_I0_l64 (by omega)
      · have l_1 := il_1
        have t_30155 := ia_add y50_9 (1 : Int32) (by omega) (by omega)
        refine wq_v (fun v7_q30154 h_v7_q30154 => ?_)
        have t_v7_q30154 := congrArg Int32.toInt h_v7_q30154
        have b_30156 := i32b y50_8
        exact hg50 I0_l64 L0_l64 M0_l64 y50_6 y50_7 y50_8 v7_q30154 ⟨by omega, by omega⟩ ⟨by omega, by omega⟩ ⟨by omega, by omega⟩ k_I0_l64 (by omega)
    · have l_20 := il_20
      have t_30157 := ia_mul (20 : Int32) (20) il_20 x1 (by omega) (by omega)
      have t_30158 := ia_add ((20 : Int32) * x1) x2 (by omega) (by omega)
      refine wq_b (tt_fX12_costOn hN I0_l64 L0_l64 M0_l64 (((20 : Int32) * x1) + x2) y50_9 y64_11 y64_10 ⟨by omega, by omega⟩ ⟨by omega, by omega⟩ k_I0_l64) (fun r8_q30159 h_r8_q30159 => ?_)
      obtain ⟨h_r8_q30159_0, -⟩ := h_r8_q30159
      refine wq_le (fun hc_30160 => ?_) (fun hc_30161 => ?_)
      · have l_1 := il_1
        have t_30163 := ia_add y64_11 (1 : Int32) (by omega) (by omega)
        refine wq_v (fun v9_q30162 h_v9_q30162 => ?_)
        have t_v9_q30162 := congrArg Int32.toInt h_v9_q30162
        exact ih I0_l64 L0_l64 M0_l64 y64_10 v9_q30162 ⟨by omega, by omega⟩ ⟨by omega, by omega⟩ k_I0_l64 (by omega)
      · have l_1 := il_1
        have t_30165 := ia_add y64_11 (1 : Int32) (by omega) (by omega)
        refine wq_v (fun v10_q30164 h_v10_q30164 => ?_)
        have t_v10_q30164 := congrArg Int32.toInt h_v10_q30164
        exact ih I0_l64 L0_l64 M0_l64 r8_q30159 v10_q30164 ⟨by omega, by omega⟩ ⟨by omega, by omega⟩ k_I0_l64 (by omega)
set_option maxHeartbeats 4000000 in
theorem tt_fX12_whose_L50 {N : Nat} (hN : 3000000000 ≤ N) (x1 : Int32) (x2 : Int32) (x3 : Int32) (x4 : Int32) (x5 : Int32) (h_x1 : 0 ≤ x1.toInt ∧ x1.toInt ≤ 5) (h_x2 : 0 ≤ x2.toInt ∧ x2.toInt ≤ 19) (h_x3 : 0 ≤ x3.toInt ∧ x3.toInt ≤ 1000000) (h_x4 : 0 ≤ x4.toInt ∧ x4.toInt ≤ 50000) (h_x5 : 0 ≤ x5.toInt ∧ x5.toInt ≤ 2)  : ∀ (fu : Nat) (I0_l50 : (Nat → Int32)) (L0_l50 : Int64) (M0_l50 : (Nat → Nat → Int32)) (y50_6 : Int32) (y50_7 : Int32) (y50_8 : Int32) (y50_9 : Int32), (0 ≤ y50_6.toInt ∧ y50_6.toInt ≤ 999) → (-1 ≤ y50_7.toInt ∧ y50_7.toInt ≤ 3) → (0 ≤ y50_9.toInt ∧ y50_9.toInt ≤ 4) → (KX12 I0_l50 M0_l50) → (4 - y50_9.toInt) < (fu : Int) → wq (fX12_whose_L50 N x1 x2 x3 x4 x5 fu I0_l50 L0_l50 M0_l50 y50_6 y50_7 y50_8 y50_9) (fun r => KX12 r.2.1 r.2.2.2 ∧ True) := by
  intro fu
  induction fu with
  | zero => intro I0_l50 L0_l50 M0_l50 y50_6 y50_7 y50_8 y50_9 h_y50_6 h_y50_7 h_y50_9 k_I0_l50 hm; exfalso; omega
  | succ fu ih =>
    intro I0_l50 L0_l50 M0_l50 y50_6 y50_7 y50_8 y50_9 h_y50_6 h_y50_7 h_y50_9 k_I0_l50 hm
    rw [fX12_whose_L50.eq_2]
    have l_4 := il_4
    refine wq_le (fun hc_30166 => ?_) (fun hc_30167 => ?_)
    · have l_0 := il_0
      refine wq_eq (fun hc_30168 => ?_) (fun hc_30169 => ?_)
      · exact wq_s ⟨k_I0_l50, trivial⟩
      · have l_1 := il_1
        refine wq_eq (fun hc_30170 => ?_) (fun hc_30171 => ?_)
        · exact wq_s ⟨k_I0_l50, trivial⟩
        · have b_30172 := i32b y50_8
          exact wq_s ⟨k_I0_l50, trivial⟩
    · have b_30173 := i32b y50_8
      have l_999 := il_999
      exact tt_fX12_whose_L64 hN x1 x2 x3 x4 x5 y50_6 y50_7 y50_8 y50_9 _ ⟨by omega, by omega⟩ ⟨by omega, by omega⟩ ⟨by omega, by omega⟩ ⟨by omega, by omega⟩ ⟨by omega, by omega⟩ ⟨by omega, by omega⟩ ⟨by omega, by omega⟩ ⟨by omega, by omega⟩ (fun q0 q1 q2 q3 q4 q5 q6 hq0 hq1 hq2 hq3 hq4 => ih q0 q1 q2 q3 q4 q5 q6 hq0 hq1 hq2 hq3 (by omega)) N I0_l50 L0_l50 M0_l50 (999 : Int32) x3 ⟨by omega, by omega⟩ ⟨by omega, by omega⟩ k_I0_l50 (by omega)
set_option maxHeartbeats 4000000 in
theorem tt_fX12_whose {N : Nat} (hN : 3000000000 ≤ N) (I0 : Nat → Int32) (L0 : Int64) (M0 : Nat → Nat → Int32) (x1 : Int32) (x2 : Int32) (x3 : Int32) (x4 : Int32) (x5 : Int32) (k_I0 : KX12 I0 M0) : wq (fX12_whose N I0 L0 M0 x1 x2 x3 x4 x5) (fun r => KX12 r.2.1 r.2.2.2 ∧ True) := by
  unfold fX12_whose
  have b_30174 := i32b x1
  have b_30175 := i32b x2
  refine wq_b (tt_fX12_isWheel hN I0 L0 M0 x1 x2 k_I0) (fun r1_q30176 h_r1_q30176 => ?_)
  obtain ⟨h_r1_q30176_0, h_r1_q30176_1, h_r1_q30176_2, h_r1_q30176_3, -⟩ := h_r1_q30176
  have t_30177 := KX12.i1 h_r1_q30176_3
  have t_30178 := KX12.i1 k_I0
  have l_0 := il_0
  refine wq_eq (fun hc_30179 => ?_) (fun hc_30180 => ?_)
  · exact wq_s ⟨h_r1_q30176_3, trivial⟩
  · have b_30181 := i32b x5
    have l_2 := il_2
    refine wq_b (tt_fX12_within hN x5 (0 : Int32) (2 : Int32)) (fun r2_q30182 h_r2_q30182 => ?_)
    obtain ⟨h_r2_q30182_0, h_r2_q30182_1, -⟩ := h_r2_q30182
    have l_1 := il_1
    refine wq_b (tt_fX12_right hN r1_q30176.2.1 r1_q30176.2.2.1 r1_q30176.2.2.2 r2_q30182 (1 : Int32) ⟨by omega, by omega⟩ h_r1_q30176_3) (fun r3_q30183 h_r3_q30183 => ?_)
    obtain ⟨h_r3_q30183_0, h_r3_q30183_1, h_r3_q30183_2, h_r3_q30183_3, -⟩ := h_r3_q30183
    have t_30184 := KX12.i1 h_r3_q30183_3
    refine wq_eq (fun hc_30185 => ?_) (fun hc_30186 => ?_)
    · exact wq_s ⟨h_r3_q30183_3, trivial⟩
    · have b_30187 := i32b x3
      have b_30188 := i32b x4
      refine wq_b (tt_fX12_isSpan hN r3_q30183.2.1 r3_q30183.2.2.1 r3_q30183.2.2.2 x3 x4 h_r3_q30183_3) (fun r4_q30189 h_r4_q30189 => ?_)
      obtain ⟨h_r4_q30189_0, h_r4_q30189_1, h_r4_q30189_2, h_r4_q30189_3, -⟩ := h_r4_q30189
      have t_30190 := KX12.i1 h_r4_q30189_3
      refine wq_eq (fun hc_30191 => ?_) (fun hc_30192 => ?_)
      · exact wq_s ⟨h_r4_q30189_3, trivial⟩
      · have l_999 := il_999
        have l_m1 := il_m1
        exact tt_fX12_whose_L50 hN x1 x2 x3 x4 x5 ⟨by omega, by omega⟩ ⟨by omega, by omega⟩ ⟨by omega, by omega⟩ ⟨by omega, by omega⟩ ⟨by omega, by omega⟩ N r4_q30189.2.1 r4_q30189.2.2.1 r4_q30189.2.2.2 (999 : Int32) ((-1) : Int32) (0 : Int32) (0 : Int32) ⟨by omega, by omega⟩ ⟨by omega, by omega⟩ ⟨by omega, by omega⟩ h_r4_q30189_3 (by omega)
set_option maxHeartbeats 4000000 in
theorem tt_fX12_isMixed_L41 {N : Nat} (hN : 3000000000 ≤ N) (I0 : Nat → Int32) (L0 : Int64) (M0 : Nat → Nat → Int32) (x1 : Int32) (x2 : Int32) (y9_3 : Int32) (y9_5 : Int32) (g9 : Int32 → Int32 → Int32 → Option (Int32)) (h_x1 : 0 ≤ x1.toInt ∧ x1.toInt ≤ 119) (h_y9_5 : 0 ≤ y9_5.toInt ∧ y9_5.toInt ≤ 6) (k_I0 : KX12 I0 M0) (hg9 : ∀ (q0 : Int32) (q1 : Int32) (q2 : Int32), (0 ≤ q1.toInt ∧ q1.toInt ≤ 1) → (0 ≤ q2.toInt ∧ q2.toInt ≤ 7) → (y9_5.toInt < q2.toInt) → wq (g9 q0 q1 q2) (fun r => (0 ≤ r.toInt ∧ r.toInt ≤ 1) ∧ True)) : ∀ (fu : Nat) (y41_6 : Int32) (y41_7 : Int32), (0 ≤ y41_6.toInt ∧ y41_6.toInt ≤ 255) → (0 ≤ y41_7.toInt ∧ y41_7.toInt ≤ 4) → (4 - y41_7.toInt) < (fu : Int) → wq (fX12_isMixed_L41 N I0 L0 M0 x1 x2 y9_3 y9_5 g9 fu y41_6 y41_7) (fun r => (0 ≤ r.toInt ∧ r.toInt ≤ 1) ∧ True) := by
  intro fu
  induction fu with
  | zero => intro y41_6 y41_7 h_y41_6 h_y41_7 hm; exfalso; omega
  | succ fu ih =>
    intro y41_6 y41_7 h_y41_6 h_y41_7 hm
    rw [fX12_isMixed_L41.eq_2]
    have l_4 := il_4
    refine wq_le (fun hc_30687 => ?_) (fun hc_30688 => ?_)
    · refine wq_v (fun v2_q30689 h_v2_q30689 => ?_)
      have t_v2_q30689 := congrArg Int32.toInt h_v2_q30689
      have l_0 := il_0
      refine wq_eq (fun hc_30690 => ?_) (fun hc_30691 => ?_)
      · have l_1 := il_1
        have t_30693 := ia_add y9_5 (1 : Int32) (by omega) (by omega)
        refine wq_v (fun v3_q30692 h_v3_q30692 => ?_)
        have t_v3_q30692 := congrArg Int32.toInt h_v3_q30692
        have b_30694 := i32b v2_q30689
        exact hg9 v2_q30689 (0 : Int32) v3_q30692 ⟨by omega, by omega⟩ ⟨by omega, by omega⟩ (by omega)
      · have l_1 := il_1
        have t_30696 := ia_add y9_5 (1 : Int32) (by omega) (by omega)
        refine wq_v (fun v4_q30695 h_v4_q30695 => ?_)
        have t_v4_q30695 := congrArg Int32.toInt h_v4_q30695
        have b_30697 := i32b v2_q30689
        exact hg9 v2_q30689 (1 : Int32) v4_q30695 ⟨by omega, by omega⟩ ⟨by omega, by omega⟩ (by omega)
    · have b_30698 := i32b x2
      refine wq_b (tt_fX12_placeOn hN I0 L0 M0 y41_7 y9_5 x2 ⟨by omega, by omega⟩ ⟨by omega, by omega⟩ k_I0) (fun r5_q30699 h_r5_q30699 => ?_)
      obtain ⟨-⟩ := h_r5_q30699
      refine wq_b (tt_fX12_at hN I0 L0 M0 x1 y9_5 ⟨by omega, by omega⟩ ⟨by omega, by omega⟩ k_I0) (fun r6_q30700 h_r6_q30700 => ?_)
      obtain ⟨h_r6_q30700_0, h_r6_q30700_1, h_r6_q30700_2, -⟩ := h_r6_q30700
      have b_30701 := i32b r5_q30699
      have l_60 := il_60
      have t_30702 := i32b r5_q30699
      have t_30703 := ia_div2 r5_q30699 (60 : Int32) 60 il_60 (by decide)
      refine wq_eq (fun hc_30704 => ?_) (fun hc_30705 => ?_)
      · have t_30707 := or_sh y41_6 y41_7 ⟨by omega, by omega⟩ ⟨by omega, by omega⟩
        refine wq_v (fun v8_q30706 h_v8_q30706 => ?_)
        have t_v8_q30706 := congrArg Int32.toInt h_v8_q30706
        have l_1 := il_1
        have t_30709 := ia_add y41_7 (1 : Int32) (by omega) (by omega)
        refine wq_v (fun v9_q30708 h_v9_q30708 => ?_)
        have t_v9_q30708 := congrArg Int32.toInt h_v9_q30708
        exact ih v8_q30706 v9_q30708 ⟨by omega, by omega⟩ ⟨by omega, by omega⟩ (by omega)
      · have l_1 := il_1
        have t_30711 := ia_add y41_7 (1 : Int32) (by omega) (by omega)
        refine wq_v (fun v7_q30710 h_v7_q30710 => ?_)
        have t_v7_q30710 := congrArg Int32.toInt h_v7_q30710
        exact ih y41_6 v7_q30710 ⟨by omega, by omega⟩ ⟨by omega, by omega⟩ (by omega)
set_option maxHeartbeats 4000000 in
theorem tt_fX12_isMixed_L9 {N : Nat} (hN : 3000000000 ≤ N) (I0 : Nat → Int32) (L0 : Int64) (M0 : Nat → Nat → Int32) (x1 : Int32) (x2 : Int32) (h_x1 : 0 ≤ x1.toInt ∧ x1.toInt ≤ 119) (k_I0 : KX12 I0 M0)  : ∀ (fu : Nat) (y9_3 : Int32) (y9_4 : Int32) (y9_5 : Int32), (0 ≤ y9_4.toInt ∧ y9_4.toInt ≤ 1) → (0 ≤ y9_5.toInt ∧ y9_5.toInt ≤ 7) → (7 - y9_5.toInt) < (fu : Int) → wq (fX12_isMixed_L9 N I0 L0 M0 x1 x2 fu y9_3 y9_4 y9_5) (fun r => (0 ≤ r.toInt ∧ r.toInt ≤ 1) ∧ True) := by
  intro fu
  induction fu with
  | zero => intro y9_3 y9_4 y9_5 h_y9_4 h_y9_5 hm; exfalso; omega
  | succ fu ih =>
    intro y9_3 y9_4 y9_5 h_y9_4 h_y9_5 hm
    rw [fX12_isMixed_L9.eq_2]
    have l_7 := il_7
    refine wq_le (fun hc_30712 => ?_) (fun hc_30713 => ?_)
    · unfold fX12_isMixed_J107
      have l_0 := il_0
      refine wq_eq (fun hc_30714 => ?_) (fun hc_30715 => ?_)
      · exact wq_s ⟨(show 0 ≤ (0 : Int32).toInt ∧ (0 : Int32).toInt ≤ 1 from ⟨by omega, by omega⟩), trivial⟩
      · have b_30716 := i32b y9_3
        refine wq_eq (fun hc_30717 => ?_) (fun hc_30718 => ?_)
        · have l_1 := il_1
          exact wq_s ⟨(show 0 ≤ (1 : Int32).toInt ∧ (1 : Int32).toInt ≤ 1 from ⟨by omega, by omega⟩), trivial⟩
        · exact wq_s ⟨(show 0 ≤ (0 : Int32).toInt ∧ (0 : Int32).toInt ≤ 1 from ⟨by omega, by omega⟩), trivial⟩
    · have l_0 := il_0
      refine wq_eq (fun hc_30719 => ?_) (fun hc_30720 => ?_)
      · unfold fX12_isMixed_J107
        refine wq_eq (fun hc_30721 => ?_) (fun hc_30722 => ?_)
        · exact wq_s ⟨(show 0 ≤ (0 : Int32).toInt ∧ (0 : Int32).toInt ≤ 1 from ⟨by omega, by omega⟩), trivial⟩
        · exfalso; omega
      · refine wq_b (tt_fX12_at hN I0 L0 M0 x1 y9_5 ⟨by omega, by omega⟩ ⟨by omega, by omega⟩ k_I0) (fun r1_q30723 h_r1_q30723 => ?_)
        obtain ⟨h_r1_q30723_0, h_r1_q30723_1, h_r1_q30723_2, -⟩ := h_r1_q30723
        have l_m1 := il_m1
        refine wq_eq (fun hc_30724 => ?_) (fun hc_30725 => ?_)
        · have l_1 := il_1
          have t_30727 := ia_add y9_5 (1 : Int32) (by omega) (by omega)
          refine wq_v (fun v10_q30726 h_v10_q30726 => ?_)
          have t_v10_q30726 := congrArg Int32.toInt h_v10_q30726
          have b_30728 := i32b y9_3
          exact ih y9_3 y9_4 v10_q30726 ⟨by omega, by omega⟩ ⟨by omega, by omega⟩ (by omega)
        · have b_30729 := i32b x2
          have b_30730 := i32b y9_3
          exact tt_fX12_isMixed_L41 hN I0 L0 M0 x1 x2 y9_3 y9_5 _ ⟨by omega, by omega⟩ ⟨by omega, by omega⟩ k_I0 (fun q0 q1 q2 hq0 hq1 hq2 => ih q0 q1 q2 hq0 hq1 (by omega)) N (0 : Int32) (0 : Int32) ⟨by omega, by omega⟩ ⟨by omega, by omega⟩ (by omega)
set_option maxHeartbeats 4000000 in
theorem tt_fX12_isMixed {N : Nat} (hN : 3000000000 ≤ N) (I0 : Nat → Int32) (L0 : Int64) (M0 : Nat → Nat → Int32) (x1 : Int32) (x2 : Int32) (h_x1 : 0 ≤ x1.toInt ∧ x1.toInt ≤ 119) (k_I0 : KX12 I0 M0) : wq (fX12_isMixed N I0 L0 M0 x1 x2) (fun r => (0 ≤ r.toInt ∧ r.toInt ≤ 1) ∧ True) := by
  unfold fX12_isMixed
  have b_30731 := i32b x2
  have l_15 := il_15
  have l_1 := il_1
  have l_0 := il_0
  exact tt_fX12_isMixed_L9 hN I0 L0 M0 x1 x2 ⟨by omega, by omega⟩ k_I0 N (15 : Int32) (1 : Int32) (0 : Int32) ⟨by omega, by omega⟩ ⟨by omega, by omega⟩ (by omega)
set_option maxHeartbeats 4000000 in
theorem tt_fX12_mixed_L27 {N : Nat} (hN : 3000000000 ≤ N) (x1 : Int32) (x2 : Int32) (x3 : Int32) (x4 : Int32) (h_x1 : 0 ≤ x1.toInt ∧ x1.toInt ≤ 5) (h_x2 : 0 ≤ x2.toInt ∧ x2.toInt ≤ 19) (h_x3 : 0 ≤ x3.toInt ∧ x3.toInt ≤ 1000000) (h_x4 : 0 ≤ x4.toInt ∧ x4.toInt ≤ 50000)  : ∀ (fu : Nat) (I0_l27 : (Nat → Int32)) (L0_l27 : Int64) (M0_l27 : (Nat → Nat → Int32)) (y27_5 : Int32) (y27_6 : Int32), (0 ≤ y27_6.toInt ∧ y27_6.toInt ≤ 1050001) → (KX12 I0_l27 M0_l27) → (1050001 - y27_6.toInt) < (fu : Int) → wq (fX12_mixed_L27 N x1 x2 x3 x4 fu I0_l27 L0_l27 M0_l27 y27_5 y27_6) (fun r => KX12 r.2.1 r.2.2.2 ∧ True) := by
  intro fu
  induction fu with
  | zero => intro I0_l27 L0_l27 M0_l27 y27_5 y27_6 h_y27_6 k_I0_l27 hm; exfalso; omega
  | succ fu ih =>
    intro I0_l27 L0_l27 M0_l27 y27_5 y27_6 h_y27_6 k_I0_l27 hm
    rw [fX12_mixed_L27.eq_2]
    have t_31306 := ia_add x3 x4 (by omega) (by omega)
    refine wq_lt (fun hc_31307 => ?_) (fun hc_31308 => ?_)
    · have b_31309 := i32b y27_5
      exact wq_s ⟨k_I0_l27, trivial⟩
    · have l_20 := il_20
      have t_31310 := ia_mul (20 : Int32) (20) il_20 x1 (by omega) (by omega)
      have t_31311 := ia_add ((20 : Int32) * x1) x2 (by omega) (by omega)
      refine wq_b (tt_fX12_isMixed hN I0_l27 L0_l27 M0_l27 (((20 : Int32) * x1) + x2) y27_6 ⟨by omega, by omega⟩ k_I0_l27) (fun r3_q31312 h_r3_q31312 => ?_)
      obtain ⟨h_r3_q31312_0, -⟩ := h_r3_q31312
      have l_0 := il_0
      refine wq_eq (fun hc_31313 => ?_) (fun hc_31314 => ?_)
      · have l_1 := il_1
        have t_31316 := ia_add y27_6 (1 : Int32) (by omega) (by omega)
        refine wq_v (fun v4_q31315 h_v4_q31315 => ?_)
        have t_v4_q31315 := congrArg Int32.toInt h_v4_q31315
        have b_31317 := i32b y27_5
        exact ih I0_l27 L0_l27 M0_l27 y27_5 v4_q31315 ⟨by omega, by omega⟩ k_I0_l27 (by omega)
      · have b_31319 := i32b y27_5
        have l_1 := il_1
        refine wq_v (fun v5_q31318 h_v5_q31318 => ?_)
        have t_v5_q31318 := congrArg Int32.toInt h_v5_q31318
        have t_31321 := ia_add y27_6 (1 : Int32) (by omega) (by omega)
        refine wq_v (fun v6_q31320 h_v6_q31320 => ?_)
        have t_v6_q31320 := congrArg Int32.toInt h_v6_q31320
        have b_31322 := i32b v5_q31318
        exact ih I0_l27 L0_l27 M0_l27 v5_q31318 v6_q31320 ⟨by omega, by omega⟩ k_I0_l27 (by omega)
set_option maxHeartbeats 4000000 in
theorem tt_fX12_mixed {N : Nat} (hN : 3000000000 ≤ N) (I0 : Nat → Int32) (L0 : Int64) (M0 : Nat → Nat → Int32) (x1 : Int32) (x2 : Int32) (x3 : Int32) (x4 : Int32) (k_I0 : KX12 I0 M0) : wq (fX12_mixed N I0 L0 M0 x1 x2 x3 x4) (fun r => KX12 r.2.1 r.2.2.2 ∧ True) := by
  unfold fX12_mixed
  have b_31323 := i32b x1
  have b_31324 := i32b x2
  refine wq_b (tt_fX12_isWheel hN I0 L0 M0 x1 x2 k_I0) (fun r1_q31325 h_r1_q31325 => ?_)
  obtain ⟨h_r1_q31325_0, h_r1_q31325_1, h_r1_q31325_2, h_r1_q31325_3, -⟩ := h_r1_q31325
  have t_31326 := KX12.i1 h_r1_q31325_3
  have t_31327 := KX12.i1 k_I0
  have l_0 := il_0
  refine wq_eq (fun hc_31328 => ?_) (fun hc_31329 => ?_)
  · exact wq_s ⟨h_r1_q31325_3, trivial⟩
  · have b_31330 := i32b x3
    have b_31331 := i32b x4
    refine wq_b (tt_fX12_isSpan hN r1_q31325.2.1 r1_q31325.2.2.1 r1_q31325.2.2.2 x3 x4 h_r1_q31325_3) (fun r2_q31332 h_r2_q31332 => ?_)
    obtain ⟨h_r2_q31332_0, h_r2_q31332_1, h_r2_q31332_2, h_r2_q31332_3, -⟩ := h_r2_q31332
    have t_31333 := KX12.i1 h_r2_q31332_3
    refine wq_eq (fun hc_31334 => ?_) (fun hc_31335 => ?_)
    · exact wq_s ⟨h_r2_q31332_3, trivial⟩
    · exact tt_fX12_mixed_L27 hN x1 x2 x3 x4 ⟨by omega, by omega⟩ ⟨by omega, by omega⟩ ⟨by omega, by omega⟩ ⟨by omega, by omega⟩ N r2_q31332.2.1 r2_q31332.2.2.1 r2_q31332.2.2.2 (0 : Int32) x3 ⟨by omega, by omega⟩ h_r2_q31332_3 (by omega)
set_option maxHeartbeats 4000000 in
theorem tt_fX12_seek {N : Nat} (hN : 3000000000 ≤ N) (I0 : Nat → Int32) (L0 : Int64) (M0 : Nat → Nat → Int32) (x1 : Int32) (x2 : Int32) (x3 : Int32) (x4 : Int32) (k_I0 : KX12 I0 M0) : wq (fX12_seek N I0 L0 M0 x1 x2 x3 x4) (fun r => KX12 r.1 r.2.2 ∧ True) := by
  unfold fX12_seek
  have b_31626 := i32b x1
  have b_31627 := i32b x2
  refine wq_b (tt_fX12_isWheel hN I0 L0 M0 x1 x2 k_I0) (fun r10_q31628 h_r10_q31628 => ?_)
  obtain ⟨h_r10_q31628_0, h_r10_q31628_1, h_r10_q31628_2, h_r10_q31628_3, -⟩ := h_r10_q31628
  have t_31629 := KX12.i1 h_r10_q31628_3
  have t_31630 := KX12.i1 k_I0
  have l_0 := il_0
  refine wq_eq (fun hc_31631 => ?_) (fun hc_31632 => ?_)
  · exact wq_s ⟨h_r10_q31628_3, trivial⟩
  · have b_31633 := i32b x3
    have l_3 := il_3
    refine wq_b (tt_fX12_within hN x3 (0 : Int32) (3 : Int32)) (fun r11_q31634 h_r11_q31634 => ?_)
    obtain ⟨h_r11_q31634_0, h_r11_q31634_1, -⟩ := h_r11_q31634
    refine wq_eq (fun hc_31635 => ?_) (fun hc_31636 => ?_)
    · unfold fX12_seek_J34
      unfold fX12_seek_J35
      have l_1 := il_1
      refine wq_b (tt_fX12_right hN r10_q31628.2.1 r10_q31628.2.2.1 r10_q31628.2.2.2 (0 : Int32) (1 : Int32) ⟨by omega, by omega⟩ h_r10_q31628_3) (fun r1_q31637 h_r1_q31637 => ?_)
      obtain ⟨h_r1_q31637_0, h_r1_q31637_1, h_r1_q31637_2, h_r1_q31637_3, -⟩ := h_r1_q31637
      have t_31638 := KX12.i1 h_r1_q31637_3
      refine wq_eq (fun hc_31639 => ?_) (fun hc_31640 => ?_)
      · exact wq_s ⟨h_r1_q31637_3, trivial⟩
      · refine wq_v (fun I0_2_q31641 h_I0_2_q31641 => ?_)
        have k_I0_2_q31641 : KX12 I0_2_q31641 r1_q31637.2.2.2 := by rw [h_I0_2_q31641]; exact KX12.si16 h_r1_q31637_3 ⟨by omega, by omega⟩
        refine wq_in (n := 7) ⟨by omega, by omega⟩ ?_
        refine wq_v (fun M0_3_q31642 h_M0_3_q31642 => ?_)
        have l_20 := il_20
        have t_31643 := ia_mul (20 : Int32) (20) il_20 x1 (by omega) (by omega)
        have t_31644 := ia_add ((20 : Int32) * x1) x2 (by omega) (by omega)
        have k_M0_3_q31642 : KX12 I0_2_q31641 M0_3_q31642 := by rw [h_M0_3_q31642]; exact KX12.sm18 k_I0_2_q31641 (SR.um (KX12.ese k_I0_2_q31641) (fun _ => ⟨by omega, by omega⟩) (fun q => absurd q (by decide)) (fun q => absurd q (by decide)))
        refine wq_in (n := 7) ⟨by omega, by omega⟩ ?_
        refine wq_v (fun M0_4_q31645 h_M0_4_q31645 => ?_)
        have k_M0_4_q31645 : KX12 I0_2_q31641 M0_4_q31645 := by rw [h_M0_4_q31645]; exact KX12.sm18 k_M0_3_q31642 (SR.um (KX12.ese k_M0_3_q31642) (fun q => absurd q (by decide)) (fun _ => ⟨by omega, by omega⟩) (fun q => absurd q (by decide)))
        have l_2 := il_2
        refine wq_in (n := 7) ⟨by omega, by omega⟩ ?_
        refine wq_v (fun M0_5_q31646 h_M0_5_q31646 => ?_)
        have b_31647 := i32b x4
        have k_M0_5_q31646 : KX12 I0_2_q31641 M0_5_q31646 := by rw [h_M0_5_q31646]; exact KX12.sm18 k_M0_4_q31645 (SR.um (KX12.ese k_M0_4_q31645) (fun q => absurd q (by decide)) (fun q => absurd q (by decide)) (fun _ => ⟨by omega, by omega⟩))
        refine wq_in (n := 7) ⟨by omega, by omega⟩ ?_
        refine wq_v (fun M0_6_q31648 h_M0_6_q31648 => ?_)
        have k_M0_6_q31648 : KX12 I0_2_q31641 M0_6_q31648 := by rw [h_M0_6_q31648]; exact KX12.sm18 k_M0_5_q31646 (SR.um (KX12.ese k_M0_5_q31646) (fun q => absurd q (by decide)) (fun q => absurd q (by decide)) (fun q => absurd q (by decide)))
        have l_4 := il_4
        refine wq_in (n := 7) ⟨by omega, by omega⟩ ?_
        refine wq_v (fun M0_7_q31649 h_M0_7_q31649 => ?_)
        have k_M0_7_q31649 : KX12 I0_2_q31641 M0_7_q31649 := by rw [h_M0_7_q31649]; exact KX12.sm18 k_M0_6_q31648 (SR.um (KX12.ese k_M0_6_q31648) (fun q => absurd q (by decide)) (fun q => absurd q (by decide)) (fun q => absurd q (by decide)))
        have l_5 := il_5
        refine wq_in (n := 7) ⟨by omega, by omega⟩ ?_
        refine wq_v (fun M0_8_q31650 h_M0_8_q31650 => ?_)
        have k_M0_8_q31650 : KX12 I0_2_q31641 M0_8_q31650 := by rw [h_M0_8_q31650]; exact KX12.sm18 k_M0_7_q31649 (SR.um (KX12.ese k_M0_7_q31649) (fun q => absurd q (by decide)) (fun q => absurd q (by decide)) (fun q => absurd q (by decide)))
        have l_6 := il_6
        refine wq_in (n := 7) ⟨by omega, by omega⟩ ?_
        refine wq_v (fun M0_9_q31651 h_M0_9_q31651 => ?_)
        have k_M0_9_q31651 : KX12 I0_2_q31641 M0_9_q31651 := by rw [h_M0_9_q31651]; exact KX12.sm18 k_M0_8_q31650 (SR.um (KX12.ese k_M0_8_q31650) (fun q => absurd q (by decide)) (fun q => absurd q (by decide)) (fun q => absurd q (by decide)))
        exact wq_s ⟨k_M0_9_q31651, trivial⟩
    · have b_31652 := i32b x4
      have l_1000000 := il_1000000
      refine wq_b (tt_fX12_within hN x4 (0 : Int32) (1000000 : Int32)) (fun r12_q31653 h_r12_q31653 => ?_)
      obtain ⟨h_r12_q31653_0, h_r12_q31653_1, -⟩ := h_r12_q31653
      refine wq_eq (fun hc_31654 => ?_) (fun hc_31655 => ?_)
      · unfold fX12_seek_J34
        unfold fX12_seek_J35
        have l_1 := il_1
        refine wq_b (tt_fX12_right hN r10_q31628.2.1 r10_q31628.2.2.1 r10_q31628.2.2.2 (0 : Int32) (1 : Int32) ⟨by omega, by omega⟩ h_r10_q31628_3) (fun r1_q31656 h_r1_q31656 => ?_)
        obtain ⟨h_r1_q31656_0, h_r1_q31656_1, h_r1_q31656_2, h_r1_q31656_3, -⟩ := h_r1_q31656
        have t_31657 := KX12.i1 h_r1_q31656_3
        refine wq_eq (fun hc_31658 => ?_) (fun hc_31659 => ?_)
        · exact wq_s ⟨h_r1_q31656_3, trivial⟩
        · refine wq_v (fun I0_2_q31660 h_I0_2_q31660 => ?_)
          have k_I0_2_q31660 : KX12 I0_2_q31660 r1_q31656.2.2.2 := by rw [h_I0_2_q31660]; exact KX12.si16 h_r1_q31656_3 ⟨by omega, by omega⟩
          refine wq_in (n := 7) ⟨by omega, by omega⟩ ?_
          refine wq_v (fun M0_3_q31661 h_M0_3_q31661 => ?_)
          have l_20 := il_20
          have t_31662 := ia_mul (20 : Int32) (20) il_20 x1 (by omega) (by omega)
          have t_31663 := ia_add ((20 : Int32) * x1) x2 (by omega) (by omega)
          have k_M0_3_q31661 : KX12 I0_2_q31660 M0_3_q31661 := by rw [h_M0_3_q31661]; exact KX12.sm18 k_I0_2_q31660 (SR.um (KX12.ese k_I0_2_q31660) (fun _ => ⟨by omega, by omega⟩) (fun q => absurd q (by decide)) (fun q => absurd q (by decide)))
          refine wq_in (n := 7) ⟨by omega, by omega⟩ ?_
          refine wq_v (fun M0_4_q31664 h_M0_4_q31664 => ?_)
          have k_M0_4_q31664 : KX12 I0_2_q31660 M0_4_q31664 := by rw [h_M0_4_q31664]; exact KX12.sm18 k_M0_3_q31661 (SR.um (KX12.ese k_M0_3_q31661) (fun q => absurd q (by decide)) (fun _ => ⟨by omega, by omega⟩) (fun q => absurd q (by decide)))
          have l_2 := il_2
          refine wq_in (n := 7) ⟨by omega, by omega⟩ ?_
          refine wq_v (fun M0_5_q31665 h_M0_5_q31665 => ?_)
          have k_M0_5_q31665 : KX12 I0_2_q31660 M0_5_q31665 := by rw [h_M0_5_q31665]; exact KX12.sm18 k_M0_4_q31664 (SR.um (KX12.ese k_M0_4_q31664) (fun q => absurd q (by decide)) (fun q => absurd q (by decide)) (fun _ => ⟨by omega, by omega⟩))
          refine wq_in (n := 7) ⟨by omega, by omega⟩ ?_
          refine wq_v (fun M0_6_q31666 h_M0_6_q31666 => ?_)
          have k_M0_6_q31666 : KX12 I0_2_q31660 M0_6_q31666 := by rw [h_M0_6_q31666]; exact KX12.sm18 k_M0_5_q31665 (SR.um (KX12.ese k_M0_5_q31665) (fun q => absurd q (by decide)) (fun q => absurd q (by decide)) (fun q => absurd q (by decide)))
          have l_4 := il_4
          refine wq_in (n := 7) ⟨by omega, by omega⟩ ?_
          refine wq_v (fun M0_7_q31667 h_M0_7_q31667 => ?_)
          have k_M0_7_q31667 : KX12 I0_2_q31660 M0_7_q31667 := by rw [h_M0_7_q31667]; exact KX12.sm18 k_M0_6_q31666 (SR.um (KX12.ese k_M0_6_q31666) (fun q => absurd q (by decide)) (fun q => absurd q (by decide)) (fun q => absurd q (by decide)))
          have l_5 := il_5
          refine wq_in (n := 7) ⟨by omega, by omega⟩ ?_
          refine wq_v (fun M0_8_q31668 h_M0_8_q31668 => ?_)
          have k_M0_8_q31668 : KX12 I0_2_q31660 M0_8_q31668 := by rw [h_M0_8_q31668]; exact KX12.sm18 k_M0_7_q31667 (SR.um (KX12.ese k_M0_7_q31667) (fun q => absurd q (by decide)) (fun q => absurd q (by decide)) (fun q => absurd q (by decide)))
          have l_6 := il_6
          refine wq_in (n := 7) ⟨by omega, by omega⟩ ?_
          refine wq_v (fun M0_9_q31669 h_M0_9_q31669 => ?_)
          have k_M0_9_q31669 : KX12 I0_2_q31660 M0_9_q31669 := by rw [h_M0_9_q31669]; exact KX12.sm18 k_M0_8_q31668 (SR.um (KX12.ese k_M0_8_q31668) (fun q => absurd q (by decide)) (fun q => absurd q (by decide)) (fun q => absurd q (by decide)))
          exact wq_s ⟨k_M0_9_q31669, trivial⟩
      · unfold fX12_seek_J35
        have l_1 := il_1
        refine wq_b (tt_fX12_right hN r10_q31628.2.1 r10_q31628.2.2.1 r10_q31628.2.2.2 (1 : Int32) (1 : Int32) ⟨by omega, by omega⟩ h_r10_q31628_3) (fun r1_q31670 h_r1_q31670 => ?_)
        obtain ⟨h_r1_q31670_0, h_r1_q31670_1, h_r1_q31670_2, h_r1_q31670_3, -⟩ := h_r1_q31670
        have t_31671 := KX12.i1 h_r1_q31670_3
        refine wq_eq (fun hc_31672 => ?_) (fun hc_31673 => ?_)
        · exact wq_s ⟨h_r1_q31670_3, trivial⟩
        · refine wq_v (fun I0_2_q31674 h_I0_2_q31674 => ?_)
          have k_I0_2_q31674 : KX12 I0_2_q31674 r1_q31670.2.2.2 := by rw [h_I0_2_q31674]; exact KX12.si16 h_r1_q31670_3 ⟨by omega, by omega⟩
          refine wq_in (n := 7) ⟨by omega, by omega⟩ ?_
          refine wq_v (fun M0_3_q31675 h_M0_3_q31675 => ?_)
          have l_20 := il_20
          have t_31676 := ia_mul (20 : Int32) (20) il_20 x1 (by omega) (by omega)
          have t_31677 := ia_add ((20 : Int32) * x1) x2 (by omega) (by omega)
          have k_M0_3_q31675 : KX12 I0_2_q31674 M0_3_q31675 := by rw [h_M0_3_q31675]; exact KX12.sm18 k_I0_2_q31674 (SR.um (KX12.ese k_I0_2_q31674) (fun _ => ⟨by omega, by omega⟩) (fun q => absurd q (by decide)) (fun q => absurd q (by decide)))
          refine wq_in (n := 7) ⟨by omega, by omega⟩ ?_
          refine wq_v (fun M0_4_q31678 h_M0_4_q31678 => ?_)
          have k_M0_4_q31678 : KX12 I0_2_q31674 M0_4_q31678 := by rw [h_M0_4_q31678]; exact KX12.sm18 k_M0_3_q31675 (SR.um (KX12.ese k_M0_3_q31675) (fun q => absurd q (by decide)) (fun _ => ⟨by omega, by omega⟩) (fun q => absurd q (by decide)))
          have l_2 := il_2
          refine wq_in (n := 7) ⟨by omega, by omega⟩ ?_
          refine wq_v (fun M0_5_q31679 h_M0_5_q31679 => ?_)
          have k_M0_5_q31679 : KX12 I0_2_q31674 M0_5_q31679 := by rw [h_M0_5_q31679]; exact KX12.sm18 k_M0_4_q31678 (SR.um (KX12.ese k_M0_4_q31678) (fun q => absurd q (by decide)) (fun q => absurd q (by decide)) (fun _ => ⟨by omega, by omega⟩))
          refine wq_in (n := 7) ⟨by omega, by omega⟩ ?_
          refine wq_v (fun M0_6_q31680 h_M0_6_q31680 => ?_)
          have k_M0_6_q31680 : KX12 I0_2_q31674 M0_6_q31680 := by rw [h_M0_6_q31680]; exact KX12.sm18 k_M0_5_q31679 (SR.um (KX12.ese k_M0_5_q31679) (fun q => absurd q (by decide)) (fun q => absurd q (by decide)) (fun q => absurd q (by decide)))
          have l_4 := il_4
          refine wq_in (n := 7) ⟨by omega, by omega⟩ ?_
          refine wq_v (fun M0_7_q31681 h_M0_7_q31681 => ?_)
          have k_M0_7_q31681 : KX12 I0_2_q31674 M0_7_q31681 := by rw [h_M0_7_q31681]; exact KX12.sm18 k_M0_6_q31680 (SR.um (KX12.ese k_M0_6_q31680) (fun q => absurd q (by decide)) (fun q => absurd q (by decide)) (fun q => absurd q (by decide)))
          have l_5 := il_5
          refine wq_in (n := 7) ⟨by omega, by omega⟩ ?_
          refine wq_v (fun M0_8_q31682 h_M0_8_q31682 => ?_)
          have k_M0_8_q31682 : KX12 I0_2_q31674 M0_8_q31682 := by rw [h_M0_8_q31682]; exact KX12.sm18 k_M0_7_q31681 (SR.um (KX12.ese k_M0_7_q31681) (fun q => absurd q (by decide)) (fun q => absurd q (by decide)) (fun q => absurd q (by decide)))
          have l_6 := il_6
          refine wq_in (n := 7) ⟨by omega, by omega⟩ ?_
          refine wq_v (fun M0_9_q31683 h_M0_9_q31683 => ?_)
          have k_M0_9_q31683 : KX12 I0_2_q31674 M0_9_q31683 := by rw [h_M0_9_q31683]; exact KX12.sm18 k_M0_8_q31682 (SR.um (KX12.ese k_M0_8_q31682) (fun q => absurd q (by decide)) (fun q => absurd q (by decide)) (fun q => absurd q (by decide)))
          exact wq_s ⟨k_M0_9_q31683, trivial⟩

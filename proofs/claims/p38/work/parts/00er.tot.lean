set_option maxHeartbeats 4000000 in
theorem tt_fX12_possible_L126 {N : Nat} (hN : 3000000000 ≤ N) (x1 : Int32) (x2 : Int32) (x3 : Int32) (r1 : Int32) (y71_4 : Int32) (g88 : (Nat → Int32) → Int64 → (Nat → Nat → Int32) → Int32 → Int32 → Option (Int32 × (Nat → Int32) × Int64 × (Nat → Nat → Int32))) (h_x1 : 0 ≤ x1.toInt ∧ x1.toInt ≤ 5) (h_x2 : 0 ≤ x2.toInt ∧ x2.toInt ≤ 19) (h_y71_4 : 0 ≤ y71_4.toInt ∧ y71_4.toInt ≤ 119)  : ∀ (fu : Nat) (I0_l126 : (Nat → Int32)) (L0_l126 : Int64) (M0_l126 : (Nat → Nat → Int32)) (y126_6 : Int32) (y126_7 : Int32) (y126_8 : Int32), (0 ≤ y126_8.toInt ∧ y126_8.toInt ≤ 7) → (KX12 I0_l126 M0_l126) → (7 - y126_8.toInt) < (fu : Int) → wq (fX12_possible_L126 N x1 x2 x3 r1 y71_4 g88 fu I0_l126 L0_l126 M0_l126 y126_6 y126_7 y126_8) (fun r => KX12 r.2.1 r.2.2.2 ∧ True) := by
  intro fu
  induction fu with
  | zero => intro I0_l126 L0_l126 M0_l126 y126_6 y126_7 y126_8 h_y126_8 k_I0_l126 hm; exfalso; omega
  | succ fu ih =>
    intro I0_l126 L0_l126 M0_l126 y126_6 y126_7 y126_8 h_y126_8 k_I0_l126 hm
    rw [fX12_possible_L126.eq_2]
    have t_46105 := KX12.i1 k_I0_l126
    refine wq_le (fun hc_46106 => ?_) (fun hc_46107 => ?_)
    · have b_46108 := i32b x3
      have l_0 := il_0
      refine wq_eq (fun hc_46109 => ?_) (fun hc_46110 => ?_)
      · have b_46111 := i32b y126_6
        exact wq_s ⟨k_I0_l126, trivial⟩
      · have b_46112 := i32b y126_7
        exact wq_s ⟨k_I0_l126, trivial⟩
    · have l_2 := il_2
      refine wq_b (tt_fX12_agrees hN I0_l126 L0_l126 M0_l126 y71_4 (2 : Int32) y126_8 ⟨by omega, by omega⟩ k_I0_l126 (by omega)) (fun r5_q46113 h_r5_q46113 => ?_)
      obtain ⟨-⟩ := h_r5_q46113
      have b_46114 := i32b r5_q46113
      have b_46115 := i32b r1
      refine wq_eq (fun hc_46116 => ?_) (fun hc_46117 => ?_)
      · refine wq_v (fun v6_q46118 h_v6_q46118 => ?_)
        have t_v6_q46118 := congrArg Int32.toInt h_v6_q46118
        have b_46119 := i32b x3
        have b_46120 := i32b v6_q46118
        have b_46121 := i32b y126_7
        have l_0 := il_0
        exact tt_fX12_possible_L164 hN x1 x2 x3 r1 v6_q46118 y126_7 y126_8 y71_4 g88 _ ⟨by omega, by omega⟩ ⟨by omega, by omega⟩ ⟨by omega, by omega⟩ ⟨by omega, by omega⟩ (fun q0 q1 q2 q3 q4 q5 hq0 hq1 hq2 => ih q0 q1 q2 q3 q4 q5 hq0 hq1 (by omega)) N I0_l126 L0_l126 M0_l126 (0 : Int32) (0 : Int32) ⟨by omega, by omega⟩ ⟨by omega, by omega⟩ k_I0_l126 (by omega) (by omega)
      · have l_1 := il_1
        have t_46123 := ia_add y126_8 (1 : Int32) (by omega) (by omega)
        refine wq_v (fun v11_q46122 h_v11_q46122 => ?_)
        have t_v11_q46122 := congrArg Int32.toInt h_v11_q46122
        have b_46124 := i32b y126_6
        have b_46125 := i32b y126_7
        exact ih I0_l126 L0_l126 M0_l126 y126_6 y126_7 v11_q46122 ⟨by omega, by omega⟩ k_I0_l126 (by omega)
set_option maxHeartbeats 4000000 in
theorem tt_fX12_possible_L88 {N : Nat} (hN : 3000000000 ≤ N) (x1 : Int32) (x2 : Int32) (x3 : Int32) (r1 : Int32) (y71_4 : Int32) (h_x1 : 0 ≤ x1.toInt ∧ x1.toInt ≤ 5) (h_x2 : 0 ≤ x2.toInt ∧ x2.toInt ≤ 19) (h_y71_4 : 0 ≤ y71_4.toInt ∧ y71_4.toInt ≤ 119)  : ∀ (fu : Nat) (I0_l88 : (Nat → Int32)) (L0_l88 : Int64) (M0_l88 : (Nat → Nat → Int32)) (y88_6 : Int32) (y88_8 : Int32), (0 ≤ y88_6.toInt ∧ y88_6.toInt ≤ 255) → (0 ≤ y88_8.toInt ∧ y88_8.toInt ≤ 2) → (KX12 I0_l88 M0_l88) → (2 - y88_8.toInt) < (fu : Int) → wq (fX12_possible_L88 N x1 x2 x3 r1 y71_4 fu I0_l88 L0_l88 M0_l88 y88_6 y88_8) (fun r => KX12 r.2.1 r.2.2.2 ∧ True) := by
  intro fu
  induction fu with
  | zero => intro I0_l88 L0_l88 M0_l88 y88_6 y88_8 h_y88_6 h_y88_8 k_I0_l88 hm; exfalso; omega
  | succ fu ih =>
    intro I0_l88 L0_l88 M0_l88 y88_6 y88_8 h_y88_6 h_y88_8 k_I0_l88 hm
    rw [fX12_possible_L88.eq_2]
    have l_2 := il_2
    refine wq_le (fun hc_46126 => ?_) (fun hc_46127 => ?_)
    · have b_46128 := i32b x3
      have b_46129 := i32b r1
      have l_0 := il_0
      exact tt_fX12_possible_L126 hN x1 x2 x3 r1 y71_4 _ ⟨by omega, by omega⟩ ⟨by omega, by omega⟩ ⟨by omega, by omega⟩ N I0_l88 L0_l88 M0_l88 y88_6 (0 : Int32) (0 : Int32) ⟨by omega, by omega⟩ k_I0_l88 (by omega)
    · have l_0 := il_0
      have t_46130 := KX12.i1 k_I0_l88
      refine wq_b (tt_fX12_agrees hN I0_l88 L0_l88 M0_l88 y71_4 y88_8 (0 : Int32) ⟨by omega, by omega⟩ k_I0_l88 (by omega)) (fun r12_q46131 h_r12_q46131 => ?_)
      obtain ⟨-⟩ := h_r12_q46131
      have b_46132 := i32b r12_q46131
      have b_46133 := i32b r1
      refine wq_eq (fun hc_46134 => ?_) (fun hc_46135 => ?_)
      · have t_46137 := or_sh y88_6 y88_8 ⟨by omega, by omega⟩ ⟨by omega, by omega⟩
        refine wq_v (fun v14_q46136 h_v14_q46136 => ?_)
        have t_v14_q46136 := congrArg Int32.toInt h_v14_q46136
        have l_1 := il_1
        have t_46139 := ia_add y88_8 (1 : Int32) (by omega) (by omega)
        refine wq_v (fun v15_q46138 h_v15_q46138 => ?_)
        have t_v15_q46138 := congrArg Int32.toInt h_v15_q46138
        exact ih I0_l88 L0_l88 M0_l88 v14_q46136 v15_q46138 ⟨by omega, by omega⟩ ⟨by omega, by omega⟩ k_I0_l88 (by omega)
      · have l_1 := il_1
        have t_46141 := ia_add y88_8 (1 : Int32) (by omega) (by omega)
        refine wq_v (fun v13_q46140 h_v13_q46140 => ?_)
        have t_v13_q46140 := congrArg Int32.toInt h_v13_q46140
        exact ih I0_l88 L0_l88 M0_l88 y88_6 v13_q46140 ⟨by omega, by omega⟩ ⟨by omega, by omega⟩ k_I0_l88 (by omega)
set_option maxHeartbeats 4000000 in
theorem tt_fX12_possible {N : Nat} (hN : 3000000000 ≤ N) (I0 : Nat → Int32) (L0 : Int64) (M0 : Nat → Nat → Int32) (x1 : Int32) (x2 : Int32) (x3 : Int32) (k_I0 : KX12 I0 M0) : wq (fX12_possible N I0 L0 M0 x1 x2 x3) (fun r => KX12 r.2.1 r.2.2.2 ∧ True) := by
  unfold fX12_possible
  have b_46142 := i32b x1
  have b_46143 := i32b x2
  refine wq_b (tt_fX12_isWheel hN I0 L0 M0 x1 x2 k_I0) (fun r20_q46144 h_r20_q46144 => ?_)
  obtain ⟨h_r20_q46144_0, h_r20_q46144_1, h_r20_q46144_2, h_r20_q46144_3, -⟩ := h_r20_q46144
  have t_46145 := KX12.i1 h_r20_q46144_3
  have t_46146 := KX12.i1 k_I0
  have l_0 := il_0
  refine wq_eq (fun hc_46147 => ?_) (fun hc_46148 => ?_)
  · exact wq_s ⟨h_r20_q46144_3, trivial⟩
  · have b_46149 := i32b x3
    refine wq_eq (fun hc_46150 => ?_) (fun hc_46151 => ?_)
    · unfold fX12_possible_J19
      unfold fX12_possible_J24
      have l_1 := il_1
      refine wq_b (tt_fX12_right hN r20_q46144.2.1 r20_q46144.2.2.1 r20_q46144.2.2.2 (1 : Int32) (1 : Int32) ⟨by omega, by omega⟩ h_r20_q46144_3) (fun r16_q46152 h_r16_q46152 => ?_)
      obtain ⟨h_r16_q46152_0, h_r16_q46152_1, h_r16_q46152_2, h_r16_q46152_3, -⟩ := h_r16_q46152
      have t_46153 := KX12.i1 h_r16_q46152_3
      refine wq_eq (fun hc_46154 => ?_) (fun hc_46155 => ?_)
      · exact wq_s ⟨h_r16_q46152_3, trivial⟩
      · have l_20 := il_20
        have t_46157 := ia_mul (20 : Int32) (20) il_20 x1 (by omega) (by omega)
        have t_46158 := ia_add ((20 : Int32) * x1) x2 (by omega) (by omega)
        refine wq_v (fun v17_q46156 h_v17_q46156 => ?_)
        have t_v17_q46156 := congrArg Int32.toInt h_v17_q46156
        have l_7 := il_7
        refine wq_b (tt_fX12_at hN r16_q46152.2.1 r16_q46152.2.2.1 r16_q46152.2.2.2 v17_q46156 (7 : Int32) ⟨by omega, by omega⟩ ⟨by omega, by omega⟩ h_r16_q46152_3) (fun r18_q46159 h_r18_q46159 => ?_)
        obtain ⟨h_r18_q46159_0, h_r18_q46159_1, h_r18_q46159_2, -⟩ := h_r18_q46159
        have l_m1 := il_m1
        refine wq_eq (fun hc_46160 => ?_) (fun hc_46161 => ?_)
        · exact wq_s ⟨h_r16_q46152_3, trivial⟩
        · refine wq_eq (fun hc_46162 => ?_) (fun hc_46163 => ?_)
          · exfalso; omega
          · unfold fX12_possible_J71
            refine wq_b (tt_fX12_housesTold hN r16_q46152.2.1 r16_q46152.2.2.1 r16_q46152.2.2.2 v17_q46156 ⟨by omega, by omega⟩ h_r16_q46152_3) (fun r1_q46164 h_r1_q46164 => ?_)
            obtain ⟨-⟩ := h_r1_q46164
            have b_46165 := i32b r1_q46164
            exact tt_fX12_possible_L88 hN x1 x2 x3 r1_q46164 v17_q46156 ⟨by omega, by omega⟩ ⟨by omega, by omega⟩ ⟨by omega, by omega⟩ N r16_q46152.2.1 r16_q46152.2.2.1 r16_q46152.2.2.2 (0 : Int32) (0 : Int32) ⟨by omega, by omega⟩ ⟨by omega, by omega⟩ h_r16_q46152_3 (by omega)
    · have l_1 := il_1
      refine wq_eq (fun hc_46166 => ?_) (fun hc_46167 => ?_)
      · unfold fX12_possible_J19
        unfold fX12_possible_J24
        refine wq_b (tt_fX12_right hN r20_q46144.2.1 r20_q46144.2.2.1 r20_q46144.2.2.2 (1 : Int32) (1 : Int32) ⟨by omega, by omega⟩ h_r20_q46144_3) (fun r16_q46168 h_r16_q46168 => ?_)
        obtain ⟨h_r16_q46168_0, h_r16_q46168_1, h_r16_q46168_2, h_r16_q46168_3, -⟩ := h_r16_q46168
        have t_46169 := KX12.i1 h_r16_q46168_3
        refine wq_eq (fun hc_46170 => ?_) (fun hc_46171 => ?_)
        · exact wq_s ⟨h_r16_q46168_3, trivial⟩
        · have l_20 := il_20
          have t_46173 := ia_mul (20 : Int32) (20) il_20 x1 (by omega) (by omega)
          have t_46174 := ia_add ((20 : Int32) * x1) x2 (by omega) (by omega)
          refine wq_v (fun v17_q46172 h_v17_q46172 => ?_)
          have t_v17_q46172 := congrArg Int32.toInt h_v17_q46172
          have l_7 := il_7
          refine wq_b (tt_fX12_at hN r16_q46168.2.1 r16_q46168.2.2.1 r16_q46168.2.2.2 v17_q46172 (7 : Int32) ⟨by omega, by omega⟩ ⟨by omega, by omega⟩ h_r16_q46168_3) (fun r18_q46175 h_r18_q46175 => ?_)
          obtain ⟨h_r18_q46175_0, h_r18_q46175_1, h_r18_q46175_2, -⟩ := h_r18_q46175
          have l_m1 := il_m1
          refine wq_eq (fun hc_46176 => ?_) (fun hc_46177 => ?_)
          · exact wq_s ⟨h_r16_q46168_3, trivial⟩
          · refine wq_eq (fun hc_46178 => ?_) (fun hc_46179 => ?_)
            · refine wq_b (tt_fX12_at hN r16_q46168.2.1 r16_q46168.2.2.1 r16_q46168.2.2.2 v17_q46172 (0 : Int32) ⟨by omega, by omega⟩ ⟨by omega, by omega⟩ h_r16_q46168_3) (fun r19_q46180 h_r19_q46180 => ?_)
              obtain ⟨h_r19_q46180_0, h_r19_q46180_1, h_r19_q46180_2, -⟩ := h_r19_q46180
              refine wq_eq (fun hc_46181 => ?_) (fun hc_46182 => ?_)
              · exact wq_s ⟨h_r16_q46168_3, trivial⟩
              · unfold fX12_possible_J71
                refine wq_b (tt_fX12_housesTold hN r16_q46168.2.1 r16_q46168.2.2.1 r16_q46168.2.2.2 v17_q46172 ⟨by omega, by omega⟩ h_r16_q46168_3) (fun r1_q46183 h_r1_q46183 => ?_)
                obtain ⟨-⟩ := h_r1_q46183
                have b_46184 := i32b r1_q46183
                exact tt_fX12_possible_L88 hN x1 x2 x3 r1_q46183 v17_q46172 ⟨by omega, by omega⟩ ⟨by omega, by omega⟩ ⟨by omega, by omega⟩ N r16_q46168.2.1 r16_q46168.2.2.1 r16_q46168.2.2.2 (0 : Int32) (0 : Int32) ⟨by omega, by omega⟩ ⟨by omega, by omega⟩ h_r16_q46168_3 (by omega)
            · exfalso; omega
      · unfold fX12_possible_J24
        refine wq_b (tt_fX12_right hN r20_q46144.2.1 r20_q46144.2.2.1 r20_q46144.2.2.2 (0 : Int32) (1 : Int32) ⟨by omega, by omega⟩ h_r20_q46144_3) (fun r16_q46185 h_r16_q46185 => ?_)
        obtain ⟨h_r16_q46185_0, h_r16_q46185_1, h_r16_q46185_2, h_r16_q46185_3, -⟩ := h_r16_q46185
        have t_46186 := KX12.i1 h_r16_q46185_3
        refine wq_eq (fun hc_46187 => ?_) (fun hc_46188 => ?_)
        · exact wq_s ⟨h_r16_q46185_3, trivial⟩
        · have l_20 := il_20
          have t_46190 := ia_mul (20 : Int32) (20) il_20 x1 (by omega) (by omega)
          have t_46191 := ia_add ((20 : Int32) * x1) x2 (by omega) (by omega)
          refine wq_v (fun v17_q46189 h_v17_q46189 => ?_)
          have t_v17_q46189 := congrArg Int32.toInt h_v17_q46189
          have l_7 := il_7
          refine wq_b (tt_fX12_at hN r16_q46185.2.1 r16_q46185.2.2.1 r16_q46185.2.2.2 v17_q46189 (7 : Int32) ⟨by omega, by omega⟩ ⟨by omega, by omega⟩ h_r16_q46185_3) (fun r18_q46192 h_r18_q46192 => ?_)
          obtain ⟨h_r18_q46192_0, h_r18_q46192_1, h_r18_q46192_2, -⟩ := h_r18_q46192
          have l_m1 := il_m1
          refine wq_eq (fun hc_46193 => ?_) (fun hc_46194 => ?_)
          · exact wq_s ⟨h_r16_q46185_3, trivial⟩
          · refine wq_eq (fun hc_46195 => ?_) (fun hc_46196 => ?_)
            · refine wq_b (tt_fX12_at hN r16_q46185.2.1 r16_q46185.2.2.1 r16_q46185.2.2.2 v17_q46189 (0 : Int32) ⟨by omega, by omega⟩ ⟨by omega, by omega⟩ h_r16_q46185_3) (fun r19_q46197 h_r19_q46197 => ?_)
              obtain ⟨h_r19_q46197_0, h_r19_q46197_1, h_r19_q46197_2, -⟩ := h_r19_q46197
              refine wq_eq (fun hc_46198 => ?_) (fun hc_46199 => ?_)
              · exact wq_s ⟨h_r16_q46185_3, trivial⟩
              · unfold fX12_possible_J71
                refine wq_b (tt_fX12_housesTold hN r16_q46185.2.1 r16_q46185.2.2.1 r16_q46185.2.2.2 v17_q46189 ⟨by omega, by omega⟩ h_r16_q46185_3) (fun r1_q46200 h_r1_q46200 => ?_)
                obtain ⟨-⟩ := h_r1_q46200
                have b_46201 := i32b r1_q46200
                exact tt_fX12_possible_L88 hN x1 x2 x3 r1_q46200 v17_q46189 ⟨by omega, by omega⟩ ⟨by omega, by omega⟩ ⟨by omega, by omega⟩ N r16_q46185.2.1 r16_q46185.2.2.1 r16_q46185.2.2.2 (0 : Int32) (0 : Int32) ⟨by omega, by omega⟩ ⟨by omega, by omega⟩ h_r16_q46185_3 (by omega)
            · unfold fX12_possible_J71
              refine wq_b (tt_fX12_housesTold hN r16_q46185.2.1 r16_q46185.2.2.1 r16_q46185.2.2.2 v17_q46189 ⟨by omega, by omega⟩ h_r16_q46185_3) (fun r1_q46202 h_r1_q46202 => ?_)
              obtain ⟨-⟩ := h_r1_q46202
              have b_46203 := i32b r1_q46202
              exact tt_fX12_possible_L88 hN x1 x2 x3 r1_q46202 v17_q46189 ⟨by omega, by omega⟩ ⟨by omega, by omega⟩ ⟨by omega, by omega⟩ N r16_q46185.2.1 r16_q46185.2.2.1 r16_q46185.2.2.2 (0 : Int32) (0 : Int32) ⟨by omega, by omega⟩ ⟨by omega, by omega⟩ h_r16_q46185_3 (by omega)
set_option maxHeartbeats 4000000 in
theorem tt_fX12_lot {N : Nat} (hN : 3000000000 ≤ N) (I0 : Nat → Int32) (L0 : Int64) (M0 : Nat → Nat → Int32) (x1 : Int32) (x2 : Int32) (x3 : Int32) (k_I0 : KX12 I0 M0) : wq (fX12_lot N I0 L0 M0 x1 x2 x3) (fun r => (-1 ≤ r.1.toInt ∧ r.1.toInt ≤ 359) ∧ KX12 r.2.1 r.2.2.2 ∧ True) := by
  unfold fX12_lot
  have b_47170 := i32b x1
  have b_47171 := i32b x2
  refine wq_b (tt_fX12_isWheel hN I0 L0 M0 x1 x2 k_I0) (fun r10_q47172 h_r10_q47172 => ?_)
  obtain ⟨h_r10_q47172_0, h_r10_q47172_1, h_r10_q47172_2, h_r10_q47172_3, -⟩ := h_r10_q47172
  have t_47173 := KX12.i1 h_r10_q47172_3
  have t_47174 := KX12.i1 k_I0
  have l_0 := il_0
  refine wq_eq (fun hc_47175 => ?_) (fun hc_47176 => ?_)
  · exact wq_s ⟨(show -1 ≤ (0 : Int32).toInt ∧ (0 : Int32).toInt ≤ 359 from ⟨by omega, by omega⟩), h_r10_q47172_3, trivial⟩
  · have b_47177 := i32b x3
    refine wq_eq (fun hc_47178 => ?_) (fun hc_47179 => ?_)
    · unfold fX12_lot_J19
      unfold fX12_lot_J24
      have l_1 := il_1
      refine wq_b (tt_fX12_right hN r10_q47172.2.1 r10_q47172.2.2.1 r10_q47172.2.2.2 (1 : Int32) (1 : Int32) ⟨by omega, by omega⟩ h_r10_q47172_3) (fun r4_q47180 h_r4_q47180 => ?_)
      obtain ⟨h_r4_q47180_0, h_r4_q47180_1, h_r4_q47180_2, h_r4_q47180_3, -⟩ := h_r4_q47180
      have t_47181 := KX12.i1 h_r4_q47180_3
      refine wq_eq (fun hc_47182 => ?_) (fun hc_47183 => ?_)
      · exact wq_s ⟨(show -1 ≤ (0 : Int32).toInt ∧ (0 : Int32).toInt ≤ 359 from ⟨by omega, by omega⟩), h_r4_q47180_3, trivial⟩
      · have l_20 := il_20
        have t_47185 := ia_mul (20 : Int32) (20) il_20 x1 (by omega) (by omega)
        have t_47186 := ia_add ((20 : Int32) * x1) x2 (by omega) (by omega)
        refine wq_v (fun v5_q47184 h_v5_q47184 => ?_)
        have t_v5_q47184 := congrArg Int32.toInt h_v5_q47184
        refine wq_b (tt_fX12_at hN r4_q47180.2.1 r4_q47180.2.2.1 r4_q47180.2.2.2 v5_q47184 (0 : Int32) ⟨by omega, by omega⟩ ⟨by omega, by omega⟩ h_r4_q47180_3) (fun r6_q47187 h_r6_q47187 => ?_)
        obtain ⟨h_r6_q47187_0, h_r6_q47187_1, h_r6_q47187_2, -⟩ := h_r6_q47187
        refine wq_b (tt_fX12_at hN r4_q47180.2.1 r4_q47180.2.2.1 r4_q47180.2.2.2 v5_q47184 (1 : Int32) ⟨by omega, by omega⟩ ⟨by omega, by omega⟩ h_r4_q47180_3) (fun r7_q47188 h_r7_q47188 => ?_)
        obtain ⟨h_r7_q47188_0, h_r7_q47188_1, h_r7_q47188_2, -⟩ := h_r7_q47188
        have l_7 := il_7
        refine wq_b (tt_fX12_at hN r4_q47180.2.1 r4_q47180.2.2.1 r4_q47180.2.2.2 v5_q47184 (7 : Int32) ⟨by omega, by omega⟩ ⟨by omega, by omega⟩ h_r4_q47180_3) (fun r8_q47189 h_r8_q47189 => ?_)
        obtain ⟨h_r8_q47189_0, h_r8_q47189_1, h_r8_q47189_2, -⟩ := h_r8_q47189
        have l_m1 := il_m1
        refine wq_eq (fun hc_47190 => ?_) (fun hc_47191 => ?_)
        · exact wq_s ⟨(show -1 ≤ (-1 : Int32).toInt ∧ (-1 : Int32).toInt ≤ 359 from ⟨by omega, by omega⟩), h_r4_q47180_3, trivial⟩
        · refine wq_eq (fun hc_47192 => ?_) (fun hc_47193 => ?_)
          · exact wq_s ⟨(show -1 ≤ (-1 : Int32).toInt ∧ (-1 : Int32).toInt ≤ 359 from ⟨by omega, by omega⟩), h_r4_q47180_3, trivial⟩
          · refine wq_eq (fun hc_47194 => ?_) (fun hc_47195 => ?_)
            · exact wq_s ⟨(show -1 ≤ (-1 : Int32).toInt ∧ (-1 : Int32).toInt ≤ 359 from ⟨by omega, by omega⟩), h_r4_q47180_3, trivial⟩
            · refine wq_eq (fun hc_47196 => ?_) (fun hc_47197 => ?_)
              · exfalso; omega
              · unfold fX12_lot_J106
                have t_47199 := ia_sub r7_q47188 r6_q47187 (by omega) (by omega)
                have l_360 := il_360
                have t_47200 := ia_add (r7_q47188 - r6_q47187) (360 : Int32) (by omega) (by omega)
                have t_47201 := ia_rem ((r7_q47188 - r6_q47187) + (360 : Int32)) (360 : Int32) 360 il_360 (by decide) (by omega)
                refine wq_v (fun v3_q47198 h_v3_q47198 => ?_)
                have t_v3_q47198 := congrArg Int32.toInt h_v3_q47198
                have l_180 := il_180
                have t_47202 := ia_sub r8_q47189 r6_q47187 (by omega) (by omega)
                have t_47203 := ia_add (r8_q47189 - r6_q47187) (360 : Int32) (by omega) (by omega)
                have t_47204 := ia_rem ((r8_q47189 - r6_q47187) + (360 : Int32)) (360 : Int32) 360 il_360 (by decide) (by omega)
                refine wq_le (fun hc_47205 => ?_) (fun hc_47206 => ?_)
                · unfold fX12_lot_J165
                  refine wq_eq (fun hc_47207 => ?_) (fun hc_47208 => ?_)
                  · have t_47209 := ia_sub r8_q47189 v3_q47198 (by omega) (by omega)
                    have t_47210 := ia_add (r8_q47189 - v3_q47198) (360 : Int32) (by omega) (by omega)
                    have t_47211 := ia_rem ((r8_q47189 - v3_q47198) + (360 : Int32)) (360 : Int32) 360 il_360 (by decide) (by omega)
                    exact wq_s ⟨(show -1 ≤ (((r8_q47189 - v3_q47198) + (360 : Int32)) - ((((r8_q47189 - v3_q47198) + (360 : Int32)) / (360 : Int32)) * (360 : Int32))).toInt ∧ (((r8_q47189 - v3_q47198) + (360 : Int32)) - ((((r8_q47189 - v3_q47198) + (360 : Int32)) / (360 : Int32)) * (360 : Int32))).toInt ≤ 359 from ⟨by omega, by omega⟩), h_r4_q47180_3, trivial⟩
                  · exfalso; omega
                · unfold fX12_lot_J165
                  refine wq_eq (fun hc_47212 => ?_) (fun hc_47213 => ?_)
                  · have t_47214 := ia_add r8_q47189 v3_q47198 (by omega) (by omega)
                    have t_47215 := ia_rem (r8_q47189 + v3_q47198) (360 : Int32) 360 il_360 (by decide) (by omega)
                    exact wq_s ⟨(show -1 ≤ ((r8_q47189 + v3_q47198) - (((r8_q47189 + v3_q47198) / (360 : Int32)) * (360 : Int32))).toInt ∧ ((r8_q47189 + v3_q47198) - (((r8_q47189 + v3_q47198) / (360 : Int32)) * (360 : Int32))).toInt ≤ 359 from ⟨by omega, by omega⟩), h_r4_q47180_3, trivial⟩
                  · exfalso; omega
    · have l_1 := il_1
      refine wq_eq (fun hc_47216 => ?_) (fun hc_47217 => ?_)
      · unfold fX12_lot_J19
        unfold fX12_lot_J24
        refine wq_b (tt_fX12_right hN r10_q47172.2.1 r10_q47172.2.2.1 r10_q47172.2.2.2 (1 : Int32) (1 : Int32) ⟨by omega, by omega⟩ h_r10_q47172_3) (fun r4_q47218 h_r4_q47218 => ?_)
        obtain ⟨h_r4_q47218_0, h_r4_q47218_1, h_r4_q47218_2, h_r4_q47218_3, -⟩ := h_r4_q47218
        have t_47219 := KX12.i1 h_r4_q47218_3
        refine wq_eq (fun hc_47220 => ?_) (fun hc_47221 => ?_)
        · exact wq_s ⟨(show -1 ≤ (0 : Int32).toInt ∧ (0 : Int32).toInt ≤ 359 from ⟨by omega, by omega⟩), h_r4_q47218_3, trivial⟩
        · have l_20 := il_20
          have t_47223 := ia_mul (20 : Int32) (20) il_20 x1 (by omega) (by omega)
          have t_47224 := ia_add ((20 : Int32) * x1) x2 (by omega) (by omega)
          refine wq_v (fun v5_q47222 h_v5_q47222 => ?_)
          have t_v5_q47222 := congrArg Int32.toInt h_v5_q47222
          refine wq_b (tt_fX12_at hN r4_q47218.2.1 r4_q47218.2.2.1 r4_q47218.2.2.2 v5_q47222 (0 : Int32) ⟨by omega, by omega⟩ ⟨by omega, by omega⟩ h_r4_q47218_3) (fun r6_q47225 h_r6_q47225 => ?_)
          obtain ⟨h_r6_q47225_0, h_r6_q47225_1, h_r6_q47225_2, -⟩ := h_r6_q47225
          refine wq_b (tt_fX12_at hN r4_q47218.2.1 r4_q47218.2.2.1 r4_q47218.2.2.2 v5_q47222 (1 : Int32) ⟨by omega, by omega⟩ ⟨by omega, by omega⟩ h_r4_q47218_3) (fun r7_q47226 h_r7_q47226 => ?_)
          obtain ⟨h_r7_q47226_0, h_r7_q47226_1, h_r7_q47226_2, -⟩ := h_r7_q47226
          have l_7 := il_7
          refine wq_b (tt_fX12_at hN r4_q47218.2.1 r4_q47218.2.2.1 r4_q47218.2.2.2 v5_q47222 (7 : Int32) ⟨by omega, by omega⟩ ⟨by omega, by omega⟩ h_r4_q47218_3) (fun r8_q47227 h_r8_q47227 => ?_)
          obtain ⟨h_r8_q47227_0, h_r8_q47227_1, h_r8_q47227_2, -⟩ := h_r8_q47227
          have l_m1 := il_m1
          refine wq_eq (fun hc_47228 => ?_) (fun hc_47229 => ?_)
          · exact wq_s ⟨(show -1 ≤ (-1 : Int32).toInt ∧ (-1 : Int32).toInt ≤ 359 from ⟨by omega, by omega⟩), h_r4_q47218_3, trivial⟩
          · refine wq_eq (fun hc_47230 => ?_) (fun hc_47231 => ?_)
            · exact wq_s ⟨(show -1 ≤ (-1 : Int32).toInt ∧ (-1 : Int32).toInt ≤ 359 from ⟨by omega, by omega⟩), h_r4_q47218_3, trivial⟩
            · refine wq_eq (fun hc_47232 => ?_) (fun hc_47233 => ?_)
              · exact wq_s ⟨(show -1 ≤ (-1 : Int32).toInt ∧ (-1 : Int32).toInt ≤ 359 from ⟨by omega, by omega⟩), h_r4_q47218_3, trivial⟩
              · refine wq_eq (fun hc_47234 => ?_) (fun hc_47235 => ?_)
                · have l_8 := il_8
                  refine wq_b (tt_fX12_at hN r4_q47218.2.1 r4_q47218.2.2.1 r4_q47218.2.2.2 v5_q47222 (8 : Int32) ⟨by omega, by omega⟩ ⟨by omega, by omega⟩ h_r4_q47218_3) (fun r9b_q47236 h_r9b_q47236 => ?_)
                  obtain ⟨h_r9b_q47236_0, h_r9b_q47236_1, h_r9b_q47236_2, -⟩ := h_r9b_q47236
                  refine wq_eq (fun hc_47237 => ?_) (fun hc_47238 => ?_)
                  · exact wq_s ⟨(show -1 ≤ (-1 : Int32).toInt ∧ (-1 : Int32).toInt ≤ 359 from ⟨by omega, by omega⟩), h_r4_q47218_3, trivial⟩
                  · unfold fX12_lot_J106
                    have t_47240 := ia_sub r7_q47226 r6_q47225 (by omega) (by omega)
                    have l_360 := il_360
                    have t_47241 := ia_add (r7_q47226 - r6_q47225) (360 : Int32) (by omega) (by omega)
                    have t_47242 := ia_rem ((r7_q47226 - r6_q47225) + (360 : Int32)) (360 : Int32) 360 il_360 (by decide) (by omega)
                    refine wq_v (fun v3_q47239 h_v3_q47239 => ?_)
                    have t_v3_q47239 := congrArg Int32.toInt h_v3_q47239
                    have l_180 := il_180
                    have t_47243 := ia_sub r8_q47227 r6_q47225 (by omega) (by omega)
                    have t_47244 := ia_add (r8_q47227 - r6_q47225) (360 : Int32) (by omega) (by omega)
                    have t_47245 := ia_rem ((r8_q47227 - r6_q47225) + (360 : Int32)) (360 : Int32) 360 il_360 (by decide) (by omega)
                    refine wq_le (fun hc_47246 => ?_) (fun hc_47247 => ?_)
                    · unfold fX12_lot_J165
                      refine wq_eq (fun hc_47248 => ?_) (fun hc_47249 => ?_)
                      · exfalso; omega
                      · refine wq_b (tt_fX12_at hN r4_q47218.2.1 r4_q47218.2.2.1 r4_q47218.2.2.2 v5_q47222 (8 : Int32) ⟨by omega, by omega⟩ ⟨by omega, by omega⟩ h_r4_q47218_3) (fun r1_q47250 h_r1_q47250 => ?_)
                        obtain ⟨h_r1_q47250_0, h_r1_q47250_1, h_r1_q47250_2, -⟩ := h_r1_q47250
                        have t_47251 := ia_sub r8_q47227 v3_q47239 (by omega) (by omega)
                        have t_47252 := ia_add (r8_q47227 - v3_q47239) (360 : Int32) (by omega) (by omega)
                        have t_47253 := ia_rem ((r8_q47227 - v3_q47239) + (360 : Int32)) (360 : Int32) 360 il_360 (by decide) (by omega)
                        refine wq_b (tt_fX12_costOf hN r4_q47218.2.1 r4_q47218.2.2.1 r4_q47218.2.2.2 r1_q47250 (((r8_q47227 - v3_q47239) + (360 : Int32)) - ((((r8_q47227 - v3_q47239) + (360 : Int32)) / (360 : Int32)) * (360 : Int32))) ⟨by omega, by omega⟩ h_r4_q47218_3) (fun r2_q47254 h_r2_q47254 => ?_)
                        obtain ⟨h_r2_q47254_0, -⟩ := h_r2_q47254
                        exact wq_s ⟨(show -1 ≤ r2_q47254.toInt ∧ r2_q47254.toInt ≤ 359 from ⟨by omega, by omega⟩), h_r4_q47218_3, trivial⟩
                    · unfold fX12_lot_J165
                      refine wq_eq (fun hc_47255 => ?_) (fun hc_47256 => ?_)
                      · exfalso; omega
                      · refine wq_b (tt_fX12_at hN r4_q47218.2.1 r4_q47218.2.2.1 r4_q47218.2.2.2 v5_q47222 (8 : Int32) ⟨by omega, by omega⟩ ⟨by omega, by omega⟩ h_r4_q47218_3) (fun r1_q47257 h_r1_q47257 => ?_)
                        obtain ⟨h_r1_q47257_0, h_r1_q47257_1, h_r1_q47257_2, -⟩ := h_r1_q47257
                        have t_47258 := ia_add r8_q47227 v3_q47239 (by omega) (by omega)
                        have t_47259 := ia_rem (r8_q47227 + v3_q47239) (360 : Int32) 360 il_360 (by decide) (by omega)
                        refine wq_b (tt_fX12_costOf hN r4_q47218.2.1 r4_q47218.2.2.1 r4_q47218.2.2.2 r1_q47257 ((r8_q47227 + v3_q47239) - (((r8_q47227 + v3_q47239) / (360 : Int32)) * (360 : Int32))) ⟨by omega, by omega⟩ h_r4_q47218_3) (fun r2_q47260 h_r2_q47260 => ?_)
                        obtain ⟨h_r2_q47260_0, -⟩ := h_r2_q47260
                        exact wq_s ⟨(show -1 ≤ r2_q47260.toInt ∧ r2_q47260.toInt ≤ 359 from ⟨by omega, by omega⟩), h_r4_q47218_3, trivial⟩
                · exfalso; omega
      · unfold fX12_lot_J24
        refine wq_b (tt_fX12_right hN r10_q47172.2.1 r10_q47172.2.2.1 r10_q47172.2.2.2 (0 : Int32) (1 : Int32) ⟨by omega, by omega⟩ h_r10_q47172_3) (fun r4_q47261 h_r4_q47261 => ?_)
        obtain ⟨h_r4_q47261_0, h_r4_q47261_1, h_r4_q47261_2, h_r4_q47261_3, -⟩ := h_r4_q47261
        have t_47262 := KX12.i1 h_r4_q47261_3
        refine wq_eq (fun hc_47263 => ?_) (fun hc_47264 => ?_)
        · exact wq_s ⟨(show -1 ≤ (0 : Int32).toInt ∧ (0 : Int32).toInt ≤ 359 from ⟨by omega, by omega⟩), h_r4_q47261_3, trivial⟩
        · have l_20 := il_20
          have t_47266 := ia_mul (20 : Int32) (20) il_20 x1 (by omega) (by omega)
          have t_47267 := ia_add ((20 : Int32) * x1) x2 (by omega) (by omega)
          refine wq_v (fun v5_q47265 h_v5_q47265 => ?_)
          have t_v5_q47265 := congrArg Int32.toInt h_v5_q47265
          refine wq_b (tt_fX12_at hN r4_q47261.2.1 r4_q47261.2.2.1 r4_q47261.2.2.2 v5_q47265 (0 : Int32) ⟨by omega, by omega⟩ ⟨by omega, by omega⟩ h_r4_q47261_3) (fun r6_q47268 h_r6_q47268 => ?_)
          obtain ⟨h_r6_q47268_0, h_r6_q47268_1, h_r6_q47268_2, -⟩ := h_r6_q47268
          refine wq_b (tt_fX12_at hN r4_q47261.2.1 r4_q47261.2.2.1 r4_q47261.2.2.2 v5_q47265 (1 : Int32) ⟨by omega, by omega⟩ ⟨by omega, by omega⟩ h_r4_q47261_3) (fun r7_q47269 h_r7_q47269 => ?_)
          obtain ⟨h_r7_q47269_0, h_r7_q47269_1, h_r7_q47269_2, -⟩ := h_r7_q47269
          have l_7 := il_7
          refine wq_b (tt_fX12_at hN r4_q47261.2.1 r4_q47261.2.2.1 r4_q47261.2.2.2 v5_q47265 (7 : Int32) ⟨by omega, by omega⟩ ⟨by omega, by omega⟩ h_r4_q47261_3) (fun r8_q47270 h_r8_q47270 => ?_)
          obtain ⟨h_r8_q47270_0, h_r8_q47270_1, h_r8_q47270_2, -⟩ := h_r8_q47270
          have l_m1 := il_m1
          refine wq_eq (fun hc_47271 => ?_) (fun hc_47272 => ?_)
          · exact wq_s ⟨(show -1 ≤ (-1 : Int32).toInt ∧ (-1 : Int32).toInt ≤ 359 from ⟨by omega, by omega⟩), h_r4_q47261_3, trivial⟩
          · refine wq_eq (fun hc_47273 => ?_) (fun hc_47274 => ?_)
            · exact wq_s ⟨(show -1 ≤ (-1 : Int32).toInt ∧ (-1 : Int32).toInt ≤ 359 from ⟨by omega, by omega⟩), h_r4_q47261_3, trivial⟩
            · refine wq_eq (fun hc_47275 => ?_) (fun hc_47276 => ?_)
              · exact wq_s ⟨(show -1 ≤ (-1 : Int32).toInt ∧ (-1 : Int32).toInt ≤ 359 from ⟨by omega, by omega⟩), h_r4_q47261_3, trivial⟩
              · refine wq_eq (fun hc_47277 => ?_) (fun hc_47278 => ?_)
                · have l_8 := il_8
                  refine wq_b (tt_fX12_at hN r4_q47261.2.1 r4_q47261.2.2.1 r4_q47261.2.2.2 v5_q47265 (8 : Int32) ⟨by omega, by omega⟩ ⟨by omega, by omega⟩ h_r4_q47261_3) (fun r9b_q47279 h_r9b_q47279 => ?_)
                  obtain ⟨h_r9b_q47279_0, h_r9b_q47279_1, h_r9b_q47279_2, -⟩ := h_r9b_q47279
                  refine wq_eq (fun hc_47280 => ?_) (fun hc_47281 => ?_)
                  · exact wq_s ⟨(show -1 ≤ (-1 : Int32).toInt ∧ (-1 : Int32).toInt ≤ 359 from ⟨by omega, by omega⟩), h_r4_q47261_3, trivial⟩
                  · unfold fX12_lot_J106
                    have t_47283 := ia_sub r7_q47269 r6_q47268 (by omega) (by omega)
                    have l_360 := il_360
                    have t_47284 := ia_add (r7_q47269 - r6_q47268) (360 : Int32) (by omega) (by omega)
                    have t_47285 := ia_rem ((r7_q47269 - r6_q47268) + (360 : Int32)) (360 : Int32) 360 il_360 (by decide) (by omega)
                    refine wq_v (fun v3_q47282 h_v3_q47282 => ?_)
                    have t_v3_q47282 := congrArg Int32.toInt h_v3_q47282
                    have l_180 := il_180
                    have t_47286 := ia_sub r8_q47270 r6_q47268 (by omega) (by omega)
                    have t_47287 := ia_add (r8_q47270 - r6_q47268) (360 : Int32) (by omega) (by omega)
                    have t_47288 := ia_rem ((r8_q47270 - r6_q47268) + (360 : Int32)) (360 : Int32) 360 il_360 (by decide) (by omega)
                    refine wq_le (fun hc_47289 => ?_) (fun hc_47290 => ?_)
                    · unfold fX12_lot_J165
                      refine wq_eq (fun hc_47291 => ?_) (fun hc_47292 => ?_)
                      · exfalso; omega
                      · refine wq_b (tt_fX12_at hN r4_q47261.2.1 r4_q47261.2.2.1 r4_q47261.2.2.2 v5_q47265 (8 : Int32) ⟨by omega, by omega⟩ ⟨by omega, by omega⟩ h_r4_q47261_3) (fun r1_q47293 h_r1_q47293 => ?_)
                        obtain ⟨h_r1_q47293_0, h_r1_q47293_1, h_r1_q47293_2, -⟩ := h_r1_q47293
                        have t_47294 := ia_sub r8_q47270 v3_q47282 (by omega) (by omega)
                        have t_47295 := ia_add (r8_q47270 - v3_q47282) (360 : Int32) (by omega) (by omega)
                        have t_47296 := ia_rem ((r8_q47270 - v3_q47282) + (360 : Int32)) (360 : Int32) 360 il_360 (by decide) (by omega)
                        refine wq_b (tt_fX12_costOf hN r4_q47261.2.1 r4_q47261.2.2.1 r4_q47261.2.2.2 r1_q47293 (((r8_q47270 - v3_q47282) + (360 : Int32)) - ((((r8_q47270 - v3_q47282) + (360 : Int32)) / (360 : Int32)) * (360 : Int32))) ⟨by omega, by omega⟩ h_r4_q47261_3) (fun r2_q47297 h_r2_q47297 => ?_)
                        obtain ⟨h_r2_q47297_0, -⟩ := h_r2_q47297
                        exact wq_s ⟨(show -1 ≤ r2_q47297.toInt ∧ r2_q47297.toInt ≤ 359 from ⟨by omega, by omega⟩), h_r4_q47261_3, trivial⟩
                    · unfold fX12_lot_J165
                      refine wq_eq (fun hc_47298 => ?_) (fun hc_47299 => ?_)
                      · exfalso; omega
                      · refine wq_b (tt_fX12_at hN r4_q47261.2.1 r4_q47261.2.2.1 r4_q47261.2.2.2 v5_q47265 (8 : Int32) ⟨by omega, by omega⟩ ⟨by omega, by omega⟩ h_r4_q47261_3) (fun r1_q47300 h_r1_q47300 => ?_)
                        obtain ⟨h_r1_q47300_0, h_r1_q47300_1, h_r1_q47300_2, -⟩ := h_r1_q47300
                        have t_47301 := ia_add r8_q47270 v3_q47282 (by omega) (by omega)
                        have t_47302 := ia_rem (r8_q47270 + v3_q47282) (360 : Int32) 360 il_360 (by decide) (by omega)
                        refine wq_b (tt_fX12_costOf hN r4_q47261.2.1 r4_q47261.2.2.1 r4_q47261.2.2.2 r1_q47300 ((r8_q47270 + v3_q47282) - (((r8_q47270 + v3_q47282) / (360 : Int32)) * (360 : Int32))) ⟨by omega, by omega⟩ h_r4_q47261_3) (fun r2_q47303 h_r2_q47303 => ?_)
                        obtain ⟨h_r2_q47303_0, -⟩ := h_r2_q47303
                        exact wq_s ⟨(show -1 ≤ r2_q47303.toInt ∧ r2_q47303.toInt ≤ 359 from ⟨by omega, by omega⟩), h_r4_q47261_3, trivial⟩
                · unfold fX12_lot_J106
                  have t_47305 := ia_sub r7_q47269 r6_q47268 (by omega) (by omega)
                  have l_360 := il_360
                  have t_47306 := ia_add (r7_q47269 - r6_q47268) (360 : Int32) (by omega) (by omega)
                  have t_47307 := ia_rem ((r7_q47269 - r6_q47268) + (360 : Int32)) (360 : Int32) 360 il_360 (by decide) (by omega)
                  refine wq_v (fun v3_q47304 h_v3_q47304 => ?_)
                  have t_v3_q47304 := congrArg Int32.toInt h_v3_q47304
                  have l_180 := il_180
                  have t_47308 := ia_sub r8_q47270 r6_q47268 (by omega) (by omega)
                  have t_47309 := ia_add (r8_q47270 - r6_q47268) (360 : Int32) (by omega) (by omega)
                  have t_47310 := ia_rem ((r8_q47270 - r6_q47268) + (360 : Int32)) (360 : Int32) 360 il_360 (by decide) (by omega)
                  refine wq_le (fun hc_47311 => ?_) (fun hc_47312 => ?_)
                  · unfold fX12_lot_J165
                    refine wq_eq (fun hc_47313 => ?_) (fun hc_47314 => ?_)
                    · have t_47315 := ia_sub r8_q47270 v3_q47304 (by omega) (by omega)
                      have t_47316 := ia_add (r8_q47270 - v3_q47304) (360 : Int32) (by omega) (by omega)
                      have t_47317 := ia_rem ((r8_q47270 - v3_q47304) + (360 : Int32)) (360 : Int32) 360 il_360 (by decide) (by omega)
                      exact wq_s ⟨(show -1 ≤ (((r8_q47270 - v3_q47304) + (360 : Int32)) - ((((r8_q47270 - v3_q47304) + (360 : Int32)) / (360 : Int32)) * (360 : Int32))).toInt ∧ (((r8_q47270 - v3_q47304) + (360 : Int32)) - ((((r8_q47270 - v3_q47304) + (360 : Int32)) / (360 : Int32)) * (360 : Int32))).toInt ≤ 359 from ⟨by omega, by omega⟩), h_r4_q47261_3, trivial⟩
                    · have l_8 := il_8
                      refine wq_b (tt_fX12_at hN r4_q47261.2.1 r4_q47261.2.2.1 r4_q47261.2.2.2 v5_q47265 (8 : Int32) ⟨by omega, by omega⟩ ⟨by omega, by omega⟩ h_r4_q47261_3) (fun r1_q47318 h_r1_q47318 => ?_)
                      obtain ⟨h_r1_q47318_0, h_r1_q47318_1, h_r1_q47318_2, -⟩ := h_r1_q47318
                      have t_47319 := ia_sub r8_q47270 v3_q47304 (by omega) (by omega)
                      have t_47320 := ia_add (r8_q47270 - v3_q47304) (360 : Int32) (by omega) (by omega)
                      have t_47321 := ia_rem ((r8_q47270 - v3_q47304) + (360 : Int32)) (360 : Int32) 360 il_360 (by decide) (by omega)
                      refine wq_b (tt_fX12_costOf hN r4_q47261.2.1 r4_q47261.2.2.1 r4_q47261.2.2.2 r1_q47318 (((r8_q47270 - v3_q47304) + (360 : Int32)) - ((((r8_q47270 - v3_q47304) + (360 : Int32)) / (360 : Int32)) * (360 : Int32))) ⟨by omega, by omega⟩ h_r4_q47261_3) (fun r2_q47322 h_r2_q47322 => ?_)
                      obtain ⟨h_r2_q47322_0, -⟩ := h_r2_q47322
                      exact wq_s ⟨(show -1 ≤ r2_q47322.toInt ∧ r2_q47322.toInt ≤ 359 from ⟨by omega, by omega⟩), h_r4_q47261_3, trivial⟩
                  · unfold fX12_lot_J165
                    refine wq_eq (fun hc_47323 => ?_) (fun hc_47324 => ?_)
                    · have t_47325 := ia_add r8_q47270 v3_q47304 (by omega) (by omega)
                      have t_47326 := ia_rem (r8_q47270 + v3_q47304) (360 : Int32) 360 il_360 (by decide) (by omega)
                      exact wq_s ⟨(show -1 ≤ ((r8_q47270 + v3_q47304) - (((r8_q47270 + v3_q47304) / (360 : Int32)) * (360 : Int32))).toInt ∧ ((r8_q47270 + v3_q47304) - (((r8_q47270 + v3_q47304) / (360 : Int32)) * (360 : Int32))).toInt ≤ 359 from ⟨by omega, by omega⟩), h_r4_q47261_3, trivial⟩
                    · have l_8 := il_8
                      refine wq_b (tt_fX12_at hN r4_q47261.2.1 r4_q47261.2.2.1 r4_q47261.2.2.2 v5_q47265 (8 : Int32) ⟨by omega, by omega⟩ ⟨by omega, by omega⟩ h_r4_q47261_3) (fun r1_q47327 h_r1_q47327 => ?_)
                      obtain ⟨h_r1_q47327_0, h_r1_q47327_1, h_r1_q47327_2, -⟩ := h_r1_q47327
                      have t_47328 := ia_add r8_q47270 v3_q47304 (by omega) (by omega)
                      have t_47329 := ia_rem (r8_q47270 + v3_q47304) (360 : Int32) 360 il_360 (by decide) (by omega)
                      refine wq_b (tt_fX12_costOf hN r4_q47261.2.1 r4_q47261.2.2.1 r4_q47261.2.2.2 r1_q47327 ((r8_q47270 + v3_q47304) - (((r8_q47270 + v3_q47304) / (360 : Int32)) * (360 : Int32))) ⟨by omega, by omega⟩ h_r4_q47261_3) (fun r2_q47330 h_r2_q47330 => ?_)
                      obtain ⟨h_r2_q47330_0, -⟩ := h_r2_q47330
                      exact wq_s ⟨(show -1 ≤ r2_q47330.toInt ∧ r2_q47330.toInt ≤ 359 from ⟨by omega, by omega⟩), h_r4_q47261_3, trivial⟩
set_option maxHeartbeats 4000000 in
theorem tt_fX12_priceOf {N : Nat} (hN : 3000000000 ≤ N) (I0 : Nat → Int32) (L0 : Int64) (M0 : Nat → Nat → Int32) (x1 : Int32) (x2 : Int32) (x3 : Int32) (h_x1 : -1 ≤ x1.toInt ∧ x1.toInt ≤ 389) (h_x2 : -1 ≤ x2.toInt ∧ x2.toInt ≤ 389) (k_I0 : KX12 I0 M0) : wq (fX12_priceOf N I0 L0 M0 x1 x2 x3) (fun r => (0 ≤ r.toInt ∧ r.toInt ≤ 4) ∧ True) := by
  unfold fX12_priceOf
  refine wq_eq (fun hc_47403 => ?_) (fun hc_47404 => ?_)
  · have l_0 := il_0
    exact wq_s ⟨(show 0 ≤ (0 : Int32).toInt ∧ (0 : Int32).toInt ≤ 4 from ⟨by omega, by omega⟩), trivial⟩
  · have l_m1 := il_m1
    refine wq_eq (fun hc_47405 => ?_) (fun hc_47406 => ?_)
    · have l_1 := il_1
      exact wq_s ⟨(show 0 ≤ (1 : Int32).toInt ∧ (1 : Int32).toInt ≤ 4 from ⟨by omega, by omega⟩), trivial⟩
    · refine wq_eq (fun hc_47407 => ?_) (fun hc_47408 => ?_)
      · have l_4 := il_4
        exact wq_s ⟨(show 0 ≤ (4 : Int32).toInt ∧ (4 : Int32).toInt ≤ 4 from ⟨by omega, by omega⟩), trivial⟩
      · have b_47409 := i32b x3
        have l_21 := il_21
        refine wq_eq (fun hc_47410 => ?_) (fun hc_47411 => ?_)
        · have l_3 := il_3
          exact wq_s ⟨(show 0 ≤ (3 : Int32).toInt ∧ (3 : Int32).toInt ≤ 4 from ⟨by omega, by omega⟩), trivial⟩
        · refine wq_b (tt_fX12_costOf hN I0 L0 M0 x2 x1 ⟨by omega, by omega⟩ k_I0) (fun r1_q47412 h_r1_q47412 => ?_)
          obtain ⟨h_r1_q47412_0, -⟩ := h_r1_q47412
          have l_1 := il_1
          refine wq_eq (fun hc_47413 => ?_) (fun hc_47414 => ?_)
          · exact wq_s ⟨(show 0 ≤ (1 : Int32).toInt ∧ (1 : Int32).toInt ≤ 4 from ⟨by omega, by omega⟩), trivial⟩
          · have l_3 := il_3
            exact wq_s ⟨(show 0 ≤ (3 : Int32).toInt ∧ (3 : Int32).toInt ≤ 4 from ⟨by omega, by omega⟩), trivial⟩
set_option maxHeartbeats 4000000 in
theorem tt_fX12_priceAll_L15 {N : Nat} (hN : 3000000000 ≤ N) (I0 : Nat → Int32) (L0 : Int64) (M0 : Nat → Nat → Int32) (x1 : Int32) (x2 : Int32) (y5_4 : Int32) (g5 : Int32 → Int32 → Option (Int32)) (h_x1 : 0 ≤ x1.toInt ∧ x1.toInt ≤ 5) (h_x2 : 0 ≤ x2.toInt ∧ x2.toInt ≤ 5) (h_y5_4 : 0 ≤ y5_4.toInt ∧ y5_4.toInt ≤ 19) (k_I0 : KX12 I0 M0) (hg5 : ∀ (q0 : Int32) (q1 : Int32), (0 ≤ q1.toInt ∧ q1.toInt ≤ 20) → (y5_4.toInt < q1.toInt) → wq (g5 q0 q1) (fun r => True)) : ∀ (fu : Nat) (y15_3 : Int32) (y15_5 : Int32), (0 ≤ y15_5.toInt ∧ y15_5.toInt ≤ 22) → (22 - y15_5.toInt) < (fu : Int) → wq (fX12_priceAll_L15 N I0 L0 M0 x1 x2 y5_4 g5 fu y15_3 y15_5) (fun r => True) := by
  intro fu
  induction fu with
  | zero => intro y15_3 y15_5 h_y15_5 hm; exfalso; omega
  | succ fu ih =>
    intro y15_3 y15_5 h_y15_5 hm
    rw [fX12_priceAll_L15.eq_2]
    have l_22 := il_22
    refine wq_le (fun hc_47798 => ?_) (fun hc_47799 => ?_)
    · have l_1 := il_1
      have t_47801 := ia_add y5_4 (1 : Int32) (by omega) (by omega)
      refine wq_v (fun v1_q47800 h_v1_q47800 => ?_)
      have t_v1_q47800 := congrArg Int32.toInt h_v1_q47800
      have b_47802 := i32b y15_3
      exact hg5 y15_3 v1_q47800 ⟨by omega, by omega⟩ (by omega)
    · have l_20 := il_20
      have t_47803 := ia_mul (20 : Int32) (20) il_20 x1 (by omega) (by omega)
      have t_47804 := ia_add ((20 : Int32) * x1) y5_4 (by omega) (by omega)
      refine wq_b (tt_fX12_at hN I0 L0 M0 (((20 : Int32) * x1) + y5_4) y15_5 ⟨by omega, by omega⟩ ⟨by omega, by omega⟩ k_I0) (fun r2_q47805 h_r2_q47805 => ?_)
      obtain ⟨h_r2_q47805_0, h_r2_q47805_1, h_r2_q47805_2, -⟩ := h_r2_q47805
      have t_47806 := ia_mul (20 : Int32) (20) il_20 x2 (by omega) (by omega)
      have t_47807 := ia_add ((20 : Int32) * x2) y5_4 (by omega) (by omega)
      refine wq_b (tt_fX12_at hN I0 L0 M0 (((20 : Int32) * x2) + y5_4) y15_5 ⟨by omega, by omega⟩ ⟨by omega, by omega⟩ k_I0) (fun r3_q47808 h_r3_q47808 => ?_)
      obtain ⟨h_r3_q47808_0, h_r3_q47808_1, h_r3_q47808_2, -⟩ := h_r3_q47808
      refine wq_b (tt_fX12_priceOf hN I0 L0 M0 r2_q47805 r3_q47808 y15_5 ⟨by omega, by omega⟩ ⟨by omega, by omega⟩ k_I0) (fun r4_q47809 h_r4_q47809 => ?_)
      obtain ⟨h_r4_q47809_0, -⟩ := h_r4_q47809
      have b_47811 := i32b y15_3
      refine wq_v (fun v5_q47810 h_v5_q47810 => ?_)
      have t_v5_q47810 := congrArg Int32.toInt h_v5_q47810
      have l_1 := il_1
      have t_47813 := ia_add y15_5 (1 : Int32) (by omega) (by omega)
      refine wq_v (fun v6_q47812 h_v6_q47812 => ?_)
      have t_v6_q47812 := congrArg Int32.toInt h_v6_q47812
      have b_47814 := i32b v5_q47810
      exact ih v5_q47810 v6_q47812 ⟨by omega, by omega⟩ (by omega)
set_option maxHeartbeats 4000000 in
theorem tt_fX12_priceAll_L5 {N : Nat} (hN : 3000000000 ≤ N) (I0 : Nat → Int32) (L0 : Int64) (M0 : Nat → Nat → Int32) (x1 : Int32) (x2 : Int32) (h_x1 : 0 ≤ x1.toInt ∧ x1.toInt ≤ 5) (h_x2 : 0 ≤ x2.toInt ∧ x2.toInt ≤ 5) (k_I0 : KX12 I0 M0)  : ∀ (fu : Nat) (y5_3 : Int32) (y5_4 : Int32), (0 ≤ y5_4.toInt ∧ y5_4.toInt ≤ 20) → (20 - y5_4.toInt) < (fu : Int) → wq (fX12_priceAll_L5 N I0 L0 M0 x1 x2 fu y5_3 y5_4) (fun r => True) := by
  intro fu
  induction fu with
  | zero => intro y5_3 y5_4 h_y5_4 hm; exfalso; omega
  | succ fu ih =>
    intro y5_3 y5_4 h_y5_4 hm
    rw [fX12_priceAll_L5.eq_2]
    have l_20 := il_20
    refine wq_le (fun hc_47815 => ?_) (fun hc_47816 => ?_)
    · have b_47817 := i32b y5_3
      exact wq_s trivial
    · have b_47818 := i32b y5_3
      have l_0 := il_0
      exact tt_fX12_priceAll_L15 hN I0 L0 M0 x1 x2 y5_4 _ ⟨by omega, by omega⟩ ⟨by omega, by omega⟩ ⟨by omega, by omega⟩ k_I0 (fun q0 q1 hq0 hq1 => ih q0 q1 hq0 (by omega)) N y5_3 (0 : Int32) ⟨by omega, by omega⟩ (by omega)
set_option maxHeartbeats 4000000 in
theorem tt_fX12_priceAll {N : Nat} (hN : 3000000000 ≤ N) (I0 : Nat → Int32) (L0 : Int64) (M0 : Nat → Nat → Int32) (x1 : Int32) (x2 : Int32) (h_x1 : 0 ≤ x1.toInt ∧ x1.toInt ≤ 5) (h_x2 : 0 ≤ x2.toInt ∧ x2.toInt ≤ 5) (k_I0 : KX12 I0 M0) : wq (fX12_priceAll N I0 L0 M0 x1 x2) (fun r => True) := by
  unfold fX12_priceAll
  have l_0 := il_0
  exact tt_fX12_priceAll_L5 hN I0 L0 M0 x1 x2 ⟨by omega, by omega⟩ ⟨by omega, by omega⟩ k_I0 N (0 : Int32) (0 : Int32) ⟨by omega, by omega⟩ (by omega)
set_option maxHeartbeats 4000000 in
theorem tt_fX12_price {N : Nat} (hN : 3000000000 ≤ N) (I0 : Nat → Int32) (L0 : Int64) (M0 : Nat → Nat → Int32) (x1 : Int32) (x2 : Int32) (k_I0 : KX12 I0 M0) : wq (fX12_price N I0 L0 M0 x1 x2) (fun r => KX12 r.2.1 r.2.2.2 ∧ True) := by
  unfold fX12_price
  refine wq_v (fun I0_1_q47909 h_I0_1_q47909 => ?_)
  have k_I0_1_q47909 : KX12 I0_1_q47909 M0 := by rw [h_I0_1_q47909]; exact KX12.si0 k_I0
  have b_47910 := i32b x1
  refine wq_b (tt_fX12_isBook hN I0_1_q47909 L0 M0 x1 k_I0_1_q47909) (fun r2_q47911 h_r2_q47911 => ?_)
  obtain ⟨h_r2_q47911_0, h_r2_q47911_1, h_r2_q47911_2, h_r2_q47911_3, -⟩ := h_r2_q47911
  have t_47912 := KX12.i1 h_r2_q47911_3
  have t_47913 := KX12.i1 k_I0
  have t_47914 : (I0_1_q47909 1).toInt = (I0 1).toInt := by rw [h_I0_1_q47909]; rfl
  have l_0 := il_0
  refine wq_eq (fun hc_47915 => ?_) (fun hc_47916 => ?_)
  · exact wq_s ⟨h_r2_q47911_3, trivial⟩
  · have b_47917 := i32b x2
    refine wq_b (tt_fX12_isBook hN r2_q47911.2.1 r2_q47911.2.2.1 r2_q47911.2.2.2 x2 h_r2_q47911_3) (fun r3_q47918 h_r3_q47918 => ?_)
    obtain ⟨h_r3_q47918_0, h_r3_q47918_1, h_r3_q47918_2, h_r3_q47918_3, -⟩ := h_r3_q47918
    have t_47919 := KX12.i1 h_r3_q47918_3
    refine wq_eq (fun hc_47920 => ?_) (fun hc_47921 => ?_)
    · exact wq_s ⟨h_r3_q47918_3, trivial⟩
    · refine wq_b (tt_fX12_priceAll hN r3_q47918.2.1 r3_q47918.2.2.1 r3_q47918.2.2.2 x1 x2 ⟨by omega, by omega⟩ ⟨by omega, by omega⟩ h_r3_q47918_3) (fun r4_q47922 h_r4_q47922 => ?_)
      obtain ⟨-⟩ := h_r4_q47922
      have b_47923 := i32b r4_q47922
      exact wq_s ⟨h_r3_q47918_3, trivial⟩
set_option maxHeartbeats 4000000 in
theorem tt_fX12_isTree_L76 {N : Nat} (hN : 3000000000 ≤ N) (I0 : Nat → Int32) (L0 : Int64) (M0 : Nat → Nat → Int32) (y71_1 : Int32) (y71_2 : Int32) (g4 : Int32 → Int32 → Option (Int32)) (h_y71_2 : 0 ≤ y71_2.toInt ∧ y71_2.toInt ≤ 5) (k_I0 : KX12 I0 M0) (hg4 : ∀ (q0 : Int32) (q1 : Int32), (0 ≤ q1.toInt ∧ q1.toInt ≤ 6) → (y71_2.toInt < q1.toInt) → wq (g4 q0 q1) (fun r => (0 ≤ r.toInt ∧ r.toInt ≤ 1) ∧ True)) : ∀ (fu : Nat) (y76_3 : Int32) (y76_4 : Int32), (0 ≤ y76_3.toInt ∧ y76_3.toInt ≤ 5) → (0 ≤ y76_4.toInt ∧ y76_4.toInt ≤ 6) → (6 - y76_4.toInt) < (fu : Int) → wq (fX12_isTree_L76 N I0 L0 M0 y71_1 y71_2 g4 fu y76_3 y76_4) (fun r => (0 ≤ r.toInt ∧ r.toInt ≤ 1) ∧ True) := by
  intro fu
  induction fu with
  | zero => intro y76_3 y76_4 h_y76_3 h_y76_4 hm; exfalso; omega
  | succ fu ih =>
    intro y76_3 y76_4 h_y76_3 h_y76_4 hm
    rw [fX12_isTree_L76.eq_2]
    refine wq_in (n := 6) ⟨by omega, by omega⟩ ?_
    have t_48418 := KX12.m24 k_I0 y76_3.toNatClampNeg
    have l_m1 := il_m1
    refine wq_eq (fun hc_48419 => ?_) (fun hc_48420 => ?_)
    · unfold fX12_isTree_J114
      refine wq_in (n := 6) ⟨by omega, by omega⟩ ?_
      refine wq_eq (fun hc_48421 => ?_) (fun hc_48422 => ?_)
      · have l_1 := il_1
        have t_48424 := ia_add y71_2 (1 : Int32) (by omega) (by omega)
        refine wq_v (fun v1_q48423 h_v1_q48423 => ?_)
        have t_v1_q48423 := congrArg Int32.toInt h_v1_q48423
        have b_48425 := i32b y71_1
        exact hg4 y71_1 v1_q48423 ⟨by omega, by omega⟩ (by omega)
      · exfalso; omega
    · have l_6 := il_6
      refine wq_le (fun hc_48426 => ?_) (fun hc_48427 => ?_)
      · unfold fX12_isTree_J114
        refine wq_in (n := 6) ⟨by omega, by omega⟩ ?_
        refine wq_eq (fun hc_48428 => ?_) (fun hc_48429 => ?_)
        · exfalso; omega
        · have l_0 := il_0
          exact wq_s ⟨(show 0 ≤ (0 : Int32).toInt ∧ (0 : Int32).toInt ≤ 1 from ⟨by omega, by omega⟩), trivial⟩
      · refine wq_in (n := 6) ⟨by omega, by omega⟩ ?_
        refine wq_v (fun v2_q48430 h_v2_q48430 => ?_)
        have t_v2_q48430 := congrArg Int32.toInt h_v2_q48430
        have l_1 := il_1
        have t_48432 := ia_add y76_4 (1 : Int32) (by omega) (by omega)
        refine wq_v (fun v3_q48431 h_v3_q48431 => ?_)
        have t_v3_q48431 := congrArg Int32.toInt h_v3_q48431
        refine wq_in (n := 6) ⟨by omega, by omega⟩ ?_
        have l_0 := il_0
        refine wq_eq (fun hc_48433 => ?_) (fun hc_48434 => ?_)
        · exact wq_s ⟨(show 0 ≤ (0 : Int32).toInt ∧ (0 : Int32).toInt ≤ 1 from ⟨by omega, by omega⟩), trivial⟩
        · exact ih v2_q48430 v3_q48431 ⟨by omega, by omega⟩ ⟨by omega, by omega⟩ (by omega)

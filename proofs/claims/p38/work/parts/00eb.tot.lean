set_option maxHeartbeats 4000000 in
theorem tt_fX2_placeOf_L5 {N : Nat} (hN : 3000000000 ≤ N) (I0 : Nat → Int32) (M0 : Nat → Nat → Int32) (x1 : Int32) (x2 : Int32) (h_x1 : 0 ≤ x1.toInt ∧ x1.toInt ≤ 6) (k_I0 : KX2 I0 M0)  : ∀ (fu : Nat) (y5_3 : Int32) (y5_4 : Int32), (0 ≤ y5_3.toInt ∧ y5_3.toInt ≤ 11) → (1 ≤ y5_4.toInt ∧ y5_4.toInt ≤ 12) → (12 - y5_4.toInt) < (fu : Int) → wq (fX2_placeOf_L5 N I0 M0 x1 x2 fu y5_3 y5_4) (fun r => True) := by
  intro fu
  induction fu with
  | zero => intro y5_3 y5_4 h_y5_3 h_y5_4 hm; exfalso; omega
  | succ fu ih =>
    intro y5_3 y5_4 h_y5_3 h_y5_4 hm
    rw [fX2_placeOf_L5.eq_2]
    have l_12 := il_12
    refine wq_le (fun hc_2521 => ?_) (fun hc_2522 => ?_)
    · unfold fX2_placeOf_J41
      have l_13 := il_13
      have t_2523 := ia_mul (13 : Int32) (13) il_13 x1 (by omega) (by omega)
      have t_2524 := ia_add ((13 : Int32) * x1) y5_3 (by omega) (by omega)
      refine wq_in (n := 91) ⟨by omega, by omega⟩ ?_
      refine wq_v (fun v1_q2525 h_v1_q2525 => ?_)
      have t_v1_q2525 := congrArg Int32.toInt h_v1_q2525
      have l_1 := il_1
      have t_2526 := ia_add (((13 : Int32) * x1) + y5_3) (1 : Int32) (by omega) (by omega)
      refine wq_in (n := 91) ⟨by omega, by omega⟩ ?_
      have b_2528 := i32b v1_q2525
      refine wq_v (fun v2_q2527 h_v2_q2527 => ?_)
      have t_v2_q2527 := congrArg Int32.toInt h_v2_q2527
      have b_2529 := i32b v2_q2527
      refine wq_le (fun hc_2530 => ?_) (fun hc_2531 => ?_)
      · refine wq_nz (by omega) ?_
        have l_1800 := il_1800
        have t_2532 := ia_mul (1800 : Int32) (1800) il_1800 y5_3 (by omega) (by omega)
        exact wq_s trivial
      · have l_0 := il_0
        exact wq_s trivial
    · have l_13 := il_13
      have t_2533 := ia_mul (13 : Int32) (13) il_13 x1 (by omega) (by omega)
      have t_2534 := ia_add ((13 : Int32) * x1) y5_4 (by omega) (by omega)
      refine wq_in (n := 91) ⟨by omega, by omega⟩ ?_
      have b_2535 := i32b x2
      have l_1800 := il_1800
      refine wq_lt (fun hc_2536 => ?_) (fun hc_2537 => ?_)
      · unfold fX2_placeOf_J41
        have t_2538 := ia_add ((13 : Int32) * x1) y5_3 (by omega) (by omega)
        refine wq_in (n := 91) ⟨by omega, by omega⟩ ?_
        refine wq_v (fun v1_q2539 h_v1_q2539 => ?_)
        have t_v1_q2539 := congrArg Int32.toInt h_v1_q2539
        have l_1 := il_1
        have t_2540 := ia_add (((13 : Int32) * x1) + y5_3) (1 : Int32) (by omega) (by omega)
        refine wq_in (n := 91) ⟨by omega, by omega⟩ ?_
        have b_2542 := i32b v1_q2539
        refine wq_v (fun v2_q2541 h_v2_q2541 => ?_)
        have t_v2_q2541 := congrArg Int32.toInt h_v2_q2541
        have b_2543 := i32b v2_q2541
        refine wq_le (fun hc_2544 => ?_) (fun hc_2545 => ?_)
        · refine wq_nz (by omega) ?_
          have t_2546 := ia_mul (1800 : Int32) (1800) il_1800 y5_3 (by omega) (by omega)
          exact wq_s trivial
        · have l_0 := il_0
          exact wq_s trivial
      · have l_1 := il_1
        have t_2548 := ia_add y5_4 (1 : Int32) (by omega) (by omega)
        refine wq_v (fun v3_q2547 h_v3_q2547 => ?_)
        have t_v3_q2547 := congrArg Int32.toInt h_v3_q2547
        exact ih y5_4 v3_q2547 ⟨by omega, by omega⟩ ⟨by omega, by omega⟩ (by omega)
set_option maxHeartbeats 4000000 in
theorem tt_fX2_placeOf {N : Nat} (hN : 3000000000 ≤ N) (I0 : Nat → Int32) (M0 : Nat → Nat → Int32) (x1 : Int32) (x2 : Int32) (h_x1 : 0 ≤ x1.toInt ∧ x1.toInt ≤ 6) (k_I0 : KX2 I0 M0) : wq (fX2_placeOf N I0 M0 x1 x2) (fun r => True) := by
  unfold fX2_placeOf
  have b_2549 := i32b x2
  have l_0 := il_0
  have l_1 := il_1
  exact tt_fX2_placeOf_L5 hN I0 M0 x1 x2 ⟨by omega, by omega⟩ k_I0 N (0 : Int32) (1 : Int32) ⟨by omega, by omega⟩ ⟨by omega, by omega⟩ (by omega)
set_option maxHeartbeats 4000000 in
theorem tt_fX2_middleOf {N : Nat} (hN : 3000000000 ≤ N) (I0 : Nat → Int32) (M0 : Nat → Nat → Int32) (x1 : Int32) (x2 : Int32) (h_x1 : 0 ≤ x1.toInt ∧ x1.toInt ≤ 6) (h_x2 : -60 ≤ x2.toInt ∧ x2.toInt ≤ 21599) (k_I0 : KX2 I0 M0) : wq (fX2_middleOf N I0 M0 x1 x2) (fun r => True) := by
  unfold fX2_middleOf
  refine wq_b (tt_fX2_climbOf hN I0 M0 x1 x2 ⟨by omega, by omega⟩ ⟨by omega, by omega⟩ k_I0) (fun r1_q2586 h_r1_q2586 => ?_)
  obtain ⟨-⟩ := h_r1_q2586
  have b_2587 := i32b r1_q2586
  have l_1620000 := il_1620000
  have l_6480000 := il_6480000
  refine wq_b (tt_fJ9_floorMod_7cf53 hN (r1_q2586 - (1620000 : Int32)) (6480000 : Int32) ⟨by omega, by omega⟩) (fun r2_q2588 h_r2_q2588 => ?_)
  obtain ⟨-⟩ := h_r2_q2588
  have l_0 := il_0
  have b_2589 := i32b r2_q2588
  refine wq_b (tt_fX2_placeOf hN I0 M0 (0 : Int32) r2_q2588 ⟨by omega, by omega⟩ k_I0) (fun r3_q2590 h_r3_q2590 => ?_)
  obtain ⟨-⟩ := h_r3_q2590
  have b_2591 := i32b r3_q2590
  exact wq_s trivial
set_option maxHeartbeats 4000000 in
theorem tt_fX2_houseByMiddle {N : Nat} (hN : 3000000000 ≤ N) (I0 : Nat → Int32) (M0 : Nat → Nat → Int32) (x1 : Int32) (x2 : Int32) (x3 : Int32) (h_x1 : -1 ≤ x1.toInt ∧ x1.toInt ≤ 359) (h_x2 : 0 ≤ x2.toInt ∧ x2.toInt ≤ 6) (h_x3 : 1 ≤ x3.toInt ∧ x3.toInt ≤ 12) (k_I0 : KX2 I0 M0) : wq (fX2_houseByMiddle N I0 M0 x1 x2 x3) (fun r => (-359 ≤ r.toInt ∧ r.toInt ≤ 359) ∧ True) := by
  unfold fX2_houseByMiddle
  have l_4 := il_4
  refine wq_lt (fun hc_3108 => ?_) (fun hc_3109 => ?_)
  · unfold fX2_houseByMiddle_J15
    unfold fX2_houseByMiddle_J16
    have l_0 := il_0
    refine wq_eq (fun hc_3110 => ?_) (fun hc_3111 => ?_)
    · unfold fX2_houseByMiddle_J44
      have l_60 := il_60
      have t_3112 := ia_mul (60 : Int32) (60) il_60 x1 (by omega) (by omega)
      refine wq_b (tt_fX2_middleOf hN I0 M0 x2 ((60 : Int32) * x1) ⟨by omega, by omega⟩ ⟨by omega, by omega⟩ k_I0) (fun r1_q3113 h_r1_q3113 => ?_)
      obtain ⟨-⟩ := h_r1_q3113
      have b_3115 := i32b r1_q3113
      have t_3116 := i32b r1_q3113
      have t_3117 := ia_div2 r1_q3113 (60 : Int32) 60 il_60 (by decide)
      refine wq_v (fun v2_q3114 h_v2_q3114 => ?_)
      have t_v2_q3114 := congrArg Int32.toInt h_v2_q3114
      have l_10 := il_10
      refine wq_lt (fun hc_3118 => ?_) (fun hc_3119 => ?_)
      · have l_180 := il_180
        have t_3120 := ia_add v2_q3114 (180 : Int32) (by omega) (by omega)
        have t_3121 := ia_sub (v2_q3114 + (180 : Int32)) x1 (by omega) (by omega)
        have l_360 := il_360
        refine wq_b (tt_fJ9_floorMod_7cf53 hN ((v2_q3114 + (180 : Int32)) - x1) (360 : Int32) ⟨by omega, by omega⟩) (fun r3_q3122 h_r3_q3122 => ?_)
        obtain ⟨-⟩ := h_r3_q3122
        have l_3 := il_3
        have t_3124 := i32b ((x3 - (1 : Int32)) * r3_q3122)
        have t_3125 := ia_div2 ((x3 - (1 : Int32)) * r3_q3122) (3 : Int32) 3 il_3 (by decide)
        have t_3126 := ia_add x1 (((x3 - (1 : Int32)) * r3_q3122) / (3 : Int32)) (by omega) (by omega)
        refine wq_v (fun v4_q3123 h_v4_q3123 => ?_)
        have t_v4_q3123 := congrArg Int32.toInt h_v4_q3123
        unfold fX2_houseByMiddle_J118
        refine wq_eq (fun hc_3127 => ?_) (fun hc_3128 => ?_)
        · have t_3129 := ia_rem2 v4_q3123 (360 : Int32) 360 il_360 (by decide)
          exact wq_s ⟨(show -359 ≤ (v4_q3123 - ((v4_q3123 / (360 : Int32)) * (360 : Int32))).toInt ∧ (v4_q3123 - ((v4_q3123 / (360 : Int32)) * (360 : Int32))).toInt ≤ 359 from ⟨by omega, by omega⟩), trivial⟩
        · exfalso; omega
      · exfalso; omega
    · exfalso; omega
  · have l_9 := il_9
    refine wq_lt (fun hc_3130 => ?_) (fun hc_3131 => ?_)
    · unfold fX2_houseByMiddle_J15
      unfold fX2_houseByMiddle_J16
      have l_0 := il_0
      refine wq_eq (fun hc_3132 => ?_) (fun hc_3133 => ?_)
      · unfold fX2_houseByMiddle_J44
        have l_60 := il_60
        have t_3134 := ia_mul (60 : Int32) (60) il_60 x1 (by omega) (by omega)
        refine wq_b (tt_fX2_middleOf hN I0 M0 x2 ((60 : Int32) * x1) ⟨by omega, by omega⟩ ⟨by omega, by omega⟩ k_I0) (fun r1_q3135 h_r1_q3135 => ?_)
        obtain ⟨-⟩ := h_r1_q3135
        have b_3137 := i32b r1_q3135
        have t_3138 := i32b r1_q3135
        have t_3139 := ia_div2 r1_q3135 (60 : Int32) 60 il_60 (by decide)
        refine wq_v (fun v2_q3136 h_v2_q3136 => ?_)
        have t_v2_q3136 := congrArg Int32.toInt h_v2_q3136
        have l_10 := il_10
        refine wq_lt (fun hc_3140 => ?_) (fun hc_3141 => ?_)
        · exfalso; omega
        · have t_3142 := ia_sub x1 v2_q3136 (by omega) (by omega)
          have l_360 := il_360
          refine wq_b (tt_fJ9_floorMod_7cf53 hN (x1 - v2_q3136) (360 : Int32) ⟨by omega, by omega⟩) (fun r5_q3143 h_r5_q3143 => ?_)
          obtain ⟨-⟩ := h_r5_q3143
          have l_3 := il_3
          have t_3145 := i32b ((x3 - (10 : Int32)) * r5_q3143)
          have t_3146 := ia_div2 ((x3 - (10 : Int32)) * r5_q3143) (3 : Int32) 3 il_3 (by decide)
          have t_3147 := ia_add v2_q3136 (((x3 - (10 : Int32)) * r5_q3143) / (3 : Int32)) (by omega) (by omega)
          refine wq_v (fun v6_q3144 h_v6_q3144 => ?_)
          have t_v6_q3144 := congrArg Int32.toInt h_v6_q3144
          unfold fX2_houseByMiddle_J118
          refine wq_eq (fun hc_3148 => ?_) (fun hc_3149 => ?_)
          · have t_3150 := ia_rem2 v6_q3144 (360 : Int32) 360 il_360 (by decide)
            exact wq_s ⟨(show -359 ≤ (v6_q3144 - ((v6_q3144 / (360 : Int32)) * (360 : Int32))).toInt ∧ (v6_q3144 - ((v6_q3144 / (360 : Int32)) * (360 : Int32))).toInt ≤ 359 from ⟨by omega, by omega⟩), trivial⟩
          · exfalso; omega
      · exfalso; omega
    · unfold fX2_houseByMiddle_J16
      have l_1 := il_1
      have l_0 := il_0
      refine wq_eq (fun hc_3151 => ?_) (fun hc_3152 => ?_)
      · exfalso; omega
      · have l_7 := il_7
        refine wq_le (fun hc_3153 => ?_) (fun hc_3154 => ?_)
        · unfold fX2_houseByMiddle_J44
          have l_60 := il_60
          have t_3155 := ia_mul (60 : Int32) (60) il_60 x1 (by omega) (by omega)
          refine wq_b (tt_fX2_middleOf hN I0 M0 x2 ((60 : Int32) * x1) ⟨by omega, by omega⟩ ⟨by omega, by omega⟩ k_I0) (fun r1_q3156 h_r1_q3156 => ?_)
          obtain ⟨-⟩ := h_r1_q3156
          have b_3158 := i32b r1_q3156
          have t_3159 := i32b r1_q3156
          have t_3160 := ia_div2 r1_q3156 (60 : Int32) 60 il_60 (by decide)
          refine wq_v (fun v2_q3157 h_v2_q3157 => ?_)
          have t_v2_q3157 := congrArg Int32.toInt h_v2_q3157
          have l_6 := il_6
          have t_3161 := ia_sub x3 (6 : Int32) (by omega) (by omega)
          have l_10 := il_10
          refine wq_lt (fun hc_3162 => ?_) (fun hc_3163 => ?_)
          · have l_180 := il_180
            have t_3164 := ia_add v2_q3157 (180 : Int32) (by omega) (by omega)
            have t_3165 := ia_sub (v2_q3157 + (180 : Int32)) x1 (by omega) (by omega)
            have l_360 := il_360
            refine wq_b (tt_fJ9_floorMod_7cf53 hN ((v2_q3157 + (180 : Int32)) - x1) (360 : Int32) ⟨by omega, by omega⟩) (fun r3_q3166 h_r3_q3166 => ?_)
            obtain ⟨-⟩ := h_r3_q3166
            have l_3 := il_3
            have t_3168 := i32b (((x3 - (6 : Int32)) - (1 : Int32)) * r3_q3166)
            have t_3169 := ia_div2 (((x3 - (6 : Int32)) - (1 : Int32)) * r3_q3166) (3 : Int32) 3 il_3 (by decide)
            have t_3170 := ia_add x1 ((((x3 - (6 : Int32)) - (1 : Int32)) * r3_q3166) / (3 : Int32)) (by omega) (by omega)
            refine wq_v (fun v4_q3167 h_v4_q3167 => ?_)
            have t_v4_q3167 := congrArg Int32.toInt h_v4_q3167
            unfold fX2_houseByMiddle_J118
            refine wq_eq (fun hc_3171 => ?_) (fun hc_3172 => ?_)
            · exfalso; omega
            · have t_3173 := ia_add v4_q3167 (180 : Int32) (by omega) (by omega)
              have t_3174 := ia_rem2 (v4_q3167 + (180 : Int32)) (360 : Int32) 360 il_360 (by decide)
              exact wq_s ⟨(show -359 ≤ ((v4_q3167 + (180 : Int32)) - (((v4_q3167 + (180 : Int32)) / (360 : Int32)) * (360 : Int32))).toInt ∧ ((v4_q3167 + (180 : Int32)) - (((v4_q3167 + (180 : Int32)) / (360 : Int32)) * (360 : Int32))).toInt ≤ 359 from ⟨by omega, by omega⟩), trivial⟩
          · exfalso; omega
        · unfold fX2_houseByMiddle_J44
          have l_60 := il_60
          have t_3175 := ia_mul (60 : Int32) (60) il_60 x1 (by omega) (by omega)
          refine wq_b (tt_fX2_middleOf hN I0 M0 x2 ((60 : Int32) * x1) ⟨by omega, by omega⟩ ⟨by omega, by omega⟩ k_I0) (fun r1_q3176 h_r1_q3176 => ?_)
          obtain ⟨-⟩ := h_r1_q3176
          have b_3178 := i32b r1_q3176
          have t_3179 := i32b r1_q3176
          have t_3180 := ia_div2 r1_q3176 (60 : Int32) 60 il_60 (by decide)
          refine wq_v (fun v2_q3177 h_v2_q3177 => ?_)
          have t_v2_q3177 := congrArg Int32.toInt h_v2_q3177
          have l_6 := il_6
          have t_3181 := ia_add x3 (6 : Int32) (by omega) (by omega)
          have l_10 := il_10
          refine wq_lt (fun hc_3182 => ?_) (fun hc_3183 => ?_)
          · exfalso; omega
          · have t_3184 := ia_sub x1 v2_q3177 (by omega) (by omega)
            have l_360 := il_360
            refine wq_b (tt_fJ9_floorMod_7cf53 hN (x1 - v2_q3177) (360 : Int32) ⟨by omega, by omega⟩) (fun r5_q3185 h_r5_q3185 => ?_)
            obtain ⟨-⟩ := h_r5_q3185
            have l_3 := il_3
            have t_3187 := i32b (((x3 + (6 : Int32)) - (10 : Int32)) * r5_q3185)
            have t_3188 := ia_div2 (((x3 + (6 : Int32)) - (10 : Int32)) * r5_q3185) (3 : Int32) 3 il_3 (by decide)
            have t_3189 := ia_add v2_q3177 ((((x3 + (6 : Int32)) - (10 : Int32)) * r5_q3185) / (3 : Int32)) (by omega) (by omega)
            refine wq_v (fun v6_q3186 h_v6_q3186 => ?_)
            have t_v6_q3186 := congrArg Int32.toInt h_v6_q3186
            unfold fX2_houseByMiddle_J118
            refine wq_eq (fun hc_3190 => ?_) (fun hc_3191 => ?_)
            · exfalso; omega
            · have l_180 := il_180
              have t_3192 := ia_add v6_q3186 (180 : Int32) (by omega) (by omega)
              have t_3193 := ia_rem2 (v6_q3186 + (180 : Int32)) (360 : Int32) 360 il_360 (by decide)
              exact wq_s ⟨(show -359 ≤ ((v6_q3186 + (180 : Int32)) - (((v6_q3186 + (180 : Int32)) / (360 : Int32)) * (360 : Int32))).toInt ∧ ((v6_q3186 + (180 : Int32)) - (((v6_q3186 + (180 : Int32)) / (360 : Int32)) * (360 : Int32))).toInt ≤ 359 from ⟨by omega, by omega⟩), trivial⟩
set_option maxHeartbeats 4000000 in
theorem tt_fX2_houseDegree {N : Nat} (hN : 3000000000 ≤ N) (I0 : Nat → Int32) (M0 : Nat → Nat → Int32) (x1 : Int32) (x2 : Int32) (x3 : Int32) (x4 : Int32) (h_x1 : -1 ≤ x1.toInt ∧ x1.toInt ≤ 359) (h_x4 : 1 ≤ x4.toInt ∧ x4.toInt ≤ 12) (k_I0 : KX2 I0 M0) (hr_3 : (0 ≤ x2.toInt ∧ x2.toInt ≤ 1) ∨ (0 ≤ x3.toInt ∧ x3.toInt ≤ 6)) : wq (fX2_houseDegree N I0 M0 x1 x2 x3 x4) (fun r => True) := by
  unfold fX2_houseDegree
  have b_3260 := i32b x2
  have l_0 := il_0
  refine wq_eq (fun hc_3261 => ?_) (fun hc_3262 => ?_)
  · exact wq_s trivial
  · have l_1 := il_1
    refine wq_eq (fun hc_3263 => ?_) (fun hc_3264 => ?_)
    · have t_3265 := ia_sub x4 (1 : Int32) (by omega) (by omega)
      have l_30 := il_30
      have t_3266 := ia_mul (30 : Int32) (30) il_30 (x4 - (1 : Int32)) (by omega) (by omega)
      have t_3267 := ia_add x1 ((30 : Int32) * (x4 - (1 : Int32))) (by omega) (by omega)
      have l_360 := il_360
      have t_3268 := ia_rem2 (x1 + ((30 : Int32) * (x4 - (1 : Int32)))) (360 : Int32) 360 il_360 (by decide)
      exact wq_s trivial
    · have b_3269 := i32b x3
      refine wq_b (tt_fX2_houseByMiddle hN I0 M0 x1 x3 x4 ⟨by omega, by omega⟩ ⟨by omega, by omega⟩ ⟨by omega, by omega⟩ k_I0) (fun r1_q3270 h_r1_q3270 => ?_)
      obtain ⟨h_r1_q3270_0, -⟩ := h_r1_q3270
      exact wq_s trivial
set_option maxHeartbeats 4000000 in
theorem tt_fX1_howManyDiffer_L15 {N : Nat} (hN : 3000000000 ≤ N) (I0 : Nat → Int32) (M0 : Nat → Nat → Int32) (I1 : Nat → Int32) (M1 : Nat → Nat → Int32) (x2 : Int32) (x3 : Int32) (x4 : Int32) (r1 : Int32) (h_x2 : 0 ≤ x2.toInt ∧ x2.toInt ≤ 119) (h_r1 : -1 ≤ r1.toInt ∧ r1.toInt ≤ 359) (k_I0 : KX1 I0 M0) (k_I1 : KX2 I1 M1) (hr_4 : (0 ≤ x3.toInt ∧ x3.toInt ≤ 1) ∨ (0 ≤ x4.toInt ∧ x4.toInt ≤ 6))  : ∀ (fu : Nat) (y15_6 : Int32) (y15_7 : Int32), (1 ≤ y15_7.toInt ∧ y15_7.toInt ≤ 13) → (13 - y15_7.toInt) < (fu : Int) → wq (fX1_howManyDiffer_L15 N I0 M0 I1 M1 x2 x3 x4 r1 fu y15_6 y15_7) (fun r => True) := by
  intro fu
  induction fu with
  | zero => intro y15_6 y15_7 h_y15_7 hm; exfalso; omega
  | succ fu ih =>
    intro y15_6 y15_7 h_y15_7 hm
    rw [fX1_howManyDiffer_L15.eq_2]
    have l_12 := il_12
    refine wq_lt (fun hc_3805 => ?_) (fun hc_3806 => ?_)
    · have b_3807 := i32b y15_6
      exact wq_s trivial
    · have l_8 := il_8
      have t_3808 := ia_add (8 : Int32) y15_7 (by omega) (by omega)
      refine wq_b (tt_fX1_degreeOf hN I0 M0 x2 ((8 : Int32) + y15_7) ⟨by omega, by omega⟩ ⟨by omega, by omega⟩ k_I0) (fun r2_q3809 h_r2_q3809 => ?_)
      obtain ⟨h_r2_q3809_0, h_r2_q3809_1, -⟩ := h_r2_q3809
      have l_m1 := il_m1
      refine wq_eq (fun hc_3810 => ?_) (fun hc_3811 => ?_)
      · have l_1 := il_1
        have t_3813 := ia_add y15_7 (1 : Int32) (by omega) (by omega)
        refine wq_v (fun v3_q3812 h_v3_q3812 => ?_)
        have t_v3_q3812 := congrArg Int32.toInt h_v3_q3812
        have b_3814 := i32b y15_6
        exact ih y15_6 v3_q3812 ⟨by omega, by omega⟩ (by omega)
      · have b_3815 := i32b x3
        have b_3816 := i32b x4
        refine wq_b (tt_fX2_houseDegree hN I1 M1 r1 x3 x4 y15_7 ⟨by omega, by omega⟩ ⟨by omega, by omega⟩ k_I1 (by omega)) (fun r4_q3817 h_r4_q3817 => ?_)
        obtain ⟨-⟩ := h_r4_q3817
        have b_3818 := i32b r4_q3817
        refine wq_eq (fun hc_3819 => ?_) (fun hc_3820 => ?_)
        · have l_1 := il_1
          have t_3822 := ia_add y15_7 (1 : Int32) (by omega) (by omega)
          refine wq_v (fun v5_q3821 h_v5_q3821 => ?_)
          have t_v5_q3821 := congrArg Int32.toInt h_v5_q3821
          have b_3823 := i32b y15_6
          exact ih y15_6 v5_q3821 ⟨by omega, by omega⟩ (by omega)
        · have b_3825 := i32b y15_6
          have l_1 := il_1
          refine wq_v (fun v6_q3824 h_v6_q3824 => ?_)
          have t_v6_q3824 := congrArg Int32.toInt h_v6_q3824
          have t_3827 := ia_add y15_7 (1 : Int32) (by omega) (by omega)
          refine wq_v (fun v7_q3826 h_v7_q3826 => ?_)
          have t_v7_q3826 := congrArg Int32.toInt h_v7_q3826
          have b_3828 := i32b v6_q3824
          exact ih v6_q3824 v7_q3826 ⟨by omega, by omega⟩ (by omega)
set_option maxHeartbeats 4000000 in
theorem tt_fX1_howManyDiffer {N : Nat} (hN : 3000000000 ≤ N) (I0 : Nat → Int32) (M0 : Nat → Nat → Int32) (I1 : Nat → Int32) (M1 : Nat → Nat → Int32) (x2 : Int32) (x3 : Int32) (x4 : Int32) (h_x2 : 0 ≤ x2.toInt ∧ x2.toInt ≤ 119) (k_I0 : KX1 I0 M0) (k_I1 : KX2 I1 M1) (hr_3 : (0 ≤ x3.toInt ∧ x3.toInt ≤ 1) ∨ (0 ≤ x4.toInt ∧ x4.toInt ≤ 6)) : wq (fX1_howManyDiffer N I0 M0 I1 M1 x2 x3 x4) (fun r => True) := by
  unfold fX1_howManyDiffer
  have l_7 := il_7
  refine wq_b (tt_fX1_degreeOf hN I0 M0 x2 (7 : Int32) ⟨by omega, by omega⟩ ⟨by omega, by omega⟩ k_I0) (fun r1_q3829 h_r1_q3829 => ?_)
  obtain ⟨h_r1_q3829_0, h_r1_q3829_1, -⟩ := h_r1_q3829
  have b_3830 := i32b x3
  have b_3831 := i32b x4
  have l_0 := il_0
  have l_1 := il_1
  exact tt_fX1_howManyDiffer_L15 hN I0 M0 I1 M1 x2 x3 x4 r1_q3829 ⟨by omega, by omega⟩ ⟨by omega, by omega⟩ k_I0 k_I1 (by omega) N (0 : Int32) (1 : Int32) ⟨by omega, by omega⟩ (by omega)
set_option maxHeartbeats 4000000 in
theorem tt_fX1_lotOf {N : Nat} (hN : 3000000000 ≤ N) (I0 : Nat → Int32) (M0 : Nat → Nat → Int32) (x1 : Int32) (h_x1 : 0 ≤ x1.toInt ∧ x1.toInt ≤ 119) (k_I0 : KX1 I0 M0) : wq (fX1_lotOf N I0 M0 x1) (fun r => True) := by
  unfold fX1_lotOf
  have l_0 := il_0
  refine wq_b (tt_fX1_degreeOf hN I0 M0 x1 (0 : Int32) ⟨by omega, by omega⟩ ⟨by omega, by omega⟩ k_I0) (fun r3_q3988 h_r3_q3988 => ?_)
  obtain ⟨h_r3_q3988_0, h_r3_q3988_1, -⟩ := h_r3_q3988
  have l_1 := il_1
  refine wq_b (tt_fX1_degreeOf hN I0 M0 x1 (1 : Int32) ⟨by omega, by omega⟩ ⟨by omega, by omega⟩ k_I0) (fun r4_q3989 h_r4_q3989 => ?_)
  obtain ⟨h_r4_q3989_0, h_r4_q3989_1, -⟩ := h_r4_q3989
  have l_7 := il_7
  refine wq_b (tt_fX1_degreeOf hN I0 M0 x1 (7 : Int32) ⟨by omega, by omega⟩ ⟨by omega, by omega⟩ k_I0) (fun r5_q3990 h_r5_q3990 => ?_)
  obtain ⟨h_r5_q3990_0, h_r5_q3990_1, -⟩ := h_r5_q3990
  have l_m1 := il_m1
  refine wq_eq (fun hc_3991 => ?_) (fun hc_3992 => ?_)
  · exact wq_s trivial
  · refine wq_eq (fun hc_3993 => ?_) (fun hc_3994 => ?_)
    · exact wq_s trivial
    · refine wq_eq (fun hc_3995 => ?_) (fun hc_3996 => ?_)
      · exact wq_s trivial
      · have t_3997 := ia_sub r5_q3990 r3_q3988 (by omega) (by omega)
        have l_360 := il_360
        refine wq_b (tt_fJ9_floorMod_7cf53 hN (r5_q3990 - r3_q3988) (360 : Int32) ⟨by omega, by omega⟩) (fun r6_q3998 h_r6_q3998 => ?_)
        obtain ⟨-⟩ := h_r6_q3998
        have l_180 := il_180
        have b_3999 := i32b r6_q3998
        refine wq_le (fun hc_4000 => ?_) (fun hc_4001 => ?_)
        · unfold fX1_lotOf_J62
          refine wq_eq (fun hc_4002 => ?_) (fun hc_4003 => ?_)
          · have t_4004 := ia_add r5_q3990 r3_q3988 (by omega) (by omega)
            have t_4005 := ia_sub (r5_q3990 + r3_q3988) r4_q3989 (by omega) (by omega)
            refine wq_b (tt_fJ9_floorMod_7cf53 hN ((r5_q3990 + r3_q3988) - r4_q3989) (360 : Int32) ⟨by omega, by omega⟩) (fun r1_q4006 h_r1_q4006 => ?_)
            obtain ⟨-⟩ := h_r1_q4006
            have b_4007 := i32b r1_q4006
            exact wq_s trivial
          · exfalso; omega
        · unfold fX1_lotOf_J62
          refine wq_eq (fun hc_4008 => ?_) (fun hc_4009 => ?_)
          · exfalso; omega
          · have t_4010 := ia_add r5_q3990 r4_q3989 (by omega) (by omega)
            have t_4011 := ia_sub (r5_q3990 + r4_q3989) r3_q3988 (by omega) (by omega)
            refine wq_b (tt_fJ9_floorMod_7cf53 hN ((r5_q3990 + r4_q3989) - r3_q3988) (360 : Int32) ⟨by omega, by omega⟩) (fun r2_q4012 h_r2_q4012 => ?_)
            obtain ⟨-⟩ := h_r2_q4012
            have b_4013 := i32b r2_q4012
            exact wq_s trivial
set_option maxHeartbeats 4000000 in
theorem tt_fX1_howManyHanded_L6 {N : Nat} (hN : 3000000000 ≤ N) (I0 : Nat → Int32) (M0 : Nat → Nat → Int32) (x1 : Int32) (x2 : Int32) (x3 : Int32) (h_x1 : 0 ≤ x1.toInt ∧ x1.toInt ≤ 5) (h_x2 : 0 ≤ x2.toInt ∧ x2.toInt ≤ 5) (h_x3 : 0 ≤ x3.toInt ∧ x3.toInt ≤ 5) (k_I0 : KX1 I0 M0)  : ∀ (fu : Nat) (y6_4 : Int32) (y6_5 : Int32), (0 ≤ y6_5.toInt ∧ y6_5.toInt ≤ 440) → (440 - y6_5.toInt) < (fu : Int) → wq (fX1_howManyHanded_L6 N I0 M0 x1 x2 x3 fu y6_4 y6_5) (fun r => True) := by
  intro fu
  induction fu with
  | zero => intro y6_4 y6_5 h_y6_5 hm; exfalso; omega
  | succ fu ih =>
    intro y6_4 y6_5 h_y6_5 hm
    rw [fX1_howManyHanded_L6.eq_2]
    have l_440 := il_440
    refine wq_le (fun hc_4600 => ?_) (fun hc_4601 => ?_)
    · have b_4602 := i32b y6_4
      exact wq_s trivial
    · have t_4603 := ia_mul (440 : Int32) (440) il_440 x1 (by omega) (by omega)
      have t_4604 := ia_add ((440 : Int32) * x1) y6_5 (by omega) (by omega)
      refine wq_in (n := 2640) ⟨by omega, by omega⟩ ?_
      have t_4606 := KX1.m0 k_I0 ((((440 : Int32) * x1) + y6_5)).toNatClampNeg
      refine wq_v (fun v1_q4605 h_v1_q4605 => ?_)
      have t_v1_q4605 := congrArg Int32.toInt h_v1_q4605
      have t_4607 := ia_mul (440 : Int32) (440) il_440 x2 (by omega) (by omega)
      have t_4608 := ia_add ((440 : Int32) * x2) y6_5 (by omega) (by omega)
      refine wq_in (n := 2640) ⟨by omega, by omega⟩ ?_
      have t_4610 := KX1.m0 k_I0 ((((440 : Int32) * x2) + y6_5)).toNatClampNeg
      refine wq_v (fun v2_q4609 h_v2_q4609 => ?_)
      have t_v2_q4609 := congrArg Int32.toInt h_v2_q4609
      have t_4611 := ia_mul (440 : Int32) (440) il_440 x3 (by omega) (by omega)
      have t_4612 := ia_add ((440 : Int32) * x3) y6_5 (by omega) (by omega)
      refine wq_in (n := 2640) ⟨by omega, by omega⟩ ?_
      have t_4614 := KX1.m0 k_I0 ((((440 : Int32) * x3) + y6_5)).toNatClampNeg
      refine wq_v (fun v3_q4613 h_v3_q4613 => ?_)
      have t_v3_q4613 := congrArg Int32.toInt h_v3_q4613
      have l_m1 := il_m1
      refine wq_eq (fun hc_4615 => ?_) (fun hc_4616 => ?_)
      · have l_1 := il_1
        have t_4618 := ia_add y6_5 (1 : Int32) (by omega) (by omega)
        refine wq_v (fun v4_q4617 h_v4_q4617 => ?_)
        have t_v4_q4617 := congrArg Int32.toInt h_v4_q4617
        have b_4619 := i32b y6_4
        exact ih y6_4 v4_q4617 ⟨by omega, by omega⟩ (by omega)
      · refine wq_eq (fun hc_4620 => ?_) (fun hc_4621 => ?_)
        · refine wq_eq (fun hc_4622 => ?_) (fun hc_4623 => ?_)
          · have l_1 := il_1
            have t_4625 := ia_add y6_5 (1 : Int32) (by omega) (by omega)
            refine wq_v (fun v6_q4624 h_v6_q4624 => ?_)
            have t_v6_q4624 := congrArg Int32.toInt h_v6_q4624
            have b_4626 := i32b y6_4
            exact ih y6_4 v6_q4624 ⟨by omega, by omega⟩ (by omega)
          · refine wq_eq (fun hc_4627 => ?_) (fun hc_4628 => ?_)
            · have l_1 := il_1
              have t_4630 := ia_add y6_5 (1 : Int32) (by omega) (by omega)
              refine wq_v (fun v7_q4629 h_v7_q4629 => ?_)
              have t_v7_q4629 := congrArg Int32.toInt h_v7_q4629
              have b_4631 := i32b y6_4
              exact ih y6_4 v7_q4629 ⟨by omega, by omega⟩ (by omega)
            · have b_4633 := i32b y6_4
              have l_1 := il_1
              refine wq_v (fun v8_q4632 h_v8_q4632 => ?_)
              have t_v8_q4632 := congrArg Int32.toInt h_v8_q4632
              have t_4635 := ia_add y6_5 (1 : Int32) (by omega) (by omega)
              refine wq_v (fun v9_q4634 h_v9_q4634 => ?_)
              have t_v9_q4634 := congrArg Int32.toInt h_v9_q4634
              have b_4636 := i32b v8_q4632
              exact ih v8_q4632 v9_q4634 ⟨by omega, by omega⟩ (by omega)
        · have l_1 := il_1
          have t_4638 := ia_add y6_5 (1 : Int32) (by omega) (by omega)
          refine wq_v (fun v5_q4637 h_v5_q4637 => ?_)
          have t_v5_q4637 := congrArg Int32.toInt h_v5_q4637
          have b_4639 := i32b y6_4
          exact ih y6_4 v5_q4637 ⟨by omega, by omega⟩ (by omega)
set_option maxHeartbeats 4000000 in
theorem tt_fX1_howManyHanded {N : Nat} (hN : 3000000000 ≤ N) (I0 : Nat → Int32) (M0 : Nat → Nat → Int32) (x1 : Int32) (x2 : Int32) (x3 : Int32) (h_x1 : 0 ≤ x1.toInt ∧ x1.toInt ≤ 5) (h_x2 : 0 ≤ x2.toInt ∧ x2.toInt ≤ 5) (h_x3 : 0 ≤ x3.toInt ∧ x3.toInt ≤ 5) (k_I0 : KX1 I0 M0) : wq (fX1_howManyHanded N I0 M0 x1 x2 x3) (fun r => True) := by
  unfold fX1_howManyHanded
  have l_0 := il_0
  exact tt_fX1_howManyHanded_L6 hN I0 M0 x1 x2 x3 ⟨by omega, by omega⟩ ⟨by omega, by omega⟩ ⟨by omega, by omega⟩ k_I0 N (0 : Int32) (0 : Int32) ⟨by omega, by omega⟩ (by omega)
set_option maxHeartbeats 4000000 in
theorem tt_fX2_copyFrom {N : Nat} (hN : 3000000000 ≤ N) (I0 : Nat → Int32) (M0 : Nat → Nat → Int32) (I1 : Nat → Int32) (M1 : Nat → Nat → Int32) (k_I0 : KX2 I0 M0) (k_I1 : KX2 I1 M1) : wq (fX2_copyFrom N I0 M0 I1 M1) (fun r => KX2 r.1 r.2 ∧ True) := by
  unfold fX2_copyFrom
  refine wq_n (by decide) ?_
  refine wq_v (fun M0_1_q4655 h_M0_1_q4655 => ?_)
  have k_M0_1_q4655 : KX2 I0 M0_1_q4655 := by rw [h_M0_1_q4655]; exact KX2.sf0 k_I0
  refine wq_v (fun I0_2_q4656 h_I0_2_q4656 => ?_)
  have t_4657 := KX2.i0 k_I1
  have k_I0_2_q4656 : KX2 I0_2_q4656 M0_1_q4655 := by rw [h_I0_2_q4656]; exact KX2.si0 k_M0_1_q4655 ⟨by omega, by omega⟩
  exact wq_s ⟨k_I0_2_q4656, trivial⟩
set_option maxHeartbeats 4000000 in
theorem tt_fX2_risingAt {N : Nat} (hN : 3000000000 ≤ N) (I0 : Nat → Int32) (M0 : Nat → Nat → Int32) (x1 : Int32) (x2 : Int32) (x3 : Int32) (h_x1 : 0 ≤ x1.toInt ∧ x1.toInt ≤ 6) (h_x2 : -60 ≤ x2.toInt ∧ x2.toInt ≤ 21599) (h_x3 : 0 ≤ x3.toInt ∧ x3.toInt ≤ 359) (k_I0 : KX2 I0 M0) : wq (fX2_risingAt N I0 M0 x1 x2 x3) (fun r => True) := by
  unfold fX2_risingAt
  refine wq_b (tt_fX2_climbOf hN I0 M0 x1 x2 ⟨by omega, by omega⟩ ⟨by omega, by omega⟩ k_I0) (fun r1_q4694 h_r1_q4694 => ?_)
  obtain ⟨-⟩ := h_r1_q4694
  have b_4695 := i32b r1_q4694
  have l_18000 := il_18000
  have t_4696 := ia_mul (18000 : Int32) (18000) il_18000 x3 (by omega) (by omega)
  have l_6480000 := il_6480000
  have t_4697 := ia_rem2 (r1_q4694 + ((18000 : Int32) * x3)) (6480000 : Int32) 6480000 il_6480000 (by decide)
  refine wq_b (tt_fX2_placeOf hN I0 M0 x1 ((r1_q4694 + ((18000 : Int32) * x3)) - (((r1_q4694 + ((18000 : Int32) * x3)) / (6480000 : Int32)) * (6480000 : Int32))) ⟨by omega, by omega⟩ k_I0) (fun r2_q4698 h_r2_q4698 => ?_)
  obtain ⟨-⟩ := h_r2_q4698
  have b_4699 := i32b r2_q4698
  exact wq_s trivial
set_option maxHeartbeats 4000000 in
theorem tt_fX2_isHour {N : Nat} (hN : 3000000000 ≤ N) (I0 : Nat → Int32) (M0 : Nat → Nat → Int32) (x1 : Int32) (x2 : Int32) (x3 : Int32) (x4 : Int32) (h_x1 : 0 ≤ x1.toInt ∧ x1.toInt ≤ 6) (h_x2 : 0 ≤ x2.toInt ∧ x2.toInt ≤ 359) (h_x3 : -1 ≤ x3.toInt ∧ x3.toInt ≤ 359) (k_I0 : KX2 I0 M0) : wq (fX2_isHour N I0 M0 x1 x2 x3 x4) (fun r => (0 ≤ r.toInt ∧ r.toInt ≤ 1) ∧ True) := by
  unfold fX2_isHour
  have l_60 := il_60
  have t_4748 := ia_mul (60 : Int32) (60) il_60 x3 (by omega) (by omega)
  refine wq_b (tt_fX2_risingAt hN I0 M0 x1 ((60 : Int32) * x3) x2 ⟨by omega, by omega⟩ ⟨by omega, by omega⟩ ⟨by omega, by omega⟩ k_I0) (fun r1_q4749 h_r1_q4749 => ?_)
  obtain ⟨-⟩ := h_r1_q4749
  have b_4750 := i32b r1_q4749
  have t_4751 := i32b r1_q4749
  have t_4752 := ia_div2 r1_q4749 (60 : Int32) 60 il_60 (by decide)
  have b_4753 := i32b x4
  refine wq_eq (fun hc_4754 => ?_) (fun hc_4755 => ?_)
  · have l_1 := il_1
    exact wq_s ⟨(show 0 ≤ (1 : Int32).toInt ∧ (1 : Int32).toInt ≤ 1 from ⟨by omega, by omega⟩), trivial⟩
  · have l_0 := il_0
    exact wq_s ⟨(show 0 ≤ (0 : Int32).toInt ∧ (0 : Int32).toInt ≤ 1 from ⟨by omega, by omega⟩), trivial⟩
set_option maxHeartbeats 4000000 in
theorem tt_fX2_hasHour_L3 {N : Nat} (hN : 3000000000 ≤ N) (I0 : Nat → Int32) (M0 : Nat → Nat → Int32) (x1 : Int32) (x2 : Int32) (x3 : Int32) (h_x1 : 0 ≤ x1.toInt ∧ x1.toInt ≤ 6) (h_x2 : -1 ≤ x2.toInt ∧ x2.toInt ≤ 359) (k_I0 : KX2 I0 M0)  : ∀ (fu : Nat) (y3_4 : Int32), (0 ≤ y3_4.toInt ∧ y3_4.toInt ≤ 360) → (360 - y3_4.toInt) < (fu : Int) → wq (fX2_hasHour_L3 N I0 M0 x1 x2 x3 fu y3_4) (fun r => (0 ≤ r.toInt ∧ r.toInt ≤ 1) ∧ True) := by
  intro fu
  induction fu with
  | zero => intro y3_4 h_y3_4 hm; exfalso; omega
  | succ fu ih =>
    intro y3_4 h_y3_4 hm
    rw [fX2_hasHour_L3.eq_2]
    have l_360 := il_360
    refine wq_le (fun hc_4873 => ?_) (fun hc_4874 => ?_)
    · have l_0 := il_0
      exact wq_s ⟨(show 0 ≤ (0 : Int32).toInt ∧ (0 : Int32).toInt ≤ 1 from ⟨by omega, by omega⟩), trivial⟩
    · have b_4875 := i32b x3
      refine wq_b (tt_fX2_isHour hN I0 M0 x1 y3_4 x2 x3 ⟨by omega, by omega⟩ ⟨by omega, by omega⟩ ⟨by omega, by omega⟩ k_I0) (fun r1_q4876 h_r1_q4876 => ?_)
      obtain ⟨h_r1_q4876_0, -⟩ := h_r1_q4876
      have l_0 := il_0
      refine wq_eq (fun hc_4877 => ?_) (fun hc_4878 => ?_)
      · have l_1 := il_1
        have t_4880 := ia_add y3_4 (1 : Int32) (by omega) (by omega)
        refine wq_v (fun v2_q4879 h_v2_q4879 => ?_)
        have t_v2_q4879 := congrArg Int32.toInt h_v2_q4879
        exact ih v2_q4879 ⟨by omega, by omega⟩ (by omega)
      · have l_1 := il_1
        exact wq_s ⟨(show 0 ≤ (1 : Int32).toInt ∧ (1 : Int32).toInt ≤ 1 from ⟨by omega, by omega⟩), trivial⟩
set_option maxHeartbeats 4000000 in
theorem tt_fX2_hasHour {N : Nat} (hN : 3000000000 ≤ N) (I0 : Nat → Int32) (M0 : Nat → Nat → Int32) (x1 : Int32) (x2 : Int32) (x3 : Int32) (h_x1 : 0 ≤ x1.toInt ∧ x1.toInt ≤ 6) (h_x2 : -1 ≤ x2.toInt ∧ x2.toInt ≤ 359) (k_I0 : KX2 I0 M0) : wq (fX2_hasHour N I0 M0 x1 x2 x3) (fun r => (0 ≤ r.toInt ∧ r.toInt ≤ 1) ∧ True) := by
  unfold fX2_hasHour
  have b_4881 := i32b x3
  have l_0 := il_0
  exact tt_fX2_hasHour_L3 hN I0 M0 x1 x2 x3 ⟨by omega, by omega⟩ ⟨by omega, by omega⟩ k_I0 N (0 : Int32) ⟨by omega, by omega⟩ (by omega)
set_option maxHeartbeats 4000000 in
theorem tt_fX2_howManyHours_L5 {N : Nat} (hN : 3000000000 ≤ N) (I0 : Nat → Int32) (M0 : Nat → Nat → Int32) (x1 : Int32) (x2 : Int32) (h_x1 : 0 ≤ x1.toInt ∧ x1.toInt ≤ 359) (k_I0 : KX2 I0 M0)  : ∀ (fu : Nat) (y5_3 : Int32) (y5_4 : Int32), (0 ≤ y5_4.toInt ∧ y5_4.toInt ≤ 2520) → (2520 - y5_4.toInt) < (fu : Int) → wq (fX2_howManyHours_L5 N I0 M0 x1 x2 fu y5_3 y5_4) (fun r => True) := by
  intro fu
  induction fu with
  | zero => intro y5_3 y5_4 h_y5_4 hm; exfalso; omega
  | succ fu ih =>
    intro y5_3 y5_4 h_y5_4 hm
    rw [fX2_howManyHours_L5.eq_2]
    have t_5145 := KX2.i0 k_I0
    have l_360 := il_360
    have t_5146 := ia_mul (360 : Int32) (360) il_360 (I0 0) (by omega) (by omega)
    refine wq_le (fun hc_5147 => ?_) (fun hc_5148 => ?_)
    · have b_5149 := i32b y5_3
      exact wq_s trivial
    · have t_5150 := ia_div y5_4 (360 : Int32) 360 il_360 (by decide) (by omega)
      have t_5151 := ia_rem y5_4 (360 : Int32) 360 il_360 (by decide) (by omega)
      have b_5152 := i32b x2
      refine wq_b (tt_fX2_isHour hN I0 M0 (y5_4 / (360 : Int32)) (y5_4 - ((y5_4 / (360 : Int32)) * (360 : Int32))) x1 x2 ⟨by omega, by omega⟩ ⟨by omega, by omega⟩ ⟨by omega, by omega⟩ k_I0) (fun r1_q5153 h_r1_q5153 => ?_)
      obtain ⟨h_r1_q5153_0, -⟩ := h_r1_q5153
      have l_0 := il_0
      refine wq_eq (fun hc_5154 => ?_) (fun hc_5155 => ?_)
      · have l_1 := il_1
        have t_5157 := ia_add y5_4 (1 : Int32) (by omega) (by omega)
        refine wq_v (fun v2_q5156 h_v2_q5156 => ?_)
        have t_v2_q5156 := congrArg Int32.toInt h_v2_q5156
        have b_5158 := i32b y5_3
        exact ih y5_3 v2_q5156 ⟨by omega, by omega⟩ (by omega)
      · have b_5160 := i32b y5_3
        have l_1 := il_1
        refine wq_v (fun v3_q5159 h_v3_q5159 => ?_)
        have t_v3_q5159 := congrArg Int32.toInt h_v3_q5159
        have t_5162 := ia_add y5_4 (1 : Int32) (by omega) (by omega)
        refine wq_v (fun v4_q5161 h_v4_q5161 => ?_)
        have t_v4_q5161 := congrArg Int32.toInt h_v4_q5161
        have b_5163 := i32b v3_q5159
        exact ih v3_q5159 v4_q5161 ⟨by omega, by omega⟩ (by omega)
set_option maxHeartbeats 4000000 in
theorem tt_fX2_howManyHours {N : Nat} (hN : 3000000000 ≤ N) (I0 : Nat → Int32) (M0 : Nat → Nat → Int32) (x1 : Int32) (x2 : Int32) (h_x1 : 0 ≤ x1.toInt ∧ x1.toInt ≤ 359) (k_I0 : KX2 I0 M0) : wq (fX2_howManyHours N I0 M0 x1 x2) (fun r => True) := by
  unfold fX2_howManyHours
  have b_5164 := i32b x2
  have l_0 := il_0
  exact tt_fX2_howManyHours_L5 hN I0 M0 x1 x2 ⟨by omega, by omega⟩ k_I0 N (0 : Int32) (0 : Int32) ⟨by omega, by omega⟩ (by omega)
set_option maxHeartbeats 4000000 in
theorem tt_fX2_nthHour_L6 {N : Nat} (hN : 3000000000 ≤ N) (I0 : Nat → Int32) (M0 : Nat → Nat → Int32) (x1 : Int32) (x2 : Int32) (x3 : Int32) (h_x1 : 0 ≤ x1.toInt ∧ x1.toInt ≤ 359) (k_I0 : KX2 I0 M0)  : ∀ (fu : Nat) (y6_4 : Int32) (y6_5 : Int32), (0 ≤ y6_5.toInt ∧ y6_5.toInt ≤ 2520) → (2520 - y6_5.toInt) < (fu : Int) → wq (fX2_nthHour_L6 N I0 M0 x1 x2 x3 fu y6_4 y6_5) (fun r => (-1 ≤ r.toInt ∧ r.toInt ≤ 2519) ∧ True) := by
  intro fu
  induction fu with
  | zero => intro y6_4 y6_5 h_y6_5 hm; exfalso; omega
  | succ fu ih =>
    intro y6_4 y6_5 h_y6_5 hm
    rw [fX2_nthHour_L6.eq_2]
    have t_5467 := KX2.i0 k_I0
    have l_360 := il_360
    have t_5468 := ia_mul (360 : Int32) (360) il_360 (I0 0) (by omega) (by omega)
    refine wq_le (fun hc_5469 => ?_) (fun hc_5470 => ?_)
    · have l_m1 := il_m1
      exact wq_s ⟨(show -1 ≤ (-1 : Int32).toInt ∧ (-1 : Int32).toInt ≤ 2519 from ⟨by omega, by omega⟩), trivial⟩
    · have b_5471 := i32b y6_4
      have l_0 := il_0
      refine wq_lt (fun hc_5472 => ?_) (fun hc_5473 => ?_)
      · have l_m1 := il_m1
        exact wq_s ⟨(show -1 ≤ (-1 : Int32).toInt ∧ (-1 : Int32).toInt ≤ 2519 from ⟨by omega, by omega⟩), trivial⟩
      · have t_5474 := ia_div y6_5 (360 : Int32) 360 il_360 (by decide) (by omega)
        have t_5475 := ia_rem y6_5 (360 : Int32) 360 il_360 (by decide) (by omega)
        have b_5476 := i32b x2
        refine wq_b (tt_fX2_isHour hN I0 M0 (y6_5 / (360 : Int32)) (y6_5 - ((y6_5 / (360 : Int32)) * (360 : Int32))) x1 x2 ⟨by omega, by omega⟩ ⟨by omega, by omega⟩ ⟨by omega, by omega⟩ k_I0) (fun r1_q5477 h_r1_q5477 => ?_)
        obtain ⟨h_r1_q5477_0, -⟩ := h_r1_q5477
        refine wq_eq (fun hc_5478 => ?_) (fun hc_5479 => ?_)
        · have l_1 := il_1
          have t_5481 := ia_add y6_5 (1 : Int32) (by omega) (by omega)
          refine wq_v (fun v2_q5480 h_v2_q5480 => ?_)
          have t_v2_q5480 := congrArg Int32.toInt h_v2_q5480
          exact ih y6_4 v2_q5480 ⟨by omega, by omega⟩ (by omega)
        · refine wq_eq (fun hc_5482 => ?_) (fun hc_5483 => ?_)
          · exact wq_s ⟨(show -1 ≤ y6_5.toInt ∧ y6_5.toInt ≤ 2519 from ⟨by omega, by omega⟩), trivial⟩
          · have l_m1 := il_m1
            have t_5485 := ia_add y6_4 ((-1) : Int32) (by omega) (by omega)
            refine wq_v (fun v3_q5484 h_v3_q5484 => ?_)
            have t_v3_q5484 := congrArg Int32.toInt h_v3_q5484
            have l_1 := il_1
            have t_5487 := ia_add y6_5 (1 : Int32) (by omega) (by omega)
            refine wq_v (fun v4_q5486 h_v4_q5486 => ?_)
            have t_v4_q5486 := congrArg Int32.toInt h_v4_q5486
            exact ih v3_q5484 v4_q5486 ⟨by omega, by omega⟩ (by omega)
set_option maxHeartbeats 4000000 in
theorem tt_fX2_nthHour {N : Nat} (hN : 3000000000 ≤ N) (I0 : Nat → Int32) (M0 : Nat → Nat → Int32) (x1 : Int32) (x2 : Int32) (x3 : Int32) (h_x1 : 0 ≤ x1.toInt ∧ x1.toInt ≤ 359) (k_I0 : KX2 I0 M0) : wq (fX2_nthHour N I0 M0 x1 x2 x3) (fun r => (-1 ≤ r.toInt ∧ r.toInt ≤ 2519) ∧ True) := by
  unfold fX2_nthHour
  have b_5488 := i32b x2
  have b_5489 := i32b x3
  have l_0 := il_0
  exact tt_fX2_nthHour_L6 hN I0 M0 x1 x2 x3 ⟨by omega, by omega⟩ k_I0 N x3 (0 : Int32) ⟨by omega, by omega⟩ (by omega)
theorem tt_fJ9_floorDiv_f86c9 {N : Nat} (hN : 3000000000 ≤ N) (x0 : Int64) (x1 : Int64) (hr_0 : x1 ≠ 0) : wq (fJ9_floorDiv_f86c9 N x0 x1) (fun r => True) := by
  unfold fJ9_floorDiv_f86c9
  refine wq_n hr_0 (wq_v (fun v1 e1 => ?_))
  refine wq_i (fun _ => wq_s trivial) (fun _ => wq_i (fun _ => wq_s trivial) (fun _ => wq_s trivial))
theorem i64nz {v : Int32} (h : v.toInt ≠ 0) : v.toInt64 ≠ 0 := by
  intro q
  apply h
  rw [← Int32.toInt_toInt64 v, q]
  rfl

set_option maxHeartbeats 4000000 in
theorem tt_fX1_bookTells_L2 {N : Nat} (hN : 3000000000 ≤ N) (I0 : Nat → Int32) (M0 : Nat → Nat → Int32) (x1 : Int32) (h_x1 : 0 ≤ x1.toInt ∧ x1.toInt ≤ 5) (k_I0 : KX1 I0 M0)  : ∀ (fu : Nat) (y2_2 : Int32), (0 ≤ y2_2.toInt ∧ y2_2.toInt ≤ 20) → (20 - y2_2.toInt) < (fu : Int) → wq (fX1_bookTells_L2 N I0 M0 x1 fu y2_2) (fun r => (0 ≤ r.toInt ∧ r.toInt ≤ 1) ∧ True) := by
  intro fu
  induction fu with
  | zero => intro y2_2 h_y2_2 hm; exfalso; omega
  | succ fu ih =>
    intro y2_2 h_y2_2 hm
    rw [fX1_bookTells_L2.eq_2]
    have l_20 := il_20
    refine wq_le (fun hc_3546 => ?_) (fun hc_3547 => ?_)
    · have l_0 := il_0
      exact wq_s ⟨(show 0 ≤ (0 : Int32).toInt ∧ (0 : Int32).toInt ≤ 1 from ⟨by omega, by omega⟩), trivial⟩
    · have t_3548 := ia_mul (20 : Int32) (20) il_20 x1 (by omega) (by omega)
      have t_3549 := ia_add ((20 : Int32) * x1) y2_2 (by omega) (by omega)
      refine wq_b (tt_fX1_tellsSomething hN I0 M0 (((20 : Int32) * x1) + y2_2) ⟨by omega, by omega⟩ k_I0) (fun r1_q3550 h_r1_q3550 => ?_)
      obtain ⟨h_r1_q3550_0, -⟩ := h_r1_q3550
      have l_0 := il_0
      refine wq_eq (fun hc_3551 => ?_) (fun hc_3552 => ?_)
      · have l_1 := il_1
        have t_3554 := ia_add y2_2 (1 : Int32) (by omega) (by omega)
        refine wq_v (fun v2_q3553 h_v2_q3553 => ?_)
        have t_v2_q3553 := congrArg Int32.toInt h_v2_q3553
        exact ih v2_q3553 ⟨by omega, by omega⟩ (by omega)
      · have l_1 := il_1
        exact wq_s ⟨(show 0 ≤ (1 : Int32).toInt ∧ (1 : Int32).toInt ≤ 1 from ⟨by omega, by omega⟩), trivial⟩
set_option maxHeartbeats 4000000 in
theorem tt_fX1_bookTells {N : Nat} (hN : 3000000000 ≤ N) (I0 : Nat → Int32) (M0 : Nat → Nat → Int32) (x1 : Int32) (h_x1 : 0 ≤ x1.toInt ∧ x1.toInt ≤ 5) (k_I0 : KX1 I0 M0) : wq (fX1_bookTells N I0 M0 x1) (fun r => (0 ≤ r.toInt ∧ r.toInt ≤ 1) ∧ True) := by
  unfold fX1_bookTells
  have l_0 := il_0
  exact tt_fX1_bookTells_L2 hN I0 M0 x1 ⟨by omega, by omega⟩ k_I0 N (0 : Int32) ⟨by omega, by omega⟩ (by omega)
set_option maxHeartbeats 4000000 in
theorem tt_fX1_howManyHouses_L4 {N : Nat} (hN : 3000000000 ≤ N) (I0 : Nat → Int32) (M0 : Nat → Nat → Int32) (x1 : Int32) (h_x1 : 0 ≤ x1.toInt ∧ x1.toInt ≤ 119) (k_I0 : KX1 I0 M0)  : ∀ (fu : Nat) (y4_2 : Int32) (y4_3 : Int32), (1 ≤ y4_3.toInt ∧ y4_3.toInt ≤ 13) → (13 - y4_3.toInt) < (fu : Int) → wq (fX1_howManyHouses_L4 N I0 M0 x1 fu y4_2 y4_3) (fun r => True) := by
  intro fu
  induction fu with
  | zero => intro y4_2 y4_3 h_y4_3 hm; exfalso; omega
  | succ fu ih =>
    intro y4_2 y4_3 h_y4_3 hm
    rw [fX1_howManyHouses_L4.eq_2]
    have l_12 := il_12
    refine wq_lt (fun hc_3804 => ?_) (fun hc_3805 => ?_)
    · have b_3806 := i32b y4_2
      exact wq_s trivial
    · have l_8 := il_8
      have t_3807 := ia_add (8 : Int32) y4_3 (by omega) (by omega)
      refine wq_b (tt_fX1_degreeOf hN I0 M0 x1 ((8 : Int32) + y4_3) ⟨by omega, by omega⟩ ⟨by omega, by omega⟩ k_I0) (fun r1_q3808 h_r1_q3808 => ?_)
      obtain ⟨h_r1_q3808_0, h_r1_q3808_1, -⟩ := h_r1_q3808
      have l_m1 := il_m1
      refine wq_eq (fun hc_3809 => ?_) (fun hc_3810 => ?_)
      · have l_1 := il_1
        have t_3812 := ia_add y4_3 (1 : Int32) (by omega) (by omega)
        refine wq_v (fun v2_q3811 h_v2_q3811 => ?_)
        have t_v2_q3811 := congrArg Int32.toInt h_v2_q3811
        have b_3813 := i32b y4_2
        exact ih y4_2 v2_q3811 ⟨by omega, by omega⟩ (by omega)
      · have b_3815 := i32b y4_2
        have l_1 := il_1
        refine wq_v (fun v3_q3814 h_v3_q3814 => ?_)
        have t_v3_q3814 := congrArg Int32.toInt h_v3_q3814
        have t_3817 := ia_add y4_3 (1 : Int32) (by omega) (by omega)
        refine wq_v (fun v4_q3816 h_v4_q3816 => ?_)
        have t_v4_q3816 := congrArg Int32.toInt h_v4_q3816
        have b_3818 := i32b v3_q3814
        exact ih v3_q3814 v4_q3816 ⟨by omega, by omega⟩ (by omega)
set_option maxHeartbeats 4000000 in
theorem tt_fX1_howManyHouses {N : Nat} (hN : 3000000000 ≤ N) (I0 : Nat → Int32) (M0 : Nat → Nat → Int32) (x1 : Int32) (h_x1 : 0 ≤ x1.toInt ∧ x1.toInt ≤ 119) (k_I0 : KX1 I0 M0) : wq (fX1_howManyHouses N I0 M0 x1) (fun r => True) := by
  unfold fX1_howManyHouses
  have l_0 := il_0
  have l_1 := il_1
  exact tt_fX1_howManyHouses_L4 hN I0 M0 x1 ⟨by omega, by omega⟩ k_I0 N (0 : Int32) (1 : Int32) ⟨by omega, by omega⟩ (by omega)
set_option maxHeartbeats 4000000 in
theorem tt_fX2_climbOf {N : Nat} (hN : 3000000000 ≤ N) (I0 : Nat → Int32) (M0 : Nat → Nat → Int32) (x1 : Int32) (x2 : Int32) (h_x1 : 0 ≤ x1.toInt ∧ x1.toInt ≤ 6) (h_x2 : -60 ≤ x2.toInt ∧ x2.toInt ≤ 21599) (k_I0 : KX2 I0 M0) : wq (fX2_climbOf N I0 M0 x1 x2) (fun r => True) := by
  unfold fX2_climbOf
  have l_1800 := il_1800
  have t_3868 := ia_div2 x2 (1800 : Int32) 1800 il_1800 (by decide)
  refine wq_v (fun v1_q3867 h_v1_q3867 => ?_)
  have t_v1_q3867 := congrArg Int32.toInt h_v1_q3867
  have l_13 := il_13
  have t_3869 := ia_mul (13 : Int32) (13) il_13 x1 (by omega) (by omega)
  have t_3870 := ia_add ((13 : Int32) * x1) v1_q3867 (by omega) (by omega)
  refine wq_in (n := 91) ⟨by omega, by omega⟩ ?_
  refine wq_v (fun v2_q3871 h_v2_q3871 => ?_)
  have t_v2_q3871 := congrArg Int32.toInt h_v2_q3871
  have l_1 := il_1
  have t_3872 := ia_add (((13 : Int32) * x1) + v1_q3867) (1 : Int32) (by omega) (by omega)
  refine wq_in (n := 91) ⟨by omega, by omega⟩ ?_
  have b_3874 := i32b v2_q3871
  refine wq_v (fun v3_q3873 h_v3_q3873 => ?_)
  have t_v3_q3873 := congrArg Int32.toInt h_v3_q3873
  exact wq_s trivial
set_option maxHeartbeats 4000000 in
theorem tt_fJ9_floorMod_7cf53 {N : Nat} (hN : 3000000000 ≤ N) (x0 : Int32) (x1 : Int32) (h_x1 : 1 ≤ x1.toInt ∧ x1.toInt ≤ 2147483647) : wq (fJ9_floorMod_7cf53 N x0 x1) (fun r => True) := by
  unfold fJ9_floorMod_7cf53
  have b_3929 := i32b x1
  refine wq_nz (by omega) ?_
  have b_3931 := i32b x0
  refine wq_v (fun v1_q3930 h_v1_q3930 => ?_)
  have t_v1_q3930 := congrArg Int32.toInt h_v1_q3930
  have l_0 := il_0
  refine wq_le (fun hc_3932 => ?_) (fun hc_3933 => ?_)
  · have b_3934 := i32b v1_q3930
    exact wq_s trivial
  · have b_3935 := i32b v1_q3930
    refine wq_eq (fun hc_3936 => ?_) (fun hc_3937 => ?_)
    · exact wq_s trivial
    · exact wq_s trivial
set_option maxHeartbeats 4000000 in
theorem tt_fX2_placeOf_L5 {N : Nat} (hN : 3000000000 ≤ N) (I0 : Nat → Int32) (M0 : Nat → Nat → Int32) (x1 : Int32) (x2 : Int32) (h_x1 : 0 ≤ x1.toInt ∧ x1.toInt ≤ 6) (k_I0 : KX2 I0 M0)  : ∀ (fu : Nat) (y5_3 : Int32) (y5_4 : Int32), (0 ≤ y5_3.toInt ∧ y5_3.toInt ≤ 11) → (1 ≤ y5_4.toInt ∧ y5_4.toInt ≤ 12) → (12 - y5_4.toInt) < (fu : Int) → wq (fX2_placeOf_L5 N I0 M0 x1 x2 fu y5_3 y5_4) (fun r => True) := by
  intro fu
  induction fu with
  | zero => intro y5_3 y5_4 h_y5_3 h_y5_4 hm; exfalso; omega
  | succ fu ih =>
    intro y5_3 y5_4 h_y5_3 h_y5_4 hm
    rw [fX2_placeOf_L5.eq_2]
    have l_12 := il_12
    refine wq_le (fun hc_4217 => ?_) (fun hc_4218 => ?_)
    · unfold fX2_placeOf_J41
      have l_13 := il_13
      have t_4219 := ia_mul (13 : Int32) (13) il_13 x1 (by omega) (by omega)
      have t_4220 := ia_add ((13 : Int32) * x1) y5_3 (by omega) (by omega)
      refine wq_in (n := 91) ⟨by omega, by omega⟩ ?_
      refine wq_v (fun v1_q4221 h_v1_q4221 => ?_)
      have t_v1_q4221 := congrArg Int32.toInt h_v1_q4221
      have l_1 := il_1
      have t_4222 := ia_add (((13 : Int32) * x1) + y5_3) (1 : Int32) (by omega) (by omega)
      refine wq_in (n := 91) ⟨by omega, by omega⟩ ?_
      have b_4224 := i32b v1_q4221
      refine wq_v (fun v2_q4223 h_v2_q4223 => ?_)
      have t_v2_q4223 := congrArg Int32.toInt h_v2_q4223
      have b_4225 := i32b v2_q4223
      refine wq_le (fun hc_4226 => ?_) (fun hc_4227 => ?_)
      · refine wq_nz (by omega) ?_
        have l_1800 := il_1800
        have t_4228 := ia_mul (1800 : Int32) (1800) il_1800 y5_3 (by omega) (by omega)
        exact wq_s trivial
      · have l_0 := il_0
        exact wq_s trivial
    · have l_13 := il_13
      have t_4229 := ia_mul (13 : Int32) (13) il_13 x1 (by omega) (by omega)
      have t_4230 := ia_add ((13 : Int32) * x1) y5_4 (by omega) (by omega)
      refine wq_in (n := 91) ⟨by omega, by omega⟩ ?_
      have b_4231 := i32b x2
      have l_1800 := il_1800
      refine wq_lt (fun hc_4232 => ?_) (fun hc_4233 => ?_)
      · unfold fX2_placeOf_J41
        have t_4234 := ia_add ((13 : Int32) * x1) y5_3 (by omega) (by omega)
        refine wq_in (n := 91) ⟨by omega, by omega⟩ ?_
        refine wq_v (fun v1_q4235 h_v1_q4235 => ?_)
        have t_v1_q4235 := congrArg Int32.toInt h_v1_q4235
        have l_1 := il_1
        have t_4236 := ia_add (((13 : Int32) * x1) + y5_3) (1 : Int32) (by omega) (by omega)
        refine wq_in (n := 91) ⟨by omega, by omega⟩ ?_
        have b_4238 := i32b v1_q4235
        refine wq_v (fun v2_q4237 h_v2_q4237 => ?_)
        have t_v2_q4237 := congrArg Int32.toInt h_v2_q4237
        have b_4239 := i32b v2_q4237
        refine wq_le (fun hc_4240 => ?_) (fun hc_4241 => ?_)
        · refine wq_nz (by omega) ?_
          have t_4242 := ia_mul (1800 : Int32) (1800) il_1800 y5_3 (by omega) (by omega)
          exact wq_s trivial
        · have l_0 := il_0
          exact wq_s trivial
      · have l_1 := il_1
        have t_4244 := ia_add y5_4 (1 : Int32) (by omega) (by omega)
        refine wq_v (fun v3_q4243 h_v3_q4243 => ?_)
        have t_v3_q4243 := congrArg Int32.toInt h_v3_q4243
        exact ih y5_4 v3_q4243 ⟨by omega, by omega⟩ ⟨by omega, by omega⟩ (by omega)
set_option maxHeartbeats 4000000 in
theorem tt_fX2_placeOf {N : Nat} (hN : 3000000000 ≤ N) (I0 : Nat → Int32) (M0 : Nat → Nat → Int32) (x1 : Int32) (x2 : Int32) (h_x1 : 0 ≤ x1.toInt ∧ x1.toInt ≤ 6) (k_I0 : KX2 I0 M0) : wq (fX2_placeOf N I0 M0 x1 x2) (fun r => True) := by
  unfold fX2_placeOf
  have b_4245 := i32b x2
  have l_0 := il_0
  have l_1 := il_1
  exact tt_fX2_placeOf_L5 hN I0 M0 x1 x2 ⟨by omega, by omega⟩ k_I0 N (0 : Int32) (1 : Int32) ⟨by omega, by omega⟩ ⟨by omega, by omega⟩ (by omega)
set_option maxHeartbeats 4000000 in
theorem tt_fX2_middleOf {N : Nat} (hN : 3000000000 ≤ N) (I0 : Nat → Int32) (M0 : Nat → Nat → Int32) (x1 : Int32) (x2 : Int32) (h_x1 : 0 ≤ x1.toInt ∧ x1.toInt ≤ 6) (h_x2 : -60 ≤ x2.toInt ∧ x2.toInt ≤ 21599) (k_I0 : KX2 I0 M0) : wq (fX2_middleOf N I0 M0 x1 x2) (fun r => True) := by
  unfold fX2_middleOf
  refine wq_b (tt_fX2_climbOf hN I0 M0 x1 x2 ⟨by omega, by omega⟩ ⟨by omega, by omega⟩ k_I0) (fun r1_q4282 h_r1_q4282 => ?_)
  obtain ⟨-⟩ := h_r1_q4282
  have b_4283 := i32b r1_q4282
  have l_1620000 := il_1620000
  have l_6480000 := il_6480000
  refine wq_b (tt_fJ9_floorMod_7cf53 hN (r1_q4282 - (1620000 : Int32)) (6480000 : Int32) ⟨by omega, by omega⟩) (fun r2_q4284 h_r2_q4284 => ?_)
  obtain ⟨-⟩ := h_r2_q4284
  have l_0 := il_0
  have b_4285 := i32b r2_q4284
  refine wq_b (tt_fX2_placeOf hN I0 M0 (0 : Int32) r2_q4284 ⟨by omega, by omega⟩ k_I0) (fun r3_q4286 h_r3_q4286 => ?_)
  obtain ⟨-⟩ := h_r3_q4286
  have b_4287 := i32b r3_q4286
  exact wq_s trivial
set_option maxHeartbeats 4000000 in
theorem tt_fX2_houseByMiddle {N : Nat} (hN : 3000000000 ≤ N) (I0 : Nat → Int32) (M0 : Nat → Nat → Int32) (x1 : Int32) (x2 : Int32) (x3 : Int32) (h_x1 : -1 ≤ x1.toInt ∧ x1.toInt ≤ 359) (h_x2 : 0 ≤ x2.toInt ∧ x2.toInt ≤ 6) (h_x3 : 1 ≤ x3.toInt ∧ x3.toInt ≤ 12) (k_I0 : KX2 I0 M0) : wq (fX2_houseByMiddle N I0 M0 x1 x2 x3) (fun r => (-359 ≤ r.toInt ∧ r.toInt ≤ 359) ∧ True) := by
  unfold fX2_houseByMiddle
  have l_4 := il_4
  refine wq_lt (fun hc_4804 => ?_) (fun hc_4805 => ?_)
  · unfold fX2_houseByMiddle_J15
    unfold fX2_houseByMiddle_J16
    have l_0 := il_0
    refine wq_eq (fun hc_4806 => ?_) (fun hc_4807 => ?_)
    · unfold fX2_houseByMiddle_J44
      have l_60 := il_60
      have t_4808 := ia_mul (60 : Int32) (60) il_60 x1 (by omega) (by omega)
      refine wq_b (tt_fX2_middleOf hN I0 M0 x2 ((60 : Int32) * x1) ⟨by omega, by omega⟩ ⟨by omega, by omega⟩ k_I0) (fun r1_q4809 h_r1_q4809 => ?_)
      obtain ⟨-⟩ := h_r1_q4809
      have b_4811 := i32b r1_q4809
      have t_4812 := i32b r1_q4809
      have t_4813 := ia_div2 r1_q4809 (60 : Int32) 60 il_60 (by decide)
      refine wq_v (fun v2_q4810 h_v2_q4810 => ?_)
      have t_v2_q4810 := congrArg Int32.toInt h_v2_q4810
      have l_10 := il_10
      refine wq_lt (fun hc_4814 => ?_) (fun hc_4815 => ?_)
      · have l_180 := il_180
        have t_4816 := ia_add v2_q4810 (180 : Int32) (by omega) (by omega)
        have t_4817 := ia_sub (v2_q4810 + (180 : Int32)) x1 (by omega) (by omega)
        have l_360 := il_360
        refine wq_b (tt_fJ9_floorMod_7cf53 hN ((v2_q4810 + (180 : Int32)) - x1) (360 : Int32) ⟨by omega, by omega⟩) (fun r3_q4818 h_r3_q4818 => ?_)
        obtain ⟨-⟩ := h_r3_q4818
        have l_3 := il_3
        have t_4820 := i32b ((x3 - (1 : Int32)) * r3_q4818)
        have t_4821 := ia_div2 ((x3 - (1 : Int32)) * r3_q4818) (3 : Int32) 3 il_3 (by decide)
        have t_4822 := ia_add x1 (((x3 - (1 : Int32)) * r3_q4818) / (3 : Int32)) (by omega) (by omega)
        refine wq_v (fun v4_q4819 h_v4_q4819 => ?_)
        have t_v4_q4819 := congrArg Int32.toInt h_v4_q4819
        unfold fX2_houseByMiddle_J118
        refine wq_eq (fun hc_4823 => ?_) (fun hc_4824 => ?_)
        · have t_4825 := ia_rem2 v4_q4819 (360 : Int32) 360 il_360 (by decide)
          exact wq_s ⟨(show -359 ≤ (v4_q4819 - ((v4_q4819 / (360 : Int32)) * (360 : Int32))).toInt ∧ (v4_q4819 - ((v4_q4819 / (360 : Int32)) * (360 : Int32))).toInt ≤ 359 from ⟨by omega, by omega⟩), trivial⟩
        · exfalso; omega
      · exfalso; omega
    · exfalso; omega
  · have l_9 := il_9
    refine wq_lt (fun hc_4826 => ?_) (fun hc_4827 => ?_)
    · unfold fX2_houseByMiddle_J15
      unfold fX2_houseByMiddle_J16
      have l_0 := il_0
      refine wq_eq (fun hc_4828 => ?_) (fun hc_4829 => ?_)
      · unfold fX2_houseByMiddle_J44
        have l_60 := il_60
        have t_4830 := ia_mul (60 : Int32) (60) il_60 x1 (by omega) (by omega)
        refine wq_b (tt_fX2_middleOf hN I0 M0 x2 ((60 : Int32) * x1) ⟨by omega, by omega⟩ ⟨by omega, by omega⟩ k_I0) (fun r1_q4831 h_r1_q4831 => ?_)
        obtain ⟨-⟩ := h_r1_q4831
        have b_4833 := i32b r1_q4831
        have t_4834 := i32b r1_q4831
        have t_4835 := ia_div2 r1_q4831 (60 : Int32) 60 il_60 (by decide)
        refine wq_v (fun v2_q4832 h_v2_q4832 => ?_)
        have t_v2_q4832 := congrArg Int32.toInt h_v2_q4832
        have l_10 := il_10
        refine wq_lt (fun hc_4836 => ?_) (fun hc_4837 => ?_)
        · exfalso; omega
        · have t_4838 := ia_sub x1 v2_q4832 (by omega) (by omega)
          have l_360 := il_360
          refine wq_b (tt_fJ9_floorMod_7cf53 hN (x1 - v2_q4832) (360 : Int32) ⟨by omega, by omega⟩) (fun r5_q4839 h_r5_q4839 => ?_)
          obtain ⟨-⟩ := h_r5_q4839
          have l_3 := il_3
          have t_4841 := i32b ((x3 - (10 : Int32)) * r5_q4839)
          have t_4842 := ia_div2 ((x3 - (10 : Int32)) * r5_q4839) (3 : Int32) 3 il_3 (by decide)
          have t_4843 := ia_add v2_q4832 (((x3 - (10 : Int32)) * r5_q4839) / (3 : Int32)) (by omega) (by omega)
          refine wq_v (fun v6_q4840 h_v6_q4840 => ?_)
          have t_v6_q4840 := congrArg Int32.toInt h_v6_q4840
          unfold fX2_houseByMiddle_J118
          refine wq_eq (fun hc_4844 => ?_) (fun hc_4845 => ?_)
          · have t_4846 := ia_rem2 v6_q4840 (360 : Int32) 360 il_360 (by decide)
            exact wq_s ⟨(show -359 ≤ (v6_q4840 - ((v6_q4840 / (360 : Int32)) * (360 : Int32))).toInt ∧ (v6_q4840 - ((v6_q4840 / (360 : Int32)) * (360 : Int32))).toInt ≤ 359 from ⟨by omega, by omega⟩), trivial⟩
          · exfalso; omega
      · exfalso; omega
    · unfold fX2_houseByMiddle_J16
      have l_1 := il_1
      have l_0 := il_0
      refine wq_eq (fun hc_4847 => ?_) (fun hc_4848 => ?_)
      · exfalso; omega
      · have l_7 := il_7
        refine wq_le (fun hc_4849 => ?_) (fun hc_4850 => ?_)
        · unfold fX2_houseByMiddle_J44
          have l_60 := il_60
          have t_4851 := ia_mul (60 : Int32) (60) il_60 x1 (by omega) (by omega)
          refine wq_b (tt_fX2_middleOf hN I0 M0 x2 ((60 : Int32) * x1) ⟨by omega, by omega⟩ ⟨by omega, by omega⟩ k_I0) (fun r1_q4852 h_r1_q4852 => ?_)
          obtain ⟨-⟩ := h_r1_q4852
          have b_4854 := i32b r1_q4852
          have t_4855 := i32b r1_q4852
          have t_4856 := ia_div2 r1_q4852 (60 : Int32) 60 il_60 (by decide)
          refine wq_v (fun v2_q4853 h_v2_q4853 => ?_)
          have t_v2_q4853 := congrArg Int32.toInt h_v2_q4853
          have l_6 := il_6
          have t_4857 := ia_sub x3 (6 : Int32) (by omega) (by omega)
          have l_10 := il_10
          refine wq_lt (fun hc_4858 => ?_) (fun hc_4859 => ?_)
          · have l_180 := il_180
            have t_4860 := ia_add v2_q4853 (180 : Int32) (by omega) (by omega)
            have t_4861 := ia_sub (v2_q4853 + (180 : Int32)) x1 (by omega) (by omega)
            have l_360 := il_360
            refine wq_b (tt_fJ9_floorMod_7cf53 hN ((v2_q4853 + (180 : Int32)) - x1) (360 : Int32) ⟨by omega, by omega⟩) (fun r3_q4862 h_r3_q4862 => ?_)
            obtain ⟨-⟩ := h_r3_q4862
            have l_3 := il_3
            have t_4864 := i32b (((x3 - (6 : Int32)) - (1 : Int32)) * r3_q4862)
            have t_4865 := ia_div2 (((x3 - (6 : Int32)) - (1 : Int32)) * r3_q4862) (3 : Int32) 3 il_3 (by decide)
            have t_4866 := ia_add x1 ((((x3 - (6 : Int32)) - (1 : Int32)) * r3_q4862) / (3 : Int32)) (by omega) (by omega)
            refine wq_v (fun v4_q4863 h_v4_q4863 => ?_)
            have t_v4_q4863 := congrArg Int32.toInt h_v4_q4863
            unfold fX2_houseByMiddle_J118
            refine wq_eq (fun hc_4867 => ?_) (fun hc_4868 => ?_)
            · exfalso; omega
            · have t_4869 := ia_add v4_q4863 (180 : Int32) (by omega) (by omega)
              have t_4870 := ia_rem2 (v4_q4863 + (180 : Int32)) (360 : Int32) 360 il_360 (by decide)
              exact wq_s ⟨(show -359 ≤ ((v4_q4863 + (180 : Int32)) - (((v4_q4863 + (180 : Int32)) / (360 : Int32)) * (360 : Int32))).toInt ∧ ((v4_q4863 + (180 : Int32)) - (((v4_q4863 + (180 : Int32)) / (360 : Int32)) * (360 : Int32))).toInt ≤ 359 from ⟨by omega, by omega⟩), trivial⟩
          · exfalso; omega
        · unfold fX2_houseByMiddle_J44
          have l_60 := il_60
          have t_4871 := ia_mul (60 : Int32) (60) il_60 x1 (by omega) (by omega)
          refine wq_b (tt_fX2_middleOf hN I0 M0 x2 ((60 : Int32) * x1) ⟨by omega, by omega⟩ ⟨by omega, by omega⟩ k_I0) (fun r1_q4872 h_r1_q4872 => ?_)
          obtain ⟨-⟩ := h_r1_q4872
          have b_4874 := i32b r1_q4872
          have t_4875 := i32b r1_q4872
          have t_4876 := ia_div2 r1_q4872 (60 : Int32) 60 il_60 (by decide)
          refine wq_v (fun v2_q4873 h_v2_q4873 => ?_)
          have t_v2_q4873 := congrArg Int32.toInt h_v2_q4873
          have l_6 := il_6
          have t_4877 := ia_add x3 (6 : Int32) (by omega) (by omega)
          have l_10 := il_10
          refine wq_lt (fun hc_4878 => ?_) (fun hc_4879 => ?_)
          · exfalso; omega
          · have t_4880 := ia_sub x1 v2_q4873 (by omega) (by omega)
            have l_360 := il_360
            refine wq_b (tt_fJ9_floorMod_7cf53 hN (x1 - v2_q4873) (360 : Int32) ⟨by omega, by omega⟩) (fun r5_q4881 h_r5_q4881 => ?_)
            obtain ⟨-⟩ := h_r5_q4881
            have l_3 := il_3
            have t_4883 := i32b (((x3 + (6 : Int32)) - (10 : Int32)) * r5_q4881)
            have t_4884 := ia_div2 (((x3 + (6 : Int32)) - (10 : Int32)) * r5_q4881) (3 : Int32) 3 il_3 (by decide)
            have t_4885 := ia_add v2_q4873 ((((x3 + (6 : Int32)) - (10 : Int32)) * r5_q4881) / (3 : Int32)) (by omega) (by omega)
            refine wq_v (fun v6_q4882 h_v6_q4882 => ?_)
            have t_v6_q4882 := congrArg Int32.toInt h_v6_q4882
            unfold fX2_houseByMiddle_J118
            refine wq_eq (fun hc_4886 => ?_) (fun hc_4887 => ?_)
            · exfalso; omega
            · have l_180 := il_180
              have t_4888 := ia_add v6_q4882 (180 : Int32) (by omega) (by omega)
              have t_4889 := ia_rem2 (v6_q4882 + (180 : Int32)) (360 : Int32) 360 il_360 (by decide)
              exact wq_s ⟨(show -359 ≤ ((v6_q4882 + (180 : Int32)) - (((v6_q4882 + (180 : Int32)) / (360 : Int32)) * (360 : Int32))).toInt ∧ ((v6_q4882 + (180 : Int32)) - (((v6_q4882 + (180 : Int32)) / (360 : Int32)) * (360 : Int32))).toInt ≤ 359 from ⟨by omega, by omega⟩), trivial⟩
set_option maxHeartbeats 4000000 in
theorem tt_fX2_houseDegree {N : Nat} (hN : 3000000000 ≤ N) (I0 : Nat → Int32) (M0 : Nat → Nat → Int32) (x1 : Int32) (x2 : Int32) (x3 : Int32) (x4 : Int32) (h_x1 : -1 ≤ x1.toInt ∧ x1.toInt ≤ 359) (h_x4 : 1 ≤ x4.toInt ∧ x4.toInt ≤ 12) (k_I0 : KX2 I0 M0) (hr_3 : (0 ≤ x2.toInt ∧ x2.toInt ≤ 1) ∨ (0 ≤ x3.toInt ∧ x3.toInt ≤ 6)) : wq (fX2_houseDegree N I0 M0 x1 x2 x3 x4) (fun r => True) := by
  unfold fX2_houseDegree
  have b_4956 := i32b x2
  have l_0 := il_0
  refine wq_eq (fun hc_4957 => ?_) (fun hc_4958 => ?_)
  · exact wq_s trivial
  · have l_1 := il_1
    refine wq_eq (fun hc_4959 => ?_) (fun hc_4960 => ?_)
    · have t_4961 := ia_sub x4 (1 : Int32) (by omega) (by omega)
      have l_30 := il_30
      have t_4962 := ia_mul (30 : Int32) (30) il_30 (x4 - (1 : Int32)) (by omega) (by omega)
      have t_4963 := ia_add x1 ((30 : Int32) * (x4 - (1 : Int32))) (by omega) (by omega)
      have l_360 := il_360
      have t_4964 := ia_rem2 (x1 + ((30 : Int32) * (x4 - (1 : Int32)))) (360 : Int32) 360 il_360 (by decide)
      exact wq_s trivial
    · have b_4965 := i32b x3
      refine wq_b (tt_fX2_houseByMiddle hN I0 M0 x1 x3 x4 ⟨by omega, by omega⟩ ⟨by omega, by omega⟩ ⟨by omega, by omega⟩ k_I0) (fun r1_q4966 h_r1_q4966 => ?_)
      obtain ⟨h_r1_q4966_0, -⟩ := h_r1_q4966
      exact wq_s trivial
set_option maxHeartbeats 4000000 in
theorem tt_fX1_howManyDiffer_L15 {N : Nat} (hN : 3000000000 ≤ N) (I0 : Nat → Int32) (M0 : Nat → Nat → Int32) (I1 : Nat → Int32) (M1 : Nat → Nat → Int32) (x2 : Int32) (x3 : Int32) (x4 : Int32) (r1 : Int32) (h_x2 : 0 ≤ x2.toInt ∧ x2.toInt ≤ 119) (h_r1 : -1 ≤ r1.toInt ∧ r1.toInt ≤ 359) (k_I0 : KX1 I0 M0) (k_I1 : KX2 I1 M1) (hr_4 : (0 ≤ x3.toInt ∧ x3.toInt ≤ 1) ∨ (0 ≤ x4.toInt ∧ x4.toInt ≤ 6))  : ∀ (fu : Nat) (y15_6 : Int32) (y15_7 : Int32), (1 ≤ y15_7.toInt ∧ y15_7.toInt ≤ 13) → (13 - y15_7.toInt) < (fu : Int) → wq (fX1_howManyDiffer_L15 N I0 M0 I1 M1 x2 x3 x4 r1 fu y15_6 y15_7) (fun r => True) := by
  intro fu
  induction fu with
  | zero => intro y15_6 y15_7 h_y15_7 hm; exfalso; omega
  | succ fu ih =>
    intro y15_6 y15_7 h_y15_7 hm
    rw [fX1_howManyDiffer_L15.eq_2]
    have l_12 := il_12
    refine wq_lt (fun hc_5501 => ?_) (fun hc_5502 => ?_)
    · have b_5503 := i32b y15_6
      exact wq_s trivial
    · have l_8 := il_8
      have t_5504 := ia_add (8 : Int32) y15_7 (by omega) (by omega)
      refine wq_b (tt_fX1_degreeOf hN I0 M0 x2 ((8 : Int32) + y15_7) ⟨by omega, by omega⟩ ⟨by omega, by omega⟩ k_I0) (fun r2_q5505 h_r2_q5505 => ?_)
      obtain ⟨h_r2_q5505_0, h_r2_q5505_1, -⟩ := h_r2_q5505
      have l_m1 := il_m1
      refine wq_eq (fun hc_5506 => ?_) (fun hc_5507 => ?_)
      · have l_1 := il_1
        have t_5509 := ia_add y15_7 (1 : Int32) (by omega) (by omega)
        refine wq_v (fun v3_q5508 h_v3_q5508 => ?_)
        have t_v3_q5508 := congrArg Int32.toInt h_v3_q5508
        have b_5510 := i32b y15_6
        exact ih y15_6 v3_q5508 ⟨by omega, by omega⟩ (by omega)
      · have b_5511 := i32b x3
        have b_5512 := i32b x4
        refine wq_b (tt_fX2_houseDegree hN I1 M1 r1 x3 x4 y15_7 ⟨by omega, by omega⟩ ⟨by omega, by omega⟩ k_I1 (by omega)) (fun r4_q5513 h_r4_q5513 => ?_)
        obtain ⟨-⟩ := h_r4_q5513
        have b_5514 := i32b r4_q5513
        refine wq_eq (fun hc_5515 => ?_) (fun hc_5516 => ?_)
        · have l_1 := il_1
          have t_5518 := ia_add y15_7 (1 : Int32) (by omega) (by omega)
          refine wq_v (fun v5_q5517 h_v5_q5517 => ?_)
          have t_v5_q5517 := congrArg Int32.toInt h_v5_q5517
          have b_5519 := i32b y15_6
          exact ih y15_6 v5_q5517 ⟨by omega, by omega⟩ (by omega)
        · have b_5521 := i32b y15_6
          have l_1 := il_1
          refine wq_v (fun v6_q5520 h_v6_q5520 => ?_)
          have t_v6_q5520 := congrArg Int32.toInt h_v6_q5520
          have t_5523 := ia_add y15_7 (1 : Int32) (by omega) (by omega)
          refine wq_v (fun v7_q5522 h_v7_q5522 => ?_)
          have t_v7_q5522 := congrArg Int32.toInt h_v7_q5522
          have b_5524 := i32b v6_q5520
          exact ih v6_q5520 v7_q5522 ⟨by omega, by omega⟩ (by omega)
set_option maxHeartbeats 4000000 in
theorem tt_fX1_howManyDiffer {N : Nat} (hN : 3000000000 ≤ N) (I0 : Nat → Int32) (M0 : Nat → Nat → Int32) (I1 : Nat → Int32) (M1 : Nat → Nat → Int32) (x2 : Int32) (x3 : Int32) (x4 : Int32) (h_x2 : 0 ≤ x2.toInt ∧ x2.toInt ≤ 119) (k_I0 : KX1 I0 M0) (k_I1 : KX2 I1 M1) (hr_3 : (0 ≤ x3.toInt ∧ x3.toInt ≤ 1) ∨ (0 ≤ x4.toInt ∧ x4.toInt ≤ 6)) : wq (fX1_howManyDiffer N I0 M0 I1 M1 x2 x3 x4) (fun r => True) := by
  unfold fX1_howManyDiffer
  have l_7 := il_7
  refine wq_b (tt_fX1_degreeOf hN I0 M0 x2 (7 : Int32) ⟨by omega, by omega⟩ ⟨by omega, by omega⟩ k_I0) (fun r1_q5525 h_r1_q5525 => ?_)
  obtain ⟨h_r1_q5525_0, h_r1_q5525_1, -⟩ := h_r1_q5525
  have b_5526 := i32b x3
  have b_5527 := i32b x4
  have l_0 := il_0
  have l_1 := il_1
  exact tt_fX1_howManyDiffer_L15 hN I0 M0 I1 M1 x2 x3 x4 r1_q5525 ⟨by omega, by omega⟩ ⟨by omega, by omega⟩ k_I0 k_I1 (by omega) N (0 : Int32) (1 : Int32) ⟨by omega, by omega⟩ (by omega)
set_option maxHeartbeats 4000000 in
theorem tt_fX1_lotOf {N : Nat} (hN : 3000000000 ≤ N) (I0 : Nat → Int32) (M0 : Nat → Nat → Int32) (x1 : Int32) (h_x1 : 0 ≤ x1.toInt ∧ x1.toInt ≤ 119) (k_I0 : KX1 I0 M0) : wq (fX1_lotOf N I0 M0 x1) (fun r => True) := by
  unfold fX1_lotOf
  have l_0 := il_0
  refine wq_b (tt_fX1_degreeOf hN I0 M0 x1 (0 : Int32) ⟨by omega, by omega⟩ ⟨by omega, by omega⟩ k_I0) (fun r3_q5684 h_r3_q5684 => ?_)
  obtain ⟨h_r3_q5684_0, h_r3_q5684_1, -⟩ := h_r3_q5684
  have l_1 := il_1
  refine wq_b (tt_fX1_degreeOf hN I0 M0 x1 (1 : Int32) ⟨by omega, by omega⟩ ⟨by omega, by omega⟩ k_I0) (fun r4_q5685 h_r4_q5685 => ?_)
  obtain ⟨h_r4_q5685_0, h_r4_q5685_1, -⟩ := h_r4_q5685
  have l_7 := il_7
  refine wq_b (tt_fX1_degreeOf hN I0 M0 x1 (7 : Int32) ⟨by omega, by omega⟩ ⟨by omega, by omega⟩ k_I0) (fun r5_q5686 h_r5_q5686 => ?_)
  obtain ⟨h_r5_q5686_0, h_r5_q5686_1, -⟩ := h_r5_q5686
  have l_m1 := il_m1
  refine wq_eq (fun hc_5687 => ?_) (fun hc_5688 => ?_)
  · exact wq_s trivial
  · refine wq_eq (fun hc_5689 => ?_) (fun hc_5690 => ?_)
    · exact wq_s trivial
    · refine wq_eq (fun hc_5691 => ?_) (fun hc_5692 => ?_)
      · exact wq_s trivial
      · have t_5693 := ia_sub r5_q5686 r3_q5684 (by omega) (by omega)
        have l_360 := il_360
        refine wq_b (tt_fJ9_floorMod_7cf53 hN (r5_q5686 - r3_q5684) (360 : Int32) ⟨by omega, by omega⟩) (fun r6_q5694 h_r6_q5694 => ?_)
        obtain ⟨-⟩ := h_r6_q5694
        have l_180 := il_180
        have b_5695 := i32b r6_q5694
        refine wq_le (fun hc_5696 => ?_) (fun hc_5697 => ?_)
        · unfold fX1_lotOf_J62
          refine wq_eq (fun hc_5698 => ?_) (fun hc_5699 => ?_)
          · have t_5700 := ia_add r5_q5686 r3_q5684 (by omega) (by omega)
            have t_5701 := ia_sub (r5_q5686 + r3_q5684) r4_q5685 (by omega) (by omega)
            refine wq_b (tt_fJ9_floorMod_7cf53 hN ((r5_q5686 + r3_q5684) - r4_q5685) (360 : Int32) ⟨by omega, by omega⟩) (fun r1_q5702 h_r1_q5702 => ?_)
            obtain ⟨-⟩ := h_r1_q5702
            have b_5703 := i32b r1_q5702
            exact wq_s trivial
          · exfalso; omega
        · unfold fX1_lotOf_J62
          refine wq_eq (fun hc_5704 => ?_) (fun hc_5705 => ?_)
          · exfalso; omega
          · have t_5706 := ia_add r5_q5686 r4_q5685 (by omega) (by omega)
            have t_5707 := ia_sub (r5_q5686 + r4_q5685) r3_q5684 (by omega) (by omega)
            refine wq_b (tt_fJ9_floorMod_7cf53 hN ((r5_q5686 + r4_q5685) - r3_q5684) (360 : Int32) ⟨by omega, by omega⟩) (fun r2_q5708 h_r2_q5708 => ?_)
            obtain ⟨-⟩ := h_r2_q5708
            have b_5709 := i32b r2_q5708
            exact wq_s trivial
set_option maxHeartbeats 4000000 in
theorem tt_fX1_howManyHanded_L6 {N : Nat} (hN : 3000000000 ≤ N) (I0 : Nat → Int32) (M0 : Nat → Nat → Int32) (x1 : Int32) (x2 : Int32) (x3 : Int32) (h_x1 : 0 ≤ x1.toInt ∧ x1.toInt ≤ 5) (h_x2 : 0 ≤ x2.toInt ∧ x2.toInt ≤ 5) (h_x3 : 0 ≤ x3.toInt ∧ x3.toInt ≤ 5) (k_I0 : KX1 I0 M0)  : ∀ (fu : Nat) (y6_4 : Int32) (y6_5 : Int32), (0 ≤ y6_5.toInt ∧ y6_5.toInt ≤ 440) → (440 - y6_5.toInt) < (fu : Int) → wq (fX1_howManyHanded_L6 N I0 M0 x1 x2 x3 fu y6_4 y6_5) (fun r => True) := by
  intro fu
  induction fu with
  | zero => intro y6_4 y6_5 h_y6_5 hm; exfalso; omega
  | succ fu ih =>
    intro y6_4 y6_5 h_y6_5 hm
    rw [fX1_howManyHanded_L6.eq_2]
    have l_440 := il_440
    refine wq_le (fun hc_6296 => ?_) (fun hc_6297 => ?_)
    · have b_6298 := i32b y6_4
      exact wq_s trivial
    · have t_6299 := ia_mul (440 : Int32) (440) il_440 x1 (by omega) (by omega)
      have t_6300 := ia_add ((440 : Int32) * x1) y6_5 (by omega) (by omega)
      refine wq_in (n := 2640) ⟨by omega, by omega⟩ ?_
      have t_6302 := KX1.m0 k_I0 ((((440 : Int32) * x1) + y6_5)).toNatClampNeg
      refine wq_v (fun v1_q6301 h_v1_q6301 => ?_)
      have t_v1_q6301 := congrArg Int32.toInt h_v1_q6301
      have t_6303 := ia_mul (440 : Int32) (440) il_440 x2 (by omega) (by omega)
      have t_6304 := ia_add ((440 : Int32) * x2) y6_5 (by omega) (by omega)
      refine wq_in (n := 2640) ⟨by omega, by omega⟩ ?_
      have t_6306 := KX1.m0 k_I0 ((((440 : Int32) * x2) + y6_5)).toNatClampNeg
      refine wq_v (fun v2_q6305 h_v2_q6305 => ?_)
      have t_v2_q6305 := congrArg Int32.toInt h_v2_q6305
      have t_6307 := ia_mul (440 : Int32) (440) il_440 x3 (by omega) (by omega)
      have t_6308 := ia_add ((440 : Int32) * x3) y6_5 (by omega) (by omega)
      refine wq_in (n := 2640) ⟨by omega, by omega⟩ ?_
      have t_6310 := KX1.m0 k_I0 ((((440 : Int32) * x3) + y6_5)).toNatClampNeg
      refine wq_v (fun v3_q6309 h_v3_q6309 => ?_)
      have t_v3_q6309 := congrArg Int32.toInt h_v3_q6309
      have l_m1 := il_m1
      refine wq_eq (fun hc_6311 => ?_) (fun hc_6312 => ?_)
      · have l_1 := il_1
        have t_6314 := ia_add y6_5 (1 : Int32) (by omega) (by omega)
        refine wq_v (fun v4_q6313 h_v4_q6313 => ?_)
        have t_v4_q6313 := congrArg Int32.toInt h_v4_q6313
        have b_6315 := i32b y6_4
        exact ih y6_4 v4_q6313 ⟨by omega, by omega⟩ (by omega)
      · refine wq_eq (fun hc_6316 => ?_) (fun hc_6317 => ?_)
        · refine wq_eq (fun hc_6318 => ?_) (fun hc_6319 => ?_)
          · have l_1 := il_1
            have t_6321 := ia_add y6_5 (1 : Int32) (by omega) (by omega)
            refine wq_v (fun v6_q6320 h_v6_q6320 => ?_)
            have t_v6_q6320 := congrArg Int32.toInt h_v6_q6320
            have b_6322 := i32b y6_4
            exact ih y6_4 v6_q6320 ⟨by omega, by omega⟩ (by omega)
          · refine wq_eq (fun hc_6323 => ?_) (fun hc_6324 => ?_)
            · have l_1 := il_1
              have t_6326 := ia_add y6_5 (1 : Int32) (by omega) (by omega)
              refine wq_v (fun v7_q6325 h_v7_q6325 => ?_)
              have t_v7_q6325 := congrArg Int32.toInt h_v7_q6325
              have b_6327 := i32b y6_4
              exact ih y6_4 v7_q6325 ⟨by omega, by omega⟩ (by omega)
            · have b_6329 := i32b y6_4
              have l_1 := il_1
              refine wq_v (fun v8_q6328 h_v8_q6328 => ?_)
              have t_v8_q6328 := congrArg Int32.toInt h_v8_q6328
              have t_6331 := ia_add y6_5 (1 : Int32) (by omega) (by omega)
              refine wq_v (fun v9_q6330 h_v9_q6330 => ?_)
              have t_v9_q6330 := congrArg Int32.toInt h_v9_q6330
              have b_6332 := i32b v8_q6328
              exact ih v8_q6328 v9_q6330 ⟨by omega, by omega⟩ (by omega)
        · have l_1 := il_1
          have t_6334 := ia_add y6_5 (1 : Int32) (by omega) (by omega)
          refine wq_v (fun v5_q6333 h_v5_q6333 => ?_)
          have t_v5_q6333 := congrArg Int32.toInt h_v5_q6333
          have b_6335 := i32b y6_4
          exact ih y6_4 v5_q6333 ⟨by omega, by omega⟩ (by omega)
set_option maxHeartbeats 4000000 in
theorem tt_fX1_howManyHanded {N : Nat} (hN : 3000000000 ≤ N) (I0 : Nat → Int32) (M0 : Nat → Nat → Int32) (x1 : Int32) (x2 : Int32) (x3 : Int32) (h_x1 : 0 ≤ x1.toInt ∧ x1.toInt ≤ 5) (h_x2 : 0 ≤ x2.toInt ∧ x2.toInt ≤ 5) (h_x3 : 0 ≤ x3.toInt ∧ x3.toInt ≤ 5) (k_I0 : KX1 I0 M0) : wq (fX1_howManyHanded N I0 M0 x1 x2 x3) (fun r => True) := by
  unfold fX1_howManyHanded
  have l_0 := il_0
  exact tt_fX1_howManyHanded_L6 hN I0 M0 x1 x2 x3 ⟨by omega, by omega⟩ ⟨by omega, by omega⟩ ⟨by omega, by omega⟩ k_I0 N (0 : Int32) (0 : Int32) ⟨by omega, by omega⟩ (by omega)
set_option maxHeartbeats 4000000 in
theorem tt_fX2_copyFrom {N : Nat} (hN : 3000000000 ≤ N) (I0 : Nat → Int32) (M0 : Nat → Nat → Int32) (I1 : Nat → Int32) (M1 : Nat → Nat → Int32) (k_I0 : KX2 I0 M0) (k_I1 : KX2 I1 M1) : wq (fX2_copyFrom N I0 M0 I1 M1) (fun r => KX2 r.1 r.2 ∧ True) := by
  unfold fX2_copyFrom
  refine wq_n (by decide) ?_
  refine wq_v (fun M0_1_q6351 h_M0_1_q6351 => ?_)
  have k_M0_1_q6351 : KX2 I0 M0_1_q6351 := by rw [h_M0_1_q6351]; exact KX2.sf0 k_I0
  refine wq_v (fun I0_2_q6352 h_I0_2_q6352 => ?_)
  have t_6353 := KX2.i0 k_I1
  have k_I0_2_q6352 : KX2 I0_2_q6352 M0_1_q6351 := by rw [h_I0_2_q6352]; exact KX2.si0 k_M0_1_q6351 ⟨by omega, by omega⟩
  exact wq_s ⟨k_I0_2_q6352, trivial⟩

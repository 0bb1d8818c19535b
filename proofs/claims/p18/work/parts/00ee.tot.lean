set_option maxHeartbeats 4000000 in
theorem tt_fX3_howManyAlone_L4 {N : Nat} (hN : 3000000000 ≤ N) (I0 : Nat → Int32) (M0 : Nat → Nat → Int32) (x1 : Int32)   : ∀ (fu : Nat) (y4_2 : Int32) (y4_3 : Int32), (0 ≤ y4_3.toInt ∧ y4_3.toInt ≤ 7) → (7 - y4_3.toInt) < (fu : Int) → wq (fX3_howManyAlone_L4 N I0 M0 x1 fu y4_2 y4_3) (fun r => True) := by
  intro fu
  induction fu with
  | zero => intro y4_2 y4_3 h_y4_3 hm; exfalso; omega
  | succ fu ih =>
    intro y4_2 y4_3 h_y4_3 hm
    rw [fX3_howManyAlone_L4.eq_2]
    have l_7 := il_7
    refine wq_le (fun hc_9440 => ?_) (fun hc_9441 => ?_)
    · have b_9442 := i32b y4_2
      exact wq_s trivial
    · refine wq_in (n := 7) ⟨by omega, by omega⟩ ?_
      have b_9443 := i32b x1
      refine wq_eq (fun hc_9444 => ?_) (fun hc_9445 => ?_)
      · have b_9447 := i32b y4_2
        have l_1 := il_1
        refine wq_v (fun v2_q9446 h_v2_q9446 => ?_)
        have t_v2_q9446 := congrArg Int32.toInt h_v2_q9446
        have t_9449 := ia_add y4_3 (1 : Int32) (by omega) (by omega)
        refine wq_v (fun v3_q9448 h_v3_q9448 => ?_)
        have t_v3_q9448 := congrArg Int32.toInt h_v3_q9448
        have b_9450 := i32b v2_q9446
        exact ih v2_q9446 v3_q9448 ⟨by omega, by omega⟩ (by omega)
      · have l_1 := il_1
        have t_9452 := ia_add y4_3 (1 : Int32) (by omega) (by omega)
        refine wq_v (fun v1_q9451 h_v1_q9451 => ?_)
        have t_v1_q9451 := congrArg Int32.toInt h_v1_q9451
        have b_9453 := i32b y4_2
        exact ih y4_2 v1_q9451 ⟨by omega, by omega⟩ (by omega)
set_option maxHeartbeats 4000000 in
theorem tt_fX3_howManyAlone {N : Nat} (hN : 3000000000 ≤ N) (I0 : Nat → Int32) (M0 : Nat → Nat → Int32) (x1 : Int32)  : wq (fX3_howManyAlone N I0 M0 x1) (fun r => True) := by
  unfold fX3_howManyAlone
  have b_9454 := i32b x1
  have l_0 := il_0
  exact tt_fX3_howManyAlone_L4 hN I0 M0 x1 N (0 : Int32) (0 : Int32) ⟨by omega, by omega⟩ (by omega)
noncomputable def bc_ok (n : Nat) : Bool := match fJ6_bitCount_0f7a4 0 (nI n) with
  | some r => decide (0 ≤ r.toInt ∧ r.toInt ≤ 7)
  | none => false
theorem bc_all : ∀ n : Nat, n < 255 → bc_ok n = true := by decide +kernel
theorem tt_fJ6_bitCount_0f7a4 {N : Nat} (hN : 3000000000 ≤ N) (x0 : Int32)  : wq (fJ6_bitCount_0f7a4 N x0) (fun r => ((0 ≤ r.toInt ∧ r.toInt ≤ 7) ∨ x0.toInt < 0 ∨ 254 < x0.toInt) ∧ True) := by
  obtain ⟨r, hr⟩ : ∃ r, fJ6_bitCount_0f7a4 N x0 = some r := ⟨_, rfl⟩
  refine ⟨r, hr, ?_, trivial⟩
  by_cases h : 0 ≤ x0.toInt ∧ x0.toInt ≤ 254
  · left
    have h2 := bc_all x0.toInt.toNat (by omega)
    unfold bc_ok at h2
    rw [← nI_back x0 h.1, show fJ6_bitCount_0f7a4 0 x0 = some r from hr] at h2
    exact of_decide_eq_true h2
  · omega
set_option maxHeartbeats 4000000 in
theorem tt_fX3_weightOf_L4 {N : Nat} (hN : 3000000000 ≤ N) (I0 : Nat → Int32) (M0 : Nat → Nat → Int32) (x1 : Int32)   : ∀ (fu : Nat) (y4_2 : Int32) (y4_3 : Int32), (0 ≤ y4_3.toInt ∧ y4_3.toInt ≤ 7) → (7 - y4_3.toInt) < (fu : Int) → wq (fX3_weightOf_L4 N I0 M0 x1 fu y4_2 y4_3) (fun r => True) := by
  intro fu
  induction fu with
  | zero => intro y4_2 y4_3 h_y4_3 hm; exfalso; omega
  | succ fu ih =>
    intro y4_2 y4_3 h_y4_3 hm
    rw [fX3_weightOf_L4.eq_2]
    have l_7 := il_7
    refine wq_le (fun hc_9723 => ?_) (fun hc_9724 => ?_)
    · have b_9725 := i32b y4_2
      exact wq_s trivial
    · refine wq_in (n := 7) ⟨by omega, by omega⟩ ?_
      refine wq_b (tt_fJ6_bitCount_0f7a4 hN (M0 0 y4_3.toNatClampNeg)) (fun r1_q9726 h_r1_q9726 => ?_)
      obtain ⟨h_r1_q9726_0, -⟩ := h_r1_q9726
      have b_9727 := i32b x1
      refine wq_b (tt_fX3_isShared hN I0 M0 y4_3 x1 ⟨by omega, by omega⟩) (fun r2_q9728 h_r2_q9728 => ?_)
      obtain ⟨h_r2_q9728_0, -⟩ := h_r2_q9728
      have l_0 := il_0
      refine wq_eq (fun hc_9729 => ?_) (fun hc_9730 => ?_)
      · have l_1 := il_1
        have t_9732 := ia_add y4_3 (1 : Int32) (by omega) (by omega)
        refine wq_v (fun v3_q9731 h_v3_q9731 => ?_)
        have t_v3_q9731 := congrArg Int32.toInt h_v3_q9731
        have b_9733 := i32b y4_2
        exact ih y4_2 v3_q9731 ⟨by omega, by omega⟩ (by omega)
      · have b_9734 := i32b r1_q9726
        refine wq_le (fun hc_9735 => ?_) (fun hc_9736 => ?_)
        · have l_1 := il_1
          have t_9738 := ia_add y4_3 (1 : Int32) (by omega) (by omega)
          refine wq_v (fun v4_q9737 h_v4_q9737 => ?_)
          have t_v4_q9737 := congrArg Int32.toInt h_v4_q9737
          have b_9739 := i32b y4_2
          exact ih y4_2 v4_q9737 ⟨by omega, by omega⟩ (by omega)
        · refine wq_nz (by omega) ?_
          have b_9741 := i32b y4_2
          refine wq_v (fun v5_q9740 h_v5_q9740 => ?_)
          have t_v5_q9740 := congrArg Int32.toInt h_v5_q9740
          have l_1 := il_1
          have t_9743 := ia_add y4_3 (1 : Int32) (by omega) (by omega)
          refine wq_v (fun v6_q9742 h_v6_q9742 => ?_)
          have t_v6_q9742 := congrArg Int32.toInt h_v6_q9742
          have b_9744 := i32b v5_q9740
          exact ih v5_q9740 v6_q9742 ⟨by omega, by omega⟩ (by omega)
set_option maxHeartbeats 4000000 in
theorem tt_fX3_weightOf {N : Nat} (hN : 3000000000 ≤ N) (I0 : Nat → Int32) (M0 : Nat → Nat → Int32) (x1 : Int32)  : wq (fX3_weightOf N I0 M0 x1) (fun r => True) := by
  unfold fX3_weightOf
  have b_9745 := i32b x1
  have l_0 := il_0
  exact tt_fX3_weightOf_L4 hN I0 M0 x1 N (0 : Int32) (0 : Int32) ⟨by omega, by omega⟩ (by omega)
set_option maxHeartbeats 4000000 in
theorem tt_fX3_setFollowed_L6 {N : Nat} (hN : 3000000000 ≤ N) (I0 : Nat → Int32) (M0 : Nat → Nat → Int32)   : ∀ (fu : Nat) (y6_1 : Int32) (y6_2 : Int32) (y6_3 : Int32), (0 ≤ y6_1.toInt ∧ y6_1.toInt ≤ 2147483647) → (-1 ≤ y6_2.toInt ∧ y6_2.toInt ≤ 3) → (1 ≤ y6_3.toInt ∧ y6_3.toInt ≤ 4) → (4 - y6_3.toInt) < (fu : Int) → wq (fX3_setFollowed_L6 N I0 M0 fu y6_1 y6_2 y6_3) (fun r => (-1 ≤ r.toInt ∧ r.toInt ≤ 3) ∧ True) := by
  intro fu
  induction fu with
  | zero => intro y6_1 y6_2 y6_3 h_y6_1 h_y6_2 h_y6_3 hm; exfalso; omega
  | succ fu ih =>
    intro y6_1 y6_2 y6_3 h_y6_1 h_y6_2 h_y6_3 hm
    rw [fX3_setFollowed_L6.eq_2]
    have l_4 := il_4
    refine wq_le (fun hc_9844 => ?_) (fun hc_9845 => ?_)
    · exact wq_s ⟨(show -1 ≤ y6_2.toInt ∧ y6_2.toInt ≤ 3 from ⟨by omega, by omega⟩), trivial⟩
    · refine wq_b (tt_fX3_weightOf hN I0 M0 y6_3) (fun r1_q9846 h_r1_q9846 => ?_)
      obtain ⟨-⟩ := h_r1_q9846
      have b_9847 := i32b r1_q9846
      have b_9848 := i32b y6_1
      refine wq_le (fun hc_9849 => ?_) (fun hc_9850 => ?_)
      · have l_1 := il_1
        have t_9852 := ia_add y6_3 (1 : Int32) (by omega) (by omega)
        refine wq_v (fun v2_q9851 h_v2_q9851 => ?_)
        have t_v2_q9851 := congrArg Int32.toInt h_v2_q9851
        exact ih y6_1 y6_2 v2_q9851 ⟨by omega, by omega⟩ ⟨by omega, by omega⟩ ⟨by omega, by omega⟩ (by omega)
      · have l_1 := il_1
        have t_9854 := ia_add y6_3 (1 : Int32) (by omega) (by omega)
        refine wq_v (fun v3_q9853 h_v3_q9853 => ?_)
        have t_v3_q9853 := congrArg Int32.toInt h_v3_q9853
        exact ih r1_q9846 y6_3 v3_q9853 ⟨by omega, by omega⟩ ⟨by omega, by omega⟩ ⟨by omega, by omega⟩ (by omega)
set_option maxHeartbeats 4000000 in
theorem tt_fX3_setFollowed {N : Nat} (hN : 3000000000 ≤ N) (I0 : Nat → Int32) (M0 : Nat → Nat → Int32)  : wq (fX3_setFollowed N I0 M0) (fun r => (-1 ≤ r.toInt ∧ r.toInt ≤ 3) ∧ True) := by
  unfold fX3_setFollowed
  have l_0 := il_0
  have l_m1 := il_m1
  have l_1 := il_1
  exact tt_fX3_setFollowed_L6 hN I0 M0 N (0 : Int32) ((-1) : Int32) (1 : Int32) ⟨by omega, by omega⟩ ⟨by omega, by omega⟩ ⟨by omega, by omega⟩ (by omega)
set_option maxHeartbeats 4000000 in
theorem tt_fX4_copyFrom {N : Nat} (hN : 3000000000 ≤ N) (I0 : Nat → Int32) (M0 : Nat → Nat → Int32) (I1 : Nat → Int32) (M1 : Nat → Nat → Int32)  : wq (fX4_copyFrom N I0 M0 I1 M1) (fun r => True) := by
  unfold fX4_copyFrom
  refine wq_n (by decide) ?_
  refine wq_v (fun M0_1_q9865 h_M0_1_q9865 => ?_)
  refine wq_v (fun I0_2_q9866 h_I0_2_q9866 => ?_)
  exact wq_s trivial
set_option maxHeartbeats 4000000 in
theorem tt_fX9_takeWord {N : Nat} (hN : 3000000000 ≤ N) (I0 : Nat → Int32) (M0 : Nat → Nat → Int32) (w1 : Nat) (k_I0 : KX9 I0 M0) (hr_1 : w1 < 19) : wq (fX9_takeWord N I0 M0 w1) (fun r => (0 ≤ r.1.toInt ∧ r.1.toInt ≤ 1) ∧ KX9 r.2.1 r.2.2 ∧ True) := by
  unfold fX9_takeWord
  refine wq_b (tt_fX9_isWord hN I0 M0 w1 k_I0 (by omega)) (fun r1_q9897 h_r1_q9897 => ?_)
  obtain ⟨h_r1_q9897_0, -⟩ := h_r1_q9897
  have l_0 := il_0
  refine wq_eq (fun hc_9898 => ?_) (fun hc_9899 => ?_)
  · have l_1 := il_1
    refine wq_b (tt_fX9_refuse hN I0 M0 (1 : Int32) k_I0) (fun r3_q9900 h_r3_q9900 => ?_)
    obtain ⟨h_r3_q9900_0, h_r3_q9900_1, -⟩ := h_r3_q9900
    refine wq_bz (by omega) ?_
    exact wq_s ⟨(show 0 ≤ r3_q9900.1.toInt ∧ r3_q9900.1.toInt ≤ 1 from ⟨by omega, by omega⟩), h_r3_q9900_1, trivial⟩
  · refine wq_b (tt_fX9_step hN I0 M0 k_I0) (fun r2_q9901 h_r2_q9901 => ?_)
    obtain ⟨h_r2_q9901_0, -⟩ := h_r2_q9901
    have l_1 := il_1
    exact wq_s ⟨(show 0 ≤ (1 : Int32).toInt ∧ (1 : Int32).toInt ≤ 1 from ⟨by omega, by omega⟩), h_r2_q9901_0, trivial⟩
set_option maxHeartbeats 4000000 in
theorem tt_fX4_readHand {N : Nat} (hN : 3000000000 ≤ N) (I0 : Nat → Int32) (M0 : Nat → Nat → Int32) (I1 : Nat → Int32) (M1 : Nat → Nat → Int32) (k_I1 : KX9 I1 M1) : wq (fX4_readHand N I0 M0 I1 M1) (fun r => (0 ≤ r.1.toInt ∧ r.1.toInt ≤ 1) ∧ KX9 r.2.2.2.1 r.2.2.2.2 ∧ True) := by
  unfold fX4_readHand
  have l_30 := il_30
  refine wq_lt (fun hc_10004 => ?_) (fun hc_10005 => ?_)
  · refine wq_b (tt_fX9_step hN I1 M1 k_I1) (fun r1_q10006 h_r1_q10006 => ?_)
    obtain ⟨h_r1_q10006_0, -⟩ := h_r1_q10006
    have l_0 := il_0
    have l_29 := il_29
    refine wq_b (tt_fX9_takeNumber hN r1_q10006.1 r1_q10006.2 (0 : Int32) (29 : Int32) h_r1_q10006_0) (fun r2_q10007 h_r2_q10007 => ?_)
    obtain ⟨h_r2_q10007_0, h_r2_q10007_1, h_r2_q10007_2, -⟩ := h_r2_q10007
    refine wq_eq (fun hc_10008 => ?_) (fun hc_10009 => ?_)
    · exact wq_s ⟨(show 0 ≤ (0 : Int32).toInt ∧ (0 : Int32).toInt ≤ 1 from ⟨by omega, by omega⟩), h_r2_q10007_2, trivial⟩
    · refine wq_v (fun v3_q10010 h_v3_q10010 => ?_)
      have t_v3_q10010 := congrArg Int32.toInt h_v3_q10010
      refine wq_b (tt_fX9_takeWord hN r2_q10007.2.1 r2_q10007.2.2 2 h_r2_q10007_2 (by omega)) (fun r4_q10011 h_r4_q10011 => ?_)
      obtain ⟨h_r4_q10011_0, h_r4_q10011_1, -⟩ := h_r4_q10011
      refine wq_eq (fun hc_10012 => ?_) (fun hc_10013 => ?_)
      · exact wq_s ⟨(show 0 ≤ (0 : Int32).toInt ∧ (0 : Int32).toInt ≤ 1 from ⟨by omega, by omega⟩), h_r4_q10011_1, trivial⟩
      · refine wq_b (tt_fX9_takeNumber hN r4_q10011.2.1 r4_q10011.2.2 (0 : Int32) (29 : Int32) h_r4_q10011_1) (fun r5_q10014 h_r5_q10014 => ?_)
        obtain ⟨h_r5_q10014_0, h_r5_q10014_1, h_r5_q10014_2, -⟩ := h_r5_q10014
        refine wq_eq (fun hc_10015 => ?_) (fun hc_10016 => ?_)
        · exact wq_s ⟨(show 0 ≤ (0 : Int32).toInt ∧ (0 : Int32).toInt ≤ 1 from ⟨by omega, by omega⟩), h_r5_q10014_2, trivial⟩
        · refine wq_in (n := 30) ⟨by omega, by omega⟩ ?_
          refine wq_in (n := 30) ⟨by omega, by omega⟩ ?_
          refine wq_v (fun M0_6_q10017 h_M0_6_q10017 => ?_)
          refine wq_v (fun I0_7_q10018 h_I0_7_q10018 => ?_)
          refine wq_b (tt_fX9_takeStop hN r5_q10014.2.1 r5_q10014.2.2 h_r5_q10014_2) (fun r8_q10019 h_r8_q10019 => ?_)
          obtain ⟨h_r8_q10019_0, h_r8_q10019_1, -⟩ := h_r8_q10019
          refine wq_bz (by omega) ?_
          exact wq_s ⟨(show 0 ≤ r8_q10019.1.toInt ∧ r8_q10019.1.toInt ≤ 1 from ⟨by omega, by omega⟩), h_r8_q10019_1, trivial⟩
  · have l_2 := il_2
    refine wq_b (tt_fX9_refuse hN I1 M1 (2 : Int32) k_I1) (fun r9b_q10020 h_r9b_q10020 => ?_)
    obtain ⟨h_r9b_q10020_0, h_r9b_q10020_1, -⟩ := h_r9b_q10020
    refine wq_bz (by omega) ?_
    exact wq_s ⟨(show 0 ≤ r9b_q10020.1.toInt ∧ r9b_q10020.1.toInt ≤ 1 from ⟨by omega, by omega⟩), h_r9b_q10020_1, trivial⟩
set_option maxHeartbeats 4000000 in
theorem tt_fX5_copyFrom {N : Nat} (hN : 3000000000 ≤ N) (I0 : Nat → Int32) (M0 : Nat → Nat → Int32) (I1 : Nat → Int32) (M1 : Nat → Nat → Int32) (k_I0 : KX5 I0 M0) (k_I1 : KX5 I1 M1) : wq (fX5_copyFrom N I0 M0 I1 M1) (fun r => KX5 r.1 r.2 ∧ True) := by
  unfold fX5_copyFrom
  refine wq_n (by decide) ?_
  refine wq_v (fun M0_1_q10071 h_M0_1_q10071 => ?_)
  have k_M0_1_q10071 : KX5 I0 M0_1_q10071 := by rw [h_M0_1_q10071]; exact KX5.sf0 k_I0
  refine wq_n (by decide) ?_
  refine wq_v (fun M0_2_q10072 h_M0_2_q10072 => ?_)
  have k_M0_2_q10072 : KX5 I0 M0_2_q10072 := by rw [h_M0_2_q10072]; exact KX5.sf1 k_M0_1_q10071
  refine wq_n (by decide) ?_
  refine wq_v (fun M0_3_q10073 h_M0_3_q10073 => ?_)
  have k_M0_3_q10073 : KX5 I0 M0_3_q10073 := by rw [h_M0_3_q10073]; exact KX5.sf2 k_M0_2_q10072
  refine wq_n (by decide) ?_
  refine wq_v (fun M0_4_q10074 h_M0_4_q10074 => ?_)
  have k_M0_4_q10074 : KX5 I0 M0_4_q10074 := by rw [h_M0_4_q10074]; exact KX5.sf3 k_M0_3_q10073
  refine wq_b (tt_fX2_copyFrom hN I0 (wb_sh M0_4_q10074 4) I1 (wb_sh M1 4) (KX5.s_X2_0_4 k_M0_4_q10074) (KX5.s_X2_0_4 k_I1)) (fun r5_q10075 h_r5_q10075 => ?_)
  obtain ⟨h_r5_q10075_0, -⟩ := h_r5_q10075
  refine wq_v (fun I0_6_q10076 h_I0_6_q10076 => ?_)
  refine wq_v (fun M0_7_q10077 h_M0_7_q10077 => ?_)
  have k_M0_7_q10077 : KX5 I0_6_q10076 M0_7_q10077 := by rw [h_I0_6_q10076, h_M0_7_q10077]; exact (KX5.p_X2_0_4 k_M0_4_q10074 h_r5_q10075_0)
  refine wq_b (tt_fX4_copyFrom hN (wb_sh I0_6_q10076 1) (wb_sh M0_7_q10077 5) (wb_sh I1 1) (wb_sh M1 5)) (fun r8_q10078 h_r8_q10078 => ?_)
  obtain ⟨-⟩ := h_r8_q10078
  refine wq_v (fun I0_9_q10079 h_I0_9_q10079 => ?_)
  refine wq_v (fun M0_10_q10080 h_M0_10_q10080 => ?_)
  have k_M0_10_q10080 : KX5 I0_9_q10079 M0_10_q10080 := by rw [h_I0_9_q10079, h_M0_10_q10080]; exact (KX5.p_X4_1_5 k_M0_7_q10077)
  exact wq_s ⟨k_M0_10_q10080, trivial⟩
set_option maxHeartbeats 4000000 in
theorem tt_fX5_readTable {N : Nat} (hN : 3000000000 ≤ N) (I0 : Nat → Int32) (M0 : Nat → Nat → Int32) (I1 : Nat → Int32) (M1 : Nat → Nat → Int32) (x2 : Int32) (h_x2 : 0 ≤ x2.toInt ∧ x2.toInt ≤ 27) (k_I0 : KX5 I0 M0) (k_I1 : KX9 I1 M1) : wq (fX5_readTable N I0 M0 I1 M1 x2) (fun r => (0 ≤ r.1.toInt ∧ r.1.toInt ≤ 1) ∧ KX5 r.2.1 r.2.2.1 ∧ KX9 r.2.2.2.1 r.2.2.2.2 ∧ True) := by
  unfold fX5_readTable
  refine wq_b (tt_fX9_takeWord hN I1 M1 6 k_I1 (by omega)) (fun r1_q10267 h_r1_q10267 => ?_)
  obtain ⟨h_r1_q10267_0, h_r1_q10267_1, -⟩ := h_r1_q10267
  have l_0 := il_0
  refine wq_eq (fun hc_10268 => ?_) (fun hc_10269 => ?_)
  · exact wq_s ⟨(show 0 ≤ (0 : Int32).toInt ∧ (0 : Int32).toInt ≤ 1 from ⟨by omega, by omega⟩), k_I0, h_r1_q10267_1, trivial⟩
  · have l_21599 := il_21599
    refine wq_b (tt_fX9_takeNumber hN r1_q10267.2.1 r1_q10267.2.2 (0 : Int32) (21599 : Int32) h_r1_q10267_1) (fun r2_q10270 h_r2_q10270 => ?_)
    obtain ⟨h_r2_q10270_0, h_r2_q10270_1, h_r2_q10270_2, -⟩ := h_r2_q10270
    refine wq_eq (fun hc_10271 => ?_) (fun hc_10272 => ?_)
    · exact wq_s ⟨(show 0 ≤ (0 : Int32).toInt ∧ (0 : Int32).toInt ≤ 1 from ⟨by omega, by omega⟩), k_I0, h_r2_q10270_2, trivial⟩
    · refine wq_in (n := 28) ⟨by omega, by omega⟩ ?_
      refine wq_v (fun M0_3_q10273 h_M0_3_q10273 => ?_)
      have k_M0_3_q10273 : KX5 I0 M0_3_q10273 := by rw [h_M0_3_q10273]; exact KX5.sm0 k_I0
      refine wq_b (tt_fX9_takeWord hN r2_q10270.2.1 r2_q10270.2.2 7 h_r2_q10270_2 (by omega)) (fun r4_q10274 h_r4_q10274 => ?_)
      obtain ⟨h_r4_q10274_0, h_r4_q10274_1, -⟩ := h_r4_q10274
      refine wq_eq (fun hc_10275 => ?_) (fun hc_10276 => ?_)
      · exact wq_s ⟨(show 0 ≤ (0 : Int32).toInt ∧ (0 : Int32).toInt ≤ 1 from ⟨by omega, by omega⟩), k_M0_3_q10273, h_r4_q10274_1, trivial⟩
      · have l_2000000 := il_2000000
        refine wq_b (tt_fX9_takeNumber hN r4_q10274.2.1 r4_q10274.2.2 (0 : Int32) (2000000 : Int32) h_r4_q10274_1) (fun r5_q10277 h_r5_q10277 => ?_)
        obtain ⟨h_r5_q10277_0, h_r5_q10277_1, h_r5_q10277_2, -⟩ := h_r5_q10277
        refine wq_eq (fun hc_10278 => ?_) (fun hc_10279 => ?_)
        · exact wq_s ⟨(show 0 ≤ (0 : Int32).toInt ∧ (0 : Int32).toInt ≤ 1 from ⟨by omega, by omega⟩), k_M0_3_q10273, h_r5_q10277_2, trivial⟩
        · refine wq_in (n := 28) ⟨by omega, by omega⟩ ?_
          refine wq_v (fun M0_6_q10280 h_M0_6_q10280 => ?_)
          have k_M0_6_q10280 : KX5 I0 M0_6_q10280 := by rw [h_M0_6_q10280]; exact KX5.sm1 k_M0_3_q10273
          refine wq_in (n := 28) ⟨by omega, by omega⟩ ?_
          refine wq_v (fun M0_7_q10281 h_M0_7_q10281 => ?_)
          have k_M0_7_q10281 : KX5 I0 M0_7_q10281 := by rw [h_M0_7_q10281]; exact KX5.sm2 k_M0_6_q10280
          refine wq_in (n := 28) ⟨by omega, by omega⟩ ?_
          refine wq_v (fun M0_8_q10282 h_M0_8_q10282 => ?_)
          have k_M0_8_q10282 : KX5 I0 M0_8_q10282 := by rw [h_M0_8_q10282]; exact KX5.sm3 k_M0_7_q10281
          refine wq_b (tt_fX9_isWord hN r5_q10277.2.1 r5_q10277.2.2 8 h_r5_q10277_2 (by omega)) (fun r9b_q10283 h_r9b_q10283 => ?_)
          obtain ⟨h_r9b_q10283_0, -⟩ := h_r9b_q10283
          refine wq_eq (fun hc_10284 => ?_) (fun hc_10285 => ?_)
          · have l_1 := il_1
            exact wq_s ⟨(show 0 ≤ (1 : Int32).toInt ∧ (1 : Int32).toInt ≤ 1 from ⟨by omega, by omega⟩), k_M0_8_q10282, h_r5_q10277_2, trivial⟩
          · refine wq_b (tt_fX9_step hN r5_q10277.2.1 r5_q10277.2.2 h_r5_q10277_2) (fun r10_q10286 h_r10_q10286 => ?_)
            obtain ⟨h_r10_q10286_0, -⟩ := h_r10_q10286
            have l_10800 := il_10800
            refine wq_b (tt_fX9_takeNumber hN r10_q10286.1 r10_q10286.2 (0 : Int32) (10800 : Int32) h_r10_q10286_0) (fun r11_q10287 h_r11_q10287 => ?_)
            obtain ⟨h_r11_q10287_0, h_r11_q10287_1, h_r11_q10287_2, -⟩ := h_r11_q10287
            refine wq_eq (fun hc_10288 => ?_) (fun hc_10289 => ?_)
            · exact wq_s ⟨(show 0 ≤ (0 : Int32).toInt ∧ (0 : Int32).toInt ≤ 1 from ⟨by omega, by omega⟩), k_M0_8_q10282, h_r11_q10287_2, trivial⟩
            · refine wq_in (n := 28) ⟨by omega, by omega⟩ ?_
              refine wq_v (fun M0_12_q10290 h_M0_12_q10290 => ?_)
              have k_M0_12_q10290 : KX5 I0 M0_12_q10290 := by rw [h_M0_12_q10290]; exact KX5.sm2 k_M0_8_q10282
              refine wq_b (tt_fX9_takeWord hN r11_q10287.2.1 r11_q10287.2.2 9 h_r11_q10287_2 (by omega)) (fun r13_q10291 h_r13_q10291 => ?_)
              obtain ⟨h_r13_q10291_0, h_r13_q10291_1, -⟩ := h_r13_q10291
              refine wq_eq (fun hc_10292 => ?_) (fun hc_10293 => ?_)
              · exact wq_s ⟨(show 0 ≤ (0 : Int32).toInt ∧ (0 : Int32).toInt ≤ 1 from ⟨by omega, by omega⟩), k_M0_12_q10290, h_r13_q10291_1, trivial⟩
              · have l_2 := il_2
                have l_1000000 := il_1000000
                refine wq_b (tt_fX9_takeNumber hN r13_q10291.2.1 r13_q10291.2.2 (2 : Int32) (1000000 : Int32) h_r13_q10291_1) (fun r14_q10294 h_r14_q10294 => ?_)
                obtain ⟨h_r14_q10294_0, h_r14_q10294_1, h_r14_q10294_2, -⟩ := h_r14_q10294
                refine wq_eq (fun hc_10295 => ?_) (fun hc_10296 => ?_)
                · exact wq_s ⟨(show 0 ≤ (0 : Int32).toInt ∧ (0 : Int32).toInt ≤ 1 from ⟨by omega, by omega⟩), k_M0_12_q10290, h_r14_q10294_2, trivial⟩
                · refine wq_in (n := 28) ⟨by omega, by omega⟩ ?_
                  refine wq_v (fun M0_15_q10297 h_M0_15_q10297 => ?_)
                  have k_M0_15_q10297 : KX5 I0 M0_15_q10297 := by rw [h_M0_15_q10297]; exact KX5.sm3 k_M0_12_q10290
                  have l_1 := il_1
                  exact wq_s ⟨(show 0 ≤ (1 : Int32).toInt ∧ (1 : Int32).toInt ≤ 1 from ⟨by omega, by omega⟩), k_M0_15_q10297, h_r14_q10294_2, trivial⟩
set_option maxHeartbeats 4000000 in
theorem tt_fX5_readSet {N : Nat} (hN : 3000000000 ≤ N) (I0 : Nat → Int32) (M0 : Nat → Nat → Int32) (I1 : Nat → Int32) (M1 : Nat → Nat → Int32) (k_I0 : KX5 I0 M0) (k_I1 : KX9 I1 M1) : wq (fX5_readSet N I0 M0 I1 M1) (fun r => (0 ≤ r.1.toInt ∧ r.1.toInt ≤ 1) ∧ KX5 r.2.1 r.2.2.1 ∧ KX9 r.2.2.2.1 r.2.2.2.2 ∧ True) := by
  unfold fX5_readSet
  refine wq_b (tt_fX9_step hN I1 M1 k_I1) (fun r1_q10406 h_r1_q10406 => ?_)
  obtain ⟨h_r1_q10406_0, -⟩ := h_r1_q10406
  have l_0 := il_0
  have l_3 := il_3
  refine wq_b (tt_fX9_takeNumber hN r1_q10406.1 r1_q10406.2 (0 : Int32) (3 : Int32) h_r1_q10406_0) (fun r2_q10407 h_r2_q10407 => ?_)
  obtain ⟨h_r2_q10407_0, h_r2_q10407_1, h_r2_q10407_2, -⟩ := h_r2_q10407
  refine wq_eq (fun hc_10408 => ?_) (fun hc_10409 => ?_)
  · exact wq_s ⟨(show 0 ≤ (0 : Int32).toInt ∧ (0 : Int32).toInt ≤ 1 from ⟨by omega, by omega⟩), k_I0, h_r2_q10407_2, trivial⟩
  · refine wq_v (fun v3_q10410 h_v3_q10410 => ?_)
    have t_v3_q10410 := congrArg Int32.toInt h_v3_q10410
    have l_7 := il_7
    refine wq_b (tt_fX9_namedOf hN r2_q10407.2.1 r2_q10407.2.2 (7 : Int32) ⟨by omega, by omega⟩ h_r2_q10407_2) (fun r4_q10411 h_r4_q10411 => ?_)
    obtain ⟨h_r4_q10411_0, h_r4_q10411_1, -⟩ := h_r4_q10411
    have l_m1 := il_m1
    refine wq_eq (fun hc_10412 => ?_) (fun hc_10413 => ?_)
    · have l_1 := il_1
      refine wq_b (tt_fX9_refuse hN r2_q10407.2.1 r2_q10407.2.2 (1 : Int32) h_r2_q10407_2) (fun r8_q10414 h_r8_q10414 => ?_)
      obtain ⟨h_r8_q10414_0, h_r8_q10414_1, -⟩ := h_r8_q10414
      refine wq_bz (by omega) ?_
      exact wq_s ⟨(show 0 ≤ r8_q10414.1.toInt ∧ r8_q10414.1.toInt ≤ 1 from ⟨by omega, by omega⟩), k_I0, h_r8_q10414_1, trivial⟩
    · refine wq_b (tt_fX9_step hN r2_q10407.2.1 r2_q10407.2.2 h_r2_q10407_2) (fun r5_q10415 h_r5_q10415 => ?_)
      obtain ⟨h_r5_q10415_0, -⟩ := h_r5_q10415
      have t_10416 := ia_mul (7 : Int32) (7) il_7 v3_q10410 (by omega) (by omega)
      have t_10417 := ia_add ((7 : Int32) * v3_q10410) r4_q10411 (by omega) (by omega)
      refine wq_b (tt_fX5_readTable hN I0 M0 r5_q10415.1 r5_q10415.2 (((7 : Int32) * v3_q10410) + r4_q10411) ⟨by omega, by omega⟩ k_I0 h_r5_q10415_0) (fun r6_q10418 h_r6_q10418 => ?_)
      obtain ⟨h_r6_q10418_0, h_r6_q10418_1, h_r6_q10418_2, -⟩ := h_r6_q10418
      refine wq_eq (fun hc_10419 => ?_) (fun hc_10420 => ?_)
      · exact wq_s ⟨(show 0 ≤ (0 : Int32).toInt ∧ (0 : Int32).toInt ≤ 1 from ⟨by omega, by omega⟩), h_r6_q10418_1, h_r6_q10418_2, trivial⟩
      · refine wq_b (tt_fX9_takeStop hN r6_q10418.2.2.2.1 r6_q10418.2.2.2.2 h_r6_q10418_2) (fun r7_q10421 h_r7_q10421 => ?_)
        obtain ⟨h_r7_q10421_0, h_r7_q10421_1, -⟩ := h_r7_q10421
        refine wq_eq (fun hc_10422 => ?_) (fun hc_10423 => ?_)
        · exact wq_s ⟨(show 0 ≤ (0 : Int32).toInt ∧ (0 : Int32).toInt ≤ 1 from ⟨by omega, by omega⟩), h_r6_q10418_1, h_r7_q10421_1, trivial⟩
        · have l_1 := il_1
          exact wq_s ⟨(show 0 ≤ (1 : Int32).toInt ∧ (1 : Int32).toInt ≤ 1 from ⟨by omega, by omega⟩), h_r6_q10418_1, h_r7_q10421_1, trivial⟩
set_option maxHeartbeats 4000000 in
theorem tt_fX5_readLines_L4 {N : Nat} (hN : 3000000000 ≤ N)    : ∀ (fu : Nat) (I0_l4 : (Nat → Int32)) (M0_l4 : (Nat → Nat → Int32)) (I1_l4 : (Nat → Int32)) (M1_l4 : (Nat → Nat → Int32)) (y4_2 : Int32) (y4_3 : Int32), (0 ≤ y4_2.toInt ∧ y4_2.toInt ≤ 1) → (0 ≤ y4_3.toInt ∧ y4_3.toInt ≤ 600) → (KX5 I0_l4 M0_l4) → (KX9 I1_l4 M1_l4) → (600 - y4_3.toInt) < (fu : Int) → wq (fX5_readLines_L4 N fu I0_l4 M0_l4 I1_l4 M1_l4 y4_2 y4_3) (fun r => (0 ≤ r.1.toInt ∧ r.1.toInt ≤ 1) ∧ KX5 r.2.1 r.2.2.1 ∧ KX9 r.2.2.2.1 r.2.2.2.2 ∧ True) := by
  intro fu
  induction fu with
  | zero => intro I0_l4 M0_l4 I1_l4 M1_l4 y4_2 y4_3 h_y4_2 h_y4_3 k_I0_l4 k_I1_l4 hm; exfalso; omega
  | succ fu ih =>
    intro I0_l4 M0_l4 I1_l4 M1_l4 y4_2 y4_3 h_y4_2 h_y4_3 k_I0_l4 k_I1_l4 hm
    rw [fX5_readLines_L4.eq_2]
    have l_600 := il_600
    refine wq_le (fun hc_10784 => ?_) (fun hc_10785 => ?_)
    · refine wq_bz (by omega) ?_
      exact wq_s ⟨(show 0 ≤ y4_2.toInt ∧ y4_2.toInt ≤ 1 from ⟨by omega, by omega⟩), k_I0_l4, k_I1_l4, trivial⟩
    · have l_0 := il_0
      refine wq_eq (fun hc_10786 => ?_) (fun hc_10787 => ?_)
      · refine wq_bz (by omega) ?_
        exact wq_s ⟨(show 0 ≤ y4_2.toInt ∧ y4_2.toInt ≤ 1 from ⟨by omega, by omega⟩), k_I0_l4, k_I1_l4, trivial⟩
      · refine wq_b (tt_fX9_isAtEnd hN I1_l4 M1_l4 k_I1_l4) (fun r1_q10788 h_r1_q10788 => ?_)
        obtain ⟨h_r1_q10788_0, -⟩ := h_r1_q10788
        refine wq_eq (fun hc_10789 => ?_) (fun hc_10790 => ?_)
        · refine wq_b (tt_fX9_isWord hN I1_l4 M1_l4 3 k_I1_l4 (by omega)) (fun r2_q10791 h_r2_q10791 => ?_)
          obtain ⟨h_r2_q10791_0, -⟩ := h_r2_q10791
          refine wq_eq (fun hc_10792 => ?_) (fun hc_10793 => ?_)
          · refine wq_b (tt_fX9_isWord hN I1_l4 M1_l4 4 k_I1_l4 (by omega)) (fun r3_q10794 h_r3_q10794 => ?_)
            obtain ⟨h_r3_q10794_0, -⟩ := h_r3_q10794
            refine wq_eq (fun hc_10795 => ?_) (fun hc_10796 => ?_)
            · refine wq_b (tt_fX9_isWord hN I1_l4 M1_l4 5 k_I1_l4 (by omega)) (fun r4_q10797 h_r4_q10797 => ?_)
              obtain ⟨h_r4_q10797_0, -⟩ := h_r4_q10797
              refine wq_eq (fun hc_10798 => ?_) (fun hc_10799 => ?_)
              · have l_1 := il_1
                refine wq_b (tt_fX9_refuse hN I1_l4 M1_l4 (1 : Int32) k_I1_l4) (fun r5_q10800 h_r5_q10800 => ?_)
                obtain ⟨h_r5_q10800_0, h_r5_q10800_1, -⟩ := h_r5_q10800
                refine wq_v (fun v6_q10801 h_v6_q10801 => ?_)
                have t_v6_q10801 := congrArg Int32.toInt h_v6_q10801
                have t_10803 := ia_add y4_3 (1 : Int32) (by omega) (by omega)
                refine wq_v (fun v7_q10802 h_v7_q10802 => ?_)
                have t_v7_q10802 := congrArg Int32.toInt h_v7_q10802
                exact ih I0_l4 M0_l4 r5_q10800.2.1 r5_q10800.2.2 v6_q10801 v7_q10802 ⟨by omega, by omega⟩ ⟨by omega, by omega⟩ k_I0_l4 h_r5_q10800_1 (by omega)
              · refine wq_b (tt_fX4_readHand hN (wb_sh I0_l4 1) (wb_sh M0_l4 5) I1_l4 M1_l4 k_I1_l4) (fun r8_q10804 h_r8_q10804 => ?_)
                obtain ⟨h_r8_q10804_0, h_r8_q10804_1, -⟩ := h_r8_q10804
                refine wq_v (fun I0_9_q10805 h_I0_9_q10805 => ?_)
                refine wq_v (fun M0_10_q10806 h_M0_10_q10806 => ?_)
                have k_M0_10_q10806 : KX5 I0_9_q10805 M0_10_q10806 := by rw [h_I0_9_q10805, h_M0_10_q10806]; exact (KX5.p_X4_1_5 k_I0_l4)
                refine wq_v (fun v11_q10807 h_v11_q10807 => ?_)
                have t_v11_q10807 := congrArg Int32.toInt h_v11_q10807
                have l_1 := il_1
                have t_10809 := ia_add y4_3 (1 : Int32) (by omega) (by omega)
                refine wq_v (fun v12_q10808 h_v12_q10808 => ?_)
                have t_v12_q10808 := congrArg Int32.toInt h_v12_q10808
                exact ih I0_9_q10805 M0_10_q10806 r8_q10804.2.2.2.1 r8_q10804.2.2.2.2 v11_q10807 v12_q10808 ⟨by omega, by omega⟩ ⟨by omega, by omega⟩ k_M0_10_q10806 h_r8_q10804_1 (by omega)
            · refine wq_b (tt_fX2_readClimate hN I0_l4 (wb_sh M0_l4 4) I1_l4 M1_l4 (KX5.s_X2_0_4 k_I0_l4) k_I1_l4) (fun r13_q10810 h_r13_q10810 => ?_)
              obtain ⟨h_r13_q10810_0, h_r13_q10810_1, h_r13_q10810_2, -⟩ := h_r13_q10810
              refine wq_v (fun I0_14_q10811 h_I0_14_q10811 => ?_)
              refine wq_v (fun M0_15_q10812 h_M0_15_q10812 => ?_)
              have k_M0_15_q10812 : KX5 I0_14_q10811 M0_15_q10812 := by rw [h_I0_14_q10811, h_M0_15_q10812]; exact (KX5.p_X2_0_4 k_I0_l4 h_r13_q10810_1)
              refine wq_v (fun v16_q10813 h_v16_q10813 => ?_)
              have t_v16_q10813 := congrArg Int32.toInt h_v16_q10813
              have l_1 := il_1
              have t_10815 := ia_add y4_3 (1 : Int32) (by omega) (by omega)
              refine wq_v (fun v17_q10814 h_v17_q10814 => ?_)
              have t_v17_q10814 := congrArg Int32.toInt h_v17_q10814
              exact ih I0_14_q10811 M0_15_q10812 r13_q10810.2.2.2.1 r13_q10810.2.2.2.2 v16_q10813 v17_q10814 ⟨by omega, by omega⟩ ⟨by omega, by omega⟩ k_M0_15_q10812 h_r13_q10810_2 (by omega)
          · refine wq_b (tt_fX5_readSet hN I0_l4 M0_l4 I1_l4 M1_l4 k_I0_l4 k_I1_l4) (fun r18_q10816 h_r18_q10816 => ?_)
            obtain ⟨h_r18_q10816_0, h_r18_q10816_1, h_r18_q10816_2, -⟩ := h_r18_q10816
            refine wq_v (fun v19_q10817 h_v19_q10817 => ?_)
            have t_v19_q10817 := congrArg Int32.toInt h_v19_q10817
            have l_1 := il_1
            have t_10819 := ia_add y4_3 (1 : Int32) (by omega) (by omega)
            refine wq_v (fun v20_q10818 h_v20_q10818 => ?_)
            have t_v20_q10818 := congrArg Int32.toInt h_v20_q10818
            exact ih r18_q10816.2.1 r18_q10816.2.2.1 r18_q10816.2.2.2.1 r18_q10816.2.2.2.2 v19_q10817 v20_q10818 ⟨by omega, by omega⟩ ⟨by omega, by omega⟩ h_r18_q10816_1 h_r18_q10816_2 (by omega)
        · refine wq_bz (by omega) ?_
          exact wq_s ⟨(show 0 ≤ y4_2.toInt ∧ y4_2.toInt ≤ 1 from ⟨by omega, by omega⟩), k_I0_l4, k_I1_l4, trivial⟩
set_option maxHeartbeats 4000000 in
theorem tt_fX5_readLines {N : Nat} (hN : 3000000000 ≤ N) (I0 : Nat → Int32) (M0 : Nat → Nat → Int32) (I1 : Nat → Int32) (M1 : Nat → Nat → Int32) (k_I0 : KX5 I0 M0) (k_I1 : KX9 I1 M1) : wq (fX5_readLines N I0 M0 I1 M1) (fun r => (0 ≤ r.1.toInt ∧ r.1.toInt ≤ 1) ∧ KX5 r.2.1 r.2.2.1 ∧ KX9 r.2.2.2.1 r.2.2.2.2 ∧ True) := by
  unfold fX5_readLines
  have l_1 := il_1
  have l_0 := il_0
  exact tt_fX5_readLines_L4 hN N I0 M0 I1 M1 (1 : Int32) (0 : Int32) ⟨by omega, by omega⟩ ⟨by omega, by omega⟩ k_I0 k_I1 (by omega)
set_option maxHeartbeats 4000000 in
theorem tt_fX6_placeOf_L2 {N : Nat} (hN : 3000000000 ≤ N) (I0 : Nat → Int32) (M0 : Nat → Nat → Int32) (x1 : Int32) (x2 : Int32) (h_x1 : 0 ≤ x1.toInt ∧ x1.toInt ≤ 5) (k_I0 : KX6 I0 M0)  : ∀ (fu : Nat) (y2_3 : Int32), (0 ≤ y2_3.toInt ∧ y2_3.toInt ≤ 20) → (20 - y2_3.toInt) < (fu : Int) → wq (fX6_placeOf_L2 N I0 M0 x1 x2 fu y2_3) (fun r => (-1 ≤ r.toInt ∧ r.toInt ≤ 19) ∧ True) := by
  intro fu
  induction fu with
  | zero => intro y2_3 h_y2_3 hm; exfalso; omega
  | succ fu ih =>
    intro y2_3 h_y2_3 hm
    rw [fX6_placeOf_L2.eq_2]
    refine wq_in (n := 6) ⟨by omega, by omega⟩ ?_
    have t_10952 := KX6.m1 k_I0 x1.toNatClampNeg
    refine wq_le (fun hc_10953 => ?_) (fun hc_10954 => ?_)
    · have l_m1 := il_m1
      exact wq_s ⟨(show -1 ≤ (-1 : Int32).toInt ∧ (-1 : Int32).toInt ≤ 19 from ⟨by omega, by omega⟩), trivial⟩
    · have l_20 := il_20
      have t_10955 := ia_mul (20 : Int32) (20) il_20 x1 (by omega) (by omega)
      have t_10956 := ia_add ((20 : Int32) * x1) y2_3 (by omega) (by omega)
      refine wq_in (n := 120) ⟨by omega, by omega⟩ ?_
      have b_10957 := i32b x2
      refine wq_eq (fun hc_10958 => ?_) (fun hc_10959 => ?_)
      · exact wq_s ⟨(show -1 ≤ y2_3.toInt ∧ y2_3.toInt ≤ 19 from ⟨by omega, by omega⟩), trivial⟩
      · have l_1 := il_1
        have t_10961 := ia_add y2_3 (1 : Int32) (by omega) (by omega)
        refine wq_v (fun v1_q10960 h_v1_q10960 => ?_)
        have t_v1_q10960 := congrArg Int32.toInt h_v1_q10960
        exact ih v1_q10960 ⟨by omega, by omega⟩ (by omega)
set_option maxHeartbeats 4000000 in
theorem tt_fX6_placeOf {N : Nat} (hN : 3000000000 ≤ N) (I0 : Nat → Int32) (M0 : Nat → Nat → Int32) (x1 : Int32) (x2 : Int32) (h_x1 : 0 ≤ x1.toInt ∧ x1.toInt ≤ 5) (k_I0 : KX6 I0 M0) : wq (fX6_placeOf N I0 M0 x1 x2) (fun r => (-1 ≤ r.toInt ∧ r.toInt ≤ 19) ∧ True) := by
  unfold fX6_placeOf
  have b_10962 := i32b x2
  have l_0 := il_0
  exact tt_fX6_placeOf_L2 hN I0 M0 x1 x2 ⟨by omega, by omega⟩ k_I0 N (0 : Int32) ⟨by omega, by omega⟩ (by omega)
set_option maxHeartbeats 4000000 in
theorem tt_fX6_addTo {N : Nat} (hN : 3000000000 ≤ N) (I0 : Nat → Int32) (M0 : Nat → Nat → Int32) (x1 : Int32) (x2 : Int32) (h_x1 : 0 ≤ x1.toInt ∧ x1.toInt ≤ 5) (k_I0 : KX6 I0 M0) : wq (fX6_addTo N I0 M0 x1 x2) (fun r => (-1 ≤ r.1.toInt ∧ r.1.toInt ≤ 20) ∧ KX6 r.2.1 r.2.2 ∧ True) := by
  unfold fX6_addTo
  have b_11047 := i32b x2
  refine wq_b (tt_fX6_placeOf hN I0 M0 x1 x2 ⟨by omega, by omega⟩ k_I0) (fun r1_q11048 h_r1_q11048 => ?_)
  obtain ⟨h_r1_q11048_0, -⟩ := h_r1_q11048
  have l_m1 := il_m1
  refine wq_eq (fun hc_11049 => ?_) (fun hc_11050 => ?_)
  · refine wq_in (n := 6) ⟨by omega, by omega⟩ ?_
    have t_11051 := KX6.m1 k_I0 x1.toNatClampNeg
    have l_20 := il_20
    refine wq_lt (fun hc_11052 => ?_) (fun hc_11053 => ?_)
    · refine wq_in (n := 6) ⟨by omega, by omega⟩ ?_
      have t_11054 := ia_mul (20 : Int32) (20) il_20 x1 (by omega) (by omega)
      have t_11055 := ia_add ((20 : Int32) * x1) (M0 1 x1.toNatClampNeg) (by omega) (by omega)
      refine wq_in (n := 120) ⟨by omega, by omega⟩ ?_
      refine wq_v (fun M0_2_q11056 h_M0_2_q11056 => ?_)
      have k_M0_2_q11056 : KX6 I0 M0_2_q11056 := by rw [h_M0_2_q11056]; exact KX6.sm0 k_I0
      refine wq_in (n := 6) ⟨by omega, by omega⟩ ?_
      refine wq_in (n := 6) ⟨by omega, by omega⟩ ?_
      refine wq_v (fun M0_3_q11057 h_M0_3_q11057 => ?_)
      have t_11058 : (M0_2_q11056 1 x1.toNatClampNeg).toInt = (M0 1 x1.toNatClampNeg).toInt := congrArg (fun z : Nat → Int32 => (z x1.toNatClampNeg).toInt) (show M0_2_q11056 1 = M0 1 from by rw [h_M0_2_q11056]; rfl)
      have l_1 := il_1
      have t_11059 := ia_add (M0_2_q11056 1 x1.toNatClampNeg) (1 : Int32) (by omega) (by omega)
      have k_M0_3_q11057 : KX6 I0 M0_3_q11057 := by rw [h_M0_3_q11057]; exact KX6.sm1 k_M0_2_q11056 ⟨by omega, by omega⟩
      refine wq_in (n := 6) ⟨by omega, by omega⟩ ?_
      have t_11060 := KX6.m1 k_M0_3_q11057 x1.toNatClampNeg
      exact wq_s ⟨(show -1 ≤ (M0_3_q11057 1 x1.toNatClampNeg).toInt ∧ (M0_3_q11057 1 x1.toNatClampNeg).toInt ≤ 20 from ⟨by omega, by omega⟩), k_M0_3_q11057, trivial⟩
    · exact wq_s ⟨(show -1 ≤ (-1 : Int32).toInt ∧ (-1 : Int32).toInt ≤ 20 from ⟨by omega, by omega⟩), k_I0, trivial⟩
  · exact wq_s ⟨(show -1 ≤ (-1 : Int32).toInt ∧ (-1 : Int32).toInt ≤ 20 from ⟨by omega, by omega⟩), k_I0, trivial⟩
set_option maxHeartbeats 4000000 in
theorem tt_fX6_setPlaces_L5 {N : Nat} (hN : 3000000000 ≤ N) (x1 : Int32) (x2 : Int32) (h_x1 : 0 ≤ x1.toInt ∧ x1.toInt ≤ 5) (h_x2 : 0 ≤ x2.toInt ∧ x2.toInt ≤ 5)  : ∀ (fu : Nat) (I0_l5 : (Nat → Int32)) (M0_l5 : (Nat → Nat → Int32)) (y5_3 : Int32) (y5_4 : Int32), (0 ≤ y5_3.toInt ∧ y5_3.toInt ≤ 20) → (0 ≤ y5_4.toInt ∧ y5_4.toInt ≤ 20) → (KX6 I0_l5 M0_l5) → (y5_3.toInt ≤ y5_4.toInt) → (20 - y5_4.toInt) < (fu : Int) → wq (fX6_setPlaces_L5 N x1 x2 fu I0_l5 M0_l5 y5_3 y5_4) (fun r => (0 ≤ r.1.toInt ∧ r.1.toInt ≤ 20) ∧ KX6 r.2.1 r.2.2 ∧ True) := by
  intro fu
  induction fu with
  | zero => intro I0_l5 M0_l5 y5_3 y5_4 h_y5_3 h_y5_4 k_I0_l5 hl_3 hm; exfalso; omega
  | succ fu ih =>
    intro I0_l5 M0_l5 y5_3 y5_4 h_y5_3 h_y5_4 k_I0_l5 hl_3 hm
    rw [fX6_setPlaces_L5.eq_2]
    refine wq_in (n := 6) ⟨by omega, by omega⟩ ?_
    have t_11241 := KX6.m1 k_I0_l5 x1.toNatClampNeg
    refine wq_le (fun hc_11242 => ?_) (fun hc_11243 => ?_)
    · exact wq_s ⟨(show 0 ≤ y5_3.toInt ∧ y5_3.toInt ≤ 20 from ⟨by omega, by omega⟩), k_I0_l5, trivial⟩
    · have l_20 := il_20
      have t_11244 := ia_mul (20 : Int32) (20) il_20 x1 (by omega) (by omega)
      have t_11245 := ia_add ((20 : Int32) * x1) y5_4 (by omega) (by omega)
      refine wq_in (n := 120) ⟨by omega, by omega⟩ ?_
      refine wq_b (tt_fX6_placeOf hN I0_l5 M0_l5 x2 (M0_l5 0 (((20 : Int32) * x1) + y5_4).toNatClampNeg) ⟨by omega, by omega⟩ k_I0_l5) (fun r1_q11246 h_r1_q11246 => ?_)
      obtain ⟨h_r1_q11246_0, -⟩ := h_r1_q11246
      have l_m1 := il_m1
      refine wq_eq (fun hc_11247 => ?_) (fun hc_11248 => ?_)
      · have l_1 := il_1
        have t_11250 := ia_add y5_4 (1 : Int32) (by omega) (by omega)
        refine wq_v (fun v2_q11249 h_v2_q11249 => ?_)
        have t_v2_q11249 := congrArg Int32.toInt h_v2_q11249
        exact ih I0_l5 M0_l5 y5_3 v2_q11249 ⟨by omega, by omega⟩ ⟨by omega, by omega⟩ k_I0_l5 (by omega) (by omega)
      · refine wq_in (n := 20) ⟨by omega, by omega⟩ ?_
        refine wq_v (fun M0_3_q11251 h_M0_3_q11251 => ?_)
        have k_M0_3_q11251 : KX6 I0_l5 M0_3_q11251 := by rw [h_M0_3_q11251]; exact KX6.sm2 k_I0_l5
        have l_1 := il_1
        have t_11253 := ia_add y5_3 (1 : Int32) (by omega) (by omega)
        refine wq_v (fun v4_q11252 h_v4_q11252 => ?_)
        have t_v4_q11252 := congrArg Int32.toInt h_v4_q11252
        have t_11255 := ia_add y5_4 (1 : Int32) (by omega) (by omega)
        refine wq_v (fun v5_q11254 h_v5_q11254 => ?_)
        have t_v5_q11254 := congrArg Int32.toInt h_v5_q11254
        exact ih I0_l5 M0_3_q11251 v4_q11252 v5_q11254 ⟨by omega, by omega⟩ ⟨by omega, by omega⟩ k_M0_3_q11251 (by omega) (by omega)
set_option maxHeartbeats 4000000 in
theorem tt_fX6_setPlaces {N : Nat} (hN : 3000000000 ≤ N) (I0 : Nat → Int32) (M0 : Nat → Nat → Int32) (x1 : Int32) (x2 : Int32) (h_x1 : 0 ≤ x1.toInt ∧ x1.toInt ≤ 5) (h_x2 : 0 ≤ x2.toInt ∧ x2.toInt ≤ 5) (k_I0 : KX6 I0 M0) : wq (fX6_setPlaces N I0 M0 x1 x2) (fun r => (0 ≤ r.1.toInt ∧ r.1.toInt ≤ 20) ∧ KX6 r.2.1 r.2.2 ∧ True) := by
  unfold fX6_setPlaces
  have l_0 := il_0
  exact tt_fX6_setPlaces_L5 hN x1 x2 ⟨by omega, by omega⟩ ⟨by omega, by omega⟩ N I0 M0 (0 : Int32) (0 : Int32) ⟨by omega, by omega⟩ ⟨by omega, by omega⟩ k_I0 (by omega) (by omega)
set_option maxHeartbeats 4000000 in
theorem tt_fX6_howManyInOrder_L30 {N : Nat} (hN : 3000000000 ≤ N) (x1 : Int32) (x2 : Int32) (v2 : Int32) (y13_4 : Int32) (y13_5 : Int32) (g13 : (Nat → Int32) → (Nat → Nat → Int32) → Int32 → Int32 → Option (Int32 × (Nat → Int32) × (Nat → Nat → Int32))) (h_x1 : 0 ≤ x1.toInt ∧ x1.toInt ≤ 5) (h_x2 : 0 ≤ x2.toInt ∧ x2.toInt ≤ 5) (h_v2 : 1 ≤ v2.toInt ∧ v2.toInt ≤ 20) (h_y13_4 : 0 ≤ y13_4.toInt ∧ y13_4.toInt ≤ 2147483647) (h_y13_5 : 0 ≤ y13_5.toInt ∧ y13_5.toInt ≤ 19) (hg13 : ∀ (q0 : (Nat → Int32)) (q1 : (Nat → Nat → Int32)) (q2 : Int32) (q3 : Int32), (0 ≤ q2.toInt ∧ q2.toInt ≤ 2147483647) → (0 ≤ q3.toInt ∧ q3.toInt ≤ 20) → (KX6 q0 q1) → (y13_5.toInt < q3.toInt) → wq (g13 q0 q1 q2 q3) (fun r => (0 ≤ r.1.toInt ∧ r.1.toInt ≤ 2147483647) ∧ KX6 r.2.1 r.2.2 ∧ True)) : ∀ (fu : Nat) (I0_l30 : (Nat → Int32)) (M0_l30 : (Nat → Nat → Int32)) (y30_6 : Int32), (0 ≤ y30_6.toInt ∧ y30_6.toInt ≤ 19) → (KX6 I0_l30 M0_l30) → (19 - y30_6.toInt) < (fu : Int) → wq (fX6_howManyInOrder_L30 N x1 x2 v2 y13_4 y13_5 g13 fu I0_l30 M0_l30 y30_6) (fun r => (0 ≤ r.1.toInt ∧ r.1.toInt ≤ 2147483647) ∧ KX6 r.2.1 r.2.2 ∧ True) := by
  intro fu
  induction fu with
  | zero => intro I0_l30 M0_l30 y30_6 h_y30_6 k_I0_l30 hm; exfalso; omega
  | succ fu ih =>
    intro I0_l30 M0_l30 y30_6 h_y30_6 k_I0_l30 hm
    rw [fX6_howManyInOrder_L30.eq_2]
    refine wq_le (fun hc_11576 => ?_) (fun hc_11577 => ?_)
    · refine wq_in (n := 20) ⟨by omega, by omega⟩ ?_
      have b_11579 := i32b y13_4
      have t_11580 := ite_lt y13_4 (M0_l30 3 y13_5.toNatClampNeg) (M0_l30 3 y13_5.toNatClampNeg) y13_4
      refine wq_v (fun v4_q11578 h_v4_q11578 => ?_)
      have t_v4_q11578 := congrArg Int32.toInt h_v4_q11578
      have l_1 := il_1
      have t_11582 := ia_add y13_5 (1 : Int32) (by omega) (by omega)
      refine wq_v (fun v5_q11581 h_v5_q11581 => ?_)
      have t_v5_q11581 := congrArg Int32.toInt h_v5_q11581
      have b_11583 := i32b v4_q11578
      exact hg13 I0_l30 M0_l30 v4_q11578 v5_q11581 ⟨by omega, by omega⟩ ⟨by omega, by omega⟩ k_I0_l30 (by omega)
    · refine wq_in (n := 20) ⟨by omega, by omega⟩ ?_
      refine wq_in (n := 20) ⟨by omega, by omega⟩ ?_
      refine wq_le (fun hc_11584 => ?_) (fun hc_11585 => ?_)
      · have l_1 := il_1
        have t_11587 := ia_add y30_6 (1 : Int32) (by omega) (by omega)
        refine wq_v (fun v6_q11586 h_v6_q11586 => ?_)
        have t_v6_q11586 := congrArg Int32.toInt h_v6_q11586
        exact ih I0_l30 M0_l30 v6_q11586 ⟨by omega, by omega⟩ k_I0_l30 (by omega)
      · refine wq_in (n := 20) ⟨by omega, by omega⟩ ?_
        refine wq_in (n := 20) ⟨by omega, by omega⟩ ?_
        refine wq_in (n := 20) ⟨by omega, by omega⟩ ?_
        refine wq_v (fun M0_7_q11588 h_M0_7_q11588 => ?_)
        have k_M0_7_q11588 : KX6 I0_l30 M0_7_q11588 := by rw [h_M0_7_q11588]; exact KX6.sm3 k_I0_l30
        have l_1 := il_1
        have t_11590 := ia_add y30_6 (1 : Int32) (by omega) (by omega)
        refine wq_v (fun v8_q11589 h_v8_q11589 => ?_)
        have t_v8_q11589 := congrArg Int32.toInt h_v8_q11589
        exact ih I0_l30 M0_7_q11588 v8_q11589 ⟨by omega, by omega⟩ k_M0_7_q11588 (by omega)
set_option maxHeartbeats 4000000 in
theorem tt_fX6_howManyInOrder_L13 {N : Nat} (hN : 3000000000 ≤ N) (x1 : Int32) (x2 : Int32) (v2 : Int32) (h_x1 : 0 ≤ x1.toInt ∧ x1.toInt ≤ 5) (h_x2 : 0 ≤ x2.toInt ∧ x2.toInt ≤ 5) (h_v2 : 0 ≤ v2.toInt ∧ v2.toInt ≤ 20)  : ∀ (fu : Nat) (I0_l13 : (Nat → Int32)) (M0_l13 : (Nat → Nat → Int32)) (y13_4 : Int32) (y13_5 : Int32), (0 ≤ y13_4.toInt ∧ y13_4.toInt ≤ 2147483647) → (0 ≤ y13_5.toInt ∧ y13_5.toInt ≤ 20) → (KX6 I0_l13 M0_l13) → (20 - y13_5.toInt) < (fu : Int) → wq (fX6_howManyInOrder_L13 N x1 x2 v2 fu I0_l13 M0_l13 y13_4 y13_5) (fun r => (0 ≤ r.1.toInt ∧ r.1.toInt ≤ 2147483647) ∧ KX6 r.2.1 r.2.2 ∧ True) := by
  intro fu
  induction fu with
  | zero => intro I0_l13 M0_l13 y13_4 y13_5 h_y13_4 h_y13_5 k_I0_l13 hm; exfalso; omega
  | succ fu ih =>
    intro I0_l13 M0_l13 y13_4 y13_5 h_y13_4 h_y13_5 k_I0_l13 hm
    rw [fX6_howManyInOrder_L13.eq_2]
    refine wq_le (fun hc_11591 => ?_) (fun hc_11592 => ?_)
    · have b_11593 := i32b y13_4
      exact wq_s ⟨(show 0 ≤ y13_4.toInt ∧ y13_4.toInt ≤ 2147483647 from ⟨by omega, by omega⟩), k_I0_l13, trivial⟩
    · refine wq_in (n := 20) ⟨by omega, by omega⟩ ?_
      refine wq_v (fun M0_3_q11594 h_M0_3_q11594 => ?_)
      have k_M0_3_q11594 : KX6 I0_l13 M0_3_q11594 := by rw [h_M0_3_q11594]; exact KX6.sm3 k_I0_l13
      have b_11595 := i32b y13_4
      have l_0 := il_0
      exact tt_fX6_howManyInOrder_L30 hN x1 x2 v2 y13_4 y13_5 _ ⟨by omega, by omega⟩ ⟨by omega, by omega⟩ ⟨by omega, by omega⟩ ⟨by omega, by omega⟩ ⟨by omega, by omega⟩ (fun q0 q1 q2 q3 hq0 hq1 hq2 hq3 => ih q0 q1 q2 q3 hq0 hq1 hq2 (by omega)) N I0_l13 M0_3_q11594 (0 : Int32) ⟨by omega, by omega⟩ k_M0_3_q11594 (by omega)
set_option maxHeartbeats 4000000 in
theorem tt_fX6_howManyInOrder {N : Nat} (hN : 3000000000 ≤ N) (I0 : Nat → Int32) (M0 : Nat → Nat → Int32) (x1 : Int32) (x2 : Int32) (h_x1 : 0 ≤ x1.toInt ∧ x1.toInt ≤ 5) (h_x2 : 0 ≤ x2.toInt ∧ x2.toInt ≤ 5) (k_I0 : KX6 I0 M0) : wq (fX6_howManyInOrder N I0 M0 x1 x2) (fun r => (0 ≤ r.1.toInt ∧ r.1.toInt ≤ 2147483647) ∧ KX6 r.2.1 r.2.2 ∧ True) := by
  unfold fX6_howManyInOrder
  refine wq_b (tt_fX6_setPlaces hN I0 M0 x1 x2 ⟨by omega, by omega⟩ ⟨by omega, by omega⟩ k_I0) (fun r1_q11596 h_r1_q11596 => ?_)
  obtain ⟨h_r1_q11596_0, h_r1_q11596_1, -⟩ := h_r1_q11596
  refine wq_v (fun v2_q11597 h_v2_q11597 => ?_)
  have t_v2_q11597 := congrArg Int32.toInt h_v2_q11597
  have l_0 := il_0
  exact tt_fX6_howManyInOrder_L13 hN x1 x2 v2_q11597 ⟨by omega, by omega⟩ ⟨by omega, by omega⟩ ⟨by omega, by omega⟩ N r1_q11596.2.1 r1_q11596.2.2 (0 : Int32) (0 : Int32) ⟨by omega, by omega⟩ ⟨by omega, by omega⟩ h_r1_q11596_1 (by omega)
set_option maxHeartbeats 4000000 in
theorem tt_fX6_howManyTurned_L22 {N : Nat} (hN : 3000000000 ≤ N) (x1 : Int32) (x2 : Int32) (v2 : Int32) (y13_5 : Int32) (g13 : (Nat → Int32) → (Nat → Nat → Int32) → Int32 → Int32 → Option (Int32 × (Nat → Int32) × (Nat → Nat → Int32))) (h_x1 : 0 ≤ x1.toInt ∧ x1.toInt ≤ 5) (h_x2 : 0 ≤ x2.toInt ∧ x2.toInt ≤ 5) (h_v2 : 1 ≤ v2.toInt ∧ v2.toInt ≤ 20) (h_y13_5 : 0 ≤ y13_5.toInt ∧ y13_5.toInt ≤ 19) (hg13 : ∀ (q0 : (Nat → Int32)) (q1 : (Nat → Nat → Int32)) (q2 : Int32) (q3 : Int32), (0 ≤ q3.toInt ∧ q3.toInt ≤ 20) → (KX6 q0 q1) → (y13_5.toInt < q3.toInt) → wq (g13 q0 q1 q2 q3) (fun r => KX6 r.2.1 r.2.2 ∧ True)) : ∀ (fu : Nat) (I0_l22 : (Nat → Int32)) (M0_l22 : (Nat → Nat → Int32)) (y22_4 : Int32) (y22_6 : Int32), (0 ≤ y22_6.toInt ∧ y22_6.toInt ≤ 19) → (KX6 I0_l22 M0_l22) → (19 - y22_6.toInt) < (fu : Int) → wq (fX6_howManyTurned_L22 N x1 x2 v2 y13_5 g13 fu I0_l22 M0_l22 y22_4 y22_6) (fun r => KX6 r.2.1 r.2.2 ∧ True) := by
  intro fu
  induction fu with
  | zero => intro I0_l22 M0_l22 y22_4 y22_6 h_y22_6 k_I0_l22 hm; exfalso; omega
  | succ fu ih =>
    intro I0_l22 M0_l22 y22_4 y22_6 h_y22_6 k_I0_l22 hm
    rw [fX6_howManyTurned_L22.eq_2]
    refine wq_le (fun hc_11884 => ?_) (fun hc_11885 => ?_)
    · have l_1 := il_1
      have t_11887 := ia_add y13_5 (1 : Int32) (by omega) (by omega)
      refine wq_v (fun v3_q11886 h_v3_q11886 => ?_)
      have t_v3_q11886 := congrArg Int32.toInt h_v3_q11886
      have b_11888 := i32b y22_4
      exact hg13 I0_l22 M0_l22 y22_4 v3_q11886 ⟨by omega, by omega⟩ k_I0_l22 (by omega)
    · refine wq_in (n := 20) ⟨by omega, by omega⟩ ?_
      refine wq_in (n := 20) ⟨by omega, by omega⟩ ?_
      refine wq_le (fun hc_11889 => ?_) (fun hc_11890 => ?_)
      · have l_1 := il_1
        have t_11892 := ia_add y22_6 (1 : Int32) (by omega) (by omega)
        refine wq_v (fun v4_q11891 h_v4_q11891 => ?_)
        have t_v4_q11891 := congrArg Int32.toInt h_v4_q11891
        have b_11893 := i32b y22_4
        exact ih I0_l22 M0_l22 y22_4 v4_q11891 ⟨by omega, by omega⟩ k_I0_l22 (by omega)
      · have b_11895 := i32b y22_4
        have l_1 := il_1
        refine wq_v (fun v5_q11894 h_v5_q11894 => ?_)
        have t_v5_q11894 := congrArg Int32.toInt h_v5_q11894
        have t_11897 := ia_add y22_6 (1 : Int32) (by omega) (by omega)
        refine wq_v (fun v6_q11896 h_v6_q11896 => ?_)
        have t_v6_q11896 := congrArg Int32.toInt h_v6_q11896
        have b_11898 := i32b v5_q11894
        exact ih I0_l22 M0_l22 v5_q11894 v6_q11896 ⟨by omega, by omega⟩ k_I0_l22 (by omega)

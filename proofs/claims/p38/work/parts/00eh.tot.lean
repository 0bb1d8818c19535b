set_option maxHeartbeats 4000000 in
theorem tt_fX12_misread {N : Nat} (hN : 3000000000 ≤ N) (I0 : Nat → Int32) (L0 : Int64) (M0 : Nat → Nat → Int32) (x1 : Int32) (x2 : Int32) (x3 : Int32) (x4 : Int32) (x5 : Int32) (k_I0 : KX12 I0 M0) : wq (fX12_misread N I0 L0 M0 x1 x2 x3 x4 x5) (fun r => (-1 ≤ r.1.toInt ∧ r.1.toInt ≤ 9) ∧ KX12 r.2.1 r.2.2.2 ∧ True) := by
  unfold fX12_misread
  have b_34767 := i32b x1
  have b_34768 := i32b x2
  refine wq_b (tt_fX12_isWheel hN I0 L0 M0 x1 x2 k_I0) (fun r5_q34769 h_r5_q34769 => ?_)
  obtain ⟨h_r5_q34769_0, h_r5_q34769_1, h_r5_q34769_2, h_r5_q34769_3, -⟩ := h_r5_q34769
  have t_34770 := KX12.i1 h_r5_q34769_3
  have t_34771 := KX12.i1 k_I0
  have l_0 := il_0
  refine wq_eq (fun hc_34772 => ?_) (fun hc_34773 => ?_)
  · exact wq_s ⟨(show -1 ≤ (0 : Int32).toInt ∧ (0 : Int32).toInt ≤ 9 from ⟨by omega, by omega⟩), h_r5_q34769_3, trivial⟩
  · have b_34774 := i32b x3
    have l_3 := il_3
    refine wq_b (tt_fX12_within hN x3 (0 : Int32) (3 : Int32)) (fun r6_q34775 h_r6_q34775 => ?_)
    obtain ⟨h_r6_q34775_0, h_r6_q34775_1, -⟩ := h_r6_q34775
    refine wq_eq (fun hc_34776 => ?_) (fun hc_34777 => ?_)
    · unfold fX12_misread_J45
      unfold fX12_misread_J46
      have l_1 := il_1
      refine wq_b (tt_fX12_right hN r5_q34769.2.1 r5_q34769.2.2.1 r5_q34769.2.2.2 (0 : Int32) (1 : Int32) ⟨by omega, by omega⟩ h_r5_q34769_3) (fun r1_q34778 h_r1_q34778 => ?_)
      obtain ⟨h_r1_q34778_0, h_r1_q34778_1, h_r1_q34778_2, h_r1_q34778_3, -⟩ := h_r1_q34778
      have t_34779 := KX12.i1 h_r1_q34778_3
      refine wq_eq (fun hc_34780 => ?_) (fun hc_34781 => ?_)
      · exact wq_s ⟨(show -1 ≤ (0 : Int32).toInt ∧ (0 : Int32).toInt ≤ 9 from ⟨by omega, by omega⟩), h_r1_q34778_3, trivial⟩
      · have l_20 := il_20
        have t_34782 := ia_mul (20 : Int32) (20) il_20 x1 (by omega) (by omega)
        have t_34783 := ia_add ((20 : Int32) * x1) x2 (by omega) (by omega)
        have b_34784 := i32b x5
        refine wq_b (tt_fX12_at hN r1_q34778.2.1 r1_q34778.2.2.1 r1_q34778.2.2.2 (((20 : Int32) * x1) + x2) x5 ⟨by omega, by omega⟩ ⟨by omega, by omega⟩ h_r1_q34778_3) (fun r2_q34785 h_r2_q34785 => ?_)
        obtain ⟨h_r2_q34785_0, h_r2_q34785_1, h_r2_q34785_2, -⟩ := h_r2_q34785
        have l_m1 := il_m1
        refine wq_eq (fun hc_34786 => ?_) (fun hc_34787 => ?_)
        · exact wq_s ⟨(show -1 ≤ (-1 : Int32).toInt ∧ (-1 : Int32).toInt ≤ 9 from ⟨by omega, by omega⟩), h_r1_q34778_3, trivial⟩
        · have b_34788 := i32b x4
          refine wq_b (tt_fX12_placeOn hN r1_q34778.2.1 r1_q34778.2.2.1 r1_q34778.2.2.2 x3 x5 x4 ⟨by omega, by omega⟩ ⟨by omega, by omega⟩ h_r1_q34778_3) (fun r3_q34789 h_r3_q34789 => ?_)
          obtain ⟨-⟩ := h_r3_q34789
          have b_34790 := i32b r3_q34789
          have l_60 := il_60
          have t_34791 := i32b r3_q34789
          have t_34792 := ia_div2 r3_q34789 (60 : Int32) 60 il_60 (by decide)
          refine wq_b (tt_fX12_beside hN r1_q34778.2.1 r1_q34778.2.2.1 r1_q34778.2.2.2 r2_q34785 (r3_q34789 / (60 : Int32)) ⟨by omega, by omega⟩ h_r1_q34778_3) (fun r4_q34793 h_r4_q34793 => ?_)
          obtain ⟨h_r4_q34793_0, -⟩ := h_r4_q34793
          exact wq_s ⟨(show -1 ≤ r4_q34793.toInt ∧ r4_q34793.toInt ≤ 9 from ⟨by omega, by omega⟩), h_r1_q34778_3, trivial⟩
    · have b_34794 := i32b x4
      have l_1000000 := il_1000000
      refine wq_b (tt_fX12_within hN x4 (0 : Int32) (1000000 : Int32)) (fun r7_q34795 h_r7_q34795 => ?_)
      obtain ⟨h_r7_q34795_0, h_r7_q34795_1, -⟩ := h_r7_q34795
      refine wq_eq (fun hc_34796 => ?_) (fun hc_34797 => ?_)
      · unfold fX12_misread_J45
        unfold fX12_misread_J46
        have l_1 := il_1
        refine wq_b (tt_fX12_right hN r5_q34769.2.1 r5_q34769.2.2.1 r5_q34769.2.2.2 (0 : Int32) (1 : Int32) ⟨by omega, by omega⟩ h_r5_q34769_3) (fun r1_q34798 h_r1_q34798 => ?_)
        obtain ⟨h_r1_q34798_0, h_r1_q34798_1, h_r1_q34798_2, h_r1_q34798_3, -⟩ := h_r1_q34798
        have t_34799 := KX12.i1 h_r1_q34798_3
        refine wq_eq (fun hc_34800 => ?_) (fun hc_34801 => ?_)
        · exact wq_s ⟨(show -1 ≤ (0 : Int32).toInt ∧ (0 : Int32).toInt ≤ 9 from ⟨by omega, by omega⟩), h_r1_q34798_3, trivial⟩
        · have l_20 := il_20
          have t_34802 := ia_mul (20 : Int32) (20) il_20 x1 (by omega) (by omega)
          have t_34803 := ia_add ((20 : Int32) * x1) x2 (by omega) (by omega)
          have b_34804 := i32b x5
          refine wq_b (tt_fX12_at hN r1_q34798.2.1 r1_q34798.2.2.1 r1_q34798.2.2.2 (((20 : Int32) * x1) + x2) x5 ⟨by omega, by omega⟩ ⟨by omega, by omega⟩ h_r1_q34798_3) (fun r2_q34805 h_r2_q34805 => ?_)
          obtain ⟨h_r2_q34805_0, h_r2_q34805_1, h_r2_q34805_2, -⟩ := h_r2_q34805
          have l_m1 := il_m1
          refine wq_eq (fun hc_34806 => ?_) (fun hc_34807 => ?_)
          · exact wq_s ⟨(show -1 ≤ (-1 : Int32).toInt ∧ (-1 : Int32).toInt ≤ 9 from ⟨by omega, by omega⟩), h_r1_q34798_3, trivial⟩
          · refine wq_b (tt_fX12_placeOn hN r1_q34798.2.1 r1_q34798.2.2.1 r1_q34798.2.2.2 x3 x5 x4 ⟨by omega, by omega⟩ ⟨by omega, by omega⟩ h_r1_q34798_3) (fun r3_q34808 h_r3_q34808 => ?_)
            obtain ⟨-⟩ := h_r3_q34808
            have b_34809 := i32b r3_q34808
            have l_60 := il_60
            have t_34810 := i32b r3_q34808
            have t_34811 := ia_div2 r3_q34808 (60 : Int32) 60 il_60 (by decide)
            refine wq_b (tt_fX12_beside hN r1_q34798.2.1 r1_q34798.2.2.1 r1_q34798.2.2.2 r2_q34805 (r3_q34808 / (60 : Int32)) ⟨by omega, by omega⟩ h_r1_q34798_3) (fun r4_q34812 h_r4_q34812 => ?_)
            obtain ⟨h_r4_q34812_0, -⟩ := h_r4_q34812
            exact wq_s ⟨(show -1 ≤ r4_q34812.toInt ∧ r4_q34812.toInt ≤ 9 from ⟨by omega, by omega⟩), h_r1_q34798_3, trivial⟩
      · have b_34813 := i32b x5
        have l_6 := il_6
        refine wq_b (tt_fX12_within hN x5 (0 : Int32) (6 : Int32)) (fun r8_q34814 h_r8_q34814 => ?_)
        obtain ⟨h_r8_q34814_0, h_r8_q34814_1, -⟩ := h_r8_q34814
        refine wq_eq (fun hc_34815 => ?_) (fun hc_34816 => ?_)
        · unfold fX12_misread_J45
          unfold fX12_misread_J46
          have l_1 := il_1
          refine wq_b (tt_fX12_right hN r5_q34769.2.1 r5_q34769.2.2.1 r5_q34769.2.2.2 (0 : Int32) (1 : Int32) ⟨by omega, by omega⟩ h_r5_q34769_3) (fun r1_q34817 h_r1_q34817 => ?_)
          obtain ⟨h_r1_q34817_0, h_r1_q34817_1, h_r1_q34817_2, h_r1_q34817_3, -⟩ := h_r1_q34817
          have t_34818 := KX12.i1 h_r1_q34817_3
          refine wq_eq (fun hc_34819 => ?_) (fun hc_34820 => ?_)
          · exact wq_s ⟨(show -1 ≤ (0 : Int32).toInt ∧ (0 : Int32).toInt ≤ 9 from ⟨by omega, by omega⟩), h_r1_q34817_3, trivial⟩
          · have l_20 := il_20
            have t_34821 := ia_mul (20 : Int32) (20) il_20 x1 (by omega) (by omega)
            have t_34822 := ia_add ((20 : Int32) * x1) x2 (by omega) (by omega)
            refine wq_b (tt_fX12_at hN r1_q34817.2.1 r1_q34817.2.2.1 r1_q34817.2.2.2 (((20 : Int32) * x1) + x2) x5 ⟨by omega, by omega⟩ ⟨by omega, by omega⟩ h_r1_q34817_3) (fun r2_q34823 h_r2_q34823 => ?_)
            obtain ⟨h_r2_q34823_0, h_r2_q34823_1, h_r2_q34823_2, -⟩ := h_r2_q34823
            have l_m1 := il_m1
            refine wq_eq (fun hc_34824 => ?_) (fun hc_34825 => ?_)
            · exact wq_s ⟨(show -1 ≤ (-1 : Int32).toInt ∧ (-1 : Int32).toInt ≤ 9 from ⟨by omega, by omega⟩), h_r1_q34817_3, trivial⟩
            · refine wq_b (tt_fX12_placeOn hN r1_q34817.2.1 r1_q34817.2.2.1 r1_q34817.2.2.2 x3 x5 x4 ⟨by omega, by omega⟩ ⟨by omega, by omega⟩ h_r1_q34817_3) (fun r3_q34826 h_r3_q34826 => ?_)
              obtain ⟨-⟩ := h_r3_q34826
              have b_34827 := i32b r3_q34826
              have l_60 := il_60
              have t_34828 := i32b r3_q34826
              have t_34829 := ia_div2 r3_q34826 (60 : Int32) 60 il_60 (by decide)
              refine wq_b (tt_fX12_beside hN r1_q34817.2.1 r1_q34817.2.2.1 r1_q34817.2.2.2 r2_q34823 (r3_q34826 / (60 : Int32)) ⟨by omega, by omega⟩ h_r1_q34817_3) (fun r4_q34830 h_r4_q34830 => ?_)
              obtain ⟨h_r4_q34830_0, -⟩ := h_r4_q34830
              exact wq_s ⟨(show -1 ≤ r4_q34830.toInt ∧ r4_q34830.toInt ≤ 9 from ⟨by omega, by omega⟩), h_r1_q34817_3, trivial⟩
        · unfold fX12_misread_J46
          have l_1 := il_1
          refine wq_b (tt_fX12_right hN r5_q34769.2.1 r5_q34769.2.2.1 r5_q34769.2.2.2 (1 : Int32) (1 : Int32) ⟨by omega, by omega⟩ h_r5_q34769_3) (fun r1_q34831 h_r1_q34831 => ?_)
          obtain ⟨h_r1_q34831_0, h_r1_q34831_1, h_r1_q34831_2, h_r1_q34831_3, -⟩ := h_r1_q34831
          have t_34832 := KX12.i1 h_r1_q34831_3
          refine wq_eq (fun hc_34833 => ?_) (fun hc_34834 => ?_)
          · exact wq_s ⟨(show -1 ≤ (0 : Int32).toInt ∧ (0 : Int32).toInt ≤ 9 from ⟨by omega, by omega⟩), h_r1_q34831_3, trivial⟩
          · have l_20 := il_20
            have t_34835 := ia_mul (20 : Int32) (20) il_20 x1 (by omega) (by omega)
            have t_34836 := ia_add ((20 : Int32) * x1) x2 (by omega) (by omega)
            refine wq_b (tt_fX12_at hN r1_q34831.2.1 r1_q34831.2.2.1 r1_q34831.2.2.2 (((20 : Int32) * x1) + x2) x5 ⟨by omega, by omega⟩ ⟨by omega, by omega⟩ h_r1_q34831_3) (fun r2_q34837 h_r2_q34837 => ?_)
            obtain ⟨h_r2_q34837_0, h_r2_q34837_1, h_r2_q34837_2, -⟩ := h_r2_q34837
            have l_m1 := il_m1
            refine wq_eq (fun hc_34838 => ?_) (fun hc_34839 => ?_)
            · exact wq_s ⟨(show -1 ≤ (-1 : Int32).toInt ∧ (-1 : Int32).toInt ≤ 9 from ⟨by omega, by omega⟩), h_r1_q34831_3, trivial⟩
            · refine wq_b (tt_fX12_placeOn hN r1_q34831.2.1 r1_q34831.2.2.1 r1_q34831.2.2.2 x3 x5 x4 ⟨by omega, by omega⟩ ⟨by omega, by omega⟩ h_r1_q34831_3) (fun r3_q34840 h_r3_q34840 => ?_)
              obtain ⟨-⟩ := h_r3_q34840
              have b_34841 := i32b r3_q34840
              have l_60 := il_60
              have t_34842 := i32b r3_q34840
              have t_34843 := ia_div2 r3_q34840 (60 : Int32) 60 il_60 (by decide)
              refine wq_b (tt_fX12_beside hN r1_q34831.2.1 r1_q34831.2.2.1 r1_q34831.2.2.2 r2_q34837 (r3_q34840 / (60 : Int32)) ⟨by omega, by omega⟩ h_r1_q34831_3) (fun r4_q34844 h_r4_q34844 => ?_)
              obtain ⟨h_r4_q34844_0, -⟩ := h_r4_q34844
              exact wq_s ⟨(show -1 ≤ r4_q34844.toInt ∧ r4_q34844.toInt ≤ 9 from ⟨by omega, by omega⟩), h_r1_q34831_3, trivial⟩
set_option maxHeartbeats 4000000 in
theorem tt_fX12_errors_L340 {N : Nat} (hN : 3000000000 ≤ N) (x1 : Int32) (x2 : Int32) (x3 : Int32) (x4 : Int32) (g51 : (Nat → Int32) → Int64 → (Nat → Nat → Int32) → Int32 → Option (Int32 × (Nat → Int32) × Int64 × (Nat → Nat → Int32))) (g90 : (Nat → Int32) → Int64 → (Nat → Nat → Int32) → Int32 → Int32 → Option (Int32 × (Nat → Int32) × Int64 × (Nat → Nat → Int32))) (h_x1 : 0 ≤ x1.toInt ∧ x1.toInt ≤ 5) (h_x2 : 0 ≤ x2.toInt ∧ x2.toInt ≤ 19) (h_x4 : -2147483648 ≤ x4.toInt ∧ x4.toInt ≤ 1)  : ∀ (fu : Nat) (I0_l340 : (Nat → Int32)) (L0_l340 : Int64) (M0_l340 : (Nat → Nat → Int32)) (y340_6 : Int32) (y340_7 : Int32), (1 ≤ y340_6.toInt ∧ y340_6.toInt ≤ 3) → (2 ≤ y340_7.toInt ∧ y340_7.toInt ≤ 4) → (KX12 I0_l340 M0_l340) → (4 - y340_7.toInt) < (fu : Int) → wq (fX12_errors_L340 N x1 x2 x3 x4 g51 g90 fu I0_l340 L0_l340 M0_l340 y340_6 y340_7) (fun r => KX12 r.2.1 r.2.2.2 ∧ True) := by
  intro fu
  induction fu with
  | zero => intro I0_l340 L0_l340 M0_l340 y340_6 y340_7 h_y340_6 h_y340_7 k_I0_l340 hm; exfalso; omega
  | succ fu ih =>
    intro I0_l340 L0_l340 M0_l340 y340_6 y340_7 h_y340_6 h_y340_7 k_I0_l340 hm
    rw [fX12_errors_L340.eq_2]
    have l_4 := il_4
    refine wq_le (fun hc_38879 => ?_) (fun hc_38880 => ?_)
    · refine wq_in (n := 4) ⟨by omega, by omega⟩ ?_
      have l_0 := il_0
      refine wq_eq (fun hc_38881 => ?_) (fun hc_38882 => ?_)
      · have l_m1 := il_m1
        exact wq_s ⟨k_I0_l340, trivial⟩
      · exact wq_s ⟨k_I0_l340, trivial⟩
    · refine wq_in (n := 4) ⟨by omega, by omega⟩ ?_
      refine wq_in (n := 4) ⟨by omega, by omega⟩ ?_
      refine wq_le (fun hc_38883 => ?_) (fun hc_38884 => ?_)
      · have l_1 := il_1
        have t_38886 := ia_add y340_7 (1 : Int32) (by omega) (by omega)
        refine wq_v (fun v2_q38885 h_v2_q38885 => ?_)
        have t_v2_q38885 := congrArg Int32.toInt h_v2_q38885
        exact ih I0_l340 L0_l340 M0_l340 y340_6 v2_q38885 ⟨by omega, by omega⟩ ⟨by omega, by omega⟩ k_I0_l340 (by omega)
      · have l_1 := il_1
        have t_38888 := ia_add y340_7 (1 : Int32) (by omega) (by omega)
        refine wq_v (fun v3_q38887 h_v3_q38887 => ?_)
        have t_v3_q38887 := congrArg Int32.toInt h_v3_q38887
        exact ih I0_l340 L0_l340 M0_l340 y340_7 v3_q38887 ⟨by omega, by omega⟩ ⟨by omega, by omega⟩ k_I0_l340 (by omega)
set_option maxHeartbeats 4000000 in
theorem tt_fX12_errors_L187 {N : Nat} (hN : 3000000000 ≤ N) (x1 : Int32) (x2 : Int32) (x3 : Int32) (x4 : Int32) (r4 : Int32) (v7 : Int32) (y145_8 : Int32) (y90_6 : Int32) (g51 : (Nat → Int32) → Int64 → (Nat → Nat → Int32) → Int32 → Option (Int32 × (Nat → Int32) × Int64 × (Nat → Nat → Int32))) (g90 : (Nat → Int32) → Int64 → (Nat → Nat → Int32) → Int32 → Int32 → Option (Int32 × (Nat → Int32) × Int64 × (Nat → Nat → Int32))) (g145 : (Nat → Int32) → Int64 → (Nat → Nat → Int32) → Int32 → Int32 → Option (Int32 × (Nat → Int32) × Int64 × (Nat → Nat → Int32))) (h_x1 : 0 ≤ x1.toInt ∧ x1.toInt ≤ 5) (h_x2 : 0 ≤ x2.toInt ∧ x2.toInt ≤ 19) (h_r4 : 0 ≤ r4.toInt ∧ r4.toInt ≤ 359) (h_y90_6 : 0 ≤ y90_6.toInt ∧ y90_6.toInt ≤ 6) (hg90 : ∀ (q0 : (Nat → Int32)) (q1 : Int64) (q2 : (Nat → Nat → Int32)) (q3 : Int32) (q4 : Int32), (0 ≤ q4.toInt ∧ q4.toInt ≤ 7) → (KX12 q0 q2) → (y90_6.toInt < q4.toInt) → wq (g90 q0 q1 q2 q3 q4) (fun r => KX12 r.2.1 r.2.2.2 ∧ True)) : ∀ (fu : Nat) (I0_l187 : (Nat → Int32)) (L0_l187 : Int64) (M0_l187 : (Nat → Nat → Int32)) (y187_9 : Int32), (1 ≤ y187_9.toInt ∧ y187_9.toInt ≤ 4) → (KX12 I0_l187 M0_l187) → (4 - y187_9.toInt) < (fu : Int) → wq (fX12_errors_L187 N x1 x2 x3 x4 r4 v7 y145_8 y90_6 g51 g90 g145 fu I0_l187 L0_l187 M0_l187 y187_9) (fun r => KX12 r.2.1 r.2.2.2 ∧ True) := by
  intro fu
  induction fu with
  | zero => intro I0_l187 L0_l187 M0_l187 y187_9 h_y187_9 k_I0_l187 hm; exfalso; omega
  | succ fu ih =>
    intro I0_l187 L0_l187 M0_l187 y187_9 h_y187_9 k_I0_l187 hm
    rw [fX12_errors_L187.eq_2]
    have l_4 := il_4
    refine wq_le (fun hc_38889 => ?_) (fun hc_38890 => ?_)
    · have l_1 := il_1
      have t_38892 := ia_add y90_6 (1 : Int32) (by omega) (by omega)
      refine wq_v (fun v11_q38891 h_v11_q38891 => ?_)
      have t_v11_q38891 := congrArg Int32.toInt h_v11_q38891
      have b_38893 := i32b v7
      exact hg90 I0_l187 L0_l187 M0_l187 v7 v11_q38891 ⟨by omega, by omega⟩ k_I0_l187 (by omega)
    · have b_38894 := i32b x3
      refine wq_b (tt_fX12_placeOn hN I0_l187 L0_l187 M0_l187 y187_9 y90_6 x3 ⟨by omega, by omega⟩ ⟨by omega, by omega⟩ k_I0_l187) (fun r12_q38895 h_r12_q38895 => ?_)
      obtain ⟨-⟩ := h_r12_q38895
      have b_38896 := i32b r12_q38895
      have l_60 := il_60
      have t_38897 := i32b r12_q38895
      have t_38898 := ia_div2 r12_q38895 (60 : Int32) 60 il_60 (by decide)
      refine wq_eq (fun hc_38899 => ?_) (fun hc_38900 => ?_)
      · refine wq_in (n := 4) ⟨by omega, by omega⟩ ?_
        refine wq_in (n := 4) ⟨by omega, by omega⟩ ?_
        refine wq_v (fun M0_13_q38901 h_M0_13_q38901 => ?_)
        have k_M0_13_q38901 : KX12 I0_l187 M0_13_q38901 := by rw [h_M0_13_q38901]; exact KX12.sm20 k_I0_l187
        refine wq_in (n := 4) ⟨by omega, by omega⟩ ?_
        have b_38902 := i32b y145_8
        have l_1 := il_1
        refine wq_eq (fun hc_38903 => ?_) (fun hc_38904 => ?_)
        · unfold fX12_errors_J243
          refine wq_in (n := 4) ⟨by omega, by omega⟩ ?_
          refine wq_v (fun M0_8_q38905 h_M0_8_q38905 => ?_)
          have k_M0_8_q38905 : KX12 I0_l187 M0_8_q38905 := by rw [h_M0_8_q38905]; exact KX12.sm21 k_M0_13_q38901
          refine wq_in (n := 4) ⟨by omega, by omega⟩ ?_
          refine wq_nz (by omega) ?_
          refine wq_in (n := 4) ⟨by omega, by omega⟩ ?_
          refine wq_v (fun M0_9_q38906 h_M0_9_q38906 => ?_)
          have k_M0_9_q38906 : KX12 I0_l187 M0_9_q38906 := by rw [h_M0_9_q38906]; exact KX12.sm22 k_M0_8_q38905
          have t_38908 := ia_add y187_9 (1 : Int32) (by omega) (by omega)
          refine wq_v (fun v10_q38907 h_v10_q38907 => ?_)
          have t_v10_q38907 := congrArg Int32.toInt h_v10_q38907
          exact ih I0_l187 L0_l187 M0_9_q38906 v10_q38907 ⟨by omega, by omega⟩ k_M0_9_q38906 (by omega)
        · unfold fX12_errors_J243
          refine wq_in (n := 4) ⟨by omega, by omega⟩ ?_
          refine wq_v (fun M0_8_q38909 h_M0_8_q38909 => ?_)
          have k_M0_8_q38909 : KX12 I0_l187 M0_8_q38909 := by rw [h_M0_8_q38909]; exact KX12.sm21 k_M0_13_q38901
          refine wq_in (n := 4) ⟨by omega, by omega⟩ ?_
          refine wq_nz (by omega) ?_
          refine wq_in (n := 4) ⟨by omega, by omega⟩ ?_
          refine wq_v (fun M0_9_q38910 h_M0_9_q38910 => ?_)
          have k_M0_9_q38910 : KX12 I0_l187 M0_9_q38910 := by rw [h_M0_9_q38910]; exact KX12.sm22 k_M0_8_q38909
          have t_38912 := ia_add y187_9 (1 : Int32) (by omega) (by omega)
          refine wq_v (fun v10_q38911 h_v10_q38911 => ?_)
          have t_v10_q38911 := congrArg Int32.toInt h_v10_q38911
          exact ih I0_l187 L0_l187 M0_9_q38910 v10_q38911 ⟨by omega, by omega⟩ k_M0_9_q38910 (by omega)
      · have l_1 := il_1
        have t_38914 := ia_add y187_9 (1 : Int32) (by omega) (by omega)
        refine wq_v (fun v14_q38913 h_v14_q38913 => ?_)
        have t_v14_q38913 := congrArg Int32.toInt h_v14_q38913
        exact ih I0_l187 L0_l187 M0_l187 v14_q38913 ⟨by omega, by omega⟩ k_I0_l187 (by omega)
set_option maxHeartbeats 4000000 in
theorem tt_fX12_errors_L145 {N : Nat} (hN : 3000000000 ≤ N) (x1 : Int32) (x2 : Int32) (x3 : Int32) (x4 : Int32) (r4 : Int32) (v7 : Int32) (y90_6 : Int32) (g51 : (Nat → Int32) → Int64 → (Nat → Nat → Int32) → Int32 → Option (Int32 × (Nat → Int32) × Int64 × (Nat → Nat → Int32))) (g90 : (Nat → Int32) → Int64 → (Nat → Nat → Int32) → Int32 → Int32 → Option (Int32 × (Nat → Int32) × Int64 × (Nat → Nat → Int32))) (h_x1 : 0 ≤ x1.toInt ∧ x1.toInt ≤ 5) (h_x2 : 0 ≤ x2.toInt ∧ x2.toInt ≤ 19) (h_r4 : 0 ≤ r4.toInt ∧ r4.toInt ≤ 359) (h_y90_6 : 0 ≤ y90_6.toInt ∧ y90_6.toInt ≤ 6) (hg90 : ∀ (q0 : (Nat → Int32)) (q1 : Int64) (q2 : (Nat → Nat → Int32)) (q3 : Int32) (q4 : Int32), (0 ≤ q4.toInt ∧ q4.toInt ≤ 7) → (KX12 q0 q2) → (y90_6.toInt < q4.toInt) → wq (g90 q0 q1 q2 q3 q4) (fun r => KX12 r.2.1 r.2.2.2 ∧ True)) : ∀ (fu : Nat) (I0_l145 : (Nat → Int32)) (L0_l145 : Int64) (M0_l145 : (Nat → Nat → Int32)) (y145_8 : Int32) (y145_9 : Int32), (1 ≤ y145_9.toInt ∧ y145_9.toInt ≤ 4) → (KX12 I0_l145 M0_l145) → (4 - y145_9.toInt) < (fu : Int) → wq (fX12_errors_L145 N x1 x2 x3 x4 r4 v7 y90_6 g51 g90 fu I0_l145 L0_l145 M0_l145 y145_8 y145_9) (fun r => KX12 r.2.1 r.2.2.2 ∧ True) := by
  intro fu
  induction fu with
  | zero => intro I0_l145 L0_l145 M0_l145 y145_8 y145_9 h_y145_9 k_I0_l145 hm; exfalso; omega
  | succ fu ih =>
    intro I0_l145 L0_l145 M0_l145 y145_8 y145_9 h_y145_9 k_I0_l145 hm
    rw [fX12_errors_L145.eq_2]
    have l_4 := il_4
    refine wq_le (fun hc_38915 => ?_) (fun hc_38916 => ?_)
    · have b_38917 := i32b x3
      have b_38918 := i32b x4
      have b_38919 := i32b v7
      have b_38920 := i32b y145_8
      have l_1 := il_1
      exact tt_fX12_errors_L187 hN x1 x2 x3 x4 r4 v7 y145_8 y90_6 g51 g90 _ ⟨by omega, by omega⟩ ⟨by omega, by omega⟩ ⟨by omega, by omega⟩ ⟨by omega, by omega⟩ hg90 N I0_l145 L0_l145 M0_l145 (1 : Int32) ⟨by omega, by omega⟩ k_I0_l145 (by omega)
    · have b_38921 := i32b x3
      refine wq_b (tt_fX12_placeOn hN I0_l145 L0_l145 M0_l145 y145_9 y90_6 x3 ⟨by omega, by omega⟩ ⟨by omega, by omega⟩ k_I0_l145) (fun r15_q38922 h_r15_q38922 => ?_)
      obtain ⟨-⟩ := h_r15_q38922
      have b_38923 := i32b r15_q38922
      have l_60 := il_60
      have t_38924 := i32b r15_q38922
      have t_38925 := ia_div2 r15_q38922 (60 : Int32) 60 il_60 (by decide)
      refine wq_eq (fun hc_38926 => ?_) (fun hc_38927 => ?_)
      · have b_38929 := i32b y145_8
        have l_1 := il_1
        refine wq_v (fun v18_q38928 h_v18_q38928 => ?_)
        have t_v18_q38928 := congrArg Int32.toInt h_v18_q38928
        have t_38931 := ia_add y145_9 (1 : Int32) (by omega) (by omega)
        refine wq_v (fun v19_q38930 h_v19_q38930 => ?_)
        have t_v19_q38930 := congrArg Int32.toInt h_v19_q38930
        have b_38932 := i32b v18_q38928
        exact ih I0_l145 L0_l145 M0_l145 v18_q38928 v19_q38930 ⟨by omega, by omega⟩ k_I0_l145 (by omega)
      · have b_38934 := i32b y145_8
        have l_0 := il_0
        have t_38935 := ia_add y145_8 (0 : Int32) (by omega) (by omega)
        refine wq_v (fun v16_q38933 h_v16_q38933 => ?_)
        have t_v16_q38933 := congrArg Int32.toInt h_v16_q38933
        have l_1 := il_1
        have t_38937 := ia_add y145_9 (1 : Int32) (by omega) (by omega)
        refine wq_v (fun v17_q38936 h_v17_q38936 => ?_)
        have t_v17_q38936 := congrArg Int32.toInt h_v17_q38936
        have b_38938 := i32b v16_q38933
        exact ih I0_l145 L0_l145 M0_l145 v16_q38933 v17_q38936 ⟨by omega, by omega⟩ k_I0_l145 (by omega)
set_option maxHeartbeats 4000000 in
theorem tt_fX12_errors_L90 {N : Nat} (hN : 3000000000 ≤ N) (x1 : Int32) (x2 : Int32) (x3 : Int32) (x4 : Int32) (g51 : (Nat → Int32) → Int64 → (Nat → Nat → Int32) → Int32 → Option (Int32 × (Nat → Int32) × Int64 × (Nat → Nat → Int32))) (h_x1 : 0 ≤ x1.toInt ∧ x1.toInt ≤ 5) (h_x2 : 0 ≤ x2.toInt ∧ x2.toInt ≤ 19)  : ∀ (fu : Nat) (I0_l90 : (Nat → Int32)) (L0_l90 : Int64) (M0_l90 : (Nat → Nat → Int32)) (y90_5 : Int32) (y90_6 : Int32), (0 ≤ y90_6.toInt ∧ y90_6.toInt ≤ 7) → (KX12 I0_l90 M0_l90) → (7 - y90_6.toInt) < (fu : Int) → wq (fX12_errors_L90 N x1 x2 x3 x4 g51 fu I0_l90 L0_l90 M0_l90 y90_5 y90_6) (fun r => KX12 r.2.1 r.2.2.2 ∧ True) := by
  intro fu
  induction fu with
  | zero => intro I0_l90 L0_l90 M0_l90 y90_5 y90_6 h_y90_6 k_I0_l90 hm; exfalso; omega
  | succ fu ih =>
    intro I0_l90 L0_l90 M0_l90 y90_5 y90_6 h_y90_6 k_I0_l90 hm
    rw [fX12_errors_L90.eq_2]
    have l_7 := il_7
    refine wq_le (fun hc_38939 => ?_) (fun hc_38940 => ?_)
    · have b_38941 := i32b x4
      have l_0 := il_0
      refine wq_eq (fun hc_38942 => ?_) (fun hc_38943 => ?_)
      · have b_38944 := i32b y90_5
        exact wq_s ⟨k_I0_l90, trivial⟩
      · have l_1 := il_1
        refine wq_le (fun hc_38945 => ?_) (fun hc_38946 => ?_)
        · have b_38947 := i32b x3
          have l_2 := il_2
          exact tt_fX12_errors_L340 hN x1 x2 x3 x4 g51 _ ⟨by omega, by omega⟩ ⟨by omega, by omega⟩ ⟨by omega, by omega⟩ N I0_l90 L0_l90 M0_l90 (1 : Int32) (2 : Int32) ⟨by omega, by omega⟩ ⟨by omega, by omega⟩ k_I0_l90 (by omega)
        · have l_5 := il_5
          refine wq_le (fun hc_38948 => ?_) (fun hc_38949 => ?_)
          · have l_8 := il_8
            refine wq_le (fun hc_38950 => ?_) (fun hc_38951 => ?_)
            · have t_38952 := ia_sub x4 (7 : Int32) (by omega) (by omega)
              refine wq_in (n := 4) ⟨by omega, by omega⟩ ?_
              exact wq_s ⟨k_I0_l90, trivial⟩
            · have l_4 := il_4
              have t_38953 := ia_sub x4 (4 : Int32) (by omega) (by omega)
              refine wq_in (n := 4) ⟨by omega, by omega⟩ ?_
              exact wq_s ⟨k_I0_l90, trivial⟩
          · have t_38954 := ia_sub x4 (1 : Int32) (by omega) (by omega)
            refine wq_in (n := 4) ⟨by omega, by omega⟩ ?_
            exact wq_s ⟨k_I0_l90, trivial⟩
    · have l_20 := il_20
      have t_38955 := ia_mul (20 : Int32) (20) il_20 x1 (by omega) (by omega)
      have t_38956 := ia_add ((20 : Int32) * x1) x2 (by omega) (by omega)
      refine wq_b (tt_fX12_at hN I0_l90 L0_l90 M0_l90 (((20 : Int32) * x1) + x2) y90_6 ⟨by omega, by omega⟩ ⟨by omega, by omega⟩ k_I0_l90) (fun r4_q38957 h_r4_q38957 => ?_)
      obtain ⟨h_r4_q38957_0, h_r4_q38957_1, h_r4_q38957_2, -⟩ := h_r4_q38957
      have l_m1 := il_m1
      refine wq_eq (fun hc_38958 => ?_) (fun hc_38959 => ?_)
      · have l_1 := il_1
        have t_38961 := ia_add y90_6 (1 : Int32) (by omega) (by omega)
        refine wq_v (fun v5_q38960 h_v5_q38960 => ?_)
        have t_v5_q38960 := congrArg Int32.toInt h_v5_q38960
        have b_38962 := i32b y90_5
        exact ih I0_l90 L0_l90 M0_l90 y90_5 v5_q38960 ⟨by omega, by omega⟩ k_I0_l90 (by omega)
      · have l_0 := il_0
        have b_38963 := i32b x3
        refine wq_b (tt_fX12_placeOn hN I0_l90 L0_l90 M0_l90 (0 : Int32) y90_6 x3 ⟨by omega, by omega⟩ ⟨by omega, by omega⟩ k_I0_l90) (fun r6_q38964 h_r6_q38964 => ?_)
        obtain ⟨-⟩ := h_r6_q38964
        have b_38965 := i32b r6_q38964
        have l_60 := il_60
        have t_38966 := i32b r6_q38964
        have t_38967 := ia_div2 r6_q38964 (60 : Int32) 60 il_60 (by decide)
        refine wq_eq (fun hc_38968 => ?_) (fun hc_38969 => ?_)
        · have l_1 := il_1
          have t_38971 := ia_add y90_6 (1 : Int32) (by omega) (by omega)
          refine wq_v (fun v20_q38970 h_v20_q38970 => ?_)
          have t_v20_q38970 := congrArg Int32.toInt h_v20_q38970
          have b_38972 := i32b y90_5
          exact ih I0_l90 L0_l90 M0_l90 y90_5 v20_q38970 ⟨by omega, by omega⟩ k_I0_l90 (by omega)
        · have b_38974 := i32b y90_5
          have l_1 := il_1
          refine wq_v (fun v7_q38973 h_v7_q38973 => ?_)
          have t_v7_q38973 := congrArg Int32.toInt h_v7_q38973
          have b_38975 := i32b x4
          have b_38976 := i32b v7_q38973
          exact tt_fX12_errors_L145 hN x1 x2 x3 x4 r4_q38957 v7_q38973 y90_6 g51 _ ⟨by omega, by omega⟩ ⟨by omega, by omega⟩ ⟨by omega, by omega⟩ ⟨by omega, by omega⟩ (fun q0 q1 q2 q3 q4 hq0 hq1 hq2 => ih q0 q1 q2 q3 q4 hq0 hq1 (by omega)) N I0_l90 L0_l90 M0_l90 (0 : Int32) (1 : Int32) ⟨by omega, by omega⟩ k_I0_l90 (by omega)
set_option maxHeartbeats 4000000 in
theorem tt_fX12_errors_L51 {N : Nat} (hN : 3000000000 ≤ N) (x1 : Int32) (x2 : Int32) (x3 : Int32) (x4 : Int32) (h_x1 : 0 ≤ x1.toInt ∧ x1.toInt ≤ 5) (h_x2 : 0 ≤ x2.toInt ∧ x2.toInt ≤ 19)  : ∀ (fu : Nat) (I0_l51 : (Nat → Int32)) (L0_l51 : Int64) (M0_l51 : (Nat → Nat → Int32)) (y51_6 : Int32), (1 ≤ y51_6.toInt ∧ y51_6.toInt ≤ 4) → (KX12 I0_l51 M0_l51) → (4 - y51_6.toInt) < (fu : Int) → wq (fX12_errors_L51 N x1 x2 x3 x4 fu I0_l51 L0_l51 M0_l51 y51_6) (fun r => KX12 r.2.1 r.2.2.2 ∧ True) := by
  intro fu
  induction fu with
  | zero => intro I0_l51 L0_l51 M0_l51 y51_6 h_y51_6 k_I0_l51 hm; exfalso; omega
  | succ fu ih =>
    intro I0_l51 L0_l51 M0_l51 y51_6 h_y51_6 k_I0_l51 hm
    rw [fX12_errors_L51.eq_2]
    have l_4 := il_4
    refine wq_le (fun hc_38977 => ?_) (fun hc_38978 => ?_)
    · have b_38979 := i32b x3
      have b_38980 := i32b x4
      have l_0 := il_0
      exact tt_fX12_errors_L90 hN x1 x2 x3 x4 _ ⟨by omega, by omega⟩ ⟨by omega, by omega⟩ N I0_l51 L0_l51 M0_l51 (0 : Int32) (0 : Int32) ⟨by omega, by omega⟩ k_I0_l51 (by omega)
    · refine wq_in (n := 4) ⟨by omega, by omega⟩ ?_
      refine wq_v (fun M0_21_q38981 h_M0_21_q38981 => ?_)
      have k_M0_21_q38981 : KX12 I0_l51 M0_21_q38981 := by rw [h_M0_21_q38981]; exact KX12.sm20 k_I0_l51
      refine wq_in (n := 4) ⟨by omega, by omega⟩ ?_
      refine wq_v (fun M0_22_q38982 h_M0_22_q38982 => ?_)
      have k_M0_22_q38982 : KX12 I0_l51 M0_22_q38982 := by rw [h_M0_22_q38982]; exact KX12.sm21 k_M0_21_q38981
      refine wq_in (n := 4) ⟨by omega, by omega⟩ ?_
      refine wq_v (fun M0_23_q38983 h_M0_23_q38983 => ?_)
      have k_M0_23_q38983 : KX12 I0_l51 M0_23_q38983 := by rw [h_M0_23_q38983]; exact KX12.sm22 k_M0_22_q38982
      have l_1 := il_1
      have t_38985 := ia_add y51_6 (1 : Int32) (by omega) (by omega)
      refine wq_v (fun v24_q38984 h_v24_q38984 => ?_)
      have t_v24_q38984 := congrArg Int32.toInt h_v24_q38984
      exact ih I0_l51 L0_l51 M0_23_q38983 v24_q38984 ⟨by omega, by omega⟩ k_M0_23_q38983 (by omega)
set_option maxHeartbeats 4000000 in
theorem tt_fX12_errors {N : Nat} (hN : 3000000000 ≤ N) (I0 : Nat → Int32) (L0 : Int64) (M0 : Nat → Nat → Int32) (x1 : Int32) (x2 : Int32) (x3 : Int32) (x4 : Int32) (k_I0 : KX12 I0 M0) : wq (fX12_errors N I0 L0 M0 x1 x2 x3 x4) (fun r => KX12 r.2.1 r.2.2.2 ∧ True) := by
  unfold fX12_errors
  have b_38986 := i32b x1
  have b_38987 := i32b x2
  refine wq_b (tt_fX12_isWheel hN I0 L0 M0 x1 x2 k_I0) (fun r25_q38988 h_r25_q38988 => ?_)
  obtain ⟨h_r25_q38988_0, h_r25_q38988_1, h_r25_q38988_2, h_r25_q38988_3, -⟩ := h_r25_q38988
  have t_38989 := KX12.i1 h_r25_q38988_3
  have t_38990 := KX12.i1 k_I0
  have l_0 := il_0
  refine wq_eq (fun hc_38991 => ?_) (fun hc_38992 => ?_)
  · exact wq_s ⟨h_r25_q38988_3, trivial⟩
  · have b_38993 := i32b x3
    have l_1000000 := il_1000000
    refine wq_b (tt_fX12_within hN x3 (0 : Int32) (1000000 : Int32)) (fun r26_q38994 h_r26_q38994 => ?_)
    obtain ⟨h_r26_q38994_0, h_r26_q38994_1, -⟩ := h_r26_q38994
    refine wq_eq (fun hc_38995 => ?_) (fun hc_38996 => ?_)
    · unfold fX12_errors_J35
      unfold fX12_errors_J36
      have l_1 := il_1
      refine wq_b (tt_fX12_right hN r25_q38988.2.1 r25_q38988.2.2.1 r25_q38988.2.2.2 (0 : Int32) (1 : Int32) ⟨by omega, by omega⟩ h_r25_q38988_3) (fun r1_q38997 h_r1_q38997 => ?_)
      obtain ⟨h_r1_q38997_0, h_r1_q38997_1, h_r1_q38997_2, h_r1_q38997_3, -⟩ := h_r1_q38997
      have t_38998 := KX12.i1 h_r1_q38997_3
      refine wq_eq (fun hc_38999 => ?_) (fun hc_39000 => ?_)
      · exact wq_s ⟨h_r1_q38997_3, trivial⟩
      · have b_39001 := i32b x4
        exact tt_fX12_errors_L51 hN x1 x2 x3 x4 ⟨by omega, by omega⟩ ⟨by omega, by omega⟩ N r1_q38997.2.1 r1_q38997.2.2.1 r1_q38997.2.2.2 (1 : Int32) ⟨by omega, by omega⟩ h_r1_q38997_3 (by omega)
    · have b_39002 := i32b x4
      have l_10 := il_10
      refine wq_b (tt_fX12_within hN x4 (0 : Int32) (10 : Int32)) (fun r27_q39003 h_r27_q39003 => ?_)
      obtain ⟨h_r27_q39003_0, h_r27_q39003_1, -⟩ := h_r27_q39003
      refine wq_eq (fun hc_39004 => ?_) (fun hc_39005 => ?_)
      · unfold fX12_errors_J35
        unfold fX12_errors_J36
        have l_1 := il_1
        refine wq_b (tt_fX12_right hN r25_q38988.2.1 r25_q38988.2.2.1 r25_q38988.2.2.2 (0 : Int32) (1 : Int32) ⟨by omega, by omega⟩ h_r25_q38988_3) (fun r1_q39006 h_r1_q39006 => ?_)
        obtain ⟨h_r1_q39006_0, h_r1_q39006_1, h_r1_q39006_2, h_r1_q39006_3, -⟩ := h_r1_q39006
        have t_39007 := KX12.i1 h_r1_q39006_3
        refine wq_eq (fun hc_39008 => ?_) (fun hc_39009 => ?_)
        · exact wq_s ⟨h_r1_q39006_3, trivial⟩
        · exact tt_fX12_errors_L51 hN x1 x2 x3 x4 ⟨by omega, by omega⟩ ⟨by omega, by omega⟩ N r1_q39006.2.1 r1_q39006.2.2.1 r1_q39006.2.2.2 (1 : Int32) ⟨by omega, by omega⟩ h_r1_q39006_3 (by omega)
      · unfold fX12_errors_J36
        have l_1 := il_1
        refine wq_b (tt_fX12_right hN r25_q38988.2.1 r25_q38988.2.2.1 r25_q38988.2.2.2 (1 : Int32) (1 : Int32) ⟨by omega, by omega⟩ h_r25_q38988_3) (fun r1_q39010 h_r1_q39010 => ?_)
        obtain ⟨h_r1_q39010_0, h_r1_q39010_1, h_r1_q39010_2, h_r1_q39010_3, -⟩ := h_r1_q39010
        have t_39011 := KX12.i1 h_r1_q39010_3
        refine wq_eq (fun hc_39012 => ?_) (fun hc_39013 => ?_)
        · exact wq_s ⟨h_r1_q39010_3, trivial⟩
        · exact tt_fX12_errors_L51 hN x1 x2 x3 x4 ⟨by omega, by omega⟩ ⟨by omega, by omega⟩ N r1_q39010.2.1 r1_q39010.2.2.1 r1_q39010.2.2.2 (1 : Int32) ⟨by omega, by omega⟩ h_r1_q39010_3 (by omega)
set_option maxHeartbeats 4000000 in
theorem tt_fX12_climbOf_L5 {N : Nat} (hN : 3000000000 ≤ N) (I0 : Nat → Int32) (L0 : Int64) (M0 : Nat → Nat → Int32) (x1 : Int32) (x2 : Int32) (h_x1 : 0 ≤ x1.toInt ∧ x1.toInt ≤ 6) (h_x2 : -60 ≤ x2.toInt ∧ x2.toInt ≤ 21599) (k_I0 : KX12 I0 M0)  : ∀ (fu : Nat) (y5_3 : Int32) (y5_4 : Int32), (0 ≤ y5_4.toInt ∧ y5_4.toInt ≤ 11) → (11 - y5_4.toInt) < (fu : Int) → wq (fX12_climbOf_L5 N I0 L0 M0 x1 x2 fu y5_3 y5_4) (fun r => True) := by
  intro fu
  induction fu with
  | zero => intro y5_3 y5_4 h_y5_4 hm; exfalso; omega
  | succ fu ih =>
    intro y5_3 y5_4 h_y5_4 hm
    rw [fX12_climbOf_L5.eq_2]
    have l_1800 := il_1800
    have t_39157 := ia_div2 x2 (1800 : Int32) 1800 il_1800 (by decide)
    refine wq_le (fun hc_39158 => ?_) (fun hc_39159 => ?_)
    · have l_12 := il_12
      have t_39160 := ia_mul (12 : Int32) (12) il_12 x1 (by omega) (by omega)
      have t_39161 := ia_add ((12 : Int32) * x1) (x2 / (1800 : Int32)) (by omega) (by omega)
      refine wq_in (n := 84) ⟨by omega, by omega⟩ ?_
      have b_39162 := i32b y5_3
      exact wq_s trivial
    · have l_12 := il_12
      have t_39163 := ia_mul (12 : Int32) (12) il_12 x1 (by omega) (by omega)
      have t_39164 := ia_add ((12 : Int32) * x1) y5_4 (by omega) (by omega)
      refine wq_in (n := 84) ⟨by omega, by omega⟩ ?_
      have b_39166 := i32b y5_3
      refine wq_v (fun v1_q39165 h_v1_q39165 => ?_)
      have t_v1_q39165 := congrArg Int32.toInt h_v1_q39165
      have l_1 := il_1
      have t_39168 := ia_add y5_4 (1 : Int32) (by omega) (by omega)
      refine wq_v (fun v2_q39167 h_v2_q39167 => ?_)
      have t_v2_q39167 := congrArg Int32.toInt h_v2_q39167
      have b_39169 := i32b v1_q39165
      exact ih v1_q39165 v2_q39167 ⟨by omega, by omega⟩ (by omega)
set_option maxHeartbeats 4000000 in
theorem tt_fX12_climbOf {N : Nat} (hN : 3000000000 ≤ N) (I0 : Nat → Int32) (L0 : Int64) (M0 : Nat → Nat → Int32) (x1 : Int32) (x2 : Int32) (h_x1 : 0 ≤ x1.toInt ∧ x1.toInt ≤ 6) (h_x2 : -60 ≤ x2.toInt ∧ x2.toInt ≤ 21599) (k_I0 : KX12 I0 M0) : wq (fX12_climbOf N I0 L0 M0 x1 x2) (fun r => True) := by
  unfold fX12_climbOf
  have l_0 := il_0
  exact tt_fX12_climbOf_L5 hN I0 L0 M0 x1 x2 ⟨by omega, by omega⟩ ⟨by omega, by omega⟩ k_I0 N (0 : Int32) (0 : Int32) ⟨by omega, by omega⟩ (by omega)
theorem sm_nn (f : Nat → Int32) (a : Nat) (n : Nat) (h : ∀ z : Nat, z < n → 1 ≤ (f (a + z)).toInt) : ∀ m : Nat, m ≤ n → (m : Int) ≤ sm f a m ∧ sm f a m + ((n - m : Nat) : Int) ≤ sm f a n := by
  intro m hm
  constructor
  · induction m with
    | zero => simp [sm]
    | succ m ih => have := ih (by omega); have := h m (by omega); simp only [sm]; omega
  · have key : ∀ d : Nat, m + d ≤ n → sm f a m + (d : Int) ≤ sm f a (m + d) := by
      intro d
      induction d with
      | zero => intro _; simp
      | succ d ih => intro hd; have := ih (by omega); have := h (m + d) (by omega); show _ ≤ sm f a (m + d) + (f (a + (m + d))).toInt; omega
    have := key (n - m) (by omega)
    have e : m + (n - m) = n := by omega
    rw [e] at this
    exact this
theorem tt_fX12_placeOf_L5 {N : Nat} (I0 : Nat → Int32) (L0 : Int64) (M0 : Nat → Nat → Int32) (x1 x2 : Int32) (c : Nat) (hc : c ≤ 6) (hx : x1 = nI c) (hv : RV (M0 4) c) : ∀ (fu : Nat) (s : Nat) (left : Int32), s ≤ 11 → left.toInt + 1800 * sm (M0 4) (12 * c) s < 6480000 → 12 - s < fu → wq (fX12_placeOf_L5 N I0 L0 M0 x1 x2 fu left (nI s)) (fun r => True) := by
  intro fu
  induction fu with
  | zero => intro s left h1 h2 h3; omega
  | succ fu ih =>
    intro s left h1 h2 h3
    subst hx
    have e12 : (12 : Int32) * nI c + nI s = nI (12 * c + s) := by rw [show (12 : Int32) = nI 12 from rfl, pk_mul, nI_add]
    have hr := hv.1 s (by omega)
    have l18 : (1800 : Int32).toInt = 1800 := by decide
    rw [fX12_placeOf_L5.eq_2, e12]
    have hin : ¬ (nI (12 * c + s) < 0 ∨ 84 ≤ (nI (12 * c + s)).toNatClampNeg) := wp_in (by omega) (by decide)
    rw [if_neg hin, nI_clamp (by omega)]
    rw [nI_clamp (by omega)] at hin
    have tm := ia_mul (1800 : Int32) 1800 l18 (M0 4 (12 * c + s)) (by omega) (by omega)
    refine wq_lt (fun hq => ?_) (fun hq => ?_)
    · rw [if_neg hin]
      exact wq_nz (by omega) (wq_s trivial)
    · rw [if_neg hin]
      have hs := sm_nn (M0 4) (12 * c) 12 (fun z hz => (hv.1 z hz).1)
      have ts := ia_sub left ((1800 : Int32) * M0 4 (12 * c + s)) (by omega) (by have := Int32.toInt_lt left; omega)
      refine wq_v (fun v ev => ?_)
      have tv := congrArg Int32.toInt ev
      refine wq_v (fun w ew => ?_)
      rw [ew, nI_1]
      have es : sm (M0 4) (12 * c) (s + 1) = sm (M0 4) (12 * c) s + (M0 4 (12 * c + s)).toInt := rfl
      have hsum := hv.2
      refine ih (s + 1) v ?_ (by omega) (by omega)
      rcases Nat.lt_or_ge s 11 with q | q
      · omega
      · exfalso
        have e11 : s = 11 := by omega
        subst e11
        have e2 : sm (M0 4) (12 * c) 12 = sm (M0 4) (12 * c) 11 + (M0 4 (12 * c + 11)).toInt := rfl
        omega
theorem tt_fX12_placeOf {N : Nat} (hN : 3000000000 ≤ N) (I0 : Nat → Int32) (L0 : Int64) (M0 : Nat → Nat → Int32) (x1 : Int32) (x2 : Int32) (h_x1 : 0 ≤ x1.toInt ∧ x1.toInt ≤ 6) (k_I0 : KX12 I0 M0) (hr_2 : x1.toInt < (I0 1).toInt) (hr_3 : x2.toInt < 6480000) : wq (fX12_placeOf N I0 L0 M0 x1 x2) (fun r => True) := by
  unfold fX12_placeOf
  have h0 : 0 ≤ x1.toInt := h_x1.1
  have ex : x1 = nI x1.toInt.toNat := by
    apply Int32.toInt_inj.mp
    rw [nI_toInt (by omega)]
    omega
  have hv := k_I0.er1 x1.toInt.toNat (by omega)
  exact tt_fX12_placeOf_L5 I0 L0 M0 x1 x2 x1.toInt.toNat (by omega) ex hv N 0 x2 (by omega) (by simp only [sm]; omega) (by omega)
set_option maxHeartbeats 4000000 in
theorem tt_fX12_isClimate {N : Nat} (hN : 3000000000 ≤ N) (I0 : Nat → Int32) (L0 : Int64) (M0 : Nat → Nat → Int32) (x1 : Int32) (x2 : Int32) (k_I0 : KX12 I0 M0) : wq (fX12_isClimate N I0 L0 M0 x1 x2) (fun r => (r.1.toInt = 0 ∨ (r.1.toInt = 1 ∧ 0 ≤ x1.toInt ∧ x1.toInt ≤ 6 ∧ x1.toInt < (r.2.1 1).toInt ∧ 0 ≤ x2.toInt ∧ x2.toInt ≤ 21599)) ∧ (r.2.1 1).toInt = (I0 1).toInt ∧ (0 ≤ r.1.toInt ∧ r.1.toInt ≤ 1) ∧ KX12 r.2.1 r.2.2.2 ∧ True) := by
  unfold fX12_isClimate
  have b_39284 := i32b x1
  have l_0 := il_0
  refine wq_lt (fun hc_39285 => ?_) (fun hc_39286 => ?_)
  · have l_1 := il_1
    refine wq_b (tt_fX12_right hN I0 L0 M0 (0 : Int32) (1 : Int32) ⟨by omega, by omega⟩ k_I0) (fun r1_q39287 h_r1_q39287 => ?_)
    obtain ⟨h_r1_q39287_0, h_r1_q39287_1, h_r1_q39287_2, h_r1_q39287_3, -⟩ := h_r1_q39287
    have t_39288 := KX12.i1 h_r1_q39287_3
    have t_39289 := KX12.i1 k_I0
    refine wq_bz (by omega) ?_
    have b_39290 := i32b x2
    exact wq_s ⟨(show (r1_q39287.1.toInt = 0 ∨ (r1_q39287.1.toInt = 1 ∧ 0 ≤ x1.toInt ∧ x1.toInt ≤ 6 ∧ x1.toInt < (r1_q39287.2.1 1).toInt ∧ 0 ≤ x2.toInt ∧ x2.toInt ≤ 21599)) from by omega), (show (r1_q39287.2.1 1).toInt = (I0 1).toInt from by omega), (show 0 ≤ r1_q39287.1.toInt ∧ r1_q39287.1.toInt ≤ 1 from ⟨by omega, by omega⟩), h_r1_q39287_3, trivial⟩
  · have t_39291 := KX12.i1 k_I0
    refine wq_le (fun hc_39292 => ?_) (fun hc_39293 => ?_)
    · have l_1 := il_1
      refine wq_b (tt_fX12_right hN I0 L0 M0 (0 : Int32) (1 : Int32) ⟨by omega, by omega⟩ k_I0) (fun r2_q39294 h_r2_q39294 => ?_)
      obtain ⟨h_r2_q39294_0, h_r2_q39294_1, h_r2_q39294_2, h_r2_q39294_3, -⟩ := h_r2_q39294
      have t_39295 := KX12.i1 h_r2_q39294_3
      refine wq_bz (by omega) ?_
      have b_39296 := i32b x2
      exact wq_s ⟨(show (r2_q39294.1.toInt = 0 ∨ (r2_q39294.1.toInt = 1 ∧ 0 ≤ x1.toInt ∧ x1.toInt ≤ 6 ∧ x1.toInt < (r2_q39294.2.1 1).toInt ∧ 0 ≤ x2.toInt ∧ x2.toInt ≤ 21599)) from by omega), (show (r2_q39294.2.1 1).toInt = (I0 1).toInt from by omega), (show 0 ≤ r2_q39294.1.toInt ∧ r2_q39294.1.toInt ≤ 1 from ⟨by omega, by omega⟩), h_r2_q39294_3, trivial⟩
    · have b_39297 := i32b x2
      have l_21599 := il_21599
      refine wq_b (tt_fX12_within hN x2 (0 : Int32) (21599 : Int32)) (fun r3_q39298 h_r3_q39298 => ?_)
      obtain ⟨h_r3_q39298_0, h_r3_q39298_1, -⟩ := h_r3_q39298
      refine wq_eq (fun hc_39299 => ?_) (fun hc_39300 => ?_)
      · have l_1 := il_1
        refine wq_b (tt_fX12_right hN I0 L0 M0 (0 : Int32) (1 : Int32) ⟨by omega, by omega⟩ k_I0) (fun r4_q39301 h_r4_q39301 => ?_)
        obtain ⟨h_r4_q39301_0, h_r4_q39301_1, h_r4_q39301_2, h_r4_q39301_3, -⟩ := h_r4_q39301
        have t_39302 := KX12.i1 h_r4_q39301_3
        refine wq_bz (by omega) ?_
        exact wq_s ⟨(show (r4_q39301.1.toInt = 0 ∨ (r4_q39301.1.toInt = 1 ∧ 0 ≤ x1.toInt ∧ x1.toInt ≤ 6 ∧ x1.toInt < (r4_q39301.2.1 1).toInt ∧ 0 ≤ x2.toInt ∧ x2.toInt ≤ 21599)) from by omega), (show (r4_q39301.2.1 1).toInt = (I0 1).toInt from by omega), (show 0 ≤ r4_q39301.1.toInt ∧ r4_q39301.1.toInt ≤ 1 from ⟨by omega, by omega⟩), h_r4_q39301_3, trivial⟩
      · have l_1 := il_1
        refine wq_b (tt_fX12_right hN I0 L0 M0 (1 : Int32) (1 : Int32) ⟨by omega, by omega⟩ k_I0) (fun r5_q39303 h_r5_q39303 => ?_)
        obtain ⟨h_r5_q39303_0, h_r5_q39303_1, h_r5_q39303_2, h_r5_q39303_3, -⟩ := h_r5_q39303
        have t_39304 := KX12.i1 h_r5_q39303_3
        refine wq_bz (by omega) ?_
        exact wq_s ⟨(show (r5_q39303.1.toInt = 0 ∨ (r5_q39303.1.toInt = 1 ∧ 0 ≤ x1.toInt ∧ x1.toInt ≤ 6 ∧ x1.toInt < (r5_q39303.2.1 1).toInt ∧ 0 ≤ x2.toInt ∧ x2.toInt ≤ 21599)) from by omega), (show (r5_q39303.2.1 1).toInt = (I0 1).toInt from by omega), (show 0 ≤ r5_q39303.1.toInt ∧ r5_q39303.1.toInt ≤ 1 from ⟨by omega, by omega⟩), h_r5_q39303_3, trivial⟩
set_option maxHeartbeats 4000000 in
theorem tt_fX12_climb {N : Nat} (hN : 3000000000 ≤ N) (I0 : Nat → Int32) (L0 : Int64) (M0 : Nat → Nat → Int32) (x1 : Int32) (x2 : Int32) (k_I0 : KX12 I0 M0) : wq (fX12_climb N I0 L0 M0 x1 x2) (fun r => KX12 r.2.1 r.2.2.2 ∧ True) := by
  unfold fX12_climb
  refine wq_v (fun I0_1_q39371 h_I0_1_q39371 => ?_)
  have k_I0_1_q39371 : KX12 I0_1_q39371 M0 := by rw [h_I0_1_q39371]; exact KX12.si0 k_I0
  have b_39372 := i32b x1
  have b_39373 := i32b x2
  refine wq_b (tt_fX12_isClimate hN I0_1_q39371 L0 M0 x1 x2 k_I0_1_q39371) (fun r2_q39374 h_r2_q39374 => ?_)
  obtain ⟨h_r2_q39374_0, h_r2_q39374_1, h_r2_q39374_2, h_r2_q39374_3, -⟩ := h_r2_q39374
  have t_39375 := KX12.i1 h_r2_q39374_3
  have t_39376 := KX12.i1 k_I0
  have t_39377 : (I0_1_q39371 1).toInt = (I0 1).toInt := by rw [h_I0_1_q39371]; rfl
  have l_0 := il_0
  refine wq_eq (fun hc_39378 => ?_) (fun hc_39379 => ?_)
  · exact wq_s ⟨h_r2_q39374_3, trivial⟩
  · refine wq_b (tt_fX12_climbOf hN r2_q39374.2.1 r2_q39374.2.2.1 r2_q39374.2.2.2 x1 x2 ⟨by omega, by omega⟩ ⟨by omega, by omega⟩ h_r2_q39374_3) (fun r3_q39380 h_r3_q39380 => ?_)
    obtain ⟨-⟩ := h_r3_q39380
    have b_39381 := i32b r3_q39380
    exact wq_s ⟨h_r2_q39374_3, trivial⟩
set_option maxHeartbeats 4000000 in
theorem tt_fX12_riseOf {N : Nat} (hN : 3000000000 ≤ N) (I0 : Nat → Int32) (L0 : Int64) (M0 : Nat → Nat → Int32) (x1 : Int32) (x2 : Int32) (x3 : Int32) (h_x1 : 0 ≤ x1.toInt ∧ x1.toInt ≤ 6) (h_x2 : -60 ≤ x2.toInt ∧ x2.toInt ≤ 21599) (h_x3 : 0 ≤ x3.toInt ∧ x3.toInt ≤ 359) (k_I0 : KX12 I0 M0) (hr_4 : x1.toInt < (I0 1).toInt) : wq (fX12_riseOf N I0 L0 M0 x1 x2 x3) (fun r => True) := by
  unfold fX12_riseOf
  refine wq_b (tt_fX12_climbOf hN I0 L0 M0 x1 x2 ⟨by omega, by omega⟩ ⟨by omega, by omega⟩ k_I0) (fun r1_q39418 h_r1_q39418 => ?_)
  obtain ⟨-⟩ := h_r1_q39418
  have b_39419 := i32b r1_q39418
  have l_18000 := il_18000
  have t_39420 := ia_mul (18000 : Int32) (18000) il_18000 x3 (by omega) (by omega)
  have l_6480000 := il_6480000
  have t_39421 := ia_rem2 (r1_q39418 + ((18000 : Int32) * x3)) (6480000 : Int32) 6480000 il_6480000 (by decide)
  have t_39422 := KX12.i1 k_I0
  refine wq_b (tt_fX12_placeOf hN I0 L0 M0 x1 ((r1_q39418 + ((18000 : Int32) * x3)) - (((r1_q39418 + ((18000 : Int32) * x3)) / (6480000 : Int32)) * (6480000 : Int32))) ⟨by omega, by omega⟩ k_I0 (by omega) (by omega)) (fun r2_q39423 h_r2_q39423 => ?_)
  obtain ⟨-⟩ := h_r2_q39423
  have b_39424 := i32b r2_q39423
  exact wq_s trivial
set_option maxHeartbeats 4000000 in
theorem tt_fX12_rise {N : Nat} (hN : 3000000000 ≤ N) (I0 : Nat → Int32) (L0 : Int64) (M0 : Nat → Nat → Int32) (x1 : Int32) (x2 : Int32) (x3 : Int32) (k_I0 : KX12 I0 M0) : wq (fX12_rise N I0 L0 M0 x1 x2 x3) (fun r => KX12 r.2.1 r.2.2.2 ∧ True) := by
  unfold fX12_rise
  refine wq_v (fun I0_1_q39527 h_I0_1_q39527 => ?_)
  have k_I0_1_q39527 : KX12 I0_1_q39527 M0 := by rw [h_I0_1_q39527]; exact KX12.si0 k_I0
  have b_39528 := i32b x1
  have b_39529 := i32b x2
  refine wq_b (tt_fX12_isClimate hN I0_1_q39527 L0 M0 x1 x2 k_I0_1_q39527) (fun r2_q39530 h_r2_q39530 => ?_)
  obtain ⟨h_r2_q39530_0, h_r2_q39530_1, h_r2_q39530_2, h_r2_q39530_3, -⟩ := h_r2_q39530
  have t_39531 := KX12.i1 h_r2_q39530_3
  have t_39532 := KX12.i1 k_I0
  have t_39533 : (I0_1_q39527 1).toInt = (I0 1).toInt := by rw [h_I0_1_q39527]; rfl
  have l_0 := il_0
  refine wq_eq (fun hc_39534 => ?_) (fun hc_39535 => ?_)
  · exact wq_s ⟨h_r2_q39530_3, trivial⟩
  · have b_39536 := i32b x3
    have l_359 := il_359
    refine wq_b (tt_fX12_within hN x3 (0 : Int32) (359 : Int32)) (fun r3_q39537 h_r3_q39537 => ?_)
    obtain ⟨h_r3_q39537_0, h_r3_q39537_1, -⟩ := h_r3_q39537
    have l_1 := il_1
    refine wq_b (tt_fX12_right hN r2_q39530.2.1 r2_q39530.2.2.1 r2_q39530.2.2.2 r3_q39537 (1 : Int32) ⟨by omega, by omega⟩ h_r2_q39530_3) (fun r4_q39538 h_r4_q39538 => ?_)
    obtain ⟨h_r4_q39538_0, h_r4_q39538_1, h_r4_q39538_2, h_r4_q39538_3, -⟩ := h_r4_q39538
    have t_39539 := KX12.i1 h_r4_q39538_3
    refine wq_eq (fun hc_39540 => ?_) (fun hc_39541 => ?_)
    · exact wq_s ⟨h_r4_q39538_3, trivial⟩
    · refine wq_b (tt_fX12_riseOf hN r4_q39538.2.1 r4_q39538.2.2.1 r4_q39538.2.2.2 x1 x2 x3 ⟨by omega, by omega⟩ ⟨by omega, by omega⟩ ⟨by omega, by omega⟩ h_r4_q39538_3 (by omega)) (fun r5_q39542 h_r5_q39542 => ?_)
      obtain ⟨-⟩ := h_r5_q39542
      have b_39543 := i32b r5_q39542
      exact wq_s ⟨h_r4_q39538_3, trivial⟩
set_option maxHeartbeats 4000000 in
theorem tt_fX12_middleOf {N : Nat} (hN : 3000000000 ≤ N) (I0 : Nat → Int32) (L0 : Int64) (M0 : Nat → Nat → Int32) (x1 : Int32) (x2 : Int32) (h_x1 : 0 ≤ x1.toInt ∧ x1.toInt ≤ 6) (h_x2 : -60 ≤ x2.toInt ∧ x2.toInt ≤ 21599) (k_I0 : KX12 I0 M0) (hr_3 : x1.toInt < (I0 1).toInt) : wq (fX12_middleOf N I0 L0 M0 x1 x2) (fun r => True) := by
  unfold fX12_middleOf
  refine wq_b (tt_fX12_climbOf hN I0 L0 M0 x1 x2 ⟨by omega, by omega⟩ ⟨by omega, by omega⟩ k_I0) (fun r1_q39574 h_r1_q39574 => ?_)
  obtain ⟨-⟩ := h_r1_q39574
  have l_0 := il_0
  have b_39575 := i32b r1_q39574
  have l_6480000 := il_6480000
  have l_1620000 := il_1620000
  have t_39576 := ia_rem2 ((r1_q39574 + (6480000 : Int32)) - (1620000 : Int32)) (6480000 : Int32) 6480000 il_6480000 (by decide)
  have t_39577 := KX12.i1 k_I0
  refine wq_b (tt_fX12_placeOf hN I0 L0 M0 (0 : Int32) (((r1_q39574 + (6480000 : Int32)) - (1620000 : Int32)) - ((((r1_q39574 + (6480000 : Int32)) - (1620000 : Int32)) / (6480000 : Int32)) * (6480000 : Int32))) ⟨by omega, by omega⟩ k_I0 (by omega) (by omega)) (fun r2_q39578 h_r2_q39578 => ?_)
  obtain ⟨-⟩ := h_r2_q39578
  have b_39579 := i32b r2_q39578
  exact wq_s trivial
set_option maxHeartbeats 4000000 in
theorem tt_fX12_middle {N : Nat} (hN : 3000000000 ≤ N) (I0 : Nat → Int32) (L0 : Int64) (M0 : Nat → Nat → Int32) (x1 : Int32) (x2 : Int32) (k_I0 : KX12 I0 M0) : wq (fX12_middle N I0 L0 M0 x1 x2) (fun r => KX12 r.2.1 r.2.2.2 ∧ True) := by
  unfold fX12_middle
  refine wq_v (fun I0_1_q39646 h_I0_1_q39646 => ?_)
  have k_I0_1_q39646 : KX12 I0_1_q39646 M0 := by rw [h_I0_1_q39646]; exact KX12.si0 k_I0
  have b_39647 := i32b x1
  have b_39648 := i32b x2
  refine wq_b (tt_fX12_isClimate hN I0_1_q39646 L0 M0 x1 x2 k_I0_1_q39646) (fun r2_q39649 h_r2_q39649 => ?_)
  obtain ⟨h_r2_q39649_0, h_r2_q39649_1, h_r2_q39649_2, h_r2_q39649_3, -⟩ := h_r2_q39649
  have t_39650 := KX12.i1 h_r2_q39649_3
  have t_39651 := KX12.i1 k_I0
  have t_39652 : (I0_1_q39646 1).toInt = (I0 1).toInt := by rw [h_I0_1_q39646]; rfl
  have l_0 := il_0
  refine wq_eq (fun hc_39653 => ?_) (fun hc_39654 => ?_)
  · exact wq_s ⟨h_r2_q39649_3, trivial⟩
  · refine wq_b (tt_fX12_middleOf hN r2_q39649.2.1 r2_q39649.2.2.1 r2_q39649.2.2.2 x1 x2 ⟨by omega, by omega⟩ ⟨by omega, by omega⟩ h_r2_q39649_3 (by omega)) (fun r3_q39655 h_r3_q39655 => ?_)
    obtain ⟨-⟩ := h_r3_q39655
    have b_39656 := i32b r3_q39655
    exact wq_s ⟨h_r2_q39649_3, trivial⟩
set_option maxHeartbeats 4000000 in
theorem tt_fX12_isHour {N : Nat} (hN : 3000000000 ≤ N) (I0 : Nat → Int32) (L0 : Int64) (M0 : Nat → Nat → Int32) (x1 : Int32) (x2 : Int32) (x3 : Int32) (h_x1 : 0 ≤ x1.toInt ∧ x1.toInt ≤ 119) (h_x2 : 0 ≤ x2.toInt ∧ x2.toInt ≤ 6) (h_x3 : 0 ≤ x3.toInt ∧ x3.toInt ≤ 359) (k_I0 : KX12 I0 M0) (hr_4 : x2.toInt < (I0 1).toInt) : wq (fX12_isHour N I0 L0 M0 x1 x2 x3) (fun r => (0 ≤ r.toInt ∧ r.toInt ≤ 1) ∧ True) := by
  unfold fX12_isHour
  have l_0 := il_0
  refine wq_b (tt_fX12_at hN I0 L0 M0 x1 (0 : Int32) ⟨by omega, by omega⟩ ⟨by omega, by omega⟩ k_I0) (fun r1_q39711 h_r1_q39711 => ?_)
  obtain ⟨h_r1_q39711_0, h_r1_q39711_1, h_r1_q39711_2, -⟩ := h_r1_q39711
  have l_60 := il_60
  have t_39712 := ia_mul (60 : Int32) (60) il_60 r1_q39711 (by omega) (by omega)
  have t_39713 := KX12.i1 k_I0
  refine wq_b (tt_fX12_riseOf hN I0 L0 M0 x2 ((60 : Int32) * r1_q39711) x3 ⟨by omega, by omega⟩ ⟨by omega, by omega⟩ ⟨by omega, by omega⟩ k_I0 (by omega)) (fun r2_q39714 h_r2_q39714 => ?_)
  obtain ⟨-⟩ := h_r2_q39714
  have l_7 := il_7
  refine wq_b (tt_fX12_at hN I0 L0 M0 x1 (7 : Int32) ⟨by omega, by omega⟩ ⟨by omega, by omega⟩ k_I0) (fun r3_q39715 h_r3_q39715 => ?_)
  obtain ⟨h_r3_q39715_0, h_r3_q39715_1, h_r3_q39715_2, -⟩ := h_r3_q39715
  have b_39716 := i32b r2_q39714
  have t_39717 := i32b r2_q39714
  have t_39718 := ia_div2 r2_q39714 (60 : Int32) 60 il_60 (by decide)
  refine wq_eq (fun hc_39719 => ?_) (fun hc_39720 => ?_)
  · have l_1 := il_1
    exact wq_s ⟨(show 0 ≤ (1 : Int32).toInt ∧ (1 : Int32).toInt ≤ 1 from ⟨by omega, by omega⟩), trivial⟩
  · exact wq_s ⟨(show 0 ≤ (0 : Int32).toInt ∧ (0 : Int32).toInt ≤ 1 from ⟨by omega, by omega⟩), trivial⟩
set_option maxHeartbeats 4000000 in
theorem tt_fX12_hour_L67 {N : Nat} (hN : 3000000000 ≤ N) (x1 : Int32) (x2 : Int32) (x3 : Int32) (y61_4 : Int32) (y61_5 : Int32) (h_x1 : 0 ≤ x1.toInt ∧ x1.toInt ≤ 5) (h_x2 : 0 ≤ x2.toInt ∧ x2.toInt ≤ 19) (h_y61_4 : 0 ≤ y61_4.toInt ∧ y61_4.toInt ≤ 119) (h_y61_5 : 0 ≤ y61_5.toInt ∧ y61_5.toInt ≤ 1)  : ∀ (fu : Nat) (I0_l67 : (Nat → Int32)) (L0_l67 : Int64) (M0_l67 : (Nat → Nat → Int32)) (y67_6 : Int32) (y67_7 : Int32), (0 ≤ y67_7.toInt ∧ y67_7.toInt ≤ 2520) → (KX12 I0_l67 M0_l67) → (2520 - y67_7.toInt) < (fu : Int) → wq (fX12_hour_L67 N x1 x2 x3 y61_4 y61_5 fu I0_l67 L0_l67 M0_l67 y67_6 y67_7) (fun r => KX12 r.2.1 r.2.2.2 ∧ True) := by
  intro fu
  induction fu with
  | zero => intro I0_l67 L0_l67 M0_l67 y67_6 y67_7 h_y67_7 k_I0_l67 hm; exfalso; omega
  | succ fu ih =>
    intro I0_l67 L0_l67 M0_l67 y67_6 y67_7 h_y67_7 k_I0_l67 hm
    rw [fX12_hour_L67.eq_2]
    have t_41258 := KX12.i1 k_I0_l67
    have l_360 := il_360
    have t_41259 := ia_mul (360 : Int32) (360) il_360 (I0_l67 1) (by omega) (by omega)
    refine wq_le (fun hc_41260 => ?_) (fun hc_41261 => ?_)
    · unfold fX12_hour_J127
      have b_41262 := i32b x3
      have l_m1 := il_m1
      refine wq_eq (fun hc_41263 => ?_) (fun hc_41264 => ?_)
      · have l_1 := il_1
        refine wq_b (tt_fX12_right hN I0_l67 L0_l67 M0_l67 (1 : Int32) (1 : Int32) ⟨by omega, by omega⟩ k_I0_l67) (fun r2_q41265 h_r2_q41265 => ?_)
        obtain ⟨h_r2_q41265_0, h_r2_q41265_1, h_r2_q41265_2, h_r2_q41265_3, -⟩ := h_r2_q41265
        have t_41266 := KX12.i1 h_r2_q41265_3
        have l_0 := il_0
        refine wq_eq (fun hc_41267 => ?_) (fun hc_41268 => ?_)
        · exact wq_s ⟨h_r2_q41265_3, trivial⟩
        · have b_41269 := i32b y67_6
          exact wq_s ⟨h_r2_q41265_3, trivial⟩
      · have l_0 := il_0
        have l_1 := il_1
        refine wq_b (tt_fX12_right hN I0_l67 L0_l67 M0_l67 (0 : Int32) (1 : Int32) ⟨by omega, by omega⟩ k_I0_l67) (fun r1_q41270 h_r1_q41270 => ?_)
        obtain ⟨h_r1_q41270_0, h_r1_q41270_1, h_r1_q41270_2, h_r1_q41270_3, -⟩ := h_r1_q41270
        have t_41271 := KX12.i1 h_r1_q41270_3
        refine wq_eq (fun hc_41272 => ?_) (fun hc_41273 => ?_)
        · exact wq_s ⟨h_r1_q41270_3, trivial⟩
        · have b_41274 := i32b y67_6
          exact wq_s ⟨h_r1_q41270_3, trivial⟩
    · have l_0 := il_0
      refine wq_eq (fun hc_41275 => ?_) (fun hc_41276 => ?_)
      · unfold fX12_hour_J127
        have b_41277 := i32b x3
        have l_m1 := il_m1
        refine wq_eq (fun hc_41278 => ?_) (fun hc_41279 => ?_)
        · have l_1 := il_1
          refine wq_b (tt_fX12_right hN I0_l67 L0_l67 M0_l67 (1 : Int32) (1 : Int32) ⟨by omega, by omega⟩ k_I0_l67) (fun r2_q41280 h_r2_q41280 => ?_)
          obtain ⟨h_r2_q41280_0, h_r2_q41280_1, h_r2_q41280_2, h_r2_q41280_3, -⟩ := h_r2_q41280
          have t_41281 := KX12.i1 h_r2_q41280_3
          refine wq_eq (fun hc_41282 => ?_) (fun hc_41283 => ?_)
          · exact wq_s ⟨h_r2_q41280_3, trivial⟩
          · have b_41284 := i32b y67_6
            exact wq_s ⟨h_r2_q41280_3, trivial⟩
        · have l_1 := il_1
          refine wq_b (tt_fX12_right hN I0_l67 L0_l67 M0_l67 (0 : Int32) (1 : Int32) ⟨by omega, by omega⟩ k_I0_l67) (fun r1_q41285 h_r1_q41285 => ?_)
          obtain ⟨h_r1_q41285_0, h_r1_q41285_1, h_r1_q41285_2, h_r1_q41285_3, -⟩ := h_r1_q41285
          have t_41286 := KX12.i1 h_r1_q41285_3
          refine wq_eq (fun hc_41287 => ?_) (fun hc_41288 => ?_)
          · exact wq_s ⟨h_r1_q41285_3, trivial⟩
          · have b_41289 := i32b y67_6
            exact wq_s ⟨h_r1_q41285_3, trivial⟩
      · have t_41290 := ia_div y67_7 (360 : Int32) 360 il_360 (by decide) (by omega)
        have t_41291 := ia_rem y67_7 (360 : Int32) 360 il_360 (by decide) (by omega)
        refine wq_b (tt_fX12_isHour hN I0_l67 L0_l67 M0_l67 y61_4 (y67_7 / (360 : Int32)) (y67_7 - ((y67_7 / (360 : Int32)) * (360 : Int32))) ⟨by omega, by omega⟩ ⟨by omega, by omega⟩ ⟨by omega, by omega⟩ k_I0_l67 (by omega)) (fun r3_q41292 h_r3_q41292 => ?_)
        obtain ⟨h_r3_q41292_0, -⟩ := h_r3_q41292
        refine wq_eq (fun hc_41293 => ?_) (fun hc_41294 => ?_)
        · have l_1 := il_1
          have t_41296 := ia_add y67_7 (1 : Int32) (by omega) (by omega)
          refine wq_v (fun v6_q41295 h_v6_q41295 => ?_)
          have t_v6_q41295 := congrArg Int32.toInt h_v6_q41295
          have b_41297 := i32b y67_6
          exact ih I0_l67 L0_l67 M0_l67 y67_6 v6_q41295 ⟨by omega, by omega⟩ k_I0_l67 (by omega)
        · have b_41298 := i32b y67_6
          have b_41299 := i32b x3
          refine wq_eq (fun hc_41300 => ?_) (fun hc_41301 => ?_)
          · exact wq_s ⟨k_I0_l67, trivial⟩
          · have l_1 := il_1
            refine wq_v (fun v4_q41302 h_v4_q41302 => ?_)
            have t_v4_q41302 := congrArg Int32.toInt h_v4_q41302
            have t_41304 := ia_add y67_7 (1 : Int32) (by omega) (by omega)
            refine wq_v (fun v5_q41303 h_v5_q41303 => ?_)
            have t_v5_q41303 := congrArg Int32.toInt h_v5_q41303
            have b_41305 := i32b v4_q41302
            exact ih I0_l67 L0_l67 M0_l67 v4_q41302 v5_q41303 ⟨by omega, by omega⟩ k_I0_l67 (by omega)
set_option maxHeartbeats 4000000 in
theorem tt_fX12_hour {N : Nat} (hN : 3000000000 ≤ N) (I0 : Nat → Int32) (L0 : Int64) (M0 : Nat → Nat → Int32) (x1 : Int32) (x2 : Int32) (x3 : Int32) (k_I0 : KX12 I0 M0) : wq (fX12_hour N I0 L0 M0 x1 x2 x3) (fun r => KX12 r.2.1 r.2.2.2 ∧ True) := by
  unfold fX12_hour
  have b_41306 := i32b x1
  have b_41307 := i32b x2
  refine wq_b (tt_fX12_isWheel hN I0 L0 M0 x1 x2 k_I0) (fun r7_q41308 h_r7_q41308 => ?_)
  obtain ⟨h_r7_q41308_0, h_r7_q41308_1, h_r7_q41308_2, h_r7_q41308_3, -⟩ := h_r7_q41308
  have t_41309 := KX12.i1 h_r7_q41308_3
  have t_41310 := KX12.i1 k_I0
  have l_0 := il_0
  refine wq_eq (fun hc_41311 => ?_) (fun hc_41312 => ?_)
  · exact wq_s ⟨h_r7_q41308_3, trivial⟩
  · have l_20 := il_20
    have t_41314 := ia_mul (20 : Int32) (20) il_20 x1 (by omega) (by omega)
    have t_41315 := ia_add ((20 : Int32) * x1) x2 (by omega) (by omega)
    refine wq_v (fun v8_q41313 h_v8_q41313 => ?_)
    have t_v8_q41313 := congrArg Int32.toInt h_v8_q41313
    refine wq_b (tt_fX12_at hN r7_q41308.2.1 r7_q41308.2.2.1 r7_q41308.2.2.2 v8_q41313 (0 : Int32) ⟨by omega, by omega⟩ ⟨by omega, by omega⟩ h_r7_q41308_3) (fun r9b_q41316 h_r9b_q41316 => ?_)
    obtain ⟨h_r9b_q41316_0, h_r9b_q41316_1, h_r9b_q41316_2, -⟩ := h_r9b_q41316
    have l_m1 := il_m1
    refine wq_eq (fun hc_41317 => ?_) (fun hc_41318 => ?_)
    · unfold fX12_hour_J46
      unfold fX12_hour_J47
      refine wq_eq (fun hc_41319 => ?_) (fun hc_41320 => ?_)
      · have b_41321 := i32b x3
        refine wq_eq (fun hc_41322 => ?_) (fun hc_41323 => ?_)
        · exact wq_s ⟨h_r7_q41308_3, trivial⟩
        · unfold fX12_hour_J61
          exact tt_fX12_hour_L67 hN x1 x2 x3 v8_q41313 (0 : Int32) ⟨by omega, by omega⟩ ⟨by omega, by omega⟩ ⟨by omega, by omega⟩ ⟨by omega, by omega⟩ N r7_q41308.2.1 r7_q41308.2.2.1 r7_q41308.2.2.2 (0 : Int32) (0 : Int32) ⟨by omega, by omega⟩ h_r7_q41308_3 (by omega)
      · exfalso; omega
    · have l_7 := il_7
      refine wq_b (tt_fX12_at hN r7_q41308.2.1 r7_q41308.2.2.1 r7_q41308.2.2.2 v8_q41313 (7 : Int32) ⟨by omega, by omega⟩ ⟨by omega, by omega⟩ h_r7_q41308_3) (fun r10_q41324 h_r10_q41324 => ?_)
      obtain ⟨h_r10_q41324_0, h_r10_q41324_1, h_r10_q41324_2, -⟩ := h_r10_q41324
      refine wq_eq (fun hc_41325 => ?_) (fun hc_41326 => ?_)
      · unfold fX12_hour_J46
        unfold fX12_hour_J47
        refine wq_eq (fun hc_41327 => ?_) (fun hc_41328 => ?_)
        · have b_41329 := i32b x3
          refine wq_eq (fun hc_41330 => ?_) (fun hc_41331 => ?_)
          · exact wq_s ⟨h_r7_q41308_3, trivial⟩
          · unfold fX12_hour_J61
            exact tt_fX12_hour_L67 hN x1 x2 x3 v8_q41313 (0 : Int32) ⟨by omega, by omega⟩ ⟨by omega, by omega⟩ ⟨by omega, by omega⟩ ⟨by omega, by omega⟩ N r7_q41308.2.1 r7_q41308.2.2.1 r7_q41308.2.2.2 (0 : Int32) (0 : Int32) ⟨by omega, by omega⟩ h_r7_q41308_3 (by omega)
        · exfalso; omega
      · unfold fX12_hour_J47
        have l_1 := il_1
        refine wq_eq (fun hc_41332 => ?_) (fun hc_41333 => ?_)
        · exfalso; omega
        · unfold fX12_hour_J61
          have b_41334 := i32b x3
          exact tt_fX12_hour_L67 hN x1 x2 x3 v8_q41313 (1 : Int32) ⟨by omega, by omega⟩ ⟨by omega, by omega⟩ ⟨by omega, by omega⟩ ⟨by omega, by omega⟩ N r7_q41308.2.1 r7_q41308.2.2.1 r7_q41308.2.2.2 (0 : Int32) (0 : Int32) ⟨by omega, by omega⟩ h_r7_q41308_3 (by omega)
set_option maxHeartbeats 4000000 in
theorem tt_fX12_houseAt {N : Nat} (hN : 3000000000 ≤ N) (I0 : Nat → Int32) (L0 : Int64) (M0 : Nat → Nat → Int32) (x1 : Int32) (x2 : Int32) (x3 : Int32) (x4 : Int32) (h_x1 : -1 ≤ x1.toInt ∧ x1.toInt ≤ 359) (h_x4 : 1 ≤ x4.toInt ∧ x4.toInt ≤ 12) (k_I0 : KX12 I0 M0) (hr_3 : ((0 ≤ x2.toInt ∧ x2.toInt ≤ 1) ∨ (0 ≤ x3.toInt ∧ x3.toInt < (I0 1).toInt))) : wq (fX12_houseAt N I0 L0 M0 x1 x2 x3 x4) (fun r => (-359 ≤ r.toInt ∧ r.toInt ≤ 359) ∧ True) := by
  unfold fX12_houseAt
  have b_42241 := i32b x2
  have l_0 := il_0
  refine wq_eq (fun hc_42242 => ?_) (fun hc_42243 => ?_)
  · have l_30 := il_30
    have t_42244 := ia_div2 x1 (30 : Int32) 30 il_30 (by decide)
    have t_42245 := ia_add (x1 / (30 : Int32)) x4 (by omega) (by omega)
    have l_1 := il_1
    have t_42246 := ia_sub ((x1 / (30 : Int32)) + x4) (1 : Int32) (by omega) (by omega)
    have l_12 := il_12
    have t_42247 := ia_rem (((x1 / (30 : Int32)) + x4) - (1 : Int32)) (12 : Int32) 12 il_12 (by decide) (by omega)
    have t_42248 := ia_mul (30 : Int32) (30) il_30 ((((x1 / (30 : Int32)) + x4) - (1 : Int32)) - (((((x1 / (30 : Int32)) + x4) - (1 : Int32)) / (12 : Int32)) * (12 : Int32))) (by omega) (by omega)
    exact wq_s ⟨(show -359 ≤ ((30 : Int32) * ((((x1 / (30 : Int32)) + x4) - (1 : Int32)) - (((((x1 / (30 : Int32)) + x4) - (1 : Int32)) / (12 : Int32)) * (12 : Int32)))).toInt ∧ ((30 : Int32) * ((((x1 / (30 : Int32)) + x4) - (1 : Int32)) - (((((x1 / (30 : Int32)) + x4) - (1 : Int32)) / (12 : Int32)) * (12 : Int32)))).toInt ≤ 359 from ⟨by omega, by omega⟩), trivial⟩
  · have l_1 := il_1
    refine wq_eq (fun hc_42249 => ?_) (fun hc_42250 => ?_)
    · have t_42251 := ia_sub x4 (1 : Int32) (by omega) (by omega)
      have l_30 := il_30
      have t_42252 := ia_mul (30 : Int32) (30) il_30 (x4 - (1 : Int32)) (by omega) (by omega)
      have t_42253 := ia_add x1 ((30 : Int32) * (x4 - (1 : Int32))) (by omega) (by omega)
      have l_360 := il_360
      have t_42254 := ia_rem2 (x1 + ((30 : Int32) * (x4 - (1 : Int32)))) (360 : Int32) 360 il_360 (by decide)
      exact wq_s ⟨(show -359 ≤ ((x1 + ((30 : Int32) * (x4 - (1 : Int32)))) - (((x1 + ((30 : Int32) * (x4 - (1 : Int32)))) / (360 : Int32)) * (360 : Int32))).toInt ∧ ((x1 + ((30 : Int32) * (x4 - (1 : Int32)))) - (((x1 + ((30 : Int32) * (x4 - (1 : Int32)))) / (360 : Int32)) * (360 : Int32))).toInt ≤ 359 from ⟨by omega, by omega⟩), trivial⟩
    · have b_42255 := i32b x3
      have l_60 := il_60
      have t_42256 := ia_mul (60 : Int32) (60) il_60 x1 (by omega) (by omega)
      have t_42257 := KX12.i1 k_I0
      refine wq_b (tt_fX12_middleOf hN I0 L0 M0 x3 ((60 : Int32) * x1) ⟨by omega, by omega⟩ ⟨by omega, by omega⟩ k_I0 (by omega)) (fun r1_q42258 h_r1_q42258 => ?_)
      obtain ⟨-⟩ := h_r1_q42258
      have b_42260 := i32b r1_q42258
      have t_42261 := i32b r1_q42258
      have t_42262 := ia_div2 r1_q42258 (60 : Int32) 60 il_60 (by decide)
      refine wq_v (fun v2_q42259 h_v2_q42259 => ?_)
      have t_v2_q42259 := congrArg Int32.toInt h_v2_q42259
      have t_42264 := ia_sub x1 v2_q42259 (by omega) (by omega)
      have l_360 := il_360
      have t_42265 := ia_add (x1 - v2_q42259) (360 : Int32) (by omega) (by omega)
      have t_42266 := ia_rem2 ((x1 - v2_q42259) + (360 : Int32)) (360 : Int32) 360 il_360 (by decide)
      refine wq_v (fun v3_q42263 h_v3_q42263 => ?_)
      have t_v3_q42263 := congrArg Int32.toInt h_v3_q42263
      have l_180 := il_180
      have t_42268 := ia_add v2_q42259 (180 : Int32) (by omega) (by omega)
      have t_42269 := ia_sub (v2_q42259 + (180 : Int32)) x1 (by omega) (by omega)
      have t_42270 := ia_add ((v2_q42259 + (180 : Int32)) - x1) (360 : Int32) (by omega) (by omega)
      have t_42271 := ia_rem2 (((v2_q42259 + (180 : Int32)) - x1) + (360 : Int32)) (360 : Int32) 360 il_360 (by decide)
      refine wq_v (fun v4_q42267 h_v4_q42267 => ?_)
      have t_v4_q42267 := congrArg Int32.toInt h_v4_q42267
      have l_3 := il_3
      refine wq_le (fun hc_42272 => ?_) (fun hc_42273 => ?_)
      · unfold fX12_houseAt_J110
        unfold fX12_houseAt_J112
        refine wq_eq (fun hc_42274 => ?_) (fun hc_42275 => ?_)
        · unfold fX12_houseAt_J195
          refine wq_eq (fun hc_42276 => ?_) (fun hc_42277 => ?_)
          · have t_42278 := ia_rem2 x1 (360 : Int32) 360 il_360 (by decide)
            exact wq_s ⟨(show -359 ≤ (x1 - ((x1 / (360 : Int32)) * (360 : Int32))).toInt ∧ (x1 - ((x1 / (360 : Int32)) * (360 : Int32))).toInt ≤ 359 from ⟨by omega, by omega⟩), trivial⟩
          · have t_42279 := ia_add x1 (180 : Int32) (by omega) (by omega)
            have t_42280 := ia_rem (x1 + (180 : Int32)) (360 : Int32) 360 il_360 (by decide) (by omega)
            exact wq_s ⟨(show -359 ≤ ((x1 + (180 : Int32)) - (((x1 + (180 : Int32)) / (360 : Int32)) * (360 : Int32))).toInt ∧ ((x1 + (180 : Int32)) - (((x1 + (180 : Int32)) / (360 : Int32)) * (360 : Int32))).toInt ≤ 359 from ⟨by omega, by omega⟩), trivial⟩
        · have l_10 := il_10
          refine wq_eq (fun hc_42281 => ?_) (fun hc_42282 => ?_)
          · exfalso; omega
          · have l_11 := il_11
            refine wq_eq (fun hc_42283 => ?_) (fun hc_42284 => ?_)
            · exfalso; omega
            · have l_12 := il_12
              refine wq_eq (fun hc_42285 => ?_) (fun hc_42286 => ?_)
              · exfalso; omega
              · have l_2 := il_2
                refine wq_eq (fun hc_42287 => ?_) (fun hc_42288 => ?_)
                · unfold fX12_houseAt_J195
                  refine wq_eq (fun hc_42289 => ?_) (fun hc_42290 => ?_)
                  · have t_42291 := ia_div2 v4_q42267 (3 : Int32) 3 il_3 (by decide)
                    have t_42292 := ia_add x1 (v4_q42267 / (3 : Int32)) (by omega) (by omega)
                    have t_42293 := ia_rem2 (x1 + (v4_q42267 / (3 : Int32))) (360 : Int32) 360 il_360 (by decide)
                    exact wq_s ⟨(show -359 ≤ ((x1 + (v4_q42267 / (3 : Int32))) - (((x1 + (v4_q42267 / (3 : Int32))) / (360 : Int32)) * (360 : Int32))).toInt ∧ ((x1 + (v4_q42267 / (3 : Int32))) - (((x1 + (v4_q42267 / (3 : Int32))) / (360 : Int32)) * (360 : Int32))).toInt ≤ 359 from ⟨by omega, by omega⟩), trivial⟩
                  · have t_42294 := ia_div2 v4_q42267 (3 : Int32) 3 il_3 (by decide)
                    have t_42295 := ia_add x1 (v4_q42267 / (3 : Int32)) (by omega) (by omega)
                    have t_42296 := ia_add (x1 + (v4_q42267 / (3 : Int32))) (180 : Int32) (by omega) (by omega)
                    have t_42297 := ia_rem ((x1 + (v4_q42267 / (3 : Int32))) + (180 : Int32)) (360 : Int32) 360 il_360 (by decide) (by omega)
                    exact wq_s ⟨(show -359 ≤ (((x1 + (v4_q42267 / (3 : Int32))) + (180 : Int32)) - ((((x1 + (v4_q42267 / (3 : Int32))) + (180 : Int32)) / (360 : Int32)) * (360 : Int32))).toInt ∧ (((x1 + (v4_q42267 / (3 : Int32))) + (180 : Int32)) - ((((x1 + (v4_q42267 / (3 : Int32))) + (180 : Int32)) / (360 : Int32)) * (360 : Int32))).toInt ≤ 359 from ⟨by omega, by omega⟩), trivial⟩
                · unfold fX12_houseAt_J195
                  refine wq_eq (fun hc_42298 => ?_) (fun hc_42299 => ?_)
                  · have t_42300 := ia_mul (2 : Int32) (2) il_2 v4_q42267 (by omega) (by omega)
                    have t_42301 := ia_div2 ((2 : Int32) * v4_q42267) (3 : Int32) 3 il_3 (by decide)
                    have t_42302 := ia_add x1 (((2 : Int32) * v4_q42267) / (3 : Int32)) (by omega) (by omega)
                    have t_42303 := ia_rem2 (x1 + (((2 : Int32) * v4_q42267) / (3 : Int32))) (360 : Int32) 360 il_360 (by decide)
                    exact wq_s ⟨(show -359 ≤ ((x1 + (((2 : Int32) * v4_q42267) / (3 : Int32))) - (((x1 + (((2 : Int32) * v4_q42267) / (3 : Int32))) / (360 : Int32)) * (360 : Int32))).toInt ∧ ((x1 + (((2 : Int32) * v4_q42267) / (3 : Int32))) - (((x1 + (((2 : Int32) * v4_q42267) / (3 : Int32))) / (360 : Int32)) * (360 : Int32))).toInt ≤ 359 from ⟨by omega, by omega⟩), trivial⟩
                  · have t_42304 := ia_mul (2 : Int32) (2) il_2 v4_q42267 (by omega) (by omega)
                    have t_42305 := ia_div2 ((2 : Int32) * v4_q42267) (3 : Int32) 3 il_3 (by decide)
                    have t_42306 := ia_add x1 (((2 : Int32) * v4_q42267) / (3 : Int32)) (by omega) (by omega)
                    have t_42307 := ia_add (x1 + (((2 : Int32) * v4_q42267) / (3 : Int32))) (180 : Int32) (by omega) (by omega)
                    have t_42308 := ia_rem2 ((x1 + (((2 : Int32) * v4_q42267) / (3 : Int32))) + (180 : Int32)) (360 : Int32) 360 il_360 (by decide)
                    exact wq_s ⟨(show -359 ≤ (((x1 + (((2 : Int32) * v4_q42267) / (3 : Int32))) + (180 : Int32)) - ((((x1 + (((2 : Int32) * v4_q42267) / (3 : Int32))) + (180 : Int32)) / (360 : Int32)) * (360 : Int32))).toInt ∧ (((x1 + (((2 : Int32) * v4_q42267) / (3 : Int32))) + (180 : Int32)) - ((((x1 + (((2 : Int32) * v4_q42267) / (3 : Int32))) + (180 : Int32)) / (360 : Int32)) * (360 : Int32))).toInt ≤ 359 from ⟨by omega, by omega⟩), trivial⟩
      · have l_10 := il_10
        refine wq_le (fun hc_42309 => ?_) (fun hc_42310 => ?_)
        · unfold fX12_houseAt_J110
          unfold fX12_houseAt_J112
          refine wq_eq (fun hc_42311 => ?_) (fun hc_42312 => ?_)
          · exfalso; omega
          · refine wq_eq (fun hc_42313 => ?_) (fun hc_42314 => ?_)
            · unfold fX12_houseAt_J195
              refine wq_eq (fun hc_42315 => ?_) (fun hc_42316 => ?_)
              · have t_42317 := ia_rem2 v2_q42259 (360 : Int32) 360 il_360 (by decide)
                exact wq_s ⟨(show -359 ≤ (v2_q42259 - ((v2_q42259 / (360 : Int32)) * (360 : Int32))).toInt ∧ (v2_q42259 - ((v2_q42259 / (360 : Int32)) * (360 : Int32))).toInt ≤ 359 from ⟨by omega, by omega⟩), trivial⟩
              · have t_42318 := ia_rem2 (v2_q42259 + (180 : Int32)) (360 : Int32) 360 il_360 (by decide)
                exact wq_s ⟨(show -359 ≤ ((v2_q42259 + (180 : Int32)) - (((v2_q42259 + (180 : Int32)) / (360 : Int32)) * (360 : Int32))).toInt ∧ ((v2_q42259 + (180 : Int32)) - (((v2_q42259 + (180 : Int32)) / (360 : Int32)) * (360 : Int32))).toInt ≤ 359 from ⟨by omega, by omega⟩), trivial⟩
            · have l_11 := il_11
              refine wq_eq (fun hc_42319 => ?_) (fun hc_42320 => ?_)
              · unfold fX12_houseAt_J195
                refine wq_eq (fun hc_42321 => ?_) (fun hc_42322 => ?_)
                · have t_42323 := ia_div2 v3_q42263 (3 : Int32) 3 il_3 (by decide)
                  have t_42324 := ia_add v2_q42259 (v3_q42263 / (3 : Int32)) (by omega) (by omega)
                  have t_42325 := ia_rem2 (v2_q42259 + (v3_q42263 / (3 : Int32))) (360 : Int32) 360 il_360 (by decide)
                  exact wq_s ⟨(show -359 ≤ ((v2_q42259 + (v3_q42263 / (3 : Int32))) - (((v2_q42259 + (v3_q42263 / (3 : Int32))) / (360 : Int32)) * (360 : Int32))).toInt ∧ ((v2_q42259 + (v3_q42263 / (3 : Int32))) - (((v2_q42259 + (v3_q42263 / (3 : Int32))) / (360 : Int32)) * (360 : Int32))).toInt ≤ 359 from ⟨by omega, by omega⟩), trivial⟩
                · have t_42326 := ia_div2 v3_q42263 (3 : Int32) 3 il_3 (by decide)
                  have t_42327 := ia_add v2_q42259 (v3_q42263 / (3 : Int32)) (by omega) (by omega)
                  have t_42328 := ia_add (v2_q42259 + (v3_q42263 / (3 : Int32))) (180 : Int32) (by omega) (by omega)
                  have t_42329 := ia_rem2 ((v2_q42259 + (v3_q42263 / (3 : Int32))) + (180 : Int32)) (360 : Int32) 360 il_360 (by decide)
                  exact wq_s ⟨(show -359 ≤ (((v2_q42259 + (v3_q42263 / (3 : Int32))) + (180 : Int32)) - ((((v2_q42259 + (v3_q42263 / (3 : Int32))) + (180 : Int32)) / (360 : Int32)) * (360 : Int32))).toInt ∧ (((v2_q42259 + (v3_q42263 / (3 : Int32))) + (180 : Int32)) - ((((v2_q42259 + (v3_q42263 / (3 : Int32))) + (180 : Int32)) / (360 : Int32)) * (360 : Int32))).toInt ≤ 359 from ⟨by omega, by omega⟩), trivial⟩
              · have l_12 := il_12
                refine wq_eq (fun hc_42330 => ?_) (fun hc_42331 => ?_)
                · unfold fX12_houseAt_J195
                  refine wq_eq (fun hc_42332 => ?_) (fun hc_42333 => ?_)
                  · have l_2 := il_2
                    have t_42334 := ia_mul (2 : Int32) (2) il_2 v3_q42263 (by omega) (by omega)
                    have t_42335 := ia_div2 ((2 : Int32) * v3_q42263) (3 : Int32) 3 il_3 (by decide)
                    have t_42336 := ia_add v2_q42259 (((2 : Int32) * v3_q42263) / (3 : Int32)) (by omega) (by omega)
                    have t_42337 := ia_rem2 (v2_q42259 + (((2 : Int32) * v3_q42263) / (3 : Int32))) (360 : Int32) 360 il_360 (by decide)
                    exact wq_s ⟨(show -359 ≤ ((v2_q42259 + (((2 : Int32) * v3_q42263) / (3 : Int32))) - (((v2_q42259 + (((2 : Int32) * v3_q42263) / (3 : Int32))) / (360 : Int32)) * (360 : Int32))).toInt ∧ ((v2_q42259 + (((2 : Int32) * v3_q42263) / (3 : Int32))) - (((v2_q42259 + (((2 : Int32) * v3_q42263) / (3 : Int32))) / (360 : Int32)) * (360 : Int32))).toInt ≤ 359 from ⟨by omega, by omega⟩), trivial⟩
                  · have l_2 := il_2
                    have t_42338 := ia_mul (2 : Int32) (2) il_2 v3_q42263 (by omega) (by omega)
                    have t_42339 := ia_div2 ((2 : Int32) * v3_q42263) (3 : Int32) 3 il_3 (by decide)
                    have t_42340 := ia_add v2_q42259 (((2 : Int32) * v3_q42263) / (3 : Int32)) (by omega) (by omega)
                    have t_42341 := ia_add (v2_q42259 + (((2 : Int32) * v3_q42263) / (3 : Int32))) (180 : Int32) (by omega) (by omega)
                    have t_42342 := ia_rem2 ((v2_q42259 + (((2 : Int32) * v3_q42263) / (3 : Int32))) + (180 : Int32)) (360 : Int32) 360 il_360 (by decide)
                    exact wq_s ⟨(show -359 ≤ (((v2_q42259 + (((2 : Int32) * v3_q42263) / (3 : Int32))) + (180 : Int32)) - ((((v2_q42259 + (((2 : Int32) * v3_q42263) / (3 : Int32))) + (180 : Int32)) / (360 : Int32)) * (360 : Int32))).toInt ∧ (((v2_q42259 + (((2 : Int32) * v3_q42263) / (3 : Int32))) + (180 : Int32)) - ((((v2_q42259 + (((2 : Int32) * v3_q42263) / (3 : Int32))) + (180 : Int32)) / (360 : Int32)) * (360 : Int32))).toInt ≤ 359 from ⟨by omega, by omega⟩), trivial⟩
                · exfalso; omega
        · unfold fX12_houseAt_J112
          have l_5 := il_5
          have t_42343 := ia_add x4 (5 : Int32) (by omega) (by omega)
          have l_12 := il_12
          have t_42344 := ia_rem (x4 + (5 : Int32)) (12 : Int32) 12 il_12 (by decide) (by omega)
          have t_42345 := ia_add ((x4 + (5 : Int32)) - (((x4 + (5 : Int32)) / (12 : Int32)) * (12 : Int32))) (1 : Int32) (by omega) (by omega)
          refine wq_eq (fun hc_42346 => ?_) (fun hc_42347 => ?_)
          · unfold fX12_houseAt_J195
            refine wq_eq (fun hc_42348 => ?_) (fun hc_42349 => ?_)
            · exfalso; omega
            · have t_42350 := ia_add x1 (180 : Int32) (by omega) (by omega)
              have t_42351 := ia_rem (x1 + (180 : Int32)) (360 : Int32) 360 il_360 (by decide) (by omega)
              exact wq_s ⟨(show -359 ≤ ((x1 + (180 : Int32)) - (((x1 + (180 : Int32)) / (360 : Int32)) * (360 : Int32))).toInt ∧ ((x1 + (180 : Int32)) - (((x1 + (180 : Int32)) / (360 : Int32)) * (360 : Int32))).toInt ≤ 359 from ⟨by omega, by omega⟩), trivial⟩
          · refine wq_eq (fun hc_42352 => ?_) (fun hc_42353 => ?_)
            · unfold fX12_houseAt_J195
              refine wq_eq (fun hc_42354 => ?_) (fun hc_42355 => ?_)
              · exfalso; omega
              · have t_42356 := ia_rem2 (v2_q42259 + (180 : Int32)) (360 : Int32) 360 il_360 (by decide)
                exact wq_s ⟨(show -359 ≤ ((v2_q42259 + (180 : Int32)) - (((v2_q42259 + (180 : Int32)) / (360 : Int32)) * (360 : Int32))).toInt ∧ ((v2_q42259 + (180 : Int32)) - (((v2_q42259 + (180 : Int32)) / (360 : Int32)) * (360 : Int32))).toInt ≤ 359 from ⟨by omega, by omega⟩), trivial⟩
            · have l_11 := il_11
              refine wq_eq (fun hc_42357 => ?_) (fun hc_42358 => ?_)
              · unfold fX12_houseAt_J195
                refine wq_eq (fun hc_42359 => ?_) (fun hc_42360 => ?_)
                · exfalso; omega
                · have t_42361 := ia_div2 v3_q42263 (3 : Int32) 3 il_3 (by decide)
                  have t_42362 := ia_add v2_q42259 (v3_q42263 / (3 : Int32)) (by omega) (by omega)
                  have t_42363 := ia_add (v2_q42259 + (v3_q42263 / (3 : Int32))) (180 : Int32) (by omega) (by omega)
                  have t_42364 := ia_rem2 ((v2_q42259 + (v3_q42263 / (3 : Int32))) + (180 : Int32)) (360 : Int32) 360 il_360 (by decide)
                  exact wq_s ⟨(show -359 ≤ (((v2_q42259 + (v3_q42263 / (3 : Int32))) + (180 : Int32)) - ((((v2_q42259 + (v3_q42263 / (3 : Int32))) + (180 : Int32)) / (360 : Int32)) * (360 : Int32))).toInt ∧ (((v2_q42259 + (v3_q42263 / (3 : Int32))) + (180 : Int32)) - ((((v2_q42259 + (v3_q42263 / (3 : Int32))) + (180 : Int32)) / (360 : Int32)) * (360 : Int32))).toInt ≤ 359 from ⟨by omega, by omega⟩), trivial⟩
              · refine wq_eq (fun hc_42365 => ?_) (fun hc_42366 => ?_)
                · unfold fX12_houseAt_J195
                  refine wq_eq (fun hc_42367 => ?_) (fun hc_42368 => ?_)
                  · exfalso; omega
                  · have l_2 := il_2
                    have t_42369 := ia_mul (2 : Int32) (2) il_2 v3_q42263 (by omega) (by omega)
                    have t_42370 := ia_div2 ((2 : Int32) * v3_q42263) (3 : Int32) 3 il_3 (by decide)
                    have t_42371 := ia_add v2_q42259 (((2 : Int32) * v3_q42263) / (3 : Int32)) (by omega) (by omega)
                    have t_42372 := ia_add (v2_q42259 + (((2 : Int32) * v3_q42263) / (3 : Int32))) (180 : Int32) (by omega) (by omega)
                    have t_42373 := ia_rem2 ((v2_q42259 + (((2 : Int32) * v3_q42263) / (3 : Int32))) + (180 : Int32)) (360 : Int32) 360 il_360 (by decide)
                    exact wq_s ⟨(show -359 ≤ (((v2_q42259 + (((2 : Int32) * v3_q42263) / (3 : Int32))) + (180 : Int32)) - ((((v2_q42259 + (((2 : Int32) * v3_q42263) / (3 : Int32))) + (180 : Int32)) / (360 : Int32)) * (360 : Int32))).toInt ∧ (((v2_q42259 + (((2 : Int32) * v3_q42263) / (3 : Int32))) + (180 : Int32)) - ((((v2_q42259 + (((2 : Int32) * v3_q42263) / (3 : Int32))) + (180 : Int32)) / (360 : Int32)) * (360 : Int32))).toInt ≤ 359 from ⟨by omega, by omega⟩), trivial⟩
                · have l_2 := il_2
                  refine wq_eq (fun hc_42374 => ?_) (fun hc_42375 => ?_)
                  · unfold fX12_houseAt_J195
                    refine wq_eq (fun hc_42376 => ?_) (fun hc_42377 => ?_)
                    · exfalso; omega
                    · have t_42378 := ia_div2 v4_q42267 (3 : Int32) 3 il_3 (by decide)
                      have t_42379 := ia_add x1 (v4_q42267 / (3 : Int32)) (by omega) (by omega)
                      have t_42380 := ia_add (x1 + (v4_q42267 / (3 : Int32))) (180 : Int32) (by omega) (by omega)
                      have t_42381 := ia_rem ((x1 + (v4_q42267 / (3 : Int32))) + (180 : Int32)) (360 : Int32) 360 il_360 (by decide) (by omega)
                      exact wq_s ⟨(show -359 ≤ (((x1 + (v4_q42267 / (3 : Int32))) + (180 : Int32)) - ((((x1 + (v4_q42267 / (3 : Int32))) + (180 : Int32)) / (360 : Int32)) * (360 : Int32))).toInt ∧ (((x1 + (v4_q42267 / (3 : Int32))) + (180 : Int32)) - ((((x1 + (v4_q42267 / (3 : Int32))) + (180 : Int32)) / (360 : Int32)) * (360 : Int32))).toInt ≤ 359 from ⟨by omega, by omega⟩), trivial⟩
                  · unfold fX12_houseAt_J195
                    refine wq_eq (fun hc_42382 => ?_) (fun hc_42383 => ?_)
                    · have t_42384 := ia_mul (2 : Int32) (2) il_2 v4_q42267 (by omega) (by omega)
                      have t_42385 := ia_div2 ((2 : Int32) * v4_q42267) (3 : Int32) 3 il_3 (by decide)
                      have t_42386 := ia_add x1 (((2 : Int32) * v4_q42267) / (3 : Int32)) (by omega) (by omega)
                      have t_42387 := ia_rem2 (x1 + (((2 : Int32) * v4_q42267) / (3 : Int32))) (360 : Int32) 360 il_360 (by decide)
                      exact wq_s ⟨(show -359 ≤ ((x1 + (((2 : Int32) * v4_q42267) / (3 : Int32))) - (((x1 + (((2 : Int32) * v4_q42267) / (3 : Int32))) / (360 : Int32)) * (360 : Int32))).toInt ∧ ((x1 + (((2 : Int32) * v4_q42267) / (3 : Int32))) - (((x1 + (((2 : Int32) * v4_q42267) / (3 : Int32))) / (360 : Int32)) * (360 : Int32))).toInt ≤ 359 from ⟨by omega, by omega⟩), trivial⟩
                    · have t_42388 := ia_mul (2 : Int32) (2) il_2 v4_q42267 (by omega) (by omega)
                      have t_42389 := ia_div2 ((2 : Int32) * v4_q42267) (3 : Int32) 3 il_3 (by decide)
                      have t_42390 := ia_add x1 (((2 : Int32) * v4_q42267) / (3 : Int32)) (by omega) (by omega)
                      have t_42391 := ia_add (x1 + (((2 : Int32) * v4_q42267) / (3 : Int32))) (180 : Int32) (by omega) (by omega)
                      have t_42392 := ia_rem2 ((x1 + (((2 : Int32) * v4_q42267) / (3 : Int32))) + (180 : Int32)) (360 : Int32) 360 il_360 (by decide)
                      exact wq_s ⟨(show -359 ≤ (((x1 + (((2 : Int32) * v4_q42267) / (3 : Int32))) + (180 : Int32)) - ((((x1 + (((2 : Int32) * v4_q42267) / (3 : Int32))) + (180 : Int32)) / (360 : Int32)) * (360 : Int32))).toInt ∧ (((x1 + (((2 : Int32) * v4_q42267) / (3 : Int32))) + (180 : Int32)) - ((((x1 + (((2 : Int32) * v4_q42267) / (3 : Int32))) + (180 : Int32)) / (360 : Int32)) * (360 : Int32))).toInt ≤ 359 from ⟨by omega, by omega⟩), trivial⟩
set_option maxHeartbeats 4000000 in
theorem tt_fX12_isWay {N : Nat} (hN : 3000000000 ≤ N) (I0 : Nat → Int32) (L0 : Int64) (M0 : Nat → Nat → Int32) (x1 : Int32) (x2 : Int32) (k_I0 : KX12 I0 M0) : wq (fX12_isWay N I0 L0 M0 x1 x2) (fun r => (r.1.toInt = 0 ∨ (r.1.toInt = 1 ∧ ((0 ≤ x1.toInt ∧ x1.toInt ≤ 1) ∨ (x1.toInt = 2 ∧ 0 ≤ x2.toInt ∧ x2.toInt ≤ 6 ∧ x2.toInt < (r.2.1 1).toInt)))) ∧ (r.2.1 1).toInt = (I0 1).toInt ∧ (0 ≤ r.1.toInt ∧ r.1.toInt ≤ 1) ∧ KX12 r.2.1 r.2.2.2 ∧ True) := by
  unfold fX12_isWay
  have b_42543 := i32b x1
  have l_0 := il_0
  have l_2 := il_2
  refine wq_b (tt_fX12_within hN x1 (0 : Int32) (2 : Int32)) (fun r1_q42544 h_r1_q42544 => ?_)
  obtain ⟨h_r1_q42544_0, h_r1_q42544_1, -⟩ := h_r1_q42544
  refine wq_eq (fun hc_42545 => ?_) (fun hc_42546 => ?_)
  · have l_1 := il_1
    refine wq_b (tt_fX12_right hN I0 L0 M0 (0 : Int32) (1 : Int32) ⟨by omega, by omega⟩ k_I0) (fun r2_q42547 h_r2_q42547 => ?_)
    obtain ⟨h_r2_q42547_0, h_r2_q42547_1, h_r2_q42547_2, h_r2_q42547_3, -⟩ := h_r2_q42547
    have t_42548 := KX12.i1 h_r2_q42547_3
    have t_42549 := KX12.i1 k_I0
    refine wq_bz (by omega) ?_
    have b_42550 := i32b x2
    exact wq_s ⟨(show (r2_q42547.1.toInt = 0 ∨ (r2_q42547.1.toInt = 1 ∧ ((0 ≤ x1.toInt ∧ x1.toInt ≤ 1) ∨ (x1.toInt = 2 ∧ 0 ≤ x2.toInt ∧ x2.toInt ≤ 6 ∧ x2.toInt < (r2_q42547.2.1 1).toInt)))) from by omega), (show (r2_q42547.2.1 1).toInt = (I0 1).toInt from by omega), (show 0 ≤ r2_q42547.1.toInt ∧ r2_q42547.1.toInt ≤ 1 from ⟨by omega, by omega⟩), h_r2_q42547_3, trivial⟩
  · refine wq_lt (fun hc_42551 => ?_) (fun hc_42552 => ?_)
    · have l_1 := il_1
      refine wq_b (tt_fX12_right hN I0 L0 M0 (1 : Int32) (1 : Int32) ⟨by omega, by omega⟩ k_I0) (fun r3_q42553 h_r3_q42553 => ?_)
      obtain ⟨h_r3_q42553_0, h_r3_q42553_1, h_r3_q42553_2, h_r3_q42553_3, -⟩ := h_r3_q42553
      have t_42554 := KX12.i1 h_r3_q42553_3
      have t_42555 := KX12.i1 k_I0
      refine wq_bz (by omega) ?_
      have b_42556 := i32b x2
      exact wq_s ⟨(show (r3_q42553.1.toInt = 0 ∨ (r3_q42553.1.toInt = 1 ∧ ((0 ≤ x1.toInt ∧ x1.toInt ≤ 1) ∨ (x1.toInt = 2 ∧ 0 ≤ x2.toInt ∧ x2.toInt ≤ 6 ∧ x2.toInt < (r3_q42553.2.1 1).toInt)))) from by omega), (show (r3_q42553.2.1 1).toInt = (I0 1).toInt from by omega), (show 0 ≤ r3_q42553.1.toInt ∧ r3_q42553.1.toInt ≤ 1 from ⟨by omega, by omega⟩), h_r3_q42553_3, trivial⟩
    · have b_42557 := i32b x2
      refine wq_lt (fun hc_42558 => ?_) (fun hc_42559 => ?_)
      · have l_1 := il_1
        refine wq_b (tt_fX12_right hN I0 L0 M0 (0 : Int32) (1 : Int32) ⟨by omega, by omega⟩ k_I0) (fun r4_q42560 h_r4_q42560 => ?_)
        obtain ⟨h_r4_q42560_0, h_r4_q42560_1, h_r4_q42560_2, h_r4_q42560_3, -⟩ := h_r4_q42560
        have t_42561 := KX12.i1 h_r4_q42560_3
        have t_42562 := KX12.i1 k_I0
        refine wq_bz (by omega) ?_
        exact wq_s ⟨(show (r4_q42560.1.toInt = 0 ∨ (r4_q42560.1.toInt = 1 ∧ ((0 ≤ x1.toInt ∧ x1.toInt ≤ 1) ∨ (x1.toInt = 2 ∧ 0 ≤ x2.toInt ∧ x2.toInt ≤ 6 ∧ x2.toInt < (r4_q42560.2.1 1).toInt)))) from by omega), (show (r4_q42560.2.1 1).toInt = (I0 1).toInt from by omega), (show 0 ≤ r4_q42560.1.toInt ∧ r4_q42560.1.toInt ≤ 1 from ⟨by omega, by omega⟩), h_r4_q42560_3, trivial⟩
      · have t_42563 := KX12.i1 k_I0
        refine wq_le (fun hc_42564 => ?_) (fun hc_42565 => ?_)
        · have l_1 := il_1
          refine wq_b (tt_fX12_right hN I0 L0 M0 (0 : Int32) (1 : Int32) ⟨by omega, by omega⟩ k_I0) (fun r5_q42566 h_r5_q42566 => ?_)
          obtain ⟨h_r5_q42566_0, h_r5_q42566_1, h_r5_q42566_2, h_r5_q42566_3, -⟩ := h_r5_q42566
          have t_42567 := KX12.i1 h_r5_q42566_3
          refine wq_bz (by omega) ?_
          exact wq_s ⟨(show (r5_q42566.1.toInt = 0 ∨ (r5_q42566.1.toInt = 1 ∧ ((0 ≤ x1.toInt ∧ x1.toInt ≤ 1) ∨ (x1.toInt = 2 ∧ 0 ≤ x2.toInt ∧ x2.toInt ≤ 6 ∧ x2.toInt < (r5_q42566.2.1 1).toInt)))) from by omega), (show (r5_q42566.2.1 1).toInt = (I0 1).toInt from by omega), (show 0 ≤ r5_q42566.1.toInt ∧ r5_q42566.1.toInt ≤ 1 from ⟨by omega, by omega⟩), h_r5_q42566_3, trivial⟩
        · have l_1 := il_1
          refine wq_b (tt_fX12_right hN I0 L0 M0 (1 : Int32) (1 : Int32) ⟨by omega, by omega⟩ k_I0) (fun r6_q42568 h_r6_q42568 => ?_)
          obtain ⟨h_r6_q42568_0, h_r6_q42568_1, h_r6_q42568_2, h_r6_q42568_3, -⟩ := h_r6_q42568
          have t_42569 := KX12.i1 h_r6_q42568_3
          refine wq_bz (by omega) ?_
          exact wq_s ⟨(show (r6_q42568.1.toInt = 0 ∨ (r6_q42568.1.toInt = 1 ∧ ((0 ≤ x1.toInt ∧ x1.toInt ≤ 1) ∨ (x1.toInt = 2 ∧ 0 ≤ x2.toInt ∧ x2.toInt ≤ 6 ∧ x2.toInt < (r6_q42568.2.1 1).toInt)))) from by omega), (show (r6_q42568.2.1 1).toInt = (I0 1).toInt from by omega), (show 0 ≤ r6_q42568.1.toInt ∧ r6_q42568.1.toInt ≤ 1 from ⟨by omega, by omega⟩), h_r6_q42568_3, trivial⟩
set_option maxHeartbeats 4000000 in
theorem tt_fX12_houseOf {N : Nat} (hN : 3000000000 ≤ N) (I0 : Nat → Int32) (L0 : Int64) (M0 : Nat → Nat → Int32) (x1 : Int32) (x2 : Int32) (x3 : Int32) (x4 : Int32) (k_I0 : KX12 I0 M0) : wq (fX12_houseOf N I0 L0 M0 x1 x2 x3 x4) (fun r => (-359 ≤ r.1.toInt ∧ r.1.toInt ≤ 359) ∧ KX12 r.2.1 r.2.2.2 ∧ True) := by
  unfold fX12_houseOf
  refine wq_v (fun I0_4_q42864 h_I0_4_q42864 => ?_)
  have k_I0_4_q42864 : KX12 I0_4_q42864 M0 := by rw [h_I0_4_q42864]; exact KX12.si0 k_I0
  have b_42865 := i32b x1
  have l_0 := il_0
  have l_359 := il_359
  refine wq_b (tt_fX12_within hN x1 (0 : Int32) (359 : Int32)) (fun r5_q42866 h_r5_q42866 => ?_)
  obtain ⟨h_r5_q42866_0, h_r5_q42866_1, -⟩ := h_r5_q42866
  refine wq_eq (fun hc_42867 => ?_) (fun hc_42868 => ?_)
  · unfold fX12_houseOf_J32
    unfold fX12_houseOf_J33
    have l_1 := il_1
    refine wq_b (tt_fX12_right hN I0_4_q42864 L0 M0 (0 : Int32) (1 : Int32) ⟨by omega, by omega⟩ k_I0_4_q42864) (fun r1_q42869 h_r1_q42869 => ?_)
    obtain ⟨h_r1_q42869_0, h_r1_q42869_1, h_r1_q42869_2, h_r1_q42869_3, -⟩ := h_r1_q42869
    have t_42870 := KX12.i1 h_r1_q42869_3
    have t_42871 := KX12.i1 k_I0
    have t_42872 : (I0_4_q42864 1).toInt = (I0 1).toInt := by rw [h_I0_4_q42864]; rfl
    refine wq_eq (fun hc_42873 => ?_) (fun hc_42874 => ?_)
    · exact wq_s ⟨(show -359 ≤ (0 : Int32).toInt ∧ (0 : Int32).toInt ≤ 359 from ⟨by omega, by omega⟩), h_r1_q42869_3, trivial⟩
    · have b_42875 := i32b x2
      have b_42876 := i32b x3
      refine wq_b (tt_fX12_isWay hN r1_q42869.2.1 r1_q42869.2.2.1 r1_q42869.2.2.2 x2 x3 h_r1_q42869_3) (fun r2_q42877 h_r2_q42877 => ?_)
      obtain ⟨h_r2_q42877_0, h_r2_q42877_1, h_r2_q42877_2, h_r2_q42877_3, -⟩ := h_r2_q42877
      have t_42878 := KX12.i1 h_r2_q42877_3
      refine wq_eq (fun hc_42879 => ?_) (fun hc_42880 => ?_)
      · exact wq_s ⟨(show -359 ≤ (0 : Int32).toInt ∧ (0 : Int32).toInt ≤ 359 from ⟨by omega, by omega⟩), h_r2_q42877_3, trivial⟩
      · have b_42881 := i32b x4
        refine wq_b (tt_fX12_houseAt hN r2_q42877.2.1 r2_q42877.2.2.1 r2_q42877.2.2.2 x1 x2 x3 x4 ⟨by omega, by omega⟩ ⟨by omega, by omega⟩ h_r2_q42877_3 (by omega)) (fun r3_q42882 h_r3_q42882 => ?_)
        obtain ⟨h_r3_q42882_0, -⟩ := h_r3_q42882
        exact wq_s ⟨(show -359 ≤ r3_q42882.toInt ∧ r3_q42882.toInt ≤ 359 from ⟨by omega, by omega⟩), h_r2_q42877_3, trivial⟩
  · have b_42883 := i32b x4
    have l_1 := il_1
    have l_12 := il_12
    refine wq_b (tt_fX12_within hN x4 (1 : Int32) (12 : Int32)) (fun r6_q42884 h_r6_q42884 => ?_)
    obtain ⟨h_r6_q42884_0, h_r6_q42884_1, -⟩ := h_r6_q42884
    refine wq_eq (fun hc_42885 => ?_) (fun hc_42886 => ?_)
    · unfold fX12_houseOf_J32
      unfold fX12_houseOf_J33
      refine wq_b (tt_fX12_right hN I0_4_q42864 L0 M0 (0 : Int32) (1 : Int32) ⟨by omega, by omega⟩ k_I0_4_q42864) (fun r1_q42887 h_r1_q42887 => ?_)
      obtain ⟨h_r1_q42887_0, h_r1_q42887_1, h_r1_q42887_2, h_r1_q42887_3, -⟩ := h_r1_q42887
      have t_42888 := KX12.i1 h_r1_q42887_3
      have t_42889 := KX12.i1 k_I0
      have t_42890 : (I0_4_q42864 1).toInt = (I0 1).toInt := by rw [h_I0_4_q42864]; rfl
      refine wq_eq (fun hc_42891 => ?_) (fun hc_42892 => ?_)
      · exact wq_s ⟨(show -359 ≤ (0 : Int32).toInt ∧ (0 : Int32).toInt ≤ 359 from ⟨by omega, by omega⟩), h_r1_q42887_3, trivial⟩
      · have b_42893 := i32b x2
        have b_42894 := i32b x3
        refine wq_b (tt_fX12_isWay hN r1_q42887.2.1 r1_q42887.2.2.1 r1_q42887.2.2.2 x2 x3 h_r1_q42887_3) (fun r2_q42895 h_r2_q42895 => ?_)
        obtain ⟨h_r2_q42895_0, h_r2_q42895_1, h_r2_q42895_2, h_r2_q42895_3, -⟩ := h_r2_q42895
        have t_42896 := KX12.i1 h_r2_q42895_3
        refine wq_eq (fun hc_42897 => ?_) (fun hc_42898 => ?_)
        · exact wq_s ⟨(show -359 ≤ (0 : Int32).toInt ∧ (0 : Int32).toInt ≤ 359 from ⟨by omega, by omega⟩), h_r2_q42895_3, trivial⟩
        · refine wq_b (tt_fX12_houseAt hN r2_q42895.2.1 r2_q42895.2.2.1 r2_q42895.2.2.2 x1 x2 x3 x4 ⟨by omega, by omega⟩ ⟨by omega, by omega⟩ h_r2_q42895_3 (by omega)) (fun r3_q42899 h_r3_q42899 => ?_)
          obtain ⟨h_r3_q42899_0, -⟩ := h_r3_q42899
          exact wq_s ⟨(show -359 ≤ r3_q42899.toInt ∧ r3_q42899.toInt ≤ 359 from ⟨by omega, by omega⟩), h_r2_q42895_3, trivial⟩
    · unfold fX12_houseOf_J33
      refine wq_b (tt_fX12_right hN I0_4_q42864 L0 M0 (1 : Int32) (1 : Int32) ⟨by omega, by omega⟩ k_I0_4_q42864) (fun r1_q42900 h_r1_q42900 => ?_)
      obtain ⟨h_r1_q42900_0, h_r1_q42900_1, h_r1_q42900_2, h_r1_q42900_3, -⟩ := h_r1_q42900
      have t_42901 := KX12.i1 h_r1_q42900_3
      have t_42902 := KX12.i1 k_I0
      have t_42903 : (I0_4_q42864 1).toInt = (I0 1).toInt := by rw [h_I0_4_q42864]; rfl
      refine wq_eq (fun hc_42904 => ?_) (fun hc_42905 => ?_)
      · exact wq_s ⟨(show -359 ≤ (0 : Int32).toInt ∧ (0 : Int32).toInt ≤ 359 from ⟨by omega, by omega⟩), h_r1_q42900_3, trivial⟩
      · have b_42906 := i32b x2
        have b_42907 := i32b x3
        refine wq_b (tt_fX12_isWay hN r1_q42900.2.1 r1_q42900.2.2.1 r1_q42900.2.2.2 x2 x3 h_r1_q42900_3) (fun r2_q42908 h_r2_q42908 => ?_)
        obtain ⟨h_r2_q42908_0, h_r2_q42908_1, h_r2_q42908_2, h_r2_q42908_3, -⟩ := h_r2_q42908
        have t_42909 := KX12.i1 h_r2_q42908_3
        refine wq_eq (fun hc_42910 => ?_) (fun hc_42911 => ?_)
        · exact wq_s ⟨(show -359 ≤ (0 : Int32).toInt ∧ (0 : Int32).toInt ≤ 359 from ⟨by omega, by omega⟩), h_r2_q42908_3, trivial⟩
        · refine wq_b (tt_fX12_houseAt hN r2_q42908.2.1 r2_q42908.2.2.1 r2_q42908.2.2.2 x1 x2 x3 x4 ⟨by omega, by omega⟩ ⟨by omega, by omega⟩ h_r2_q42908_3 (by omega)) (fun r3_q42912 h_r3_q42912 => ?_)
          obtain ⟨h_r3_q42912_0, -⟩ := h_r3_q42912
          exact wq_s ⟨(show -359 ≤ r3_q42912.toInt ∧ r3_q42912.toInt ≤ 359 from ⟨by omega, by omega⟩), h_r2_q42908_3, trivial⟩
set_option maxHeartbeats 4000000 in
theorem tt_fX12_agrees_L6 {N : Nat} (hN : 3000000000 ≤ N) (I0 : Nat → Int32) (L0 : Int64) (M0 : Nat → Nat → Int32) (x1 : Int32) (x2 : Int32) (x3 : Int32) (h_x1 : 0 ≤ x1.toInt ∧ x1.toInt ≤ 119) (k_I0 : KX12 I0 M0) (hr_2 : ((0 ≤ x2.toInt ∧ x2.toInt ≤ 1) ∨ (0 ≤ x3.toInt ∧ x3.toInt < (I0 1).toInt)))  : ∀ (fu : Nat) (y6_4 : Int32) (y6_5 : Int32), (1 ≤ y6_5.toInt ∧ y6_5.toInt ≤ 13) → (13 - y6_5.toInt) < (fu : Int) → wq (fX12_agrees_L6 N I0 L0 M0 x1 x2 x3 fu y6_4 y6_5) (fun r => True) := by
  intro fu
  induction fu with
  | zero => intro y6_4 y6_5 h_y6_5 hm; exfalso; omega
  | succ fu ih =>
    intro y6_4 y6_5 h_y6_5 hm
    rw [fX12_agrees_L6.eq_2]
    have l_12 := il_12
    refine wq_lt (fun hc_43424 => ?_) (fun hc_43425 => ?_)
    · have b_43426 := i32b y6_4
      exact wq_s trivial
    · have l_9 := il_9
      have t_43427 := ia_add (9 : Int32) y6_5 (by omega) (by omega)
      have l_1 := il_1
      have t_43428 := ia_sub ((9 : Int32) + y6_5) (1 : Int32) (by omega) (by omega)
      refine wq_b (tt_fX12_at hN I0 L0 M0 x1 (((9 : Int32) + y6_5) - (1 : Int32)) ⟨by omega, by omega⟩ ⟨by omega, by omega⟩ k_I0) (fun r1_q43429 h_r1_q43429 => ?_)
      obtain ⟨h_r1_q43429_0, h_r1_q43429_1, h_r1_q43429_2, -⟩ := h_r1_q43429
      have l_m1 := il_m1
      refine wq_eq (fun hc_43430 => ?_) (fun hc_43431 => ?_)
      · have t_43433 := ia_add y6_5 (1 : Int32) (by omega) (by omega)
        refine wq_v (fun v2_q43432 h_v2_q43432 => ?_)
        have t_v2_q43432 := congrArg Int32.toInt h_v2_q43432
        have b_43434 := i32b y6_4
        exact ih y6_4 v2_q43432 ⟨by omega, by omega⟩ (by omega)
      · have l_7 := il_7
        refine wq_b (tt_fX12_at hN I0 L0 M0 x1 (7 : Int32) ⟨by omega, by omega⟩ ⟨by omega, by omega⟩ k_I0) (fun r3_q43435 h_r3_q43435 => ?_)
        obtain ⟨h_r3_q43435_0, h_r3_q43435_1, h_r3_q43435_2, -⟩ := h_r3_q43435
        have b_43436 := i32b x2
        have b_43437 := i32b x3
        have t_43438 := KX12.i1 k_I0
        refine wq_b (tt_fX12_houseAt hN I0 L0 M0 r3_q43435 x2 x3 y6_5 ⟨by omega, by omega⟩ ⟨by omega, by omega⟩ k_I0 (by omega)) (fun r4_q43439 h_r4_q43439 => ?_)
        obtain ⟨h_r4_q43439_0, -⟩ := h_r4_q43439
        refine wq_eq (fun hc_43440 => ?_) (fun hc_43441 => ?_)
        · have b_43443 := i32b y6_4
          refine wq_v (fun v6_q43442 h_v6_q43442 => ?_)
          have t_v6_q43442 := congrArg Int32.toInt h_v6_q43442
          have t_43445 := ia_add y6_5 (1 : Int32) (by omega) (by omega)
          refine wq_v (fun v7_q43444 h_v7_q43444 => ?_)
          have t_v7_q43444 := congrArg Int32.toInt h_v7_q43444
          have b_43446 := i32b v6_q43442
          exact ih v6_q43442 v7_q43444 ⟨by omega, by omega⟩ (by omega)
        · have t_43448 := ia_add y6_5 (1 : Int32) (by omega) (by omega)
          refine wq_v (fun v5_q43447 h_v5_q43447 => ?_)
          have t_v5_q43447 := congrArg Int32.toInt h_v5_q43447
          have b_43449 := i32b y6_4
          exact ih y6_4 v5_q43447 ⟨by omega, by omega⟩ (by omega)
set_option maxHeartbeats 4000000 in
theorem tt_fX12_agrees {N : Nat} (hN : 3000000000 ≤ N) (I0 : Nat → Int32) (L0 : Int64) (M0 : Nat → Nat → Int32) (x1 : Int32) (x2 : Int32) (x3 : Int32) (h_x1 : 0 ≤ x1.toInt ∧ x1.toInt ≤ 119) (k_I0 : KX12 I0 M0) (hr_2 : ((0 ≤ x2.toInt ∧ x2.toInt ≤ 1) ∨ (0 ≤ x3.toInt ∧ x3.toInt < (I0 1).toInt))) : wq (fX12_agrees N I0 L0 M0 x1 x2 x3) (fun r => True) := by
  unfold fX12_agrees
  have b_43450 := i32b x2
  have b_43451 := i32b x3
  have l_0 := il_0
  have l_1 := il_1
  have t_43452 := KX12.i1 k_I0
  exact tt_fX12_agrees_L6 hN I0 L0 M0 x1 x2 x3 ⟨by omega, by omega⟩ k_I0 (by omega) N (0 : Int32) (1 : Int32) ⟨by omega, by omega⟩ (by omega)

set_option maxHeartbeats 4000000 in
theorem tt_fX10_choose_d4 {N : Nat} (hN : 3000000000 ≤ N) (I0 : Nat → Int32) (M0 : Nat → Nat → Int32) (x1 : Int32) (x2 : Int32) (x3 : Int32) (h_x1 : 3 ≤ x1.toInt ∧ x1.toInt ≤ 3) (k_I0 : KX10 I0 M0) : wq (fX10_choose_d4 N I0 M0 x1 x2 x3) (fun r => KX10 r.1 r.2 ∧ True) := by
  unfold fX10_choose_d4
  have b_16855 := i32b x2
  refine wq_lt (fun hc_16856 => ?_) (fun hc_16857 => ?_)
  · have l_6 := il_6
    refine wq_lt (fun hc_16858 => ?_) (fun hc_16859 => ?_)
    · refine wq_in (n := 6) ⟨by omega, by omega⟩ ?_
      have t_16860 := KX10.m1 k_I0 x1.toNatClampNeg
      have l_m2 := il_m2
      refine wq_eq (fun hc_16861 => ?_) (fun hc_16862 => ?_)
      · have l_1 := il_1
        have t_16863 := ia_add x1 (1 : Int32) (by omega) (by omega)
        have b_16864 := i32b x3
        refine wq_b (tt_fX10_choose_d3 hN I0 M0 (x1 + (1 : Int32)) x2 x3 ⟨by omega, by omega⟩ k_I0) (fun r11_q16865 h_r11_q16865 => ?_)
        obtain ⟨h_r11_q16865_0, -⟩ := h_r11_q16865
        exact wq_s ⟨h_r11_q16865_0, trivial⟩
      · have b_16866 := i32b x3
        have l_0 := il_0
        refine wq_eq (fun hc_16867 => ?_) (fun hc_16868 => ?_)
        · refine wq_in (n := 6) ⟨by omega, by omega⟩ ?_
          refine wq_v (fun M0_9_q16869 h_M0_9_q16869 => ?_)
          have l_m1 := il_m1
          have k_M0_9_q16869 : KX10 I0 M0_9_q16869 := by rw [h_M0_9_q16869]; exact KX10.sm1 k_I0 ⟨by omega, by omega⟩
          have l_1 := il_1
          have t_16870 := ia_add x1 (1 : Int32) (by omega) (by omega)
          refine wq_b (tt_fX10_choose_d3 hN I0 M0_9_q16869 (x1 + (1 : Int32)) x2 (1 : Int32) ⟨by omega, by omega⟩ k_M0_9_q16869) (fun r10_q16871 h_r10_q16871 => ?_)
          obtain ⟨h_r10_q16871_0, -⟩ := h_r10_q16871
          unfold fX10_choose_d4_J77
          exact tt_fX10_choose_d4_L80 hN x1 x2 x3 ⟨by omega, by omega⟩ N r10_q16871.1 r10_q16871.2 (0 : Int32) ⟨by omega, by omega⟩ h_r10_q16871_0 (by omega)
        · unfold fX10_choose_d4_J77
          exact tt_fX10_choose_d4_L80 hN x1 x2 x3 ⟨by omega, by omega⟩ N I0 M0 (0 : Int32) ⟨by omega, by omega⟩ k_I0 (by omega)
    · exfalso; omega
  · exact wq_s ⟨k_I0, trivial⟩
set_option maxHeartbeats 4000000 in
theorem tt_fX10_choose_d5_L80 {N : Nat} (hN : 3000000000 ≤ N) (x1 : Int32) (x2 : Int32) (x3 : Int32) (h_x1 : 2 ≤ x1.toInt ∧ x1.toInt ≤ 2)  : ∀ (fu : Nat) (I0_l80 : (Nat → Int32)) (M0_l80 : (Nat → Nat → Int32)) (y80_4 : Int32), (0 ≤ y80_4.toInt ∧ y80_4.toInt ≤ 6) → (KX10 I0_l80 M0_l80) → (6 - y80_4.toInt) < (fu : Int) → wq (fX10_choose_d5_L80 N x1 x2 x3 fu I0_l80 M0_l80 y80_4) (fun r => KX10 r.1 r.2 ∧ True) := by
  intro fu
  induction fu with
  | zero => intro I0_l80 M0_l80 y80_4 h_y80_4 k_I0_l80 hm; exfalso; omega
  | succ fu ih =>
    intro I0_l80 M0_l80 y80_4 h_y80_4 k_I0_l80 hm
    rw [fX10_choose_d5_L80.eq_2]
    have l_6 := il_6
    refine wq_le (fun hc_17287 => ?_) (fun hc_17288 => ?_)
    · refine wq_in (n := 6) ⟨by omega, by omega⟩ ?_
      refine wq_v (fun M0_1_q17289 h_M0_1_q17289 => ?_)
      have l_m3 := il_m3
      have k_M0_1_q17289 : KX10 I0_l80 M0_1_q17289 := by rw [h_M0_1_q17289]; exact KX10.sm1 k_I0_l80 ⟨by omega, by omega⟩
      exact wq_s ⟨k_M0_1_q17289, trivial⟩
    · refine wq_in (n := 6) ⟨by omega, by omega⟩ ?_
      refine wq_v (fun M0_2_q17290 h_M0_2_q17290 => ?_)
      have l_m3 := il_m3
      have k_M0_2_q17290 : KX10 I0_l80 M0_2_q17290 := by rw [h_M0_2_q17290]; exact KX10.sm1 k_I0_l80 ⟨by omega, by omega⟩
      refine wq_in (n := 6) ⟨by omega, by omega⟩ ?_
      have t_17291 := KX10.m1 k_M0_2_q17290 y80_4.toNatClampNeg
      have l_m2 := il_m2
      refine wq_eq (fun hc_17292 => ?_) (fun hc_17293 => ?_)
      · have l_1 := il_1
        have t_17295 := ia_add y80_4 (1 : Int32) (by omega) (by omega)
        refine wq_v (fun v3_q17294 h_v3_q17294 => ?_)
        have t_v3_q17294 := congrArg Int32.toInt h_v3_q17294
        exact ih I0_l80 M0_2_q17290 v3_q17294 ⟨by omega, by omega⟩ k_M0_2_q17290 (by omega)
      · refine wq_b (tt_fX10_comesFrom hN I0_l80 M0_2_q17290 y80_4 x1 ⟨by omega, by omega⟩ ⟨by omega, by omega⟩ k_M0_2_q17290) (fun r4_q17296 h_r4_q17296 => ?_)
        obtain ⟨h_r4_q17296_0, -⟩ := h_r4_q17296
        have l_0 := il_0
        refine wq_eq (fun hc_17297 => ?_) (fun hc_17298 => ?_)
        · refine wq_in (n := 6) ⟨by omega, by omega⟩ ?_
          refine wq_v (fun M0_6_q17299 h_M0_6_q17299 => ?_)
          have k_M0_6_q17299 : KX10 I0_l80 M0_6_q17299 := by rw [h_M0_6_q17299]; exact KX10.sm1 k_M0_2_q17290 ⟨by omega, by omega⟩
          have t_17300 := ia_mul (6 : Int32) (6) il_6 y80_4 (by omega) (by omega)
          have t_17301 := ia_add ((6 : Int32) * y80_4) x1 (by omega) (by omega)
          refine wq_in (n := 36) ⟨by omega, by omega⟩ ?_
          have l_1 := il_1
          have t_17302 := ia_add x1 (1 : Int32) (by omega) (by omega)
          have b_17303 := i32b x2
          have t_17304 : (M0_2_q17290 0 (((6 : Int32) * y80_4) + x1).toNatClampNeg).toInt = (M0_l80 0 (((6 : Int32) * y80_4) + x1).toNatClampNeg).toInt := congrArg (fun z : Nat → Int32 => (z ((((6 : Int32) * y80_4) + x1)).toNatClampNeg).toInt) (show M0_2_q17290 0 = M0_l80 0 from by rw [h_M0_2_q17290]; rfl)
          have t_17305 : (M0_6_q17299 0 (((6 : Int32) * y80_4) + x1).toNatClampNeg).toInt = (M0_2_q17290 0 (((6 : Int32) * y80_4) + x1).toNatClampNeg).toInt := congrArg (fun z : Nat → Int32 => (z ((((6 : Int32) * y80_4) + x1)).toNatClampNeg).toInt) (show M0_6_q17299 0 = M0_2_q17290 0 from by rw [h_M0_6_q17299]; rfl)
          have b_17306 := i32b x3
          refine wq_b (tt_fX10_choose_d4 hN I0_l80 M0_6_q17299 (x1 + (1 : Int32)) (x2 + (M0_6_q17299 0 (((6 : Int32) * y80_4) + x1).toNatClampNeg)) x3 ⟨by omega, by omega⟩ k_M0_6_q17299) (fun r7_q17307 h_r7_q17307 => ?_)
          obtain ⟨h_r7_q17307_0, -⟩ := h_r7_q17307
          have t_17309 := ia_add y80_4 (1 : Int32) (by omega) (by omega)
          refine wq_v (fun v8_q17308 h_v8_q17308 => ?_)
          have t_v8_q17308 := congrArg Int32.toInt h_v8_q17308
          exact ih r7_q17307.1 r7_q17307.2 v8_q17308 ⟨by omega, by omega⟩ h_r7_q17307_0 (by omega)
        · have l_1 := il_1
          have t_17311 := ia_add y80_4 (1 : Int32) (by omega) (by omega)
          refine wq_v (fun v5_q17310 h_v5_q17310 => ?_)
          have t_v5_q17310 := congrArg Int32.toInt h_v5_q17310
          exact ih I0_l80 M0_2_q17290 v5_q17310 ⟨by omega, by omega⟩ k_M0_2_q17290 (by omega)
set_option maxHeartbeats 4000000 in
theorem tt_fX10_choose_d5 {N : Nat} (hN : 3000000000 ≤ N) (I0 : Nat → Int32) (M0 : Nat → Nat → Int32) (x1 : Int32) (x2 : Int32) (x3 : Int32) (h_x1 : 2 ≤ x1.toInt ∧ x1.toInt ≤ 2) (k_I0 : KX10 I0 M0) : wq (fX10_choose_d5 N I0 M0 x1 x2 x3) (fun r => KX10 r.1 r.2 ∧ True) := by
  unfold fX10_choose_d5
  have b_17312 := i32b x2
  refine wq_lt (fun hc_17313 => ?_) (fun hc_17314 => ?_)
  · have l_6 := il_6
    refine wq_lt (fun hc_17315 => ?_) (fun hc_17316 => ?_)
    · refine wq_in (n := 6) ⟨by omega, by omega⟩ ?_
      have t_17317 := KX10.m1 k_I0 x1.toNatClampNeg
      have l_m2 := il_m2
      refine wq_eq (fun hc_17318 => ?_) (fun hc_17319 => ?_)
      · have l_1 := il_1
        have t_17320 := ia_add x1 (1 : Int32) (by omega) (by omega)
        have b_17321 := i32b x3
        refine wq_b (tt_fX10_choose_d4 hN I0 M0 (x1 + (1 : Int32)) x2 x3 ⟨by omega, by omega⟩ k_I0) (fun r11_q17322 h_r11_q17322 => ?_)
        obtain ⟨h_r11_q17322_0, -⟩ := h_r11_q17322
        exact wq_s ⟨h_r11_q17322_0, trivial⟩
      · have b_17323 := i32b x3
        have l_0 := il_0
        refine wq_eq (fun hc_17324 => ?_) (fun hc_17325 => ?_)
        · refine wq_in (n := 6) ⟨by omega, by omega⟩ ?_
          refine wq_v (fun M0_9_q17326 h_M0_9_q17326 => ?_)
          have l_m1 := il_m1
          have k_M0_9_q17326 : KX10 I0 M0_9_q17326 := by rw [h_M0_9_q17326]; exact KX10.sm1 k_I0 ⟨by omega, by omega⟩
          have l_1 := il_1
          have t_17327 := ia_add x1 (1 : Int32) (by omega) (by omega)
          refine wq_b (tt_fX10_choose_d4 hN I0 M0_9_q17326 (x1 + (1 : Int32)) x2 (1 : Int32) ⟨by omega, by omega⟩ k_M0_9_q17326) (fun r10_q17328 h_r10_q17328 => ?_)
          obtain ⟨h_r10_q17328_0, -⟩ := h_r10_q17328
          unfold fX10_choose_d5_J77
          exact tt_fX10_choose_d5_L80 hN x1 x2 x3 ⟨by omega, by omega⟩ N r10_q17328.1 r10_q17328.2 (0 : Int32) ⟨by omega, by omega⟩ h_r10_q17328_0 (by omega)
        · unfold fX10_choose_d5_J77
          exact tt_fX10_choose_d5_L80 hN x1 x2 x3 ⟨by omega, by omega⟩ N I0 M0 (0 : Int32) ⟨by omega, by omega⟩ k_I0 (by omega)
    · exfalso; omega
  · exact wq_s ⟨k_I0, trivial⟩
set_option maxHeartbeats 4000000 in
theorem tt_fX10_choose_d6_L80 {N : Nat} (hN : 3000000000 ≤ N) (x1 : Int32) (x2 : Int32) (x3 : Int32) (h_x1 : 1 ≤ x1.toInt ∧ x1.toInt ≤ 1)  : ∀ (fu : Nat) (I0_l80 : (Nat → Int32)) (M0_l80 : (Nat → Nat → Int32)) (y80_4 : Int32), (0 ≤ y80_4.toInt ∧ y80_4.toInt ≤ 6) → (KX10 I0_l80 M0_l80) → (6 - y80_4.toInt) < (fu : Int) → wq (fX10_choose_d6_L80 N x1 x2 x3 fu I0_l80 M0_l80 y80_4) (fun r => KX10 r.1 r.2 ∧ True) := by
  intro fu
  induction fu with
  | zero => intro I0_l80 M0_l80 y80_4 h_y80_4 k_I0_l80 hm; exfalso; omega
  | succ fu ih =>
    intro I0_l80 M0_l80 y80_4 h_y80_4 k_I0_l80 hm
    rw [fX10_choose_d6_L80.eq_2]
    have l_6 := il_6
    refine wq_le (fun hc_17744 => ?_) (fun hc_17745 => ?_)
    · refine wq_in (n := 6) ⟨by omega, by omega⟩ ?_
      refine wq_v (fun M0_1_q17746 h_M0_1_q17746 => ?_)
      have l_m3 := il_m3
      have k_M0_1_q17746 : KX10 I0_l80 M0_1_q17746 := by rw [h_M0_1_q17746]; exact KX10.sm1 k_I0_l80 ⟨by omega, by omega⟩
      exact wq_s ⟨k_M0_1_q17746, trivial⟩
    · refine wq_in (n := 6) ⟨by omega, by omega⟩ ?_
      refine wq_v (fun M0_2_q17747 h_M0_2_q17747 => ?_)
      have l_m3 := il_m3
      have k_M0_2_q17747 : KX10 I0_l80 M0_2_q17747 := by rw [h_M0_2_q17747]; exact KX10.sm1 k_I0_l80 ⟨by omega, by omega⟩
      refine wq_in (n := 6) ⟨by omega, by omega⟩ ?_
      have t_17748 := KX10.m1 k_M0_2_q17747 y80_4.toNatClampNeg
      have l_m2 := il_m2
      refine wq_eq (fun hc_17749 => ?_) (fun hc_17750 => ?_)
      · have l_1 := il_1
        have t_17752 := ia_add y80_4 (1 : Int32) (by omega) (by omega)
        refine wq_v (fun v3_q17751 h_v3_q17751 => ?_)
        have t_v3_q17751 := congrArg Int32.toInt h_v3_q17751
        exact ih I0_l80 M0_2_q17747 v3_q17751 ⟨by omega, by omega⟩ k_M0_2_q17747 (by omega)
      · refine wq_b (tt_fX10_comesFrom hN I0_l80 M0_2_q17747 y80_4 x1 ⟨by omega, by omega⟩ ⟨by omega, by omega⟩ k_M0_2_q17747) (fun r4_q17753 h_r4_q17753 => ?_)
        obtain ⟨h_r4_q17753_0, -⟩ := h_r4_q17753
        have l_0 := il_0
        refine wq_eq (fun hc_17754 => ?_) (fun hc_17755 => ?_)
        · refine wq_in (n := 6) ⟨by omega, by omega⟩ ?_
          refine wq_v (fun M0_6_q17756 h_M0_6_q17756 => ?_)
          have k_M0_6_q17756 : KX10 I0_l80 M0_6_q17756 := by rw [h_M0_6_q17756]; exact KX10.sm1 k_M0_2_q17747 ⟨by omega, by omega⟩
          have t_17757 := ia_mul (6 : Int32) (6) il_6 y80_4 (by omega) (by omega)
          have t_17758 := ia_add ((6 : Int32) * y80_4) x1 (by omega) (by omega)
          refine wq_in (n := 36) ⟨by omega, by omega⟩ ?_
          have l_1 := il_1
          have t_17759 := ia_add x1 (1 : Int32) (by omega) (by omega)
          have b_17760 := i32b x2
          have t_17761 : (M0_2_q17747 0 (((6 : Int32) * y80_4) + x1).toNatClampNeg).toInt = (M0_l80 0 (((6 : Int32) * y80_4) + x1).toNatClampNeg).toInt := congrArg (fun z : Nat → Int32 => (z ((((6 : Int32) * y80_4) + x1)).toNatClampNeg).toInt) (show M0_2_q17747 0 = M0_l80 0 from by rw [h_M0_2_q17747]; rfl)
          have t_17762 : (M0_6_q17756 0 (((6 : Int32) * y80_4) + x1).toNatClampNeg).toInt = (M0_2_q17747 0 (((6 : Int32) * y80_4) + x1).toNatClampNeg).toInt := congrArg (fun z : Nat → Int32 => (z ((((6 : Int32) * y80_4) + x1)).toNatClampNeg).toInt) (show M0_6_q17756 0 = M0_2_q17747 0 from by rw [h_M0_6_q17756]; rfl)
          have b_17763 := i32b x3
          refine wq_b (tt_fX10_choose_d5 hN I0_l80 M0_6_q17756 (x1 + (1 : Int32)) (x2 + (M0_6_q17756 0 (((6 : Int32) * y80_4) + x1).toNatClampNeg)) x3 ⟨by omega, by omega⟩ k_M0_6_q17756) (fun r7_q17764 h_r7_q17764 => ?_)
          obtain ⟨h_r7_q17764_0, -⟩ := h_r7_q17764
          have t_17766 := ia_add y80_4 (1 : Int32) (by omega) (by omega)
          refine wq_v (fun v8_q17765 h_v8_q17765 => ?_)
          have t_v8_q17765 := congrArg Int32.toInt h_v8_q17765
          exact ih r7_q17764.1 r7_q17764.2 v8_q17765 ⟨by omega, by omega⟩ h_r7_q17764_0 (by omega)
        · have l_1 := il_1
          have t_17768 := ia_add y80_4 (1 : Int32) (by omega) (by omega)
          refine wq_v (fun v5_q17767 h_v5_q17767 => ?_)
          have t_v5_q17767 := congrArg Int32.toInt h_v5_q17767
          exact ih I0_l80 M0_2_q17747 v5_q17767 ⟨by omega, by omega⟩ k_M0_2_q17747 (by omega)
set_option maxHeartbeats 4000000 in
theorem tt_fX10_choose_d6 {N : Nat} (hN : 3000000000 ≤ N) (I0 : Nat → Int32) (M0 : Nat → Nat → Int32) (x1 : Int32) (x2 : Int32) (x3 : Int32) (h_x1 : 1 ≤ x1.toInt ∧ x1.toInt ≤ 1) (k_I0 : KX10 I0 M0) : wq (fX10_choose_d6 N I0 M0 x1 x2 x3) (fun r => KX10 r.1 r.2 ∧ True) := by
  unfold fX10_choose_d6
  have b_17769 := i32b x2
  refine wq_lt (fun hc_17770 => ?_) (fun hc_17771 => ?_)
  · have l_6 := il_6
    refine wq_lt (fun hc_17772 => ?_) (fun hc_17773 => ?_)
    · refine wq_in (n := 6) ⟨by omega, by omega⟩ ?_
      have t_17774 := KX10.m1 k_I0 x1.toNatClampNeg
      have l_m2 := il_m2
      refine wq_eq (fun hc_17775 => ?_) (fun hc_17776 => ?_)
      · have l_1 := il_1
        have t_17777 := ia_add x1 (1 : Int32) (by omega) (by omega)
        have b_17778 := i32b x3
        refine wq_b (tt_fX10_choose_d5 hN I0 M0 (x1 + (1 : Int32)) x2 x3 ⟨by omega, by omega⟩ k_I0) (fun r11_q17779 h_r11_q17779 => ?_)
        obtain ⟨h_r11_q17779_0, -⟩ := h_r11_q17779
        exact wq_s ⟨h_r11_q17779_0, trivial⟩
      · have b_17780 := i32b x3
        have l_0 := il_0
        refine wq_eq (fun hc_17781 => ?_) (fun hc_17782 => ?_)
        · refine wq_in (n := 6) ⟨by omega, by omega⟩ ?_
          refine wq_v (fun M0_9_q17783 h_M0_9_q17783 => ?_)
          have l_m1 := il_m1
          have k_M0_9_q17783 : KX10 I0 M0_9_q17783 := by rw [h_M0_9_q17783]; exact KX10.sm1 k_I0 ⟨by omega, by omega⟩
          have l_1 := il_1
          have t_17784 := ia_add x1 (1 : Int32) (by omega) (by omega)
          refine wq_b (tt_fX10_choose_d5 hN I0 M0_9_q17783 (x1 + (1 : Int32)) x2 (1 : Int32) ⟨by omega, by omega⟩ k_M0_9_q17783) (fun r10_q17785 h_r10_q17785 => ?_)
          obtain ⟨h_r10_q17785_0, -⟩ := h_r10_q17785
          unfold fX10_choose_d6_J77
          exact tt_fX10_choose_d6_L80 hN x1 x2 x3 ⟨by omega, by omega⟩ N r10_q17785.1 r10_q17785.2 (0 : Int32) ⟨by omega, by omega⟩ h_r10_q17785_0 (by omega)
        · unfold fX10_choose_d6_J77
          exact tt_fX10_choose_d6_L80 hN x1 x2 x3 ⟨by omega, by omega⟩ N I0 M0 (0 : Int32) ⟨by omega, by omega⟩ k_I0 (by omega)
    · exfalso; omega
  · exact wq_s ⟨k_I0, trivial⟩
set_option maxHeartbeats 4000000 in
theorem tt_fX10_choose_d7_L80 {N : Nat} (hN : 3000000000 ≤ N) (x1 : Int32) (x2 : Int32) (x3 : Int32) (h_x1 : 0 ≤ x1.toInt ∧ x1.toInt ≤ 0)  : ∀ (fu : Nat) (I0_l80 : (Nat → Int32)) (M0_l80 : (Nat → Nat → Int32)) (y80_4 : Int32), (0 ≤ y80_4.toInt ∧ y80_4.toInt ≤ 6) → (KX10 I0_l80 M0_l80) → (6 - y80_4.toInt) < (fu : Int) → wq (fX10_choose_d7_L80 N x1 x2 x3 fu I0_l80 M0_l80 y80_4) (fun r => KX10 r.1 r.2 ∧ True) := by
  intro fu
  induction fu with
  | zero => intro I0_l80 M0_l80 y80_4 h_y80_4 k_I0_l80 hm; exfalso; omega
  | succ fu ih =>
    intro I0_l80 M0_l80 y80_4 h_y80_4 k_I0_l80 hm
    rw [fX10_choose_d7_L80.eq_2]
    have l_6 := il_6
    refine wq_le (fun hc_18201 => ?_) (fun hc_18202 => ?_)
    · refine wq_in (n := 6) ⟨by omega, by omega⟩ ?_
      refine wq_v (fun M0_1_q18203 h_M0_1_q18203 => ?_)
      have l_m3 := il_m3
      have k_M0_1_q18203 : KX10 I0_l80 M0_1_q18203 := by rw [h_M0_1_q18203]; exact KX10.sm1 k_I0_l80 ⟨by omega, by omega⟩
      exact wq_s ⟨k_M0_1_q18203, trivial⟩
    · refine wq_in (n := 6) ⟨by omega, by omega⟩ ?_
      refine wq_v (fun M0_2_q18204 h_M0_2_q18204 => ?_)
      have l_m3 := il_m3
      have k_M0_2_q18204 : KX10 I0_l80 M0_2_q18204 := by rw [h_M0_2_q18204]; exact KX10.sm1 k_I0_l80 ⟨by omega, by omega⟩
      refine wq_in (n := 6) ⟨by omega, by omega⟩ ?_
      have t_18205 := KX10.m1 k_M0_2_q18204 y80_4.toNatClampNeg
      have l_m2 := il_m2
      refine wq_eq (fun hc_18206 => ?_) (fun hc_18207 => ?_)
      · have l_1 := il_1
        have t_18209 := ia_add y80_4 (1 : Int32) (by omega) (by omega)
        refine wq_v (fun v3_q18208 h_v3_q18208 => ?_)
        have t_v3_q18208 := congrArg Int32.toInt h_v3_q18208
        exact ih I0_l80 M0_2_q18204 v3_q18208 ⟨by omega, by omega⟩ k_M0_2_q18204 (by omega)
      · refine wq_b (tt_fX10_comesFrom hN I0_l80 M0_2_q18204 y80_4 x1 ⟨by omega, by omega⟩ ⟨by omega, by omega⟩ k_M0_2_q18204) (fun r4_q18210 h_r4_q18210 => ?_)
        obtain ⟨h_r4_q18210_0, -⟩ := h_r4_q18210
        have l_0 := il_0
        refine wq_eq (fun hc_18211 => ?_) (fun hc_18212 => ?_)
        · refine wq_in (n := 6) ⟨by omega, by omega⟩ ?_
          refine wq_v (fun M0_6_q18213 h_M0_6_q18213 => ?_)
          have k_M0_6_q18213 : KX10 I0_l80 M0_6_q18213 := by rw [h_M0_6_q18213]; exact KX10.sm1 k_M0_2_q18204 ⟨by omega, by omega⟩
          have t_18214 := ia_mul (6 : Int32) (6) il_6 y80_4 (by omega) (by omega)
          have t_18215 := ia_add ((6 : Int32) * y80_4) x1 (by omega) (by omega)
          refine wq_in (n := 36) ⟨by omega, by omega⟩ ?_
          have l_1 := il_1
          have t_18216 := ia_add x1 (1 : Int32) (by omega) (by omega)
          have b_18217 := i32b x2
          have t_18218 : (M0_2_q18204 0 (((6 : Int32) * y80_4) + x1).toNatClampNeg).toInt = (M0_l80 0 (((6 : Int32) * y80_4) + x1).toNatClampNeg).toInt := congrArg (fun z : Nat → Int32 => (z ((((6 : Int32) * y80_4) + x1)).toNatClampNeg).toInt) (show M0_2_q18204 0 = M0_l80 0 from by rw [h_M0_2_q18204]; rfl)
          have t_18219 : (M0_6_q18213 0 (((6 : Int32) * y80_4) + x1).toNatClampNeg).toInt = (M0_2_q18204 0 (((6 : Int32) * y80_4) + x1).toNatClampNeg).toInt := congrArg (fun z : Nat → Int32 => (z ((((6 : Int32) * y80_4) + x1)).toNatClampNeg).toInt) (show M0_6_q18213 0 = M0_2_q18204 0 from by rw [h_M0_6_q18213]; rfl)
          have b_18220 := i32b x3
          refine wq_b (tt_fX10_choose_d6 hN I0_l80 M0_6_q18213 (x1 + (1 : Int32)) (x2 + (M0_6_q18213 0 (((6 : Int32) * y80_4) + x1).toNatClampNeg)) x3 ⟨by omega, by omega⟩ k_M0_6_q18213) (fun r7_q18221 h_r7_q18221 => ?_)
          obtain ⟨h_r7_q18221_0, -⟩ := h_r7_q18221
          have t_18223 := ia_add y80_4 (1 : Int32) (by omega) (by omega)
          refine wq_v (fun v8_q18222 h_v8_q18222 => ?_)
          have t_v8_q18222 := congrArg Int32.toInt h_v8_q18222
          exact ih r7_q18221.1 r7_q18221.2 v8_q18222 ⟨by omega, by omega⟩ h_r7_q18221_0 (by omega)
        · have l_1 := il_1
          have t_18225 := ia_add y80_4 (1 : Int32) (by omega) (by omega)
          refine wq_v (fun v5_q18224 h_v5_q18224 => ?_)
          have t_v5_q18224 := congrArg Int32.toInt h_v5_q18224
          exact ih I0_l80 M0_2_q18204 v5_q18224 ⟨by omega, by omega⟩ k_M0_2_q18204 (by omega)
set_option maxHeartbeats 4000000 in
theorem tt_fX10_choose_d7 {N : Nat} (hN : 3000000000 ≤ N) (I0 : Nat → Int32) (M0 : Nat → Nat → Int32) (x1 : Int32) (x2 : Int32) (x3 : Int32) (h_x1 : 0 ≤ x1.toInt ∧ x1.toInt ≤ 0) (k_I0 : KX10 I0 M0) : wq (fX10_choose_d7 N I0 M0 x1 x2 x3) (fun r => KX10 r.1 r.2 ∧ True) := by
  unfold fX10_choose_d7
  have b_18226 := i32b x2
  refine wq_lt (fun hc_18227 => ?_) (fun hc_18228 => ?_)
  · have l_6 := il_6
    refine wq_lt (fun hc_18229 => ?_) (fun hc_18230 => ?_)
    · refine wq_in (n := 6) ⟨by omega, by omega⟩ ?_
      have t_18231 := KX10.m1 k_I0 x1.toNatClampNeg
      have l_m2 := il_m2
      refine wq_eq (fun hc_18232 => ?_) (fun hc_18233 => ?_)
      · have l_1 := il_1
        have t_18234 := ia_add x1 (1 : Int32) (by omega) (by omega)
        have b_18235 := i32b x3
        refine wq_b (tt_fX10_choose_d6 hN I0 M0 (x1 + (1 : Int32)) x2 x3 ⟨by omega, by omega⟩ k_I0) (fun r11_q18236 h_r11_q18236 => ?_)
        obtain ⟨h_r11_q18236_0, -⟩ := h_r11_q18236
        exact wq_s ⟨h_r11_q18236_0, trivial⟩
      · have b_18237 := i32b x3
        have l_0 := il_0
        refine wq_eq (fun hc_18238 => ?_) (fun hc_18239 => ?_)
        · refine wq_in (n := 6) ⟨by omega, by omega⟩ ?_
          refine wq_v (fun M0_9_q18240 h_M0_9_q18240 => ?_)
          have l_m1 := il_m1
          have k_M0_9_q18240 : KX10 I0 M0_9_q18240 := by rw [h_M0_9_q18240]; exact KX10.sm1 k_I0 ⟨by omega, by omega⟩
          have l_1 := il_1
          have t_18241 := ia_add x1 (1 : Int32) (by omega) (by omega)
          refine wq_b (tt_fX10_choose_d6 hN I0 M0_9_q18240 (x1 + (1 : Int32)) x2 (1 : Int32) ⟨by omega, by omega⟩ k_M0_9_q18240) (fun r10_q18242 h_r10_q18242 => ?_)
          obtain ⟨h_r10_q18242_0, -⟩ := h_r10_q18242
          unfold fX10_choose_d7_J77
          exact tt_fX10_choose_d7_L80 hN x1 x2 x3 ⟨by omega, by omega⟩ N r10_q18242.1 r10_q18242.2 (0 : Int32) ⟨by omega, by omega⟩ h_r10_q18242_0 (by omega)
        · unfold fX10_choose_d7_J77
          exact tt_fX10_choose_d7_L80 hN x1 x2 x3 ⟨by omega, by omega⟩ N I0 M0 (0 : Int32) ⟨by omega, by omega⟩ k_I0 (by omega)
    · exfalso; omega
  · exact wq_s ⟨k_I0, trivial⟩
set_option maxHeartbeats 4000000 in
theorem tt_fX10_grow {N : Nat} (hN : 3000000000 ≤ N) (I0 : Nat → Int32) (M0 : Nat → Nat → Int32) (k_I0 : KX10 I0 M0) : wq (fX10_grow N I0 M0) (fun r => KX10 r.2.1 r.2.2 ∧ True) := by
  unfold fX10_grow
  refine wq_v (fun I0_1_q18267 h_I0_1_q18267 => ?_)
  have k_I0_1_q18267 : KX10 I0_1_q18267 M0 := by rw [h_I0_1_q18267]; exact KX10.si0 k_I0
  have l_0 := il_0
  refine wq_b (tt_fX10_choose_d7 hN I0_1_q18267 M0 (0 : Int32) (0 : Int32) (0 : Int32) ⟨by omega, by omega⟩ k_I0_1_q18267) (fun r2_q18268 h_r2_q18268 => ?_)
  obtain ⟨h_r2_q18268_0, -⟩ := h_r2_q18268
  refine wq_v (fun I0_3_q18269 h_I0_3_q18269 => ?_)
  have l_1 := il_1
  have k_I0_3_q18269 : KX10 I0_3_q18269 r2_q18268.2 := by rw [h_I0_3_q18269]; exact KX10.si1 h_r2_q18268_0 ⟨by omega, by omega⟩
  have t_18270 : (I0_3_q18269 0).toInt = (r2_q18268.1 0).toInt := by rw [h_I0_3_q18269]; rfl
  exact wq_s ⟨k_I0_3_q18269, trivial⟩
set_option maxHeartbeats 4000000 in
theorem tt_fX10_holds {N : Nat} (hN : 3000000000 ≤ N) (I0 : Nat → Int32) (M0 : Nat → Nat → Int32) (x1 : Int32) (h_x1 : 0 ≤ x1.toInt ∧ x1.toInt ≤ 5) (k_I0 : KX10 I0 M0) : wq (fX10_holds N I0 M0 x1) (fun r => (0 ≤ r.toInt ∧ r.toInt ≤ 1) ∧ True) := by
  unfold fX10_holds
  refine wq_in (n := 6) ⟨by omega, by omega⟩ ?_
  have t_18289 := KX10.m2 k_I0 x1.toNatClampNeg
  have l_m2 := il_m2
  refine wq_eq (fun hc_18290 => ?_) (fun hc_18291 => ?_)
  · have l_0 := il_0
    exact wq_s ⟨(show 0 ≤ (0 : Int32).toInt ∧ (0 : Int32).toInt ≤ 1 from ⟨by omega, by omega⟩), trivial⟩
  · have l_1 := il_1
    exact wq_s ⟨(show 0 ≤ (1 : Int32).toInt ∧ (1 : Int32).toInt ≤ 1 from ⟨by omega, by omega⟩), trivial⟩
set_option maxHeartbeats 4000000 in
theorem tt_fX10_parentOf {N : Nat} (hN : 3000000000 ≤ N) (I0 : Nat → Int32) (M0 : Nat → Nat → Int32) (x1 : Int32) (h_x1 : 0 ≤ x1.toInt ∧ x1.toInt ≤ 5) (k_I0 : KX10 I0 M0) : wq (fX10_parentOf N I0 M0 x1) (fun r => (-3 ≤ r.toInt ∧ r.toInt ≤ 5) ∧ True) := by
  unfold fX10_parentOf
  refine wq_in (n := 6) ⟨by omega, by omega⟩ ?_
  have t_18298 := KX10.m2 k_I0 x1.toNatClampNeg
  exact wq_s ⟨(show -3 ≤ (M0 2 x1.toNatClampNeg).toInt ∧ (M0 2 x1.toNatClampNeg).toInt ≤ 5 from ⟨by omega, by omega⟩), trivial⟩
set_option maxHeartbeats 4000000 in
theorem tt_fX10_isSlip {N : Nat} (hN : 3000000000 ≤ N) (I0 : Nat → Int32) (M0 : Nat → Nat → Int32) (x1 : Int32) (x2 : Int32) (x3 : Int32) (x4 : Int32) (h_x1 : 0 ≤ x1.toInt ∧ x1.toInt ≤ 389) : wq (fX10_isSlip N I0 M0 x1 x2 x3 x4) (fun r => (0 ≤ r.toInt ∧ r.toInt ≤ 1) ∧ True) := by
  unfold fX10_isSlip
  have b_18437 := i32b x2
  refine wq_b (tt_fX4_misreading hN I0 M0 x1 x2 ⟨by omega, by omega⟩) (fun r1_q18438 h_r1_q18438 => ?_)
  obtain ⟨h_r1_q18438_0, -⟩ := h_r1_q18438
  have l_1 := il_1
  refine wq_eq (fun hc_18439 => ?_) (fun hc_18440 => ?_)
  · have l_30 := il_30
    have t_18441 := ia_rem x1 (30 : Int32) 30 il_30 (by decide) (by omega)
    have b_18442 := i32b x3
    refine wq_eq (fun hc_18443 => ?_) (fun hc_18444 => ?_)
    · have t_18445 := ia_rem2 x2 (30 : Int32) 30 il_30 (by decide)
      have b_18446 := i32b x4
      refine wq_eq (fun hc_18447 => ?_) (fun hc_18448 => ?_)
      · exact wq_s ⟨(show 0 ≤ (1 : Int32).toInt ∧ (1 : Int32).toInt ≤ 1 from ⟨by omega, by omega⟩), trivial⟩
      · have l_0 := il_0
        exact wq_s ⟨(show 0 ≤ (0 : Int32).toInt ∧ (0 : Int32).toInt ≤ 1 from ⟨by omega, by omega⟩), trivial⟩
    · have l_0 := il_0
      exact wq_s ⟨(show 0 ≤ (0 : Int32).toInt ∧ (0 : Int32).toInt ≤ 1 from ⟨by omega, by omega⟩), trivial⟩
  · have l_2 := il_2
    refine wq_eq (fun hc_18449 => ?_) (fun hc_18450 => ?_)
    · have l_30 := il_30
      have t_18451 := ia_div x1 (30 : Int32) 30 il_30 (by decide) (by omega)
      have b_18452 := i32b x3
      refine wq_eq (fun hc_18453 => ?_) (fun hc_18454 => ?_)
      · have t_18455 := i32b x2
        have t_18456 := ia_div2 x2 (30 : Int32) 30 il_30 (by decide)
        have b_18457 := i32b x4
        refine wq_eq (fun hc_18458 => ?_) (fun hc_18459 => ?_)
        · exact wq_s ⟨(show 0 ≤ (1 : Int32).toInt ∧ (1 : Int32).toInt ≤ 1 from ⟨by omega, by omega⟩), trivial⟩
        · have l_0 := il_0
          exact wq_s ⟨(show 0 ≤ (0 : Int32).toInt ∧ (0 : Int32).toInt ≤ 1 from ⟨by omega, by omega⟩), trivial⟩
      · have l_0 := il_0
        exact wq_s ⟨(show 0 ≤ (0 : Int32).toInt ∧ (0 : Int32).toInt ≤ 1 from ⟨by omega, by omega⟩), trivial⟩
    · have l_0 := il_0
      exact wq_s ⟨(show 0 ≤ (0 : Int32).toInt ∧ (0 : Int32).toInt ≤ 1 from ⟨by omega, by omega⟩), trivial⟩
set_option maxHeartbeats 4000000 in
theorem tt_fX10_slipsOf_L16 {N : Nat} (hN : 3000000000 ≤ N) (I0 : Nat → Int32) (M0 : Nat → Nat → Int32) (I1 : Nat → Int32) (M1 : Nat → Nat → Int32) (I2 : Nat → Int32) (M2 : Nat → Nat → Int32) (x3 : Int32) (x4 : Int32) (x5 : Int32) (y6_7 : Int32) (g6 : Int32 → Int32 → Option (Int32)) (h_x3 : 0 ≤ x3.toInt ∧ x3.toInt ≤ 5) (h_y6_7 : 0 ≤ y6_7.toInt ∧ y6_7.toInt ≤ 19) (k_I0 : KX10 I0 M0) (k_I2 : KX1 I2 M2) (hr_4 : 0 ≤ (M0 2 x3.toNatClampNeg).toInt) (hg6 : ∀ (q0 : Int32) (q1 : Int32), (0 ≤ q1.toInt ∧ q1.toInt ≤ 20) → (y6_7.toInt < q1.toInt) → wq (g6 q0 q1) (fun r => True)) : ∀ (fu : Nat) (y16_6 : Int32) (y16_8 : Int32), (0 ≤ y16_8.toInt ∧ y16_8.toInt ≤ 21) → (21 - y16_8.toInt) < (fu : Int) → wq (fX10_slipsOf_L16 N I0 M0 I1 M1 I2 M2 x3 x4 x5 y6_7 g6 fu y16_6 y16_8) (fun r => True) := by
  intro fu
  induction fu with
  | zero => intro y16_6 y16_8 h_y16_8 hm; exfalso; omega
  | succ fu ih =>
    intro y16_6 y16_8 h_y16_8 hm
    rw [fX10_slipsOf_L16.eq_2]
    have l_21 := il_21
    refine wq_le (fun hc_19229 => ?_) (fun hc_19230 => ?_)
    · have l_1 := il_1
      have t_19232 := ia_add y6_7 (1 : Int32) (by omega) (by omega)
      refine wq_v (fun v1_q19231 h_v1_q19231 => ?_)
      have t_v1_q19231 := congrArg Int32.toInt h_v1_q19231
      have b_19233 := i32b y16_6
      exact hg6 y16_6 v1_q19231 ⟨by omega, by omega⟩ (by omega)
    · have l_20 := il_20
      have t_19234 := ia_mul (20 : Int32) (20) il_20 x3 (by omega) (by omega)
      have t_19235 := ia_add ((20 : Int32) * x3) y6_7 (by omega) (by omega)
      refine wq_b (tt_fX1_degreeOf hN I2 M2 (((20 : Int32) * x3) + y6_7) y16_8 ⟨by omega, by omega⟩ ⟨by omega, by omega⟩ k_I2) (fun r2_q19236 h_r2_q19236 => ?_)
      obtain ⟨h_r2_q19236_0, h_r2_q19236_1, -⟩ := h_r2_q19236
      refine wq_in (n := 6) ⟨by omega, by omega⟩ ?_
      have t_19237 := KX10.m2 k_I0 x3.toNatClampNeg
      have t_19238 := ia_mul (20 : Int32) (20) il_20 (M0 2 x3.toNatClampNeg) (by omega) (by omega)
      have t_19239 := ia_add ((20 : Int32) * (M0 2 x3.toNatClampNeg)) y6_7 (by omega) (by omega)
      refine wq_b (tt_fX1_degreeOf hN I2 M2 (((20 : Int32) * (M0 2 x3.toNatClampNeg)) + y6_7) y16_8 ⟨by omega, by omega⟩ ⟨by omega, by omega⟩ k_I2) (fun r3_q19240 h_r3_q19240 => ?_)
      obtain ⟨h_r3_q19240_0, h_r3_q19240_1, -⟩ := h_r3_q19240
      have l_m1 := il_m1
      refine wq_eq (fun hc_19241 => ?_) (fun hc_19242 => ?_)
      · have l_1 := il_1
        have t_19244 := ia_add y16_8 (1 : Int32) (by omega) (by omega)
        refine wq_v (fun v4_q19243 h_v4_q19243 => ?_)
        have t_v4_q19243 := congrArg Int32.toInt h_v4_q19243
        have b_19245 := i32b y16_6
        exact ih y16_6 v4_q19243 ⟨by omega, by omega⟩ (by omega)
      · refine wq_eq (fun hc_19246 => ?_) (fun hc_19247 => ?_)
        · have l_1 := il_1
          have t_19249 := ia_add y16_8 (1 : Int32) (by omega) (by omega)
          refine wq_v (fun v5_q19248 h_v5_q19248 => ?_)
          have t_v5_q19248 := congrArg Int32.toInt h_v5_q19248
          have b_19250 := i32b y16_6
          exact ih y16_6 v5_q19248 ⟨by omega, by omega⟩ (by omega)
        · have b_19251 := i32b x4
          have b_19252 := i32b x5
          refine wq_b (tt_fX10_isSlip hN I1 M1 r2_q19236 r3_q19240 x4 x5 ⟨by omega, by omega⟩) (fun r6_q19253 h_r6_q19253 => ?_)
          obtain ⟨h_r6_q19253_0, -⟩ := h_r6_q19253
          have l_0 := il_0
          refine wq_eq (fun hc_19254 => ?_) (fun hc_19255 => ?_)
          · have l_1 := il_1
            have t_19257 := ia_add y16_8 (1 : Int32) (by omega) (by omega)
            refine wq_v (fun v7_q19256 h_v7_q19256 => ?_)
            have t_v7_q19256 := congrArg Int32.toInt h_v7_q19256
            have b_19258 := i32b y16_6
            exact ih y16_6 v7_q19256 ⟨by omega, by omega⟩ (by omega)
          · have b_19260 := i32b y16_6
            have l_1 := il_1
            refine wq_v (fun v8_q19259 h_v8_q19259 => ?_)
            have t_v8_q19259 := congrArg Int32.toInt h_v8_q19259
            have t_19262 := ia_add y16_8 (1 : Int32) (by omega) (by omega)
            refine wq_v (fun v9_q19261 h_v9_q19261 => ?_)
            have t_v9_q19261 := congrArg Int32.toInt h_v9_q19261
            have b_19263 := i32b v8_q19259
            exact ih v8_q19259 v9_q19261 ⟨by omega, by omega⟩ (by omega)
set_option maxHeartbeats 4000000 in
theorem tt_fX10_slipsOf_L6 {N : Nat} (hN : 3000000000 ≤ N) (I0 : Nat → Int32) (M0 : Nat → Nat → Int32) (I1 : Nat → Int32) (M1 : Nat → Nat → Int32) (I2 : Nat → Int32) (M2 : Nat → Nat → Int32) (x3 : Int32) (x4 : Int32) (x5 : Int32) (h_x3 : 0 ≤ x3.toInt ∧ x3.toInt ≤ 5) (k_I0 : KX10 I0 M0) (k_I2 : KX1 I2 M2) (hr_3 : 0 ≤ (M0 2 x3.toNatClampNeg).toInt)  : ∀ (fu : Nat) (y6_6 : Int32) (y6_7 : Int32), (0 ≤ y6_7.toInt ∧ y6_7.toInt ≤ 20) → (20 - y6_7.toInt) < (fu : Int) → wq (fX10_slipsOf_L6 N I0 M0 I1 M1 I2 M2 x3 x4 x5 fu y6_6 y6_7) (fun r => True) := by
  intro fu
  induction fu with
  | zero => intro y6_6 y6_7 h_y6_7 hm; exfalso; omega
  | succ fu ih =>
    intro y6_6 y6_7 h_y6_7 hm
    rw [fX10_slipsOf_L6.eq_2]
    have l_20 := il_20
    refine wq_le (fun hc_19264 => ?_) (fun hc_19265 => ?_)
    · have b_19266 := i32b y6_6
      exact wq_s trivial
    · have b_19267 := i32b x4
      have b_19268 := i32b x5
      have b_19269 := i32b y6_6
      have l_0 := il_0
      exact tt_fX10_slipsOf_L16 hN I0 M0 I1 M1 I2 M2 x3 x4 x5 y6_7 _ ⟨by omega, by omega⟩ ⟨by omega, by omega⟩ k_I0 k_I2 (by omega) (fun q0 q1 hq0 hq1 => ih q0 q1 hq0 (by omega)) N y6_6 (0 : Int32) ⟨by omega, by omega⟩ (by omega)
set_option maxHeartbeats 4000000 in
theorem tt_fX10_slipsOf {N : Nat} (hN : 3000000000 ≤ N) (I0 : Nat → Int32) (M0 : Nat → Nat → Int32) (I1 : Nat → Int32) (M1 : Nat → Nat → Int32) (I2 : Nat → Int32) (M2 : Nat → Nat → Int32) (x3 : Int32) (x4 : Int32) (x5 : Int32) (h_x3 : 0 ≤ x3.toInt ∧ x3.toInt ≤ 5) (k_I0 : KX10 I0 M0) (k_I2 : KX1 I2 M2) (hr_3 : 0 ≤ (M0 2 x3.toNatClampNeg).toInt) : wq (fX10_slipsOf N I0 M0 I1 M1 I2 M2 x3 x4 x5) (fun r => True) := by
  unfold fX10_slipsOf
  have b_19270 := i32b x4
  have b_19271 := i32b x5
  have l_0 := il_0
  exact tt_fX10_slipsOf_L6 hN I0 M0 I1 M1 I2 M2 x3 x4 x5 ⟨by omega, by omega⟩ k_I0 k_I2 (by omega) N (0 : Int32) (0 : Int32) ⟨by omega, by omega⟩ (by omega)
set_option maxHeartbeats 4000000 in
theorem tt_fX10_howManySlips_L6 {N : Nat} (hN : 3000000000 ≤ N) (I0 : Nat → Int32) (M0 : Nat → Nat → Int32) (I1 : Nat → Int32) (M1 : Nat → Nat → Int32) (I2 : Nat → Int32) (M2 : Nat → Nat → Int32) (x3 : Int32) (x4 : Int32) (k_I0 : KX10 I0 M0) (k_I2 : KX1 I2 M2)  : ∀ (fu : Nat) (y6_5 : Int32) (y6_6 : Int32), (0 ≤ y6_6.toInt ∧ y6_6.toInt ≤ 6) → (6 - y6_6.toInt) < (fu : Int) → wq (fX10_howManySlips_L6 N I0 M0 I1 M1 I2 M2 x3 x4 fu y6_5 y6_6) (fun r => True) := by
  intro fu
  induction fu with
  | zero => intro y6_5 y6_6 h_y6_6 hm; exfalso; omega
  | succ fu ih =>
    intro y6_5 y6_6 h_y6_6 hm
    rw [fX10_howManySlips_L6.eq_2]
    have l_6 := il_6
    refine wq_le (fun hc_19486 => ?_) (fun hc_19487 => ?_)
    · have b_19488 := i32b y6_5
      exact wq_s trivial
    · refine wq_in (n := 6) ⟨by omega, by omega⟩ ?_
      have t_19489 := KX10.m2 k_I0 y6_6.toNatClampNeg
      have l_0 := il_0
      refine wq_lt (fun hc_19490 => ?_) (fun hc_19491 => ?_)
      · have l_1 := il_1
        have t_19493 := ia_add y6_6 (1 : Int32) (by omega) (by omega)
        refine wq_v (fun v1_q19492 h_v1_q19492 => ?_)
        have t_v1_q19492 := congrArg Int32.toInt h_v1_q19492
        have b_19494 := i32b y6_5
        exact ih y6_5 v1_q19492 ⟨by omega, by omega⟩ (by omega)
      · have b_19495 := i32b x3
        have b_19496 := i32b x4
        refine wq_b (tt_fX10_slipsOf hN I0 M0 I1 M1 I2 M2 y6_6 x3 x4 ⟨by omega, by omega⟩ k_I0 k_I2 (by omega)) (fun r2_q19497 h_r2_q19497 => ?_)
        obtain ⟨-⟩ := h_r2_q19497
        have b_19499 := i32b y6_5
        have b_19500 := i32b r2_q19497
        refine wq_v (fun v3_q19498 h_v3_q19498 => ?_)
        have t_v3_q19498 := congrArg Int32.toInt h_v3_q19498
        have l_1 := il_1
        have t_19502 := ia_add y6_6 (1 : Int32) (by omega) (by omega)
        refine wq_v (fun v4_q19501 h_v4_q19501 => ?_)
        have t_v4_q19501 := congrArg Int32.toInt h_v4_q19501
        have b_19503 := i32b v3_q19498
        exact ih v3_q19498 v4_q19501 ⟨by omega, by omega⟩ (by omega)
set_option maxHeartbeats 4000000 in
theorem tt_fX10_howManySlips {N : Nat} (hN : 3000000000 ≤ N) (I0 : Nat → Int32) (M0 : Nat → Nat → Int32) (I1 : Nat → Int32) (M1 : Nat → Nat → Int32) (I2 : Nat → Int32) (M2 : Nat → Nat → Int32) (x3 : Int32) (x4 : Int32) (k_I0 : KX10 I0 M0) (k_I2 : KX1 I2 M2) : wq (fX10_howManySlips N I0 M0 I1 M1 I2 M2 x3 x4) (fun r => True) := by
  unfold fX10_howManySlips
  have b_19504 := i32b x3
  have b_19505 := i32b x4
  have l_0 := il_0
  exact tt_fX10_howManySlips_L6 hN I0 M0 I1 M1 I2 M2 x3 x4 k_I0 k_I2 N (0 : Int32) (0 : Int32) ⟨by omega, by omega⟩ (by omega)
set_option maxHeartbeats 4000000 in
theorem tt_fX11_feed {N : Nat} (hN : 3000000000 ≤ N) (I0 : Nat → Int32) (M0 : Nat → Nat → Int32) (x1 : Int32) (x2 : Int32) (x3 : Int32) (x4 : Int32) (x5 : Int32) (k_I0 : KX11 I0 M0) : wq (fX11_feed N I0 M0 x1 x2 x3 x4 x5) (fun r => (-1 ≤ r.1.toInt ∧ r.1.toInt ≤ 600) ∧ KX11 r.2.1 r.2.2 ∧ True) := by
  unfold fX11_feed
  refine wq_b (tt_fX9_hasRoom hN I0 M0 (KX11.s_X9_0_0 k_I0)) (fun r1_q19650 h_r1_q19650 => ?_)
  obtain ⟨h_r1_q19650_0, -⟩ := h_r1_q19650
  have l_0 := il_0
  refine wq_eq (fun hc_19651 => ?_) (fun hc_19652 => ?_)
  · have l_m1 := il_m1
    exact wq_s ⟨(show -1 ≤ (-1 : Int32).toInt ∧ (-1 : Int32).toInt ≤ 600 from ⟨by omega, by omega⟩), k_I0, trivial⟩
  · have b_19653 := i32b x1
    refine wq_b (tt_fX9_put hN I0 M0 x1 (KX11.s_X9_0_0 k_I0)) (fun r2_q19654 h_r2_q19654 => ?_)
    obtain ⟨h_r2_q19654_0, -⟩ := h_r2_q19654
    refine wq_v (fun I0_3_q19655 h_I0_3_q19655 => ?_)
    refine wq_v (fun M0_4_q19656 h_M0_4_q19656 => ?_)
    have k_M0_4_q19656 : KX11 I0_3_q19655 M0_4_q19656 := by rw [h_I0_3_q19655, h_M0_4_q19656]; exact (KX11.p_X9_0_0 k_I0 h_r2_q19654_0)
    have b_19657 := i32b x2
    refine wq_b (tt_fX9_put hN I0_3_q19655 M0_4_q19656 x2 (KX11.s_X9_0_0 k_M0_4_q19656)) (fun r5_q19658 h_r5_q19658 => ?_)
    obtain ⟨h_r5_q19658_0, -⟩ := h_r5_q19658
    refine wq_v (fun I0_6_q19659 h_I0_6_q19659 => ?_)
    refine wq_v (fun M0_7_q19660 h_M0_7_q19660 => ?_)
    have k_M0_7_q19660 : KX11 I0_6_q19659 M0_7_q19660 := by rw [h_I0_6_q19659, h_M0_7_q19660]; exact (KX11.p_X9_0_0 k_M0_4_q19656 h_r5_q19658_0)
    have b_19661 := i32b x3
    refine wq_b (tt_fX9_put hN I0_6_q19659 M0_7_q19660 x3 (KX11.s_X9_0_0 k_M0_7_q19660)) (fun r8_q19662 h_r8_q19662 => ?_)
    obtain ⟨h_r8_q19662_0, -⟩ := h_r8_q19662
    refine wq_v (fun I0_9_q19663 h_I0_9_q19663 => ?_)
    refine wq_v (fun M0_10_q19664 h_M0_10_q19664 => ?_)
    have k_M0_10_q19664 : KX11 I0_9_q19663 M0_10_q19664 := by rw [h_I0_9_q19663, h_M0_10_q19664]; exact (KX11.p_X9_0_0 k_M0_7_q19660 h_r8_q19662_0)
    have b_19665 := i32b x4
    refine wq_b (tt_fX9_put hN I0_9_q19663 M0_10_q19664 x4 (KX11.s_X9_0_0 k_M0_10_q19664)) (fun r11_q19666 h_r11_q19666 => ?_)
    obtain ⟨h_r11_q19666_0, -⟩ := h_r11_q19666
    refine wq_v (fun I0_12_q19667 h_I0_12_q19667 => ?_)
    refine wq_v (fun M0_13_q19668 h_M0_13_q19668 => ?_)
    have k_M0_13_q19668 : KX11 I0_12_q19667 M0_13_q19668 := by rw [h_I0_12_q19667, h_M0_13_q19668]; exact (KX11.p_X9_0_0 k_M0_10_q19664 h_r11_q19666_0)
    have b_19669 := i32b x5
    refine wq_b (tt_fX9_put hN I0_12_q19667 M0_13_q19668 x5 (KX11.s_X9_0_0 k_M0_13_q19668)) (fun r14_q19670 h_r14_q19670 => ?_)
    obtain ⟨h_r14_q19670_0, -⟩ := h_r14_q19670
    refine wq_v (fun I0_15_q19671 h_I0_15_q19671 => ?_)
    refine wq_v (fun M0_16_q19672 h_M0_16_q19672 => ?_)
    have k_M0_16_q19672 : KX11 I0_15_q19671 M0_16_q19672 := by rw [h_I0_15_q19671, h_M0_16_q19672]; exact (KX11.p_X9_0_0 k_M0_13_q19668 h_r14_q19670_0)
    have t_19673 := KX11.i0 k_M0_16_q19672
    exact wq_s ⟨(show -1 ≤ (I0_15_q19671 0).toInt ∧ (I0_15_q19671 0).toInt ≤ 600 from ⟨by omega, by omega⟩), k_M0_16_q19672, trivial⟩
set_option maxHeartbeats 4000000 in
theorem tt_fX11_within {N : Nat} (hN : 3000000000 ≤ N) (x0 : Int32) (x1 : Int32) (x2 : Int32)  : wq (fX11_within N x0 x1 x2) (fun r => (r.toInt = 0 ∨ (r.toInt = 1 ∧ x1.toInt ≤ x0.toInt ∧ x0.toInt ≤ x2.toInt)) ∧ (0 ≤ r.toInt ∧ r.toInt ≤ 1) ∧ True) := by
  unfold fX11_within
  have b_19716 := i32b x0
  have b_19717 := i32b x1
  refine wq_lt (fun hc_19718 => ?_) (fun hc_19719 => ?_)
  · have b_19720 := i32b x2
    have l_0 := il_0
    exact wq_s ⟨(show ((0 : Int32).toInt = 0 ∨ ((0 : Int32).toInt = 1 ∧ x1.toInt ≤ x0.toInt ∧ x0.toInt ≤ x2.toInt)) from by omega), (show 0 ≤ (0 : Int32).toInt ∧ (0 : Int32).toInt ≤ 1 from ⟨by omega, by omega⟩), trivial⟩
  · have b_19721 := i32b x2
    refine wq_lt (fun hc_19722 => ?_) (fun hc_19723 => ?_)
    · have l_0 := il_0
      exact wq_s ⟨(show ((0 : Int32).toInt = 0 ∨ ((0 : Int32).toInt = 1 ∧ x1.toInt ≤ x0.toInt ∧ x0.toInt ≤ x2.toInt)) from by omega), (show 0 ≤ (0 : Int32).toInt ∧ (0 : Int32).toInt ≤ 1 from ⟨by omega, by omega⟩), trivial⟩
    · have l_1 := il_1
      exact wq_s ⟨(show ((1 : Int32).toInt = 0 ∨ ((1 : Int32).toInt = 1 ∧ x1.toInt ≤ x0.toInt ∧ x0.toInt ≤ x2.toInt)) from by omega), (show 0 ≤ (1 : Int32).toInt ∧ (1 : Int32).toInt ≤ 1 from ⟨by omega, by omega⟩), trivial⟩
theorem tt_fX11_allow {N : Nat} (hN : 3000000000 ≤ N) (x0 : Int32)  : wq (fX11_allow N x0) (qS 2 (fun r => x0.toInt ≠ 0 ∧ True)) := by
  unfold fX11_allow
  have l_0 := il_0
  refine wq_eq (fun hc => ?_) (fun hc => ?_)
  · exact wq_s (show qE 2 2 from by unfold qE; omega)
  · exact wq_ok (wq_s ⟨by omega, trivial⟩)
set_option maxHeartbeats 4000000 in
theorem tt_fX11_house {N : Nat} (hN : 3000000000 ≤ N) (I0 : Nat → Int32) (M0 : Nat → Nat → Int32) (x1 : Int32) (k_I0 : KX11 I0 M0) : wq (fX11_house N I0 M0 x1) (qS 2 (fun r => KX11 r.2.1 r.2.2 ∧ True)) := by
  unfold fX11_house
  have b_19832 := i32b x1
  have l_0 := il_0
  have t_19833 := KX11.i0 k_I0
  refine wq_b (tt_fX11_within hN x1 (0 : Int32) (I0 0)) (fun r1_q19834 h_r1_q19834 => ?_)
  obtain ⟨h_r1_q19834_0, h_r1_q19834_1, -⟩ := h_r1_q19834
  refine wq_xb (tt_fX11_allow hN r1_q19834) (by decide) (fun r2_q19835 h_r2_q19835 => ?_)
  obtain ⟨h_r2_q19835_0, -⟩ := h_r2_q19835
  refine wq_ok ?_
  refine wq_b (tt_fX9_begin hN I0 M0 x1 ⟨by omega, by omega⟩ (KX11.s_X9_0_0 k_I0)) (fun r3_q19836 h_r3_q19836 => ?_)
  obtain ⟨h_r3_q19836_0, -⟩ := h_r3_q19836
  refine wq_v (fun I0_4_q19837 h_I0_4_q19837 => ?_)
  refine wq_v (fun M0_5_q19838 h_M0_5_q19838 => ?_)
  have k_M0_5_q19838 : KX11 I0_4_q19837 M0_5_q19838 := by rw [h_I0_4_q19837, h_M0_5_q19838]; exact (KX11.p_X9_0_0 k_I0 h_r3_q19836_0)
  refine wq_b (tt_fX5_copyFrom hN (wb_sh I0_4_q19837 11) (wb_sh M0_5_q19838 7) (wb_sh I0_4_q19837 9) (wb_sh M0_5_q19838 1) (KX11.s_X5_11_7 k_M0_5_q19838) (KX11.s_X5_9_1 k_M0_5_q19838)) (fun r6_q19839 h_r6_q19839 => ?_)
  obtain ⟨h_r6_q19839_0, -⟩ := h_r6_q19839
  refine wq_v (fun I0_7_q19840 h_I0_7_q19840 => ?_)
  refine wq_v (fun M0_8_q19841 h_M0_8_q19841 => ?_)
  have k_M0_8_q19841 : KX11 I0_7_q19840 M0_8_q19841 := by rw [h_I0_7_q19840, h_M0_8_q19841]; exact (KX11.p_X5_11_7 k_M0_5_q19838 h_r6_q19839_0)
  refine wq_b (tt_fX5_readLines hN (wb_sh I0_7_q19840 11) (wb_sh M0_8_q19841 7) I0_7_q19840 M0_8_q19841 (KX11.s_X5_11_7 k_M0_8_q19841) (KX11.s_X9_0_0 k_M0_8_q19841)) (fun r9b_q19842 h_r9b_q19842 => ?_)
  obtain ⟨h_r9b_q19842_0, h_r9b_q19842_1, h_r9b_q19842_2, -⟩ := h_r9b_q19842
  refine wq_v (fun I0_10_q19843 h_I0_10_q19843 => ?_)
  refine wq_v (fun M0_11_q19844 h_M0_11_q19844 => ?_)
  have k_M0_11_q19844 : KX11 I0_10_q19843 M0_11_q19844 := by rw [h_I0_10_q19843, h_M0_11_q19844]; exact (KX11.p_X9_0_0 (KX11.p_X5_11_7 k_M0_8_q19841 h_r9b_q19842_1) h_r9b_q19842_2)
  refine wq_eq (fun hc_19845 => ?_) (fun hc_19846 => ?_)
  · exact wq_s ⟨k_M0_11_q19844, trivial⟩
  · refine wq_b (tt_fX5_copyFrom hN (wb_sh I0_10_q19843 9) (wb_sh M0_11_q19844 1) (wb_sh I0_10_q19843 11) (wb_sh M0_11_q19844 7) (KX11.s_X5_9_1 k_M0_11_q19844) (KX11.s_X5_11_7 k_M0_11_q19844)) (fun r12_q19847 h_r12_q19847 => ?_)
    obtain ⟨h_r12_q19847_0, -⟩ := h_r12_q19847
    refine wq_v (fun I0_13_q19848 h_I0_13_q19848 => ?_)
    refine wq_v (fun M0_14_q19849 h_M0_14_q19849 => ?_)
    have k_M0_14_q19849 : KX11 I0_13_q19848 M0_14_q19849 := by rw [h_I0_13_q19848, h_M0_14_q19849]; exact (KX11.p_X5_9_1 k_M0_11_q19844 h_r12_q19847_0)
    exact wq_s ⟨k_M0_14_q19849, trivial⟩
theorem tt_fX11_need0 (N : Nat) : wq (fX11_need N (0 : Int32)) (qS 1 (fun _ => False)) := ⟨.inl 1, rfl, Or.inl ⟨rfl, by decide⟩⟩

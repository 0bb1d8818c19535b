set_option maxHeartbeats 4000000 in
theorem tt_fX12_misread {N : Nat} (hN : 3000000000 ≤ N) (I0 : Nat → Int32) (L0 : Int64) (M0 : Nat → Nat → Int32) (x1 : Int32) (x2 : Int32) (x3 : Int32) (x4 : Int32) (x5 : Int32) (k_I0 : KX12 I0 M0) : wq (fX12_misread N I0 L0 M0 x1 x2 x3 x4 x5) (fun r => (-1 ≤ r.1.toInt ∧ r.1.toInt ≤ 9) ∧ KX12 r.2.1 r.2.2.2 ∧ True) := by
  unfold fX12_misread
  have b_34560 := i32b x1
  have b_34561 := i32b x2
  refine wq_b (tt_fX12_isWheel hN I0 L0 M0 x1 x2 k_I0) (fun r5_q34562 h_r5_q34562 => ?_)
  obtain ⟨h_r5_q34562_0, h_r5_q34562_1, h_r5_q34562_2, h_r5_q34562_3, -⟩ := h_r5_q34562
  have t_34563 := KX12.i1 h_r5_q34562_3
  have t_34564 := KX12.i1 k_I0
  have l_0 := il_0
  refine wq_eq (fun hc_34565 => ?_) (fun hc_34566 => ?_)
  · exact wq_s ⟨(show -1 ≤ (0 : Int32).toInt ∧ (0 : Int32).toInt ≤ 9 from ⟨by omega, by omega⟩), h_r5_q34562_3, trivial⟩
  · have b_34567 := i32b x3
    have l_3 := il_3
    refine wq_b (tt_fX12_within hN x3 (0 : Int32) (3 : Int32)) (fun r6_q34568 h_r6_q34568 => ?_)
    obtain ⟨h_r6_q34568_0, h_r6_q34568_1, -⟩ := h_r6_q34568
    refine wq_eq (fun hc_34569 => ?_) (fun hc_34570 => ?_)
    · unfold fX12_misread_J45
      unfold fX12_misread_J46
      have l_1 := il_1
      refine wq_b (tt_fX12_right hN r5_q34562.2.1 r5_q34562.2.2.1 r5_q34562.2.2.2 (0 : Int32) (1 : Int32) ⟨by omega, by omega⟩ h_r5_q34562_3) (fun r1_q34571 h_r1_q34571 => ?_)
      obtain ⟨h_r1_q34571_0, h_r1_q34571_1, h_r1_q34571_2, h_r1_q34571_3, -⟩ := h_r1_q34571
      have t_34572 := KX12.i1 h_r1_q34571_3
      refine wq_eq (fun hc_34573 => ?_) (fun hc_34574 => ?_)
      · exact wq_s ⟨(show -1 ≤ (0 : Int32).toInt ∧ (0 : Int32).toInt ≤ 9 from ⟨by omega, by omega⟩), h_r1_q34571_3, trivial⟩
      · have l_20 := il_20
        have t_34575 := ia_mul (20 : Int32) (20) il_20 x1 (by omega) (by omega)
        have t_34576 := ia_add ((20 : Int32) * x1) x2 (by omega) (by omega)
        have b_34577 := i32b x5
        refine wq_b (tt_fX12_at hN r1_q34571.2.1 r1_q34571.2.2.1 r1_q34571.2.2.2 (((20 : Int32) * x1) + x2) x5 ⟨by omega, by omega⟩ ⟨by omega, by omega⟩ h_r1_q34571_3) (fun r2_q34578 h_r2_q34578 => ?_)
        obtain ⟨h_r2_q34578_0, h_r2_q34578_1, h_r2_q34578_2, -⟩ := h_r2_q34578
        have l_m1 := il_m1
        refine wq_eq (fun hc_34579 => ?_) (fun hc_34580 => ?_)
        · exact wq_s ⟨(show -1 ≤ (-1 : Int32).toInt ∧ (-1 : Int32).toInt ≤ 9 from ⟨by omega, by omega⟩), h_r1_q34571_3, trivial⟩
        · have b_34581 := i32b x4
          refine wq_b (tt_fX12_placeOn hN r1_q34571.2.1 r1_q34571.2.2.1 r1_q34571.2.2.2 x3 x5 x4 ⟨by omega, by omega⟩ ⟨by omega, by omega⟩ h_r1_q34571_3) (fun r3_q34582 h_r3_q34582 => ?_)
          obtain ⟨-⟩ := h_r3_q34582
          have b_34583 := i32b r3_q34582
          have l_60 := il_60
          have t_34584 := i32b r3_q34582
          have t_34585 := ia_div2 r3_q34582 (60 : Int32) 60 il_60 (by decide)
          refine wq_b (tt_fX12_beside hN r1_q34571.2.1 r1_q34571.2.2.1 r1_q34571.2.2.2 r2_q34578 (r3_q34582 / (60 : Int32)) ⟨by omega, by omega⟩ h_r1_q34571_3) (fun r4_q34586 h_r4_q34586 => ?_)
          obtain ⟨h_r4_q34586_0, -⟩ := h_r4_q34586
          exact wq_s ⟨(show -1 ≤ r4_q34586.toInt ∧ r4_q34586.toInt ≤ 9 from ⟨by omega, by omega⟩), h_r1_q34571_3, trivial⟩
    · have b_34587 := i32b x4
      have l_1000000 := il_1000000
      refine wq_b (tt_fX12_within hN x4 (0 : Int32) (1000000 : Int32)) (fun r7_q34588 h_r7_q34588 => ?_)
      obtain ⟨h_r7_q34588_0, h_r7_q34588_1, -⟩ := h_r7_q34588
      refine wq_eq (fun hc_34589 => ?_) (fun hc_34590 => ?_)
      · unfold fX12_misread_J45
        unfold fX12_misread_J46
        have l_1 := il_1
        refine wq_b (tt_fX12_right hN r5_q34562.2.1 r5_q34562.2.2.1 r5_q34562.2.2.2 (0 : Int32) (1 : Int32) ⟨by omega, by omega⟩ h_r5_q34562_3) (fun r1_q34591 h_r1_q34591 => ?_)
        obtain ⟨h_r1_q34591_0, h_r1_q34591_1, h_r1_q34591_2, h_r1_q34591_3, -⟩ := h_r1_q34591
        have t_34592 := KX12.i1 h_r1_q34591_3
        refine wq_eq (fun hc_34593 => ?_) (fun hc_34594 => ?_)
        · exact wq_s ⟨(show -1 ≤ (0 : Int32).toInt ∧ (0 : Int32).toInt ≤ 9 from ⟨by omega, by omega⟩), h_r1_q34591_3, trivial⟩
        · have l_20 := il_20
          have t_34595 := ia_mul (20 : Int32) (20) il_20 x1 (by omega) (by omega)
          have t_34596 := ia_add ((20 : Int32) * x1) x2 (by omega) (by omega)
          have b_34597 := i32b x5
          refine wq_b (tt_fX12_at hN r1_q34591.2.1 r1_q34591.2.2.1 r1_q34591.2.2.2 (((20 : Int32) * x1) + x2) x5 ⟨by omega, by omega⟩ ⟨by omega, by omega⟩ h_r1_q34591_3) (fun r2_q34598 h_r2_q34598 => ?_)
          obtain ⟨h_r2_q34598_0, h_r2_q34598_1, h_r2_q34598_2, -⟩ := h_r2_q34598
          have l_m1 := il_m1
          refine wq_eq (fun hc_34599 => ?_) (fun hc_34600 => ?_)
          · exact wq_s ⟨(show -1 ≤ (-1 : Int32).toInt ∧ (-1 : Int32).toInt ≤ 9 from ⟨by omega, by omega⟩), h_r1_q34591_3, trivial⟩
          · refine wq_b (tt_fX12_placeOn hN r1_q34591.2.1 r1_q34591.2.2.1 r1_q34591.2.2.2 x3 x5 x4 ⟨by omega, by omega⟩ ⟨by omega, by omega⟩ h_r1_q34591_3) (fun r3_q34601 h_r3_q34601 => ?_)
            obtain ⟨-⟩ := h_r3_q34601
            have b_34602 := i32b r3_q34601
            have l_60 := il_60
            have t_34603 := i32b r3_q34601
            have t_34604 := ia_div2 r3_q34601 (60 : Int32) 60 il_60 (by decide)
            refine wq_b (tt_fX12_beside hN r1_q34591.2.1 r1_q34591.2.2.1 r1_q34591.2.2.2 r2_q34598 (r3_q34601 / (60 : Int32)) ⟨by omega, by omega⟩ h_r1_q34591_3) (fun r4_q34605 h_r4_q34605 => ?_)
            obtain ⟨h_r4_q34605_0, -⟩ := h_r4_q34605
            exact wq_s ⟨(show -1 ≤ r4_q34605.toInt ∧ r4_q34605.toInt ≤ 9 from ⟨by omega, by omega⟩), h_r1_q34591_3, trivial⟩
      · have b_34606 := i32b x5
        have l_6 := il_6
        refine wq_b (tt_fX12_within hN x5 (0 : Int32) (6 : Int32)) (fun r8_q34607 h_r8_q34607 => ?_)
        obtain ⟨h_r8_q34607_0, h_r8_q34607_1, -⟩ := h_r8_q34607
        refine wq_eq (fun hc_34608 => ?_) (fun hc_34609 => ?_)
        · unfold fX12_misread_J45
          unfold fX12_misread_J46
          have l_1 := il_1
          refine wq_b (tt_fX12_right hN r5_q34562.2.1 r5_q34562.2.2.1 r5_q34562.2.2.2 (0 : Int32) (1 : Int32) ⟨by omega, by omega⟩ h_r5_q34562_3) (fun r1_q34610 h_r1_q34610 => ?_)
          obtain ⟨h_r1_q34610_0, h_r1_q34610_1, h_r1_q34610_2, h_r1_q34610_3, -⟩ := h_r1_q34610
          have t_34611 := KX12.i1 h_r1_q34610_3
          refine wq_eq (fun hc_34612 => ?_) (fun hc_34613 => ?_)
          · exact wq_s ⟨(show -1 ≤ (0 : Int32).toInt ∧ (0 : Int32).toInt ≤ 9 from ⟨by omega, by omega⟩), h_r1_q34610_3, trivial⟩
          · have l_20 := il_20
            have t_34614 := ia_mul (20 : Int32) (20) il_20 x1 (by omega) (by omega)
            have t_34615 := ia_add ((20 : Int32) * x1) x2 (by omega) (by omega)
            refine wq_b (tt_fX12_at hN r1_q34610.2.1 r1_q34610.2.2.1 r1_q34610.2.2.2 (((20 : Int32) * x1) + x2) x5 ⟨by omega, by omega⟩ ⟨by omega, by omega⟩ h_r1_q34610_3) (fun r2_q34616 h_r2_q34616 => ?_)
            obtain ⟨h_r2_q34616_0, h_r2_q34616_1, h_r2_q34616_2, -⟩ := h_r2_q34616
            have l_m1 := il_m1
            refine wq_eq (fun hc_34617 => ?_) (fun hc_34618 => ?_)
            · exact wq_s ⟨(show -1 ≤ (-1 : Int32).toInt ∧ (-1 : Int32).toInt ≤ 9 from ⟨by omega, by omega⟩), h_r1_q34610_3, trivial⟩
            · refine wq_b (tt_fX12_placeOn hN r1_q34610.2.1 r1_q34610.2.2.1 r1_q34610.2.2.2 x3 x5 x4 ⟨by omega, by omega⟩ ⟨by omega, by omega⟩ h_r1_q34610_3) (fun r3_q34619 h_r3_q34619 => ?_)
              obtain ⟨-⟩ := h_r3_q34619
              have b_34620 := i32b r3_q34619
              have l_60 := il_60
              have t_34621 := i32b r3_q34619
              have t_34622 := ia_div2 r3_q34619 (60 : Int32) 60 il_60 (by decide)
              refine wq_b (tt_fX12_beside hN r1_q34610.2.1 r1_q34610.2.2.1 r1_q34610.2.2.2 r2_q34616 (r3_q34619 / (60 : Int32)) ⟨by omega, by omega⟩ h_r1_q34610_3) (fun r4_q34623 h_r4_q34623 => ?_)
              obtain ⟨h_r4_q34623_0, -⟩ := h_r4_q34623
              exact wq_s ⟨(show -1 ≤ r4_q34623.toInt ∧ r4_q34623.toInt ≤ 9 from ⟨by omega, by omega⟩), h_r1_q34610_3, trivial⟩
        · unfold fX12_misread_J46
          have l_1 := il_1
          refine wq_b (tt_fX12_right hN r5_q34562.2.1 r5_q34562.2.2.1 r5_q34562.2.2.2 (1 : Int32) (1 : Int32) ⟨by omega, by omega⟩ h_r5_q34562_3) (fun r1_q34624 h_r1_q34624 => ?_)
          obtain ⟨h_r1_q34624_0, h_r1_q34624_1, h_r1_q34624_2, h_r1_q34624_3, -⟩ := h_r1_q34624
          have t_34625 := KX12.i1 h_r1_q34624_3
          refine wq_eq (fun hc_34626 => ?_) (fun hc_34627 => ?_)
          · exact wq_s ⟨(show -1 ≤ (0 : Int32).toInt ∧ (0 : Int32).toInt ≤ 9 from ⟨by omega, by omega⟩), h_r1_q34624_3, trivial⟩
          · have l_20 := il_20
            have t_34628 := ia_mul (20 : Int32) (20) il_20 x1 (by omega) (by omega)
            have t_34629 := ia_add ((20 : Int32) * x1) x2 (by omega) (by omega)
            refine wq_b (tt_fX12_at hN r1_q34624.2.1 r1_q34624.2.2.1 r1_q34624.2.2.2 (((20 : Int32) * x1) + x2) x5 ⟨by omega, by omega⟩ ⟨by omega, by omega⟩ h_r1_q34624_3) (fun r2_q34630 h_r2_q34630 => ?_)
            obtain ⟨h_r2_q34630_0, h_r2_q34630_1, h_r2_q34630_2, -⟩ := h_r2_q34630
            have l_m1 := il_m1
            refine wq_eq (fun hc_34631 => ?_) (fun hc_34632 => ?_)
            · exact wq_s ⟨(show -1 ≤ (-1 : Int32).toInt ∧ (-1 : Int32).toInt ≤ 9 from ⟨by omega, by omega⟩), h_r1_q34624_3, trivial⟩
            · refine wq_b (tt_fX12_placeOn hN r1_q34624.2.1 r1_q34624.2.2.1 r1_q34624.2.2.2 x3 x5 x4 ⟨by omega, by omega⟩ ⟨by omega, by omega⟩ h_r1_q34624_3) (fun r3_q34633 h_r3_q34633 => ?_)
              obtain ⟨-⟩ := h_r3_q34633
              have b_34634 := i32b r3_q34633
              have l_60 := il_60
              have t_34635 := i32b r3_q34633
              have t_34636 := ia_div2 r3_q34633 (60 : Int32) 60 il_60 (by decide)
              refine wq_b (tt_fX12_beside hN r1_q34624.2.1 r1_q34624.2.2.1 r1_q34624.2.2.2 r2_q34630 (r3_q34633 / (60 : Int32)) ⟨by omega, by omega⟩ h_r1_q34624_3) (fun r4_q34637 h_r4_q34637 => ?_)
              obtain ⟨h_r4_q34637_0, -⟩ := h_r4_q34637
              exact wq_s ⟨(show -1 ≤ r4_q34637.toInt ∧ r4_q34637.toInt ≤ 9 from ⟨by omega, by omega⟩), h_r1_q34624_3, trivial⟩
set_option maxHeartbeats 4000000 in
theorem tt_fX12_errors_L340 {N : Nat} (hN : 3000000000 ≤ N) (x1 : Int32) (x2 : Int32) (x3 : Int32) (x4 : Int32) (g51 : (Nat → Int32) → Int64 → (Nat → Nat → Int32) → Int32 → Option (Int32 × (Nat → Int32) × Int64 × (Nat → Nat → Int32))) (g90 : (Nat → Int32) → Int64 → (Nat → Nat → Int32) → Int32 → Int32 → Option (Int32 × (Nat → Int32) × Int64 × (Nat → Nat → Int32))) (h_x1 : 0 ≤ x1.toInt ∧ x1.toInt ≤ 5) (h_x2 : 0 ≤ x2.toInt ∧ x2.toInt ≤ 19) (h_x4 : -2147483648 ≤ x4.toInt ∧ x4.toInt ≤ 1)  : ∀ (fu : Nat) (I0_l340 : (Nat → Int32)) (L0_l340 : Int64) (M0_l340 : (Nat → Nat → Int32)) (y340_6 : Int32) (y340_7 : Int32), (1 ≤ y340_6.toInt ∧ y340_6.toInt ≤ 3) → (2 ≤ y340_7.toInt ∧ y340_7.toInt ≤ 4) → (KX12 I0_l340 M0_l340) → (4 - y340_7.toInt) < (fu : Int) → wq (fX12_errors_L340 N x1 x2 x3 x4 g51 g90 fu I0_l340 L0_l340 M0_l340 y340_6 y340_7) (fun r => KX12 r.2.1 r.2.2.2 ∧ True) := by
  intro fu
  induction fu with
  | zero => intro I0_l340 L0_l340 M0_l340 y340_6 y340_7 h_y340_6 h_y340_7 k_I0_l340 hm; exfalso; omega
  | succ fu ih =>
    intro I0_l340 L0_l340 M0_l340 y340_6 y340_7 h_y340_6 h_y340_7 k_I0_l340 hm
    rw [fX12_errors_L340.eq_2]
    have l_4 := il_4
    refine wq_le (fun hc_38672 => ?_) (fun hc_38673 => ?_)
    · refine wq_in (n := 4) ⟨by omega, by omega⟩ ?_
      have l_0 := il_0
      refine wq_eq (fun hc_38674 => ?_) (fun hc_38675 => ?_)
      · have l_m1 := il_m1
        exact wq_s ⟨k_I0_l340, trivial⟩
      · exact wq_s ⟨k_I0_l340, trivial⟩
    · refine wq_in (n := 4) ⟨by omega, by omega⟩ ?_
      refine wq_in (n := 4) ⟨by omega, by omega⟩ ?_
      refine wq_le (fun hc_38676 => ?_) (fun hc_38677 => ?_)
      · have l_1 := il_1
        have t_38679 := ia_add y340_7 (1 : Int32) (by omega) (by omega)
        refine wq_v (fun v2_q38678 h_v2_q38678 => ?_)
        have t_v2_q38678 := congrArg Int32.toInt h_v2_q38678
        exact ih I0_l340 L0_l340 M0_l340 y340_6 v2_q38678 ⟨by omega, by omega⟩ ⟨by omega, by omega⟩ k_I0_l340 (by omega)
      · have l_1 := il_1
        have t_38681 := ia_add y340_7 (1 : Int32) (by omega) (by omega)
        refine wq_v (fun v3_q38680 h_v3_q38680 => ?_)
        have t_v3_q38680 := congrArg Int32.toInt h_v3_q38680
        exact ih I0_l340 L0_l340 M0_l340 y340_7 v3_q38680 ⟨by omega, by omega⟩ ⟨by omega, by omega⟩ k_I0_l340 (by omega)
set_option maxHeartbeats 4000000 in
theorem tt_fX12_errors_L187 {N : Nat} (hN : 3000000000 ≤ N) (x1 : Int32) (x2 : Int32) (x3 : Int32) (x4 : Int32) (r4 : Int32) (v7 : Int32) (y145_8 : Int32) (y90_6 : Int32) (g51 : (Nat → Int32) → Int64 → (Nat → Nat → Int32) → Int32 → Option (Int32 × (Nat → Int32) × Int64 × (Nat → Nat → Int32))) (g90 : (Nat → Int32) → Int64 → (Nat → Nat → Int32) → Int32 → Int32 → Option (Int32 × (Nat → Int32) × Int64 × (Nat → Nat → Int32))) (g145 : (Nat → Int32) → Int64 → (Nat → Nat → Int32) → Int32 → Int32 → Option (Int32 × (Nat → Int32) × Int64 × (Nat → Nat → Int32))) (h_x1 : 0 ≤ x1.toInt ∧ x1.toInt ≤ 5) (h_x2 : 0 ≤ x2.toInt ∧ x2.toInt ≤ 19) (h_r4 : 0 ≤ r4.toInt ∧ r4.toInt ≤ 359) (h_y90_6 : 0 ≤ y90_6.toInt ∧ y90_6.toInt ≤ 6) (hg90 : ∀ (q0 : (Nat → Int32)) (q1 : Int64) (q2 : (Nat → Nat → Int32)) (q3 : Int32) (q4 : Int32), (0 ≤ q4.toInt ∧ q4.toInt ≤ 7) → (KX12 q0 q2) → (y90_6.toInt < q4.toInt) → wq (g90 q0 q1 q2 q3 q4) (fun r => KX12 r.2.1 r.2.2.2 ∧ True)) : ∀ (fu : Nat) (I0_l187 : (Nat → Int32)) (L0_l187 : Int64) (M0_l187 : (Nat → Nat → Int32)) (y187_9 : Int32), (1 ≤ y187_9.toInt ∧ y187_9.toInt ≤ 4) → (KX12 I0_l187 M0_l187) → (4 - y187_9.toInt) < (fu : Int) → wq (fX12_errors_L187 N x1 x2 x3 x4 r4 v7 y145_8 y90_6 g51 g90 g145 fu I0_l187 L0_l187 M0_l187 y187_9) (fun r => KX12 r.2.1 r.2.2.2 ∧ True) := by
  intro fu
  induction fu with
  | zero => intro I0_l187 L0_l187 M0_l187 y187_9 h_y187_9 k_I0_l187 hm; exfalso; omega
  | succ fu ih =>
    intro I0_l187 L0_l187 M0_l187 y187_9 h_y187_9 k_I0_l187 hm
    rw [fX12_errors_L187.eq_2]
    have l_4 := il_4
    refine wq_le (fun hc_38682 => ?_) (fun hc_38683 => ?_)
    · have l_1 := il_1
      have t_38685 := ia_add y90_6 (1 : Int32) (by omega) (by omega)
      refine wq_v (fun v11_q38684 h_v11_q38684 => ?_)
      have t_v11_q38684 := congrArg Int32.toInt h_v11_q38684
      have b_38686 := i32b v7
      exact hg90 I0_l187 L0_l187 M0_l187 v7 v11_q38684 ⟨by omega, by omega⟩ k_I0_l187 (by omega)
    · have b_38687 := i32b x3
      refine wq_b (tt_fX12_placeOn hN I0_l187 L0_l187 M0_l187 y187_9 y90_6 x3 ⟨by omega, by omega⟩ ⟨by omega, by omega⟩ k_I0_l187) (fun r12_q38688 h_r12_q38688 => ?_)
      obtain ⟨-⟩ := h_r12_q38688
      have b_38689 := i32b r12_q38688
      have l_60 := il_60
      have t_38690 := i32b r12_q38688
      have t_38691 := ia_div2 r12_q38688 (60 : Int32) 60 il_60 (by decide)
      refine wq_eq (fun hc_38692 => ?_) (fun hc_38693 => ?_)
      · refine wq_in (n := 4) ⟨by omega, by omega⟩ ?_
        refine wq_in (n := 4) ⟨by omega, by omega⟩ ?_
        refine wq_v (fun M0_13_q38694 h_M0_13_q38694 => ?_)
        have k_M0_13_q38694 : KX12 I0_l187 M0_13_q38694 := by rw [h_M0_13_q38694]; exact KX12.sm20 k_I0_l187
        refine wq_in (n := 4) ⟨by omega, by omega⟩ ?_
        have b_38695 := i32b y145_8
        have l_1 := il_1
        refine wq_eq (fun hc_38696 => ?_) (fun hc_38697 => ?_)
        · unfold fX12_errors_J243
          refine wq_in (n := 4) ⟨by omega, by omega⟩ ?_
          refine wq_v (fun M0_8_q38698 h_M0_8_q38698 => ?_)
          have k_M0_8_q38698 : KX12 I0_l187 M0_8_q38698 := by rw [h_M0_8_q38698]; exact KX12.sm21 k_M0_13_q38694
          refine wq_in (n := 4) ⟨by omega, by omega⟩ ?_
          refine wq_nz (by omega) ?_
          refine wq_in (n := 4) ⟨by omega, by omega⟩ ?_
          refine wq_v (fun M0_9_q38699 h_M0_9_q38699 => ?_)
          have k_M0_9_q38699 : KX12 I0_l187 M0_9_q38699 := by rw [h_M0_9_q38699]; exact KX12.sm22 k_M0_8_q38698
          have t_38701 := ia_add y187_9 (1 : Int32) (by omega) (by omega)
          refine wq_v (fun v10_q38700 h_v10_q38700 => ?_)
          have t_v10_q38700 := congrArg Int32.toInt h_v10_q38700
          exact ih I0_l187 L0_l187 M0_9_q38699 v10_q38700 ⟨by omega, by omega⟩ k_M0_9_q38699 (by omega)
        · unfold fX12_errors_J243
          refine wq_in (n := 4) ⟨by omega, by omega⟩ ?_
          refine wq_v (fun M0_8_q38702 h_M0_8_q38702 => ?_)
          have k_M0_8_q38702 : KX12 I0_l187 M0_8_q38702 := by rw [h_M0_8_q38702]; exact KX12.sm21 k_M0_13_q38694
          refine wq_in (n := 4) ⟨by omega, by omega⟩ ?_
          refine wq_nz (by omega) ?_
          refine wq_in (n := 4) ⟨by omega, by omega⟩ ?_
          refine wq_v (fun M0_9_q38703 h_M0_9_q38703 => ?_)
          have k_M0_9_q38703 : KX12 I0_l187 M0_9_q38703 := by rw [h_M0_9_q38703]; exact KX12.sm22 k_M0_8_q38702
          have t_38705 := ia_add y187_9 (1 : Int32) (by omega) (by omega)
          refine wq_v (fun v10_q38704 h_v10_q38704 => ?_)
          have t_v10_q38704 := congrArg Int32.toInt h_v10_q38704
          exact ih I0_l187 L0_l187 M0_9_q38703 v10_q38704 ⟨by omega, by omega⟩ k_M0_9_q38703 (by omega)
      · have l_1 := il_1
        have t_38707 := ia_add y187_9 (1 : Int32) (by omega) (by omega)
        refine wq_v (fun v14_q38706 h_v14_q38706 => ?_)
        have t_v14_q38706 := congrArg Int32.toInt h_v14_q38706
        exact ih I0_l187 L0_l187 M0_l187 v14_q38706 ⟨by omega, by omega⟩ k_I0_l187 (by omega)
set_option maxHeartbeats 4000000 in
theorem tt_fX12_errors_L145 {N : Nat} (hN : 3000000000 ≤ N) (x1 : Int32) (x2 : Int32) (x3 : Int32) (x4 : Int32) (r4 : Int32) (v7 : Int32) (y90_6 : Int32) (g51 : (Nat → Int32) → Int64 → (Nat → Nat → Int32) → Int32 → Option (Int32 × (Nat → Int32) × Int64 × (Nat → Nat → Int32))) (g90 : (Nat → Int32) → Int64 → (Nat → Nat → Int32) → Int32 → Int32 → Option (Int32 × (Nat → Int32) × Int64 × (Nat → Nat → Int32))) (h_x1 : 0 ≤ x1.toInt ∧ x1.toInt ≤ 5) (h_x2 : 0 ≤ x2.toInt ∧ x2.toInt ≤ 19) (h_r4 : 0 ≤ r4.toInt ∧ r4.toInt ≤ 359) (h_y90_6 : 0 ≤ y90_6.toInt ∧ y90_6.toInt ≤ 6) (hg90 : ∀ (q0 : (Nat → Int32)) (q1 : Int64) (q2 : (Nat → Nat → Int32)) (q3 : Int32) (q4 : Int32), (0 ≤ q4.toInt ∧ q4.toInt ≤ 7) → (KX12 q0 q2) → (y90_6.toInt < q4.toInt) → wq (g90 q0 q1 q2 q3 q4) (fun r => KX12 r.2.1 r.2.2.2 ∧ True)) : ∀ (fu : Nat) (I0_l145 : (Nat → Int32)) (L0_l145 : Int64) (M0_l145 : (Nat → Nat → Int32)) (y145_8 : Int32) (y145_9 : Int32), (1 ≤ y145_9.toInt ∧ y145_9.toInt ≤ 4) → (KX12 I0_l145 M0_l145) → (4 - y145_9.toInt) < (fu : Int) → wq (fX12_errors_L145 N x1 x2 x3 x4 r4 v7 y90_6 g51 g90 fu I0_l145 L0_l145 M0_l145 y145_8 y145_9) (fun r => KX12 r.2.1 r.2.2.2 ∧ True) := by
  intro fu
  induction fu with
  | zero => intro I0_l145 L0_l145 M0_l145 y145_8 y145_9 h_y145_9 k_I0_l145 hm; exfalso; omega
  | succ fu ih =>
    intro I0_l145 L0_l145 M0_l145 y145_8 y145_9 h_y145_9 k_I0_l145 hm
    rw [fX12_errors_L145.eq_2]
    have l_4 := il_4
    refine wq_le (fun hc_38708 => ?_) (fun hc_38709 => ?_)
    · have b_38710 := i32b x3
      have b_38711 := i32b x4
      have b_38712 := i32b v7
      have b_38713 := i32b y145_8
      have l_1 := il_1
      exact tt_fX12_errors_L187 hN x1 x2 x3 x4 r4 v7 y145_8 y90_6 g51 g90 _ ⟨by omega, by omega⟩ ⟨by omega, by omega⟩ ⟨by omega, by omega⟩ ⟨by omega, by omega⟩ hg90 N I0_l145 L0_l145 M0_l145 (1 : Int32) ⟨by omega, by omega⟩ k_I0_l145 (by omega)
    · have b_38714 := i32b x3
      refine wq_b (tt_fX12_placeOn hN I0_l145 L0_l145 M0_l145 y145_9 y90_6 x3 ⟨by omega, by omega⟩ ⟨by omega, by omega⟩ k_I0_l145) (fun r15_q38715 h_r15_q38715 => ?_)
      obtain ⟨-⟩ := h_r15_q38715
      have b_38716 := i32b r15_q38715
      have l_60 := il_60
      have t_38717 := i32b r15_q38715
      have t_38718 := ia_div2 r15_q38715 (60 : Int32) 60 il_60 (by decide)
      refine wq_eq (fun hc_38719 => ?_) (fun hc_38720 => ?_)
      · have b_38722 := i32b y145_8
        have l_1 := il_1
        refine wq_v (fun v18_q38721 h_v18_q38721 => ?_)
        have t_v18_q38721 := congrArg Int32.toInt h_v18_q38721
        have t_38724 := ia_add y145_9 (1 : Int32) (by omega) (by omega)
        refine wq_v (fun v19_q38723 h_v19_q38723 => ?_)
        have t_v19_q38723 := congrArg Int32.toInt h_v19_q38723
        have b_38725 := i32b v18_q38721
        exact ih I0_l145 L0_l145 M0_l145 v18_q38721 v19_q38723 ⟨by omega, by omega⟩ k_I0_l145 (by omega)
      · have b_38727 := i32b y145_8
        have l_0 := il_0
        have t_38728 := ia_add y145_8 (0 : Int32) (by omega) (by omega)
        refine wq_v (fun v16_q38726 h_v16_q38726 => ?_)
        have t_v16_q38726 := congrArg Int32.toInt h_v16_q38726
        have l_1 := il_1
        have t_38730 := ia_add y145_9 (1 : Int32) (by omega) (by omega)
        refine wq_v (fun v17_q38729 h_v17_q38729 => ?_)
        have t_v17_q38729 := congrArg Int32.toInt h_v17_q38729
        have b_38731 := i32b v16_q38726
        exact ih I0_l145 L0_l145 M0_l145 v16_q38726 v17_q38729 ⟨by omega, by omega⟩ k_I0_l145 (by omega)
set_option maxHeartbeats 4000000 in
theorem tt_fX12_errors_L90 {N : Nat} (hN : 3000000000 ≤ N) (x1 : Int32) (x2 : Int32) (x3 : Int32) (x4 : Int32) (g51 : (Nat → Int32) → Int64 → (Nat → Nat → Int32) → Int32 → Option (Int32 × (Nat → Int32) × Int64 × (Nat → Nat → Int32))) (h_x1 : 0 ≤ x1.toInt ∧ x1.toInt ≤ 5) (h_x2 : 0 ≤ x2.toInt ∧ x2.toInt ≤ 19)  : ∀ (fu : Nat) (I0_l90 : (Nat → Int32)) (L0_l90 : Int64) (M0_l90 : (Nat → Nat → Int32)) (y90_5 : Int32) (y90_6 : Int32), (0 ≤ y90_6.toInt ∧ y90_6.toInt ≤ 7) → (KX12 I0_l90 M0_l90) → (7 - y90_6.toInt) < (fu : Int) → wq (fX12_errors_L90 N x1 x2 x3 x4 g51 fu I0_l90 L0_l90 M0_l90 y90_5 y90_6) (fun r => KX12 r.2.1 r.2.2.2 ∧ True) := by
  intro fu
  induction fu with
  | zero => intro I0_l90 L0_l90 M0_l90 y90_5 y90_6 h_y90_6 k_I0_l90 hm; exfalso; omega
  | succ fu ih =>
    intro I0_l90 L0_l90 M0_l90 y90_5 y90_6 h_y90_6 k_I0_l90 hm
    rw [fX12_errors_L90.eq_2]
    have l_7 := il_7
    refine wq_le (fun hc_38732 => ?_) (fun hc_38733 => ?_)
    · have b_38734 := i32b x4
      have l_0 := il_0
      refine wq_eq (fun hc_38735 => ?_) (fun hc_38736 => ?_)
      · have b_38737 := i32b y90_5
        exact wq_s ⟨k_I0_l90, trivial⟩
      · have l_1 := il_1
        refine wq_le (fun hc_38738 => ?_) (fun hc_38739 => ?_)
        · have b_38740 := i32b x3
          have l_2 := il_2
          exact tt_fX12_errors_L340 hN x1 x2 x3 x4 g51 _ ⟨by omega, by omega⟩ ⟨by omega, by omega⟩ ⟨by omega, by omega⟩ N I0_l90 L0_l90 M0_l90 (1 : Int32) (2 : Int32) ⟨by omega, by omega⟩ ⟨by omega, by omega⟩ k_I0_l90 (by omega)
        · have l_5 := il_5
          refine wq_le (fun hc_38741 => ?_) (fun hc_38742 => ?_)
          · have l_8 := il_8
            refine wq_le (fun hc_38743 => ?_) (fun hc_38744 => ?_)
            · have t_38745 := ia_sub x4 (7 : Int32) (by omega) (by omega)
              refine wq_in (n := 4) ⟨by omega, by omega⟩ ?_
              exact wq_s ⟨k_I0_l90, trivial⟩
            · have l_4 := il_4
              have t_38746 := ia_sub x4 (4 : Int32) (by omega) (by omega)
              refine wq_in (n := 4) ⟨by omega, by omega⟩ ?_
              exact wq_s ⟨k_I0_l90, trivial⟩
          · have t_38747 := ia_sub x4 (1 : Int32) (by omega) (by omega)
            refine wq_in (n := 4) ⟨by omega, by omega⟩ ?_
            exact wq_s ⟨k_I0_l90, trivial⟩
    · have l_20 := il_20
      have t_38748 := ia_mul (20 : Int32) (20) il_20 x1 (by omega) (by omega)
      have t_38749 := ia_add ((20 : Int32) * x1) x2 (by omega) (by omega)
      refine wq_b (tt_fX12_at hN I0_l90 L0_l90 M0_l90 (((20 : Int32) * x1) + x2) y90_6 ⟨by omega, by omega⟩ ⟨by omega, by omega⟩ k_I0_l90) (fun r4_q38750 h_r4_q38750 => ?_)
      obtain ⟨h_r4_q38750_0, h_r4_q38750_1, h_r4_q38750_2, -⟩ := h_r4_q38750
      have l_m1 := il_m1
      refine wq_eq (fun hc_38751 => ?_) (fun hc_38752 => ?_)
      · have l_1 := il_1
        have t_38754 := ia_add y90_6 (1 : Int32) (by omega) (by omega)
        refine wq_v (fun v5_q38753 h_v5_q38753 => ?_)
        have t_v5_q38753 := congrArg Int32.toInt h_v5_q38753
        have b_38755 := i32b y90_5
        exact ih I0_l90 L0_l90 M0_l90 y90_5 v5_q38753 ⟨by omega, by omega⟩ k_I0_l90 (by omega)
      · have l_0 := il_0
        have b_38756 := i32b x3
        refine wq_b (tt_fX12_placeOn hN I0_l90 L0_l90 M0_l90 (0 : Int32) y90_6 x3 ⟨by omega, by omega⟩ ⟨by omega, by omega⟩ k_I0_l90) (fun r6_q38757 h_r6_q38757 => ?_)
        obtain ⟨-⟩ := h_r6_q38757
        have b_38758 := i32b r6_q38757
        have l_60 := il_60
        have t_38759 := i32b r6_q38757
        have t_38760 := ia_div2 r6_q38757 (60 : Int32) 60 il_60 (by decide)
        refine wq_eq (fun hc_38761 => ?_) (fun hc_38762 => ?_)
        · have l_1 := il_1
          have t_38764 := ia_add y90_6 (1 : Int32) (by omega) (by omega)
          refine wq_v (fun v20_q38763 h_v20_q38763 => ?_)
          have t_v20_q38763 := congrArg Int32.toInt h_v20_q38763
          have b_38765 := i32b y90_5
          exact ih I0_l90 L0_l90 M0_l90 y90_5 v20_q38763 ⟨by omega, by omega⟩ k_I0_l90 (by omega)
        · have b_38767 := i32b y90_5
          have l_1 := il_1
          refine wq_v (fun v7_q38766 h_v7_q38766 => ?_)
          have t_v7_q38766 := congrArg Int32.toInt h_v7_q38766
          have b_38768 := i32b x4
          have b_38769 := i32b v7_q38766
          exact tt_fX12_errors_L145 hN x1 x2 x3 x4 r4_q38750 v7_q38766 y90_6 g51 _ ⟨by omega, by omega⟩ ⟨by omega, by omega⟩ ⟨by omega, by omega⟩ ⟨by omega, by omega⟩ (fun q0 q1 q2 q3 q4 hq0 hq1 hq2 => ih q0 q1 q2 q3 q4 hq0 hq1 (by omega)) N I0_l90 L0_l90 M0_l90 (0 : Int32) (1 : Int32) ⟨by omega, by omega⟩ k_I0_l90 (by omega)
set_option maxHeartbeats 4000000 in
theorem tt_fX12_errors_L51 {N : Nat} (hN : 3000000000 ≤ N) (x1 : Int32) (x2 : Int32) (x3 : Int32) (x4 : Int32) (h_x1 : 0 ≤ x1.toInt ∧ x1.toInt ≤ 5) (h_x2 : 0 ≤ x2.toInt ∧ x2.toInt ≤ 19)  : ∀ (fu : Nat) (I0_l51 : (Nat → Int32)) (L0_l51 : Int64) (M0_l51 : (Nat → Nat → Int32)) (y51_6 : Int32), (1 ≤ y51_6.toInt ∧ y51_6.toInt ≤ 4) → (KX12 I0_l51 M0_l51) → (4 - y51_6.toInt) < (fu : Int) → wq (fX12_errors_L51 N x1 x2 x3 x4 fu I0_l51 L0_l51 M0_l51 y51_6) (fun r => KX12 r.2.1 r.2.2.2 ∧ True) := by
  intro fu
  induction fu with
  | zero => intro I0_l51 L0_l51 M0_l51 y51_6 h_y51_6 k_I0_l51 hm; exfalso; omega
  | succ fu ih =>
    intro I0_l51 L0_l51 M0_l51 y51_6 h_y51_6 k_I0_l51 hm
    rw [fX12_errors_L51.eq_2]
    have l_4 := il_4
    refine wq_le (fun hc_38770 => ?_) (fun hc_38771 => ?_)
    · have b_38772 := i32b x3
      have b_38773 := i32b x4
      have l_0 := il_0
      exact tt_fX12_errors_L90 hN x1 x2 x3 x4 _ ⟨by omega, by omega⟩ ⟨by omega, by omega⟩ N I0_l51 L0_l51 M0_l51 (0 : Int32) (0 : Int32) ⟨by omega, by omega⟩ k_I0_l51 (by omega)
    · refine wq_in (n := 4) ⟨by omega, by omega⟩ ?_
      refine wq_v (fun M0_21_q38774 h_M0_21_q38774 => ?_)
      have k_M0_21_q38774 : KX12 I0_l51 M0_21_q38774 := by rw [h_M0_21_q38774]; exact KX12.sm20 k_I0_l51
      refine wq_in (n := 4) ⟨by omega, by omega⟩ ?_
      refine wq_v (fun M0_22_q38775 h_M0_22_q38775 => ?_)
      have k_M0_22_q38775 : KX12 I0_l51 M0_22_q38775 := by rw [h_M0_22_q38775]; exact KX12.sm21 k_M0_21_q38774
      refine wq_in (n := 4) ⟨by omega, by omega⟩ ?_
      refine wq_v (fun M0_23_q38776 h_M0_23_q38776 => ?_)
      have k_M0_23_q38776 : KX12 I0_l51 M0_23_q38776 := by rw [h_M0_23_q38776]; exact KX12.sm22 k_M0_22_q38775
      have l_1 := il_1
      have t_38778 := ia_add y51_6 (1 : Int32) (by omega) (by omega)
      refine wq_v (fun v24_q38777 h_v24_q38777 => ?_)
      have t_v24_q38777 := congrArg Int32.toInt h_v24_q38777
      exact ih I0_l51 L0_l51 M0_23_q38776 v24_q38777 ⟨by omega, by omega⟩ k_M0_23_q38776 (by omega)
set_option maxHeartbeats 4000000 in
theorem tt_fX12_errors {N : Nat} (hN : 3000000000 ≤ N) (I0 : Nat → Int32) (L0 : Int64) (M0 : Nat → Nat → Int32) (x1 : Int32) (x2 : Int32) (x3 : Int32) (x4 : Int32) (k_I0 : KX12 I0 M0) : wq (fX12_errors N I0 L0 M0 x1 x2 x3 x4) (fun r => KX12 r.2.1 r.2.2.2 ∧ True) := by
  unfold fX12_errors
  have b_38779 := i32b x1
  have b_38780 := i32b x2
  refine wq_b (tt_fX12_isWheel hN I0 L0 M0 x1 x2 k_I0) (fun r25_q38781 h_r25_q38781 => ?_)
  obtain ⟨h_r25_q38781_0, h_r25_q38781_1, h_r25_q38781_2, h_r25_q38781_3, -⟩ := h_r25_q38781
  have t_38782 := KX12.i1 h_r25_q38781_3
  have t_38783 := KX12.i1 k_I0
  have l_0 := il_0
  refine wq_eq (fun hc_38784 => ?_) (fun hc_38785 => ?_)
  · exact wq_s ⟨h_r25_q38781_3, trivial⟩
  · have b_38786 := i32b x3
    have l_1000000 := il_1000000
    refine wq_b (tt_fX12_within hN x3 (0 : Int32) (1000000 : Int32)) (fun r26_q38787 h_r26_q38787 => ?_)
    obtain ⟨h_r26_q38787_0, h_r26_q38787_1, -⟩ := h_r26_q38787
    refine wq_eq (fun hc_38788 => ?_) (fun hc_38789 => ?_)
    · unfold fX12_errors_J35
      unfold fX12_errors_J36
      have l_1 := il_1
      refine wq_b (tt_fX12_right hN r25_q38781.2.1 r25_q38781.2.2.1 r25_q38781.2.2.2 (0 : Int32) (1 : Int32) ⟨by omega, by omega⟩ h_r25_q38781_3) (fun r1_q38790 h_r1_q38790 => ?_)
      obtain ⟨h_r1_q38790_0, h_r1_q38790_1, h_r1_q38790_2, h_r1_q38790_3, -⟩ := h_r1_q38790
      have t_38791 := KX12.i1 h_r1_q38790_3
      refine wq_eq (fun hc_38792 => ?_) (fun hc_38793 => ?_)
      · exact wq_s ⟨h_r1_q38790_3, trivial⟩
      · have b_38794 := i32b x4
        exact tt_fX12_errors_L51 hN x1 x2 x3 x4 ⟨by omega, by omega⟩ ⟨by omega, by omega⟩ N r1_q38790.2.1 r1_q38790.2.2.1 r1_q38790.2.2.2 (1 : Int32) ⟨by omega, by omega⟩ h_r1_q38790_3 (by omega)
    · have b_38795 := i32b x4
      have l_10 := il_10
      refine wq_b (tt_fX12_within hN x4 (0 : Int32) (10 : Int32)) (fun r27_q38796 h_r27_q38796 => ?_)
      obtain ⟨h_r27_q38796_0, h_r27_q38796_1, -⟩ := h_r27_q38796
      refine wq_eq (fun hc_38797 => ?_) (fun hc_38798 => ?_)
      · unfold fX12_errors_J35
        unfold fX12_errors_J36
        have l_1 := il_1
        refine wq_b (tt_fX12_right hN r25_q38781.2.1 r25_q38781.2.2.1 r25_q38781.2.2.2 (0 : Int32) (1 : Int32) ⟨by omega, by omega⟩ h_r25_q38781_3) (fun r1_q38799 h_r1_q38799 => ?_)
        obtain ⟨h_r1_q38799_0, h_r1_q38799_1, h_r1_q38799_2, h_r1_q38799_3, -⟩ := h_r1_q38799
        have t_38800 := KX12.i1 h_r1_q38799_3
        refine wq_eq (fun hc_38801 => ?_) (fun hc_38802 => ?_)
        · exact wq_s ⟨h_r1_q38799_3, trivial⟩
        · exact tt_fX12_errors_L51 hN x1 x2 x3 x4 ⟨by omega, by omega⟩ ⟨by omega, by omega⟩ N r1_q38799.2.1 r1_q38799.2.2.1 r1_q38799.2.2.2 (1 : Int32) ⟨by omega, by omega⟩ h_r1_q38799_3 (by omega)
      · unfold fX12_errors_J36
        have l_1 := il_1
        refine wq_b (tt_fX12_right hN r25_q38781.2.1 r25_q38781.2.2.1 r25_q38781.2.2.2 (1 : Int32) (1 : Int32) ⟨by omega, by omega⟩ h_r25_q38781_3) (fun r1_q38803 h_r1_q38803 => ?_)
        obtain ⟨h_r1_q38803_0, h_r1_q38803_1, h_r1_q38803_2, h_r1_q38803_3, -⟩ := h_r1_q38803
        have t_38804 := KX12.i1 h_r1_q38803_3
        refine wq_eq (fun hc_38805 => ?_) (fun hc_38806 => ?_)
        · exact wq_s ⟨h_r1_q38803_3, trivial⟩
        · exact tt_fX12_errors_L51 hN x1 x2 x3 x4 ⟨by omega, by omega⟩ ⟨by omega, by omega⟩ N r1_q38803.2.1 r1_q38803.2.2.1 r1_q38803.2.2.2 (1 : Int32) ⟨by omega, by omega⟩ h_r1_q38803_3 (by omega)
set_option maxHeartbeats 4000000 in
theorem tt_fX12_climbOf_L5 {N : Nat} (hN : 3000000000 ≤ N) (I0 : Nat → Int32) (L0 : Int64) (M0 : Nat → Nat → Int32) (x1 : Int32) (x2 : Int32) (h_x1 : 0 ≤ x1.toInt ∧ x1.toInt ≤ 6) (h_x2 : -60 ≤ x2.toInt ∧ x2.toInt ≤ 21599) (k_I0 : KX12 I0 M0)  : ∀ (fu : Nat) (y5_3 : Int32) (y5_4 : Int32), (0 ≤ y5_4.toInt ∧ y5_4.toInt ≤ 11) → (11 - y5_4.toInt) < (fu : Int) → wq (fX12_climbOf_L5 N I0 L0 M0 x1 x2 fu y5_3 y5_4) (fun r => True) := by
  intro fu
  induction fu with
  | zero => intro y5_3 y5_4 h_y5_4 hm; exfalso; omega
  | succ fu ih =>
    intro y5_3 y5_4 h_y5_4 hm
    rw [fX12_climbOf_L5.eq_2]
    have l_1800 := il_1800
    have t_38950 := ia_div2 x2 (1800 : Int32) 1800 il_1800 (by decide)
    refine wq_le (fun hc_38951 => ?_) (fun hc_38952 => ?_)
    · have l_12 := il_12
      have t_38953 := ia_mul (12 : Int32) (12) il_12 x1 (by omega) (by omega)
      have t_38954 := ia_add ((12 : Int32) * x1) (x2 / (1800 : Int32)) (by omega) (by omega)
      refine wq_in (n := 84) ⟨by omega, by omega⟩ ?_
      have b_38955 := i32b y5_3
      exact wq_s trivial
    · have l_12 := il_12
      have t_38956 := ia_mul (12 : Int32) (12) il_12 x1 (by omega) (by omega)
      have t_38957 := ia_add ((12 : Int32) * x1) y5_4 (by omega) (by omega)
      refine wq_in (n := 84) ⟨by omega, by omega⟩ ?_
      have b_38959 := i32b y5_3
      refine wq_v (fun v1_q38958 h_v1_q38958 => ?_)
      have t_v1_q38958 := congrArg Int32.toInt h_v1_q38958
      have l_1 := il_1
      have t_38961 := ia_add y5_4 (1 : Int32) (by omega) (by omega)
      refine wq_v (fun v2_q38960 h_v2_q38960 => ?_)
      have t_v2_q38960 := congrArg Int32.toInt h_v2_q38960
      have b_38962 := i32b v1_q38958
      exact ih v1_q38958 v2_q38960 ⟨by omega, by omega⟩ (by omega)
set_option maxHeartbeats 4000000 in
theorem tt_fX12_climbOf {N : Nat} (hN : 3000000000 ≤ N) (I0 : Nat → Int32) (L0 : Int64) (M0 : Nat → Nat → Int32) (x1 : Int32) (x2 : Int32) (h_x1 : 0 ≤ x1.toInt ∧ x1.toInt ≤ 6) (h_x2 : -60 ≤ x2.toInt ∧ x2.toInt ≤ 21599) (k_I0 : KX12 I0 M0) : wq (fX12_climbOf N I0 L0 M0 x1 x2) (fun r => True) := by
  unfold fX12_climbOf
  have l_0 := il_0
  exact tt_fX12_climbOf_L5 hN I0 L0 M0 x1 x2 ⟨by omega, by omega⟩ ⟨by omega, by omega⟩ k_I0 N (0 : Int32) (0 : Int32) ⟨by omega, by omega⟩ (by omega)
theorem sm_nn (f : Nat → Int32) (a : Nat) (n : Nat) (h : ∀ z : Nat, z < n → 1 ≤ (f (a + z)).toInt) : ∀ m : Nat, m ≤ n → (m : Int) ≤ sm f a m ∧ sm f a m + ((n - m : Nat) : Int) ≤ sm f a n := by
  intro m hm
  constructor
  · induction m with
    | zero => simp [sm]
    | succ m ih => have := ih (by omega); have := h m (by omega); simp only [sm]; omega
  · have key : ∀ d : Nat, m + d ≤ n → sm f a m + (d : Int) ≤ sm f a (m + d) := by
      intro d
      induction d with
      | zero => intro _; simp
      | succ d ih => intro hd; have := ih (by omega); have := h (m + d) (by omega); show _ ≤ sm f a (m + d) + (f (a + (m + d))).toInt; omega
    have := key (n - m) (by omega)
    have e : m + (n - m) = n := by omega
    rw [e] at this
    exact this
theorem tt_fX12_placeOf_L5 {N : Nat} (I0 : Nat → Int32) (L0 : Int64) (M0 : Nat → Nat → Int32) (x1 x2 : Int32) (c : Nat) (hc : c ≤ 6) (hx : x1 = nI c) (hv : RV (M0 4) c) : ∀ (fu : Nat) (s : Nat) (left : Int32), s ≤ 11 → left.toInt + 1800 * sm (M0 4) (12 * c) s < 6480000 → 12 - s < fu → wq (fX12_placeOf_L5 N I0 L0 M0 x1 x2 fu left (nI s)) (fun r => True) := by
  intro fu
  induction fu with
  | zero => intro s left h1 h2 h3; omega
  | succ fu ih =>
    intro s left h1 h2 h3
    subst hx
    have e12 : (12 : Int32) * nI c + nI s = nI (12 * c + s) := by rw [show (12 : Int32) = nI 12 from rfl, pk_mul, nI_add]
    have hr := hv.1 s (by omega)
    have l18 : (1800 : Int32).toInt = 1800 := by decide
    rw [fX12_placeOf_L5.eq_2, e12]
    have hin : ¬ (nI (12 * c + s) < 0 ∨ 84 ≤ (nI (12 * c + s)).toNatClampNeg) := wp_in (by omega) (by decide)
    rw [if_neg hin, nI_clamp (by omega)]
    rw [nI_clamp (by omega)] at hin
    have tm := ia_mul (1800 : Int32) 1800 l18 (M0 4 (12 * c + s)) (by omega) (by omega)
    refine wq_lt (fun hq => ?_) (fun hq => ?_)
    · rw [if_neg hin]
      exact wq_nz (by omega) (wq_s trivial)
    · rw [if_neg hin]
      have hs := sm_nn (M0 4) (12 * c) 12 (fun z hz => (hv.1 z hz).1)
      have ts := ia_sub left ((1800 : Int32) * M0 4 (12 * c + s)) (by omega) (by have := Int32.toInt_lt left; omega)
      refine wq_v (fun v ev => ?_)
      have tv := congrArg Int32.toInt ev
      refine wq_v (fun w ew => ?_)
      rw [ew, nI_1]
      have es : sm (M0 4) (12 * c) (s + 1) = sm (M0 4) (12 * c) s + (M0 4 (12 * c + s)).toInt := rfl
      have hsum := hv.2
      refine ih (s + 1) v ?_ (by omega) (by omega)
      rcases Nat.lt_or_ge s 11 with q | q
      · omega
      · exfalso
        have e11 : s = 11 := by omega
        subst e11
        have e2 : sm (M0 4) (12 * c) 12 = sm (M0 4) (12 * c) 11 + (M0 4 (12 * c + 11)).toInt := rfl
        omega
theorem tt_fX12_placeOf {N : Nat} (hN : 3000000000 ≤ N) (I0 : Nat → Int32) (L0 : Int64) (M0 : Nat → Nat → Int32) (x1 : Int32) (x2 : Int32) (h_x1 : 0 ≤ x1.toInt ∧ x1.toInt ≤ 6) (k_I0 : KX12 I0 M0) (hr_2 : x1.toInt < (I0 1).toInt) (hr_3 : x2.toInt < 6480000) : wq (fX12_placeOf N I0 L0 M0 x1 x2) (fun r => True) := by
  unfold fX12_placeOf
  have h0 : 0 ≤ x1.toInt := h_x1.1
  have ex : x1 = nI x1.toInt.toNat := by
    apply Int32.toInt_inj.mp
    rw [nI_toInt (by omega)]
    omega
  have hv := k_I0.er1 x1.toInt.toNat (by omega)
  exact tt_fX12_placeOf_L5 I0 L0 M0 x1 x2 x1.toInt.toNat (by omega) ex hv N 0 x2 (by omega) (by simp only [sm]; omega) (by omega)
set_option maxHeartbeats 4000000 in
theorem tt_fX12_isClimate {N : Nat} (hN : 3000000000 ≤ N) (I0 : Nat → Int32) (L0 : Int64) (M0 : Nat → Nat → Int32) (x1 : Int32) (x2 : Int32) (k_I0 : KX12 I0 M0) : wq (fX12_isClimate N I0 L0 M0 x1 x2) (fun r => (r.1.toInt = 0 ∨ (r.1.toInt = 1 ∧ 0 ≤ x1.toInt ∧ x1.toInt ≤ 6 ∧ x1.toInt < (r.2.1 1).toInt ∧ 0 ≤ x2.toInt ∧ x2.toInt ≤ 21599)) ∧ (r.2.1 1).toInt = (I0 1).toInt ∧ (0 ≤ r.1.toInt ∧ r.1.toInt ≤ 1) ∧ KX12 r.2.1 r.2.2.2 ∧ True) := by
  unfold fX12_isClimate
  have b_39077 := i32b x1
  have l_0 := il_0
  refine wq_lt (fun hc_39078 => ?_) (fun hc_39079 => ?_)
  · have l_1 := il_1
    refine wq_b (tt_fX12_right hN I0 L0 M0 (0 : Int32) (1 : Int32) ⟨by omega, by omega⟩ k_I0) (fun r1_q39080 h_r1_q39080 => ?_)
    obtain ⟨h_r1_q39080_0, h_r1_q39080_1, h_r1_q39080_2, h_r1_q39080_3, -⟩ := h_r1_q39080
    have t_39081 := KX12.i1 h_r1_q39080_3
    have t_39082 := KX12.i1 k_I0
    refine wq_bz (by omega) ?_
    have b_39083 := i32b x2
    exact wq_s ⟨(show (r1_q39080.1.toInt = 0 ∨ (r1_q39080.1.toInt = 1 ∧ 0 ≤ x1.toInt ∧ x1.toInt ≤ 6 ∧ x1.toInt < (r1_q39080.2.1 1).toInt ∧ 0 ≤ x2.toInt ∧ x2.toInt ≤ 21599)) from by omega), (show (r1_q39080.2.1 1).toInt = (I0 1).toInt from by omega), (show 0 ≤ r1_q39080.1.toInt ∧ r1_q39080.1.toInt ≤ 1 from ⟨by omega, by omega⟩), h_r1_q39080_3, trivial⟩
  · have t_39084 := KX12.i1 k_I0
    refine wq_le (fun hc_39085 => ?_) (fun hc_39086 => ?_)
    · have l_1 := il_1
      refine wq_b (tt_fX12_right hN I0 L0 M0 (0 : Int32) (1 : Int32) ⟨by omega, by omega⟩ k_I0) (fun r2_q39087 h_r2_q39087 => ?_)
      obtain ⟨h_r2_q39087_0, h_r2_q39087_1, h_r2_q39087_2, h_r2_q39087_3, -⟩ := h_r2_q39087
      have t_39088 := KX12.i1 h_r2_q39087_3
      refine wq_bz (by omega) ?_
      have b_39089 := i32b x2
      exact wq_s ⟨(show (r2_q39087.1.toInt = 0 ∨ (r2_q39087.1.toInt = 1 ∧ 0 ≤ x1.toInt ∧ x1.toInt ≤ 6 ∧ x1.toInt < (r2_q39087.2.1 1).toInt ∧ 0 ≤ x2.toInt ∧ x2.toInt ≤ 21599)) from by omega), (show (r2_q39087.2.1 1).toInt = (I0 1).toInt from by omega), (show 0 ≤ r2_q39087.1.toInt ∧ r2_q39087.1.toInt ≤ 1 from ⟨by omega, by omega⟩), h_r2_q39087_3, trivial⟩
    · have b_39090 := i32b x2
      have l_21599 := il_21599
      refine wq_b (tt_fX12_within hN x2 (0 : Int32) (21599 : Int32)) (fun r3_q39091 h_r3_q39091 => ?_)
      obtain ⟨h_r3_q39091_0, h_r3_q39091_1, -⟩ := h_r3_q39091
      refine wq_eq (fun hc_39092 => ?_) (fun hc_39093 => ?_)
      · have l_1 := il_1
        refine wq_b (tt_fX12_right hN I0 L0 M0 (0 : Int32) (1 : Int32) ⟨by omega, by omega⟩ k_I0) (fun r4_q39094 h_r4_q39094 => ?_)
        obtain ⟨h_r4_q39094_0, h_r4_q39094_1, h_r4_q39094_2, h_r4_q39094_3, -⟩ := h_r4_q39094
        have t_39095 := KX12.i1 h_r4_q39094_3
        refine wq_bz (by omega) ?_
        exact wq_s ⟨(show (r4_q39094.1.toInt = 0 ∨ (r4_q39094.1.toInt = 1 ∧ 0 ≤ x1.toInt ∧ x1.toInt ≤ 6 ∧ x1.toInt < (r4_q39094.2.1 1).toInt ∧ 0 ≤ x2.toInt ∧ x2.toInt ≤ 21599)) from by omega), (show (r4_q39094.2.1 1).toInt = (I0 1).toInt from by omega), (show 0 ≤ r4_q39094.1.toInt ∧ r4_q39094.1.toInt ≤ 1 from ⟨by omega, by omega⟩), h_r4_q39094_3, trivial⟩
      · have l_1 := il_1
        refine wq_b (tt_fX12_right hN I0 L0 M0 (1 : Int32) (1 : Int32) ⟨by omega, by omega⟩ k_I0) (fun r5_q39096 h_r5_q39096 => ?_)
        obtain ⟨h_r5_q39096_0, h_r5_q39096_1, h_r5_q39096_2, h_r5_q39096_3, -⟩ := h_r5_q39096
        have t_39097 := KX12.i1 h_r5_q39096_3
        refine wq_bz (by omega) ?_
        exact wq_s ⟨(show (r5_q39096.1.toInt = 0 ∨ (r5_q39096.1.toInt = 1 ∧ 0 ≤ x1.toInt ∧ x1.toInt ≤ 6 ∧ x1.toInt < (r5_q39096.2.1 1).toInt ∧ 0 ≤ x2.toInt ∧ x2.toInt ≤ 21599)) from by omega), (show (r5_q39096.2.1 1).toInt = (I0 1).toInt from by omega), (show 0 ≤ r5_q39096.1.toInt ∧ r5_q39096.1.toInt ≤ 1 from ⟨by omega, by omega⟩), h_r5_q39096_3, trivial⟩
set_option maxHeartbeats 4000000 in
theorem tt_fX12_climb {N : Nat} (hN : 3000000000 ≤ N) (I0 : Nat → Int32) (L0 : Int64) (M0 : Nat → Nat → Int32) (x1 : Int32) (x2 : Int32) (k_I0 : KX12 I0 M0) : wq (fX12_climb N I0 L0 M0 x1 x2) (fun r => KX12 r.2.1 r.2.2.2 ∧ True) := by
  unfold fX12_climb
  refine wq_v (fun I0_1_q39164 h_I0_1_q39164 => ?_)
  have k_I0_1_q39164 : KX12 I0_1_q39164 M0 := by rw [h_I0_1_q39164]; exact KX12.si0 k_I0
  have b_39165 := i32b x1
  have b_39166 := i32b x2
  refine wq_b (tt_fX12_isClimate hN I0_1_q39164 L0 M0 x1 x2 k_I0_1_q39164) (fun r2_q39167 h_r2_q39167 => ?_)
  obtain ⟨h_r2_q39167_0, h_r2_q39167_1, h_r2_q39167_2, h_r2_q39167_3, -⟩ := h_r2_q39167
  have t_39168 := KX12.i1 h_r2_q39167_3
  have t_39169 := KX12.i1 k_I0
  have t_39170 : (I0_1_q39164 1).toInt = (I0 1).toInt := by rw [h_I0_1_q39164]; rfl
  have l_0 := il_0
  refine wq_eq (fun hc_39171 => ?_) (fun hc_39172 => ?_)
  · exact wq_s ⟨h_r2_q39167_3, trivial⟩
  · refine wq_b (tt_fX12_climbOf hN r2_q39167.2.1 r2_q39167.2.2.1 r2_q39167.2.2.2 x1 x2 ⟨by omega, by omega⟩ ⟨by omega, by omega⟩ h_r2_q39167_3) (fun r3_q39173 h_r3_q39173 => ?_)
    obtain ⟨-⟩ := h_r3_q39173
    have b_39174 := i32b r3_q39173
    exact wq_s ⟨h_r2_q39167_3, trivial⟩
set_option maxHeartbeats 4000000 in
theorem tt_fX12_riseOf {N : Nat} (hN : 3000000000 ≤ N) (I0 : Nat → Int32) (L0 : Int64) (M0 : Nat → Nat → Int32) (x1 : Int32) (x2 : Int32) (x3 : Int32) (h_x1 : 0 ≤ x1.toInt ∧ x1.toInt ≤ 6) (h_x2 : -60 ≤ x2.toInt ∧ x2.toInt ≤ 21599) (h_x3 : 0 ≤ x3.toInt ∧ x3.toInt ≤ 359) (k_I0 : KX12 I0 M0) (hr_4 : x1.toInt < (I0 1).toInt) : wq (fX12_riseOf N I0 L0 M0 x1 x2 x3) (fun r => True) := by
  unfold fX12_riseOf
  refine wq_b (tt_fX12_climbOf hN I0 L0 M0 x1 x2 ⟨by omega, by omega⟩ ⟨by omega, by omega⟩ k_I0) (fun r1_q39211 h_r1_q39211 => ?_)
  obtain ⟨-⟩ := h_r1_q39211
  have b_39212 := i32b r1_q39211
  have l_18000 := il_18000
  have t_39213 := ia_mul (18000 : Int32) (18000) il_18000 x3 (by omega) (by omega)
  have l_6480000 := il_6480000
  have t_39214 := ia_rem2 (r1_q39211 + ((18000 : Int32) * x3)) (6480000 : Int32) 6480000 il_6480000 (by decide)
  have t_39215 := KX12.i1 k_I0
  refine wq_b (tt_fX12_placeOf hN I0 L0 M0 x1 ((r1_q39211 + ((18000 : Int32) * x3)) - (((r1_q39211 + ((18000 : Int32) * x3)) / (6480000 : Int32)) * (6480000 : Int32))) ⟨by omega, by omega⟩ k_I0 (by omega) (by omega)) (fun r2_q39216 h_r2_q39216 => ?_)
  obtain ⟨-⟩ := h_r2_q39216
  have b_39217 := i32b r2_q39216
  exact wq_s trivial
set_option maxHeartbeats 4000000 in
theorem tt_fX12_rise {N : Nat} (hN : 3000000000 ≤ N) (I0 : Nat → Int32) (L0 : Int64) (M0 : Nat → Nat → Int32) (x1 : Int32) (x2 : Int32) (x3 : Int32) (k_I0 : KX12 I0 M0) : wq (fX12_rise N I0 L0 M0 x1 x2 x3) (fun r => KX12 r.2.1 r.2.2.2 ∧ True) := by
  unfold fX12_rise
  refine wq_v (fun I0_1_q39320 h_I0_1_q39320 => ?_)
  have k_I0_1_q39320 : KX12 I0_1_q39320 M0 := by rw [h_I0_1_q39320]; exact KX12.si0 k_I0
  have b_39321 := i32b x1
  have b_39322 := i32b x2
  refine wq_b (tt_fX12_isClimate hN I0_1_q39320 L0 M0 x1 x2 k_I0_1_q39320) (fun r2_q39323 h_r2_q39323 => ?_)
  obtain ⟨h_r2_q39323_0, h_r2_q39323_1, h_r2_q39323_2, h_r2_q39323_3, -⟩ := h_r2_q39323
  have t_39324 := KX12.i1 h_r2_q39323_3
  have t_39325 := KX12.i1 k_I0
  have t_39326 : (I0_1_q39320 1).toInt = (I0 1).toInt := by rw [h_I0_1_q39320]; rfl
  have l_0 := il_0
  refine wq_eq (fun hc_39327 => ?_) (fun hc_39328 => ?_)
  · exact wq_s ⟨h_r2_q39323_3, trivial⟩
  · have b_39329 := i32b x3
    have l_359 := il_359
    refine wq_b (tt_fX12_within hN x3 (0 : Int32) (359 : Int32)) (fun r3_q39330 h_r3_q39330 => ?_)
    obtain ⟨h_r3_q39330_0, h_r3_q39330_1, -⟩ := h_r3_q39330
    have l_1 := il_1
    refine wq_b (tt_fX12_right hN r2_q39323.2.1 r2_q39323.2.2.1 r2_q39323.2.2.2 r3_q39330 (1 : Int32) ⟨by omega, by omega⟩ h_r2_q39323_3) (fun r4_q39331 h_r4_q39331 => ?_)
    obtain ⟨h_r4_q39331_0, h_r4_q39331_1, h_r4_q39331_2, h_r4_q39331_3, -⟩ := h_r4_q39331
    have t_39332 := KX12.i1 h_r4_q39331_3
    refine wq_eq (fun hc_39333 => ?_) (fun hc_39334 => ?_)
    · exact wq_s ⟨h_r4_q39331_3, trivial⟩
    · refine wq_b (tt_fX12_riseOf hN r4_q39331.2.1 r4_q39331.2.2.1 r4_q39331.2.2.2 x1 x2 x3 ⟨by omega, by omega⟩ ⟨by omega, by omega⟩ ⟨by omega, by omega⟩ h_r4_q39331_3 (by omega)) (fun r5_q39335 h_r5_q39335 => ?_)
      obtain ⟨-⟩ := h_r5_q39335
      have b_39336 := i32b r5_q39335
      exact wq_s ⟨h_r4_q39331_3, trivial⟩
set_option maxHeartbeats 4000000 in
theorem tt_fX12_middleOf {N : Nat} (hN : 3000000000 ≤ N) (I0 : Nat → Int32) (L0 : Int64) (M0 : Nat → Nat → Int32) (x1 : Int32) (x2 : Int32) (h_x1 : 0 ≤ x1.toInt ∧ x1.toInt ≤ 6) (h_x2 : -60 ≤ x2.toInt ∧ x2.toInt ≤ 21599) (k_I0 : KX12 I0 M0) (hr_3 : x1.toInt < (I0 1).toInt) : wq (fX12_middleOf N I0 L0 M0 x1 x2) (fun r => True) := by
  unfold fX12_middleOf
  refine wq_b (tt_fX12_climbOf hN I0 L0 M0 x1 x2 ⟨by omega, by omega⟩ ⟨by omega, by omega⟩ k_I0) (fun r1_q39367 h_r1_q39367 => ?_)
  obtain ⟨-⟩ := h_r1_q39367
  have l_0 := il_0
  have b_39368 := i32b r1_q39367
  have l_6480000 := il_6480000
  have l_1620000 := il_1620000
  have t_39369 := ia_rem2 ((r1_q39367 + (6480000 : Int32)) - (1620000 : Int32)) (6480000 : Int32) 6480000 il_6480000 (by decide)
  have t_39370 := KX12.i1 k_I0
  refine wq_b (tt_fX12_placeOf hN I0 L0 M0 (0 : Int32) (((r1_q39367 + (6480000 : Int32)) - (1620000 : Int32)) - ((((r1_q39367 + (6480000 : Int32)) - (1620000 : Int32)) / (6480000 : Int32)) * (6480000 : Int32))) ⟨by omega, by omega⟩ k_I0 (by omega) (by omega)) (fun r2_q39371 h_r2_q39371 => ?_)
  obtain ⟨-⟩ := h_r2_q39371
  have b_39372 := i32b r2_q39371
  exact wq_s trivial
set_option maxHeartbeats 4000000 in
theorem tt_fX12_middle {N : Nat} (hN : 3000000000 ≤ N) (I0 : Nat → Int32) (L0 : Int64) (M0 : Nat → Nat → Int32) (x1 : Int32) (x2 : Int32) (k_I0 : KX12 I0 M0) : wq (fX12_middle N I0 L0 M0 x1 x2) (fun r => KX12 r.2.1 r.2.2.2 ∧ True) := by
  unfold fX12_middle
  refine wq_v (fun I0_1_q39439 h_I0_1_q39439 => ?_)
  have k_I0_1_q39439 : KX12 I0_1_q39439 M0 := by rw [h_I0_1_q39439]; exact KX12.si0 k_I0
  have b_39440 := i32b x1
  have b_39441 := i32b x2
  refine wq_b (tt_fX12_isClimate hN I0_1_q39439 L0 M0 x1 x2 k_I0_1_q39439) (fun r2_q39442 h_r2_q39442 => ?_)
  obtain ⟨h_r2_q39442_0, h_r2_q39442_1, h_r2_q39442_2, h_r2_q39442_3, -⟩ := h_r2_q39442
  have t_39443 := KX12.i1 h_r2_q39442_3
  have t_39444 := KX12.i1 k_I0
  have t_39445 : (I0_1_q39439 1).toInt = (I0 1).toInt := by rw [h_I0_1_q39439]; rfl
  have l_0 := il_0
  refine wq_eq (fun hc_39446 => ?_) (fun hc_39447 => ?_)
  · exact wq_s ⟨h_r2_q39442_3, trivial⟩
  · refine wq_b (tt_fX12_middleOf hN r2_q39442.2.1 r2_q39442.2.2.1 r2_q39442.2.2.2 x1 x2 ⟨by omega, by omega⟩ ⟨by omega, by omega⟩ h_r2_q39442_3 (by omega)) (fun r3_q39448 h_r3_q39448 => ?_)
    obtain ⟨-⟩ := h_r3_q39448
    have b_39449 := i32b r3_q39448
    exact wq_s ⟨h_r2_q39442_3, trivial⟩
set_option maxHeartbeats 4000000 in
theorem tt_fX12_isHour {N : Nat} (hN : 3000000000 ≤ N) (I0 : Nat → Int32) (L0 : Int64) (M0 : Nat → Nat → Int32) (x1 : Int32) (x2 : Int32) (x3 : Int32) (h_x1 : 0 ≤ x1.toInt ∧ x1.toInt ≤ 119) (h_x2 : 0 ≤ x2.toInt ∧ x2.toInt ≤ 6) (h_x3 : 0 ≤ x3.toInt ∧ x3.toInt ≤ 359) (k_I0 : KX12 I0 M0) (hr_4 : x2.toInt < (I0 1).toInt) : wq (fX12_isHour N I0 L0 M0 x1 x2 x3) (fun r => (0 ≤ r.toInt ∧ r.toInt ≤ 1) ∧ True) := by
  unfold fX12_isHour
  have l_0 := il_0
  refine wq_b (tt_fX12_at hN I0 L0 M0 x1 (0 : Int32) ⟨by omega, by omega⟩ ⟨by omega, by omega⟩ k_I0) (fun r1_q39504 h_r1_q39504 => ?_)
  obtain ⟨h_r1_q39504_0, h_r1_q39504_1, h_r1_q39504_2, -⟩ := h_r1_q39504
  have l_60 := il_60
  have t_39505 := ia_mul (60 : Int32) (60) il_60 r1_q39504 (by omega) (by omega)
  have t_39506 := KX12.i1 k_I0
  refine wq_b (tt_fX12_riseOf hN I0 L0 M0 x2 ((60 : Int32) * r1_q39504) x3 ⟨by omega, by omega⟩ ⟨by omega, by omega⟩ ⟨by omega, by omega⟩ k_I0 (by omega)) (fun r2_q39507 h_r2_q39507 => ?_)
  obtain ⟨-⟩ := h_r2_q39507
  have l_7 := il_7
  refine wq_b (tt_fX12_at hN I0 L0 M0 x1 (7 : Int32) ⟨by omega, by omega⟩ ⟨by omega, by omega⟩ k_I0) (fun r3_q39508 h_r3_q39508 => ?_)
  obtain ⟨h_r3_q39508_0, h_r3_q39508_1, h_r3_q39508_2, -⟩ := h_r3_q39508
  have b_39509 := i32b r2_q39507
  have t_39510 := i32b r2_q39507
  have t_39511 := ia_div2 r2_q39507 (60 : Int32) 60 il_60 (by decide)
  refine wq_eq (fun hc_39512 => ?_) (fun hc_39513 => ?_)
  · have l_1 := il_1
    exact wq_s ⟨(show 0 ≤ (1 : Int32).toInt ∧ (1 : Int32).toInt ≤ 1 from ⟨by omega, by omega⟩), trivial⟩
  · exact wq_s ⟨(show 0 ≤ (0 : Int32).toInt ∧ (0 : Int32).toInt ≤ 1 from ⟨by omega, by omega⟩), trivial⟩
set_option maxHeartbeats 4000000 in
theorem tt_fX12_hour_L67 {N : Nat} (hN : 3000000000 ≤ N) (x1 : Int32) (x2 : Int32) (x3 : Int32) (y61_4 : Int32) (y61_5 : Int32) (h_x1 : 0 ≤ x1.toInt ∧ x1.toInt ≤ 5) (h_x2 : 0 ≤ x2.toInt ∧ x2.toInt ≤ 19) (h_y61_4 : 0 ≤ y61_4.toInt ∧ y61_4.toInt ≤ 119) (h_y61_5 : 0 ≤ y61_5.toInt ∧ y61_5.toInt ≤ 1)  : ∀ (fu : Nat) (I0_l67 : (Nat → Int32)) (L0_l67 : Int64) (M0_l67 : (Nat → Nat → Int32)) (y67_6 : Int32) (y67_7 : Int32), (0 ≤ y67_7.toInt ∧ y67_7.toInt ≤ 2520) → (KX12 I0_l67 M0_l67) → (2520 - y67_7.toInt) < (fu : Int) → wq (fX12_hour_L67 N x1 x2 x3 y61_4 y61_5 fu I0_l67 L0_l67 M0_l67 y67_6 y67_7) (fun r => KX12 r.2.1 r.2.2.2 ∧ True) := by
  intro fu
  induction fu with
  | zero => intro I0_l67 L0_l67 M0_l67 y67_6 y67_7 h_y67_7 k_I0_l67 hm; exfalso; omega
  | succ fu ih =>
    intro I0_l67 L0_l67 M0_l67 y67_6 y67_7 h_y67_7 k_I0_l67 hm
    rw [fX12_hour_L67.eq_2]
    have t_41051 := KX12.i1 k_I0_l67
    have l_360 := il_360
    have t_41052 := ia_mul (360 : Int32) (360) il_360 (I0_l67 1) (by omega) (by omega)
    refine wq_le (fun hc_41053 => ?_) (fun hc_41054 => ?_)
    · unfold fX12_hour_J127
      have b_41055 := i32b x3
      have l_m1 := il_m1
      refine wq_eq (fun hc_41056 => ?_) (fun hc_41057 => ?_)
      · have l_1 := il_1
        refine wq_b (tt_fX12_right hN I0_l67 L0_l67 M0_l67 (1 : Int32) (1 : Int32) ⟨by omega, by omega⟩ k_I0_l67) (fun r2_q41058 h_r2_q41058 => ?_)
        obtain ⟨h_r2_q41058_0, h_r2_q41058_1, h_r2_q41058_2, h_r2_q41058_3, -⟩ := h_r2_q41058
        have t_41059 := KX12.i1 h_r2_q41058_3
        have l_0 := il_0
        refine wq_eq (fun hc_41060 => ?_) (fun hc_41061 => ?_)
        · exact wq_s ⟨h_r2_q41058_3, trivial⟩
        · have b_41062 := i32b y67_6
          exact wq_s ⟨h_r2_q41058_3, trivial⟩
      · have l_0 := il_0
        have l_1 := il_1
        refine wq_b (tt_fX12_right hN I0_l67 L0_l67 M0_l67 (0 : Int32) (1 : Int32) ⟨by omega, by omega⟩ k_I0_l67) (fun r1_q41063 h_r1_q41063 => ?_)
        obtain ⟨h_r1_q41063_0, h_r1_q41063_1, h_r1_q41063_2, h_r1_q41063_3, -⟩ := h_r1_q41063
        have t_41064 := KX12.i1 h_r1_q41063_3
        refine wq_eq (fun hc_41065 => ?_) (fun hc_41066 => ?_)
        · exact wq_s ⟨h_r1_q41063_3, trivial⟩
        · have b_41067 := i32b y67_6
          exact wq_s ⟨h_r1_q41063_3, trivial⟩
    · have l_0 := il_0
      refine wq_eq (fun hc_41068 => ?_) (fun hc_41069 => ?_)
      · unfold fX12_hour_J127
        have b_41070 := i32b x3
        have l_m1 := il_m1
        refine wq_eq (fun hc_41071 => ?_) (fun hc_41072 => ?_)
        · have l_1 := il_1
          refine wq_b (tt_fX12_right hN I0_l67 L0_l67 M0_l67 (1 : Int32) (1 : Int32) ⟨by omega, by omega⟩ k_I0_l67) (fun r2_q41073 h_r2_q41073 => ?_)
          obtain ⟨h_r2_q41073_0, h_r2_q41073_1, h_r2_q41073_2, h_r2_q41073_3, -⟩ := h_r2_q41073
          have t_41074 := KX12.i1 h_r2_q41073_3
          refine wq_eq (fun hc_41075 => ?_) (fun hc_41076 => ?_)
          · exact wq_s ⟨h_r2_q41073_3, trivial⟩
          · have b_41077 := i32b y67_6
            exact wq_s ⟨h_r2_q41073_3, trivial⟩
        · have l_1 := il_1
          refine wq_b (tt_fX12_right hN I0_l67 L0_l67 M0_l67 (0 : Int32) (1 : Int32) ⟨by omega, by omega⟩ k_I0_l67) (fun r1_q41078 h_r1_q41078 => ?_)
          obtain ⟨h_r1_q41078_0, h_r1_q41078_1, h_r1_q41078_2, h_r1_q41078_3, -⟩ := h_r1_q41078
          have t_41079 := KX12.i1 h_r1_q41078_3
          refine wq_eq (fun hc_41080 => ?_) (fun hc_41081 => ?_)
          · exact wq_s ⟨h_r1_q41078_3, trivial⟩
          · have b_41082 := i32b y67_6
            exact wq_s ⟨h_r1_q41078_3, trivial⟩
      · have t_41083 := ia_div y67_7 (360 : Int32) 360 il_360 (by decide) (by omega)
        have t_41084 := ia_rem y67_7 (360 : Int32) 360 il_360 (by decide) (by omega)
        refine wq_b (tt_fX12_isHour hN I0_l67 L0_l67 M0_l67 y61_4 (y67_7 / (360 : Int32)) (y67_7 - ((y67_7 / (360 : Int32)) * (360 : Int32))) ⟨by omega, by omega⟩ ⟨by omega, by omega⟩ ⟨by omega, by omega⟩ k_I0_l67 (by omega)) (fun r3_q41085 h_r3_q41085 => ?_)
        obtain ⟨h_r3_q41085_0, -⟩ := h_r3_q41085
        refine wq_eq (fun hc_41086 => ?_) (fun hc_41087 => ?_)
        · have l_1 := il_1
          have t_41089 := ia_add y67_7 (1 : Int32) (by omega) (by omega)
          refine wq_v (fun v6_q41088 h_v6_q41088 => ?_)
          have t_v6_q41088 := congrArg Int32.toInt h_v6_q41088
          have b_41090 := i32b y67_6
          exact ih I0_l67 L0_l67 M0_l67 y67_6 v6_q41088 ⟨by omega, by omega⟩ k_I0_l67 (by omega)
        · have b_41091 := i32b y67_6
          have b_41092 := i32b x3
          refine wq_eq (fun hc_41093 => ?_) (fun hc_41094 => ?_)
          · exact wq_s ⟨k_I0_l67, trivial⟩
          · have l_1 := il_1
            refine wq_v (fun v4_q41095 h_v4_q41095 => ?_)
            have t_v4_q41095 := congrArg Int32.toInt h_v4_q41095
            have t_41097 := ia_add y67_7 (1 : Int32) (by omega) (by omega)
            refine wq_v (fun v5_q41096 h_v5_q41096 => ?_)
            have t_v5_q41096 := congrArg Int32.toInt h_v5_q41096
            have b_41098 := i32b v4_q41095
            exact ih I0_l67 L0_l67 M0_l67 v4_q41095 v5_q41096 ⟨by omega, by omega⟩ k_I0_l67 (by omega)
set_option maxHeartbeats 4000000 in
theorem tt_fX12_hour {N : Nat} (hN : 3000000000 ≤ N) (I0 : Nat → Int32) (L0 : Int64) (M0 : Nat → Nat → Int32) (x1 : Int32) (x2 : Int32) (x3 : Int32) (k_I0 : KX12 I0 M0) : wq (fX12_hour N I0 L0 M0 x1 x2 x3) (fun r => KX12 r.2.1 r.2.2.2 ∧ True) := by
  unfold fX12_hour
  have b_41099 := i32b x1
  have b_41100 := i32b x2
  refine wq_b (tt_fX12_isWheel hN I0 L0 M0 x1 x2 k_I0) (fun r7_q41101 h_r7_q41101 => ?_)
  obtain ⟨h_r7_q41101_0, h_r7_q41101_1, h_r7_q41101_2, h_r7_q41101_3, -⟩ := h_r7_q41101
  have t_41102 := KX12.i1 h_r7_q41101_3
  have t_41103 := KX12.i1 k_I0
  have l_0 := il_0
  refine wq_eq (fun hc_41104 => ?_) (fun hc_41105 => ?_)
  · exact wq_s ⟨h_r7_q41101_3, trivial⟩
  · have l_20 := il_20
    have t_41107 := ia_mul (20 : Int32) (20) il_20 x1 (by omega) (by omega)
    have t_41108 := ia_add ((20 : Int32) * x1) x2 (by omega) (by omega)
    refine wq_v (fun v8_q41106 h_v8_q41106 => ?_)
    have t_v8_q41106 := congrArg Int32.toInt h_v8_q41106
    refine wq_b (tt_fX12_at hN r7_q41101.2.1 r7_q41101.2.2.1 r7_q41101.2.2.2 v8_q41106 (0 : Int32) ⟨by omega, by omega⟩ ⟨by omega, by omega⟩ h_r7_q41101_3) (fun r9b_q41109 h_r9b_q41109 => ?_)
    obtain ⟨h_r9b_q41109_0, h_r9b_q41109_1, h_r9b_q41109_2, -⟩ := h_r9b_q41109
    have l_m1 := il_m1
    refine wq_eq (fun hc_41110 => ?_) (fun hc_41111 => ?_)
    · unfold fX12_hour_J46
      unfold fX12_hour_J47
      refine wq_eq (fun hc_41112 => ?_) (fun hc_41113 => ?_)
      · have b_41114 := i32b x3
        refine wq_eq (fun hc_41115 => ?_) (fun hc_41116 => ?_)
        · exact wq_s ⟨h_r7_q41101_3, trivial⟩
        · unfold fX12_hour_J61
          exact tt_fX12_hour_L67 hN x1 x2 x3 v8_q41106 (0 : Int32) ⟨by omega, by omega⟩ ⟨by omega, by omega⟩ ⟨by omega, by omega⟩ ⟨by omega, by omega⟩ N r7_q41101.2.1 r7_q41101.2.2.1 r7_q41101.2.2.2 (0 : Int32) (0 : Int32) ⟨by omega, by omega⟩ h_r7_q41101_3 (by omega)
      · exfalso; omega
    · have l_7 := il_7
      refine wq_b (tt_fX12_at hN r7_q41101.2.1 r7_q41101.2.2.1 r7_q41101.2.2.2 v8_q41106 (7 : Int32) ⟨by omega, by omega⟩ ⟨by omega, by omega⟩ h_r7_q41101_3) (fun r10_q41117 h_r10_q41117 => ?_)
      obtain ⟨h_r10_q41117_0, h_r10_q41117_1, h_r10_q41117_2, -⟩ := h_r10_q41117
      refine wq_eq (fun hc_41118 => ?_) (fun hc_41119 => ?_)
      · unfold fX12_hour_J46
        unfold fX12_hour_J47
        refine wq_eq (fun hc_41120 => ?_) (fun hc_41121 => ?_)
        · have b_41122 := i32b x3
          refine wq_eq (fun hc_41123 => ?_) (fun hc_41124 => ?_)
          · exact wq_s ⟨h_r7_q41101_3, trivial⟩
          · unfold fX12_hour_J61
            exact tt_fX12_hour_L67 hN x1 x2 x3 v8_q41106 (0 : Int32) ⟨by omega, by omega⟩ ⟨by omega, by omega⟩ ⟨by omega, by omega⟩ ⟨by omega, by omega⟩ N r7_q41101.2.1 r7_q41101.2.2.1 r7_q41101.2.2.2 (0 : Int32) (0 : Int32) ⟨by omega, by omega⟩ h_r7_q41101_3 (by omega)
        · exfalso; omega
      · unfold fX12_hour_J47
        have l_1 := il_1
        refine wq_eq (fun hc_41125 => ?_) (fun hc_41126 => ?_)
        · exfalso; omega
        · unfold fX12_hour_J61
          have b_41127 := i32b x3
          exact tt_fX12_hour_L67 hN x1 x2 x3 v8_q41106 (1 : Int32) ⟨by omega, by omega⟩ ⟨by omega, by omega⟩ ⟨by omega, by omega⟩ ⟨by omega, by omega⟩ N r7_q41101.2.1 r7_q41101.2.2.1 r7_q41101.2.2.2 (0 : Int32) (0 : Int32) ⟨by omega, by omega⟩ h_r7_q41101_3 (by omega)
set_option maxHeartbeats 4000000 in
theorem tt_fX12_houseAt {N : Nat} (hN : 3000000000 ≤ N) (I0 : Nat → Int32) (L0 : Int64) (M0 : Nat → Nat → Int32) (x1 : Int32) (x2 : Int32) (x3 : Int32) (x4 : Int32) (h_x1 : -1 ≤ x1.toInt ∧ x1.toInt ≤ 359) (h_x4 : 1 ≤ x4.toInt ∧ x4.toInt ≤ 12) (k_I0 : KX12 I0 M0) (hr_3 : ((0 ≤ x2.toInt ∧ x2.toInt ≤ 1) ∨ (0 ≤ x3.toInt ∧ x3.toInt < (I0 1).toInt))) : wq (fX12_houseAt N I0 L0 M0 x1 x2 x3 x4) (fun r => (-359 ≤ r.toInt ∧ r.toInt ≤ 359) ∧ True) := by
  unfold fX12_houseAt
  have b_42034 := i32b x2
  have l_0 := il_0
  refine wq_eq (fun hc_42035 => ?_) (fun hc_42036 => ?_)
  · have l_30 := il_30
    have t_42037 := ia_div2 x1 (30 : Int32) 30 il_30 (by decide)
    have t_42038 := ia_add (x1 / (30 : Int32)) x4 (by omega) (by omega)
    have l_1 := il_1
    have t_42039 := ia_sub ((x1 / (30 : Int32)) + x4) (1 : Int32) (by omega) (by omega)
    have l_12 := il_12
    have t_42040 := ia_rem (((x1 / (30 : Int32)) + x4) - (1 : Int32)) (12 : Int32) 12 il_12 (by decide) (by omega)
    have t_42041 := ia_mul (30 : Int32) (30) il_30 ((((x1 / (30 : Int32)) + x4) - (1 : Int32)) - (((((x1 / (30 : Int32)) + x4) - (1 : Int32)) / (12 : Int32)) * (12 : Int32))) (by omega) (by omega)
    exact wq_s ⟨(show -359 ≤ ((30 : Int32) * ((((x1 / (30 : Int32)) + x4) - (1 : Int32)) - (((((x1 / (30 : Int32)) + x4) - (1 : Int32)) / (12 : Int32)) * (12 : Int32)))).toInt ∧ ((30 : Int32) * ((((x1 / (30 : Int32)) + x4) - (1 : Int32)) - (((((x1 / (30 : Int32)) + x4) - (1 : Int32)) / (12 : Int32)) * (12 : Int32)))).toInt ≤ 359 from ⟨by omega, by omega⟩), trivial⟩
  · have l_1 := il_1
    refine wq_eq (fun hc_42042 => ?_) (fun hc_42043 => ?_)
    · have t_42044 := ia_sub x4 (1 : Int32) (by omega) (by omega)
      have l_30 := il_30
      have t_42045 := ia_mul (30 : Int32) (30) il_30 (x4 - (1 : Int32)) (by omega) (by omega)
      have t_42046 := ia_add x1 ((30 : Int32) * (x4 - (1 : Int32))) (by omega) (by omega)
      have l_360 := il_360
      have t_42047 := ia_rem2 (x1 + ((30 : Int32) * (x4 - (1 : Int32)))) (360 : Int32) 360 il_360 (by decide)
      exact wq_s ⟨(show -359 ≤ ((x1 + ((30 : Int32) * (x4 - (1 : Int32)))) - (((x1 + ((30 : Int32) * (x4 - (1 : Int32)))) / (360 : Int32)) * (360 : Int32))).toInt ∧ ((x1 + ((30 : Int32) * (x4 - (1 : Int32)))) - (((x1 + ((30 : Int32) * (x4 - (1 : Int32)))) / (360 : Int32)) * (360 : Int32))).toInt ≤ 359 from ⟨by omega, by omega⟩), trivial⟩
    · have b_42048 := i32b x3
      have l_60 := il_60
      have t_42049 := ia_mul (60 : Int32) (60) il_60 x1 (by omega) (by omega)
      have t_42050 := KX12.i1 k_I0
      refine wq_b (tt_fX12_middleOf hN I0 L0 M0 x3 ((60 : Int32) * x1) ⟨by omega, by omega⟩ ⟨by omega, by omega⟩ k_I0 (by omega)) (fun r1_q42051 h_r1_q42051 => ?_)
      obtain ⟨-⟩ := h_r1_q42051
      have b_42053 := i32b r1_q42051
      have t_42054 := i32b r1_q42051
      have t_42055 := ia_div2 r1_q42051 (60 : Int32) 60 il_60 (by decide)
      refine wq_v (fun v2_q42052 h_v2_q42052 => ?_)
      have t_v2_q42052 := congrArg Int32.toInt h_v2_q42052
      have t_42057 := ia_sub x1 v2_q42052 (by omega) (by omega)
      have l_360 := il_360
      have t_42058 := ia_add (x1 - v2_q42052) (360 : Int32) (by omega) (by omega)
      have t_42059 := ia_rem2 ((x1 - v2_q42052) + (360 : Int32)) (360 : Int32) 360 il_360 (by decide)
      refine wq_v (fun v3_q42056 h_v3_q42056 => ?_)
      have t_v3_q42056 := congrArg Int32.toInt h_v3_q42056
      have l_180 := il_180
      have t_42061 := ia_add v2_q42052 (180 : Int32) (by omega) (by omega)
      have t_42062 := ia_sub (v2_q42052 + (180 : Int32)) x1 (by omega) (by omega)
      have t_42063 := ia_add ((v2_q42052 + (180 : Int32)) - x1) (360 : Int32) (by omega) (by omega)
      have t_42064 := ia_rem2 (((v2_q42052 + (180 : Int32)) - x1) + (360 : Int32)) (360 : Int32) 360 il_360 (by decide)
      refine wq_v (fun v4_q42060 h_v4_q42060 => ?_)
      have t_v4_q42060 := congrArg Int32.toInt h_v4_q42060
      have l_3 := il_3
      refine wq_le (fun hc_42065 => ?_) (fun hc_42066 => ?_)
      · unfold fX12_houseAt_J110
        unfold fX12_houseAt_J112
        refine wq_eq (fun hc_42067 => ?_) (fun hc_42068 => ?_)
        · unfold fX12_houseAt_J195
          refine wq_eq (fun hc_42069 => ?_) (fun hc_42070 => ?_)
          · have t_42071 := ia_rem2 x1 (360 : Int32) 360 il_360 (by decide)
            exact wq_s ⟨(show -359 ≤ (x1 - ((x1 / (360 : Int32)) * (360 : Int32))).toInt ∧ (x1 - ((x1 / (360 : Int32)) * (360 : Int32))).toInt ≤ 359 from ⟨by omega, by omega⟩), trivial⟩
          · have t_42072 := ia_add x1 (180 : Int32) (by omega) (by omega)
            have t_42073 := ia_rem (x1 + (180 : Int32)) (360 : Int32) 360 il_360 (by decide) (by omega)
            exact wq_s ⟨(show -359 ≤ ((x1 + (180 : Int32)) - (((x1 + (180 : Int32)) / (360 : Int32)) * (360 : Int32))).toInt ∧ ((x1 + (180 : Int32)) - (((x1 + (180 : Int32)) / (360 : Int32)) * (360 : Int32))).toInt ≤ 359 from ⟨by omega, by omega⟩), trivial⟩
        · have l_10 := il_10
          refine wq_eq (fun hc_42074 => ?_) (fun hc_42075 => ?_)
          · exfalso; omega
          · have l_11 := il_11
            refine wq_eq (fun hc_42076 => ?_) (fun hc_42077 => ?_)
            · exfalso; omega
            · have l_12 := il_12
              refine wq_eq (fun hc_42078 => ?_) (fun hc_42079 => ?_)
              · exfalso; omega
              · have l_2 := il_2
                refine wq_eq (fun hc_42080 => ?_) (fun hc_42081 => ?_)
                · unfold fX12_houseAt_J195
                  refine wq_eq (fun hc_42082 => ?_) (fun hc_42083 => ?_)
                  · have t_42084 := ia_div2 v4_q42060 (3 : Int32) 3 il_3 (by decide)
                    have t_42085 := ia_add x1 (v4_q42060 / (3 : Int32)) (by omega) (by omega)
                    have t_42086 := ia_rem2 (x1 + (v4_q42060 / (3 : Int32))) (360 : Int32) 360 il_360 (by decide)
                    exact wq_s ⟨(show -359 ≤ ((x1 + (v4_q42060 / (3 : Int32))) - (((x1 + (v4_q42060 / (3 : Int32))) / (360 : Int32)) * (360 : Int32))).toInt ∧ ((x1 + (v4_q42060 / (3 : Int32))) - (((x1 + (v4_q42060 / (3 : Int32))) / (360 : Int32)) * (360 : Int32))).toInt ≤ 359 from ⟨by omega, by omega⟩), trivial⟩
                  · have t_42087 := ia_div2 v4_q42060 (3 : Int32) 3 il_3 (by decide)
                    have t_42088 := ia_add x1 (v4_q42060 / (3 : Int32)) (by omega) (by omega)
                    have t_42089 := ia_add (x1 + (v4_q42060 / (3 : Int32))) (180 : Int32) (by omega) (by omega)
                    have t_42090 := ia_rem ((x1 + (v4_q42060 / (3 : Int32))) + (180 : Int32)) (360 : Int32) 360 il_360 (by decide) (by omega)
                    exact wq_s ⟨(show -359 ≤ (((x1 + (v4_q42060 / (3 : Int32))) + (180 : Int32)) - ((((x1 + (v4_q42060 / (3 : Int32))) + (180 : Int32)) / (360 : Int32)) * (360 : Int32))).toInt ∧ (((x1 + (v4_q42060 / (3 : Int32))) + (180 : Int32)) - ((((x1 + (v4_q42060 / (3 : Int32))) + (180 : Int32)) / (360 : Int32)) * (360 : Int32))).toInt ≤ 359 from ⟨by omega, by omega⟩), trivial⟩
                · unfold fX12_houseAt_J195
                  refine wq_eq (fun hc_42091 => ?_) (fun hc_42092 => ?_)
                  · have t_42093 := ia_mul (2 : Int32) (2) il_2 v4_q42060 (by omega) (by omega)
                    have t_42094 := ia_div2 ((2 : Int32) * v4_q42060) (3 : Int32) 3 il_3 (by decide)
                    have t_42095 := ia_add x1 (((2 : Int32) * v4_q42060) / (3 : Int32)) (by omega) (by omega)
                    have t_42096 := ia_rem2 (x1 + (((2 : Int32) * v4_q42060) / (3 : Int32))) (360 : Int32) 360 il_360 (by decide)
                    exact wq_s ⟨(show -359 ≤ ((x1 + (((2 : Int32) * v4_q42060) / (3 : Int32))) - (((x1 + (((2 : Int32) * v4_q42060) / (3 : Int32))) / (360 : Int32)) * (360 : Int32))).toInt ∧ ((x1 + (((2 : Int32) * v4_q42060) / (3 : Int32))) - (((x1 + (((2 : Int32) * v4_q42060) / (3 : Int32))) / (360 : Int32)) * (360 : Int32))).toInt ≤ 359 from ⟨by omega, by omega⟩), trivial⟩
                  · have t_42097 := ia_mul (2 : Int32) (2) il_2 v4_q42060 (by omega) (by omega)
                    have t_42098 := ia_div2 ((2 : Int32) * v4_q42060) (3 : Int32) 3 il_3 (by decide)
                    have t_42099 := ia_add x1 (((2 : Int32) * v4_q42060) / (3 : Int32)) (by omega) (by omega)
                    have t_42100 := ia_add (x1 + (((2 : Int32) * v4_q42060) / (3 : Int32))) (180 : Int32) (by omega) (by omega)
                    have t_42101 := ia_rem2 ((x1 + (((2 : Int32) * v4_q42060) / (3 : Int32))) + (180 : Int32)) (360 : Int32) 360 il_360 (by decide)
                    exact wq_s ⟨(show -359 ≤ (((x1 + (((2 : Int32) * v4_q42060) / (3 : Int32))) + (180 : Int32)) - ((((x1 + (((2 : Int32) * v4_q42060) / (3 : Int32))) + (180 : Int32)) / (360 : Int32)) * (360 : Int32))).toInt ∧ (((x1 + (((2 : Int32) * v4_q42060) / (3 : Int32))) + (180 : Int32)) - ((((x1 + (((2 : Int32) * v4_q42060) / (3 : Int32))) + (180 : Int32)) / (360 : Int32)) * (360 : Int32))).toInt ≤ 359 from ⟨by omega, by omega⟩), trivial⟩
      · have l_10 := il_10
        refine wq_le (fun hc_42102 => ?_) (fun hc_42103 => ?_)
        · unfold fX12_houseAt_J110
          unfold fX12_houseAt_J112
          refine wq_eq (fun hc_42104 => ?_) (fun hc_42105 => ?_)
          · exfalso; omega
          · refine wq_eq (fun hc_42106 => ?_) (fun hc_42107 => ?_)
            · unfold fX12_houseAt_J195
              refine wq_eq (fun hc_42108 => ?_) (fun hc_42109 => ?_)
              · have t_42110 := ia_rem2 v2_q42052 (360 : Int32) 360 il_360 (by decide)
                exact wq_s ⟨(show -359 ≤ (v2_q42052 - ((v2_q42052 / (360 : Int32)) * (360 : Int32))).toInt ∧ (v2_q42052 - ((v2_q42052 / (360 : Int32)) * (360 : Int32))).toInt ≤ 359 from ⟨by omega, by omega⟩), trivial⟩
              · have t_42111 := ia_rem2 (v2_q42052 + (180 : Int32)) (360 : Int32) 360 il_360 (by decide)
                exact wq_s ⟨(show -359 ≤ ((v2_q42052 + (180 : Int32)) - (((v2_q42052 + (180 : Int32)) / (360 : Int32)) * (360 : Int32))).toInt ∧ ((v2_q42052 + (180 : Int32)) - (((v2_q42052 + (180 : Int32)) / (360 : Int32)) * (360 : Int32))).toInt ≤ 359 from ⟨by omega, by omega⟩), trivial⟩
            · have l_11 := il_11
              refine wq_eq (fun hc_42112 => ?_) (fun hc_42113 => ?_)
              · unfold fX12_houseAt_J195
                refine wq_eq (fun hc_42114 => ?_) (fun hc_42115 => ?_)
                · have t_42116 := ia_div2 v3_q42056 (3 : Int32) 3 il_3 (by decide)
                  have t_42117 := ia_add v2_q42052 (v3_q42056 / (3 : Int32)) (by omega) (by omega)
                  have t_42118 := ia_rem2 (v2_q42052 + (v3_q42056 / (3 : Int32))) (360 : Int32) 360 il_360 (by decide)
                  exact wq_s ⟨(show -359 ≤ ((v2_q42052 + (v3_q42056 / (3 : Int32))) - (((v2_q42052 + (v3_q42056 / (3 : Int32))) / (360 : Int32)) * (360 : Int32))).toInt ∧ ((v2_q42052 + (v3_q42056 / (3 : Int32))) - (((v2_q42052 + (v3_q42056 / (3 : Int32))) / (360 : Int32)) * (360 : Int32))).toInt ≤ 359 from ⟨by omega, by omega⟩), trivial⟩
                · have t_42119 := ia_div2 v3_q42056 (3 : Int32) 3 il_3 (by decide)
                  have t_42120 := ia_add v2_q42052 (v3_q42056 / (3 : Int32)) (by omega) (by omega)
                  have t_42121 := ia_add (v2_q42052 + (v3_q42056 / (3 : Int32))) (180 : Int32) (by omega) (by omega)
                  have t_42122 := ia_rem2 ((v2_q42052 + (v3_q42056 / (3 : Int32))) + (180 : Int32)) (360 : Int32) 360 il_360 (by decide)
                  exact wq_s ⟨(show -359 ≤ (((v2_q42052 + (v3_q42056 / (3 : Int32))) + (180 : Int32)) - ((((v2_q42052 + (v3_q42056 / (3 : Int32))) + (180 : Int32)) / (360 : Int32)) * (360 : Int32))).toInt ∧ (((v2_q42052 + (v3_q42056 / (3 : Int32))) + (180 : Int32)) - ((((v2_q42052 + (v3_q42056 / (3 : Int32))) + (180 : Int32)) / (360 : Int32)) * (360 : Int32))).toInt ≤ 359 from ⟨by omega, by omega⟩), trivial⟩
              · have l_12 := il_12
                refine wq_eq (fun hc_42123 => ?_) (fun hc_42124 => ?_)
                · unfold fX12_houseAt_J195
                  refine wq_eq (fun hc_42125 => ?_) (fun hc_42126 => ?_)
                  · have l_2 := il_2
                    have t_42127 := ia_mul (2 : Int32) (2) il_2 v3_q42056 (by omega) (by omega)
                    have t_42128 := ia_div2 ((2 : Int32) * v3_q42056) (3 : Int32) 3 il_3 (by decide)
                    have t_42129 := ia_add v2_q42052 (((2 : Int32) * v3_q42056) / (3 : Int32)) (by omega) (by omega)
                    have t_42130 := ia_rem2 (v2_q42052 + (((2 : Int32) * v3_q42056) / (3 : Int32))) (360 : Int32) 360 il_360 (by decide)
                    exact wq_s ⟨(show -359 ≤ ((v2_q42052 + (((2 : Int32) * v3_q42056) / (3 : Int32))) - (((v2_q42052 + (((2 : Int32) * v3_q42056) / (3 : Int32))) / (360 : Int32)) * (360 : Int32))).toInt ∧ ((v2_q42052 + (((2 : Int32) * v3_q42056) / (3 : Int32))) - (((v2_q42052 + (((2 : Int32) * v3_q42056) / (3 : Int32))) / (360 : Int32)) * (360 : Int32))).toInt ≤ 359 from ⟨by omega, by omega⟩), trivial⟩
                  · have l_2 := il_2
                    have t_42131 := ia_mul (2 : Int32) (2) il_2 v3_q42056 (by omega) (by omega)
                    have t_42132 := ia_div2 ((2 : Int32) * v3_q42056) (3 : Int32) 3 il_3 (by decide)
                    have t_42133 := ia_add v2_q42052 (((2 : Int32) * v3_q42056) / (3 : Int32)) (by omega) (by omega)
                    have t_42134 := ia_add (v2_q42052 + (((2 : Int32) * v3_q42056) / (3 : Int32))) (180 : Int32) (by omega) (by omega)
                    have t_42135 := ia_rem2 ((v2_q42052 + (((2 : Int32) * v3_q42056) / (3 : Int32))) + (180 : Int32)) (360 : Int32) 360 il_360 (by decide)
                    exact wq_s ⟨(show -359 ≤ (((v2_q42052 + (((2 : Int32) * v3_q42056) / (3 : Int32))) + (180 : Int32)) - ((((v2_q42052 + (((2 : Int32) * v3_q42056) / (3 : Int32))) + (180 : Int32)) / (360 : Int32)) * (360 : Int32))).toInt ∧ (((v2_q42052 + (((2 : Int32) * v3_q42056) / (3 : Int32))) + (180 : Int32)) - ((((v2_q42052 + (((2 : Int32) * v3_q42056) / (3 : Int32))) + (180 : Int32)) / (360 : Int32)) * (360 : Int32))).toInt ≤ 359 from ⟨by omega, by omega⟩), trivial⟩
                · exfalso; omega
        · unfold fX12_houseAt_J112
          have l_5 := il_5
          have t_42136 := ia_add x4 (5 : Int32) (by omega) (by omega)
          have l_12 := il_12
          have t_42137 := ia_rem (x4 + (5 : Int32)) (12 : Int32) 12 il_12 (by decide) (by omega)
          have t_42138 := ia_add ((x4 + (5 : Int32)) - (((x4 + (5 : Int32)) / (12 : Int32)) * (12 : Int32))) (1 : Int32) (by omega) (by omega)
          refine wq_eq (fun hc_42139 => ?_) (fun hc_42140 => ?_)
          · unfold fX12_houseAt_J195
            refine wq_eq (fun hc_42141 => ?_) (fun hc_42142 => ?_)
            · exfalso; omega
            · have t_42143 := ia_add x1 (180 : Int32) (by omega) (by omega)
              have t_42144 := ia_rem (x1 + (180 : Int32)) (360 : Int32) 360 il_360 (by decide) (by omega)
              exact wq_s ⟨(show -359 ≤ ((x1 + (180 : Int32)) - (((x1 + (180 : Int32)) / (360 : Int32)) * (360 : Int32))).toInt ∧ ((x1 + (180 : Int32)) - (((x1 + (180 : Int32)) / (360 : Int32)) * (360 : Int32))).toInt ≤ 359 from ⟨by omega, by omega⟩), trivial⟩
          · refine wq_eq (fun hc_42145 => ?_) (fun hc_42146 => ?_)
            · unfold fX12_houseAt_J195
              refine wq_eq (fun hc_42147 => ?_) (fun hc_42148 => ?_)
              · exfalso; omega
              · have t_42149 := ia_rem2 (v2_q42052 + (180 : Int32)) (360 : Int32) 360 il_360 (by decide)
                exact wq_s ⟨(show -359 ≤ ((v2_q42052 + (180 : Int32)) - (((v2_q42052 + (180 : Int32)) / (360 : Int32)) * (360 : Int32))).toInt ∧ ((v2_q42052 + (180 : Int32)) - (((v2_q42052 + (180 : Int32)) / (360 : Int32)) * (360 : Int32))).toInt ≤ 359 from ⟨by omega, by omega⟩), trivial⟩
            · have l_11 := il_11
              refine wq_eq (fun hc_42150 => ?_) (fun hc_42151 => ?_)
              · unfold fX12_houseAt_J195
                refine wq_eq (fun hc_42152 => ?_) (fun hc_42153 => ?_)
                · exfalso; omega
                · have t_42154 := ia_div2 v3_q42056 (3 : Int32) 3 il_3 (by decide)
                  have t_42155 := ia_add v2_q42052 (v3_q42056 / (3 : Int32)) (by omega) (by omega)
                  have t_42156 := ia_add (v2_q42052 + (v3_q42056 / (3 : Int32))) (180 : Int32) (by omega) (by omega)
                  have t_42157 := ia_rem2 ((v2_q42052 + (v3_q42056 / (3 : Int32))) + (180 : Int32)) (360 : Int32) 360 il_360 (by decide)
                  exact wq_s ⟨(show -359 ≤ (((v2_q42052 + (v3_q42056 / (3 : Int32))) + (180 : Int32)) - ((((v2_q42052 + (v3_q42056 / (3 : Int32))) + (180 : Int32)) / (360 : Int32)) * (360 : Int32))).toInt ∧ (((v2_q42052 + (v3_q42056 / (3 : Int32))) + (180 : Int32)) - ((((v2_q42052 + (v3_q42056 / (3 : Int32))) + (180 : Int32)) / (360 : Int32)) * (360 : Int32))).toInt ≤ 359 from ⟨by omega, by omega⟩), trivial⟩
              · refine wq_eq (fun hc_42158 => ?_) (fun hc_42159 => ?_)
                · unfold fX12_houseAt_J195
                  refine wq_eq (fun hc_42160 => ?_) (fun hc_42161 => ?_)
                  · exfalso; omega
                  · have l_2 := il_2
                    have t_42162 := ia_mul (2 : Int32) (2) il_2 v3_q42056 (by omega) (by omega)
                    have t_42163 := ia_div2 ((2 : Int32) * v3_q42056) (3 : Int32) 3 il_3 (by decide)
                    have t_42164 := ia_add v2_q42052 (((2 : Int32) * v3_q42056) / (3 : Int32)) (by omega) (by omega)
                    have t_42165 := ia_add (v2_q42052 + (((2 : Int32) * v3_q42056) / (3 : Int32))) (180 : Int32) (by omega) (by omega)
                    have t_42166 := ia_rem2 ((v2_q42052 + (((2 : Int32) * v3_q42056) / (3 : Int32))) + (180 : Int32)) (360 : Int32) 360 il_360 (by decide)
                    exact wq_s ⟨(show -359 ≤ (((v2_q42052 + (((2 : Int32) * v3_q42056) / (3 : Int32))) + (180 : Int32)) - ((((v2_q42052 + (((2 : Int32) * v3_q42056) / (3 : Int32))) + (180 : Int32)) / (360 : Int32)) * (360 : Int32))).toInt ∧ (((v2_q42052 + (((2 : Int32) * v3_q42056) / (3 : Int32))) + (180 : Int32)) - ((((v2_q42052 + (((2 : Int32) * v3_q42056) / (3 : Int32))) + (180 : Int32)) / (360 : Int32)) * (360 : Int32))).toInt ≤ 359 from ⟨by omega, by omega⟩), trivial⟩
                · have l_2 := il_2
                  refine wq_eq (fun hc_42167 => ?_) (fun hc_42168 => ?_)
                  · unfold fX12_houseAt_J195
                    refine wq_eq (fun hc_42169 => ?_) (fun hc_42170 => ?_)
                    · exfalso; omega
                    · have t_42171 := ia_div2 v4_q42060 (3 : Int32) 3 il_3 (by decide)
                      have t_42172 := ia_add x1 (v4_q42060 / (3 : Int32)) (by omega) (by omega)
                      have t_42173 := ia_add (x1 + (v4_q42060 / (3 : Int32))) (180 : Int32) (by omega) (by omega)
                      have t_42174 := ia_rem ((x1 + (v4_q42060 / (3 : Int32))) + (180 : Int32)) (360 : Int32) 360 il_360 (by decide) (by omega)
                      exact wq_s ⟨(show -359 ≤ (((x1 + (v4_q42060 / (3 : Int32))) + (180 : Int32)) - ((((x1 + (v4_q42060 / (3 : Int32))) + (180 : Int32)) / (360 : Int32)) * (360 : Int32))).toInt ∧ (((x1 + (v4_q42060 / (3 : Int32))) + (180 : Int32)) - ((((x1 + (v4_q42060 / (3 : Int32))) + (180 : Int32)) / (360 : Int32)) * (360 : Int32))).toInt ≤ 359 from ⟨by omega, by omega⟩), trivial⟩
                  · unfold fX12_houseAt_J195
                    refine wq_eq (fun hc_42175 => ?_) (fun hc_42176 => ?_)
                    · have t_42177 := ia_mul (2 : Int32) (2) il_2 v4_q42060 (by omega) (by omega)
                      have t_42178 := ia_div2 ((2 : Int32) * v4_q42060) (3 : Int32) 3 il_3 (by decide)
                      have t_42179 := ia_add x1 (((2 : Int32) * v4_q42060) / (3 : Int32)) (by omega) (by omega)
                      have t_42180 := ia_rem2 (x1 + (((2 : Int32) * v4_q42060) / (3 : Int32))) (360 : Int32) 360 il_360 (by decide)
                      exact wq_s ⟨(show -359 ≤ ((x1 + (((2 : Int32) * v4_q42060) / (3 : Int32))) - (((x1 + (((2 : Int32) * v4_q42060) / (3 : Int32))) / (360 : Int32)) * (360 : Int32))).toInt ∧ ((x1 + (((2 : Int32) * v4_q42060) / (3 : Int32))) - (((x1 + (((2 : Int32) * v4_q42060) / (3 : Int32))) / (360 : Int32)) * (360 : Int32))).toInt ≤ 359 from ⟨by omega, by omega⟩), trivial⟩
                    · have t_42181 := ia_mul (2 : Int32) (2) il_2 v4_q42060 (by omega) (by omega)
                      have t_42182 := ia_div2 ((2 : Int32) * v4_q42060) (3 : Int32) 3 il_3 (by decide)
                      have t_42183 := ia_add x1 (((2 : Int32) * v4_q42060) / (3 : Int32)) (by omega) (by omega)
                      have t_42184 := ia_add (x1 + (((2 : Int32) * v4_q42060) / (3 : Int32))) (180 : Int32) (by omega) (by omega)
                      have t_42185 := ia_rem2 ((x1 + (((2 : Int32) * v4_q42060) / (3 : Int32))) + (180 : Int32)) (360 : Int32) 360 il_360 (by decide)
                      exact wq_s ⟨(show -359 ≤ (((x1 + (((2 : Int32) * v4_q42060) / (3 : Int32))) + (180 : Int32)) - ((((x1 + (((2 : Int32) * v4_q42060) / (3 : Int32))) + (180 : Int32)) / (360 : Int32)) * (360 : Int32))).toInt ∧ (((x1 + (((2 : Int32) * v4_q42060) / (3 : Int32))) + (180 : Int32)) - ((((x1 + (((2 : Int32) * v4_q42060) / (3 : Int32))) + (180 : Int32)) / (360 : Int32)) * (360 : Int32))).toInt ≤ 359 from ⟨by omega, by omega⟩), trivial⟩
set_option maxHeartbeats 4000000 in
theorem tt_fX12_isWay {N : Nat} (hN : 3000000000 ≤ N) (I0 : Nat → Int32) (L0 : Int64) (M0 : Nat → Nat → Int32) (x1 : Int32) (x2 : Int32) (k_I0 : KX12 I0 M0) : wq (fX12_isWay N I0 L0 M0 x1 x2) (fun r => (r.1.toInt = 0 ∨ (r.1.toInt = 1 ∧ ((0 ≤ x1.toInt ∧ x1.toInt ≤ 1) ∨ (x1.toInt = 2 ∧ 0 ≤ x2.toInt ∧ x2.toInt ≤ 6 ∧ x2.toInt < (r.2.1 1).toInt)))) ∧ (r.2.1 1).toInt = (I0 1).toInt ∧ (0 ≤ r.1.toInt ∧ r.1.toInt ≤ 1) ∧ KX12 r.2.1 r.2.2.2 ∧ True) := by
  unfold fX12_isWay
  have b_42336 := i32b x1
  have l_0 := il_0
  have l_2 := il_2
  refine wq_b (tt_fX12_within hN x1 (0 : Int32) (2 : Int32)) (fun r1_q42337 h_r1_q42337 => ?_)
  obtain ⟨h_r1_q42337_0, h_r1_q42337_1, -⟩ := h_r1_q42337
  refine wq_eq (fun hc_42338 => ?_) (fun hc_42339 => ?_)
  · have l_1 := il_1
    refine wq_b (tt_fX12_right hN I0 L0 M0 (0 : Int32) (1 : Int32) ⟨by omega, by omega⟩ k_I0) (fun r2_q42340 h_r2_q42340 => ?_)
    obtain ⟨h_r2_q42340_0, h_r2_q42340_1, h_r2_q42340_2, h_r2_q42340_3, -⟩ := h_r2_q42340
    have t_42341 := KX12.i1 h_r2_q42340_3
    have t_42342 := KX12.i1 k_I0
    refine wq_bz (by omega) ?_
    have b_42343 := i32b x2
    exact wq_s ⟨(show (r2_q42340.1.toInt = 0 ∨ (r2_q42340.1.toInt = 1 ∧ ((0 ≤ x1.toInt ∧ x1.toInt ≤ 1) ∨ (x1.toInt = 2 ∧ 0 ≤ x2.toInt ∧ x2.toInt ≤ 6 ∧ x2.toInt < (r2_q42340.2.1 1).toInt)))) from by omega), (show (r2_q42340.2.1 1).toInt = (I0 1).toInt from by omega), (show 0 ≤ r2_q42340.1.toInt ∧ r2_q42340.1.toInt ≤ 1 from ⟨by omega, by omega⟩), h_r2_q42340_3, trivial⟩
  · refine wq_lt (fun hc_42344 => ?_) (fun hc_42345 => ?_)
    · have l_1 := il_1
      refine wq_b (tt_fX12_right hN I0 L0 M0 (1 : Int32) (1 : Int32) ⟨by omega, by omega⟩ k_I0) (fun r3_q42346 h_r3_q42346 => ?_)
      obtain ⟨h_r3_q42346_0, h_r3_q42346_1, h_r3_q42346_2, h_r3_q42346_3, -⟩ := h_r3_q42346
      have t_42347 := KX12.i1 h_r3_q42346_3
      have t_42348 := KX12.i1 k_I0
      refine wq_bz (by omega) ?_
      have b_42349 := i32b x2
      exact wq_s ⟨(show (r3_q42346.1.toInt = 0 ∨ (r3_q42346.1.toInt = 1 ∧ ((0 ≤ x1.toInt ∧ x1.toInt ≤ 1) ∨ (x1.toInt = 2 ∧ 0 ≤ x2.toInt ∧ x2.toInt ≤ 6 ∧ x2.toInt < (r3_q42346.2.1 1).toInt)))) from by omega), (show (r3_q42346.2.1 1).toInt = (I0 1).toInt from by omega), (show 0 ≤ r3_q42346.1.toInt ∧ r3_q42346.1.toInt ≤ 1 from ⟨by omega, by omega⟩), h_r3_q42346_3, trivial⟩
    · have b_42350 := i32b x2
      refine wq_lt (fun hc_42351 => ?_) (fun hc_42352 => ?_)
      · have l_1 := il_1
        refine wq_b (tt_fX12_right hN I0 L0 M0 (0 : Int32) (1 : Int32) ⟨by omega, by omega⟩ k_I0) (fun r4_q42353 h_r4_q42353 => ?_)
        obtain ⟨h_r4_q42353_0, h_r4_q42353_1, h_r4_q42353_2, h_r4_q42353_3, -⟩ := h_r4_q42353
        have t_42354 := KX12.i1 h_r4_q42353_3
        have t_42355 := KX12.i1 k_I0
        refine wq_bz (by omega) ?_
        exact wq_s ⟨(show (r4_q42353.1.toInt = 0 ∨ (r4_q42353.1.toInt = 1 ∧ ((0 ≤ x1.toInt ∧ x1.toInt ≤ 1) ∨ (x1.toInt = 2 ∧ 0 ≤ x2.toInt ∧ x2.toInt ≤ 6 ∧ x2.toInt < (r4_q42353.2.1 1).toInt)))) from by omega), (show (r4_q42353.2.1 1).toInt = (I0 1).toInt from by omega), (show 0 ≤ r4_q42353.1.toInt ∧ r4_q42353.1.toInt ≤ 1 from ⟨by omega, by omega⟩), h_r4_q42353_3, trivial⟩
      · have t_42356 := KX12.i1 k_I0
        refine wq_le (fun hc_42357 => ?_) (fun hc_42358 => ?_)
        · have l_1 := il_1
          refine wq_b (tt_fX12_right hN I0 L0 M0 (0 : Int32) (1 : Int32) ⟨by omega, by omega⟩ k_I0) (fun r5_q42359 h_r5_q42359 => ?_)
          obtain ⟨h_r5_q42359_0, h_r5_q42359_1, h_r5_q42359_2, h_r5_q42359_3, -⟩ := h_r5_q42359
          have t_42360 := KX12.i1 h_r5_q42359_3
          refine wq_bz (by omega) ?_
          exact wq_s ⟨(show (r5_q42359.1.toInt = 0 ∨ (r5_q42359.1.toInt = 1 ∧ ((0 ≤ x1.toInt ∧ x1.toInt ≤ 1) ∨ (x1.toInt = 2 ∧ 0 ≤ x2.toInt ∧ x2.toInt ≤ 6 ∧ x2.toInt < (r5_q42359.2.1 1).toInt)))) from by omega), (show (r5_q42359.2.1 1).toInt = (I0 1).toInt from by omega), (show 0 ≤ r5_q42359.1.toInt ∧ r5_q42359.1.toInt ≤ 1 from ⟨by omega, by omega⟩), h_r5_q42359_3, trivial⟩
        · have l_1 := il_1
          refine wq_b (tt_fX12_right hN I0 L0 M0 (1 : Int32) (1 : Int32) ⟨by omega, by omega⟩ k_I0) (fun r6_q42361 h_r6_q42361 => ?_)
          obtain ⟨h_r6_q42361_0, h_r6_q42361_1, h_r6_q42361_2, h_r6_q42361_3, -⟩ := h_r6_q42361
          have t_42362 := KX12.i1 h_r6_q42361_3
          refine wq_bz (by omega) ?_
          exact wq_s ⟨(show (r6_q42361.1.toInt = 0 ∨ (r6_q42361.1.toInt = 1 ∧ ((0 ≤ x1.toInt ∧ x1.toInt ≤ 1) ∨ (x1.toInt = 2 ∧ 0 ≤ x2.toInt ∧ x2.toInt ≤ 6 ∧ x2.toInt < (r6_q42361.2.1 1).toInt)))) from by omega), (show (r6_q42361.2.1 1).toInt = (I0 1).toInt from by omega), (show 0 ≤ r6_q42361.1.toInt ∧ r6_q42361.1.toInt ≤ 1 from ⟨by omega, by omega⟩), h_r6_q42361_3, trivial⟩
set_option maxHeartbeats 4000000 in
theorem tt_fX12_houseOf {N : Nat} (hN : 3000000000 ≤ N) (I0 : Nat → Int32) (L0 : Int64) (M0 : Nat → Nat → Int32) (x1 : Int32) (x2 : Int32) (x3 : Int32) (x4 : Int32) (k_I0 : KX12 I0 M0) : wq (fX12_houseOf N I0 L0 M0 x1 x2 x3 x4) (fun r => (-359 ≤ r.1.toInt ∧ r.1.toInt ≤ 359) ∧ KX12 r.2.1 r.2.2.2 ∧ True) := by
  unfold fX12_houseOf
  refine wq_v (fun I0_4_q42657 h_I0_4_q42657 => ?_)
  have k_I0_4_q42657 : KX12 I0_4_q42657 M0 := by rw [h_I0_4_q42657]; exact KX12.si0 k_I0
  have b_42658 := i32b x1
  have l_0 := il_0
  have l_359 := il_359
  refine wq_b (tt_fX12_within hN x1 (0 : Int32) (359 : Int32)) (fun r5_q42659 h_r5_q42659 => ?_)
  obtain ⟨h_r5_q42659_0, h_r5_q42659_1, -⟩ := h_r5_q42659
  refine wq_eq (fun hc_42660 => ?_) (fun hc_42661 => ?_)
  · unfold fX12_houseOf_J32
    unfold fX12_houseOf_J33
    have l_1 := il_1
    refine wq_b (tt_fX12_right hN I0_4_q42657 L0 M0 (0 : Int32) (1 : Int32) ⟨by omega, by omega⟩ k_I0_4_q42657) (fun r1_q42662 h_r1_q42662 => ?_)
    obtain ⟨h_r1_q42662_0, h_r1_q42662_1, h_r1_q42662_2, h_r1_q42662_3, -⟩ := h_r1_q42662
    have t_42663 := KX12.i1 h_r1_q42662_3
    have t_42664 := KX12.i1 k_I0
    have t_42665 : (I0_4_q42657 1).toInt = (I0 1).toInt := by rw [h_I0_4_q42657]; rfl
    refine wq_eq (fun hc_42666 => ?_) (fun hc_42667 => ?_)
    · exact wq_s ⟨(show -359 ≤ (0 : Int32).toInt ∧ (0 : Int32).toInt ≤ 359 from ⟨by omega, by omega⟩), h_r1_q42662_3, trivial⟩
    · have b_42668 := i32b x2
      have b_42669 := i32b x3
      refine wq_b (tt_fX12_isWay hN r1_q42662.2.1 r1_q42662.2.2.1 r1_q42662.2.2.2 x2 x3 h_r1_q42662_3) (fun r2_q42670 h_r2_q42670 => ?_)
      obtain ⟨h_r2_q42670_0, h_r2_q42670_1, h_r2_q42670_2, h_r2_q42670_3, -⟩ := h_r2_q42670
      have t_42671 := KX12.i1 h_r2_q42670_3
      refine wq_eq (fun hc_42672 => ?_) (fun hc_42673 => ?_)
      · exact wq_s ⟨(show -359 ≤ (0 : Int32).toInt ∧ (0 : Int32).toInt ≤ 359 from ⟨by omega, by omega⟩), h_r2_q42670_3, trivial⟩
      · have b_42674 := i32b x4
        refine wq_b (tt_fX12_houseAt hN r2_q42670.2.1 r2_q42670.2.2.1 r2_q42670.2.2.2 x1 x2 x3 x4 ⟨by omega, by omega⟩ ⟨by omega, by omega⟩ h_r2_q42670_3 (by omega)) (fun r3_q42675 h_r3_q42675 => ?_)
        obtain ⟨h_r3_q42675_0, -⟩ := h_r3_q42675
        exact wq_s ⟨(show -359 ≤ r3_q42675.toInt ∧ r3_q42675.toInt ≤ 359 from ⟨by omega, by omega⟩), h_r2_q42670_3, trivial⟩
  · have b_42676 := i32b x4
    have l_1 := il_1
    have l_12 := il_12
    refine wq_b (tt_fX12_within hN x4 (1 : Int32) (12 : Int32)) (fun r6_q42677 h_r6_q42677 => ?_)
    obtain ⟨h_r6_q42677_0, h_r6_q42677_1, -⟩ := h_r6_q42677
    refine wq_eq (fun hc_42678 => ?_) (fun hc_42679 => ?_)
    · unfold fX12_houseOf_J32
      unfold fX12_houseOf_J33
      refine wq_b (tt_fX12_right hN I0_4_q42657 L0 M0 (0 : Int32) (1 : Int32) ⟨by omega, by omega⟩ k_I0_4_q42657) (fun r1_q42680 h_r1_q42680 => ?_)
      obtain ⟨h_r1_q42680_0, h_r1_q42680_1, h_r1_q42680_2, h_r1_q42680_3, -⟩ := h_r1_q42680
      have t_42681 := KX12.i1 h_r1_q42680_3
      have t_42682 := KX12.i1 k_I0
      have t_42683 : (I0_4_q42657 1).toInt = (I0 1).toInt := by rw [h_I0_4_q42657]; rfl
      refine wq_eq (fun hc_42684 => ?_) (fun hc_42685 => ?_)
      · exact wq_s ⟨(show -359 ≤ (0 : Int32).toInt ∧ (0 : Int32).toInt ≤ 359 from ⟨by omega, by omega⟩), h_r1_q42680_3, trivial⟩
      · have b_42686 := i32b x2
        have b_42687 := i32b x3
        refine wq_b (tt_fX12_isWay hN r1_q42680.2.1 r1_q42680.2.2.1 r1_q42680.2.2.2 x2 x3 h_r1_q42680_3) (fun r2_q42688 h_r2_q42688 => ?_)
        obtain ⟨h_r2_q42688_0, h_r2_q42688_1, h_r2_q42688_2, h_r2_q42688_3, -⟩ := h_r2_q42688
        have t_42689 := KX12.i1 h_r2_q42688_3
        refine wq_eq (fun hc_42690 => ?_) (fun hc_42691 => ?_)
        · exact wq_s ⟨(show -359 ≤ (0 : Int32).toInt ∧ (0 : Int32).toInt ≤ 359 from ⟨by omega, by omega⟩), h_r2_q42688_3, trivial⟩
        · refine wq_b (tt_fX12_houseAt hN r2_q42688.2.1 r2_q42688.2.2.1 r2_q42688.2.2.2 x1 x2 x3 x4 ⟨by omega, by omega⟩ ⟨by omega, by omega⟩ h_r2_q42688_3 (by omega)) (fun r3_q42692 h_r3_q42692 => ?_)
          obtain ⟨h_r3_q42692_0, -⟩ := h_r3_q42692
          exact wq_s ⟨(show -359 ≤ r3_q42692.toInt ∧ r3_q42692.toInt ≤ 359 from ⟨by omega, by omega⟩), h_r2_q42688_3, trivial⟩
    · unfold fX12_houseOf_J33
      refine wq_b (tt_fX12_right hN I0_4_q42657 L0 M0 (1 : Int32) (1 : Int32) ⟨by omega, by omega⟩ k_I0_4_q42657) (fun r1_q42693 h_r1_q42693 => ?_)
      obtain ⟨h_r1_q42693_0, h_r1_q42693_1, h_r1_q42693_2, h_r1_q42693_3, -⟩ := h_r1_q42693
      have t_42694 := KX12.i1 h_r1_q42693_3
      have t_42695 := KX12.i1 k_I0
      have t_42696 : (I0_4_q42657 1).toInt = (I0 1).toInt := by rw [h_I0_4_q42657]; rfl
      refine wq_eq (fun hc_42697 => ?_) (fun hc_42698 => ?_)
      · exact wq_s ⟨(show -359 ≤ (0 : Int32).toInt ∧ (0 : Int32).toInt ≤ 359 from ⟨by omega, by omega⟩), h_r1_q42693_3, trivial⟩
      · have b_42699 := i32b x2
        have b_42700 := i32b x3
        refine wq_b (tt_fX12_isWay hN r1_q42693.2.1 r1_q42693.2.2.1 r1_q42693.2.2.2 x2 x3 h_r1_q42693_3) (fun r2_q42701 h_r2_q42701 => ?_)
        obtain ⟨h_r2_q42701_0, h_r2_q42701_1, h_r2_q42701_2, h_r2_q42701_3, -⟩ := h_r2_q42701
        have t_42702 := KX12.i1 h_r2_q42701_3
        refine wq_eq (fun hc_42703 => ?_) (fun hc_42704 => ?_)
        · exact wq_s ⟨(show -359 ≤ (0 : Int32).toInt ∧ (0 : Int32).toInt ≤ 359 from ⟨by omega, by omega⟩), h_r2_q42701_3, trivial⟩
        · refine wq_b (tt_fX12_houseAt hN r2_q42701.2.1 r2_q42701.2.2.1 r2_q42701.2.2.2 x1 x2 x3 x4 ⟨by omega, by omega⟩ ⟨by omega, by omega⟩ h_r2_q42701_3 (by omega)) (fun r3_q42705 h_r3_q42705 => ?_)
          obtain ⟨h_r3_q42705_0, -⟩ := h_r3_q42705
          exact wq_s ⟨(show -359 ≤ r3_q42705.toInt ∧ r3_q42705.toInt ≤ 359 from ⟨by omega, by omega⟩), h_r2_q42701_3, trivial⟩
set_option maxHeartbeats 4000000 in
theorem tt_fX12_agrees_L6 {N : Nat} (hN : 3000000000 ≤ N) (I0 : Nat → Int32) (L0 : Int64) (M0 : Nat → Nat → Int32) (x1 : Int32) (x2 : Int32) (x3 : Int32) (h_x1 : 0 ≤ x1.toInt ∧ x1.toInt ≤ 119) (k_I0 : KX12 I0 M0) (hr_2 : ((0 ≤ x2.toInt ∧ x2.toInt ≤ 1) ∨ (0 ≤ x3.toInt ∧ x3.toInt < (I0 1).toInt)))  : ∀ (fu : Nat) (y6_4 : Int32) (y6_5 : Int32), (1 ≤ y6_5.toInt ∧ y6_5.toInt ≤ 13) → (13 - y6_5.toInt) < (fu : Int) → wq (fX12_agrees_L6 N I0 L0 M0 x1 x2 x3 fu y6_4 y6_5) (fun r => True) := by
  intro fu
  induction fu with
  | zero => intro y6_4 y6_5 h_y6_5 hm; exfalso; omega
  | succ fu ih =>
    intro y6_4 y6_5 h_y6_5 hm
    rw [fX12_agrees_L6.eq_2]
    have l_12 := il_12
    refine wq_lt (fun hc_43217 => ?_) (fun hc_43218 => ?_)
    · have b_43219 := i32b y6_4
      exact wq_s trivial
    · have l_9 := il_9
      have t_43220 := ia_add (9 : Int32) y6_5 (by omega) (by omega)
      have l_1 := il_1
      have t_43221 := ia_sub ((9 : Int32) + y6_5) (1 : Int32) (by omega) (by omega)
      refine wq_b (tt_fX12_at hN I0 L0 M0 x1 (((9 : Int32) + y6_5) - (1 : Int32)) ⟨by omega, by omega⟩ ⟨by omega, by omega⟩ k_I0) (fun r1_q43222 h_r1_q43222 => ?_)
      obtain ⟨h_r1_q43222_0, h_r1_q43222_1, h_r1_q43222_2, -⟩ := h_r1_q43222
      have l_m1 := il_m1
      refine wq_eq (fun hc_43223 => ?_) (fun hc_43224 => ?_)
      · have t_43226 := ia_add y6_5 (1 : Int32) (by omega) (by omega)
        refine wq_v (fun v2_q43225 h_v2_q43225 => ?_)
        have t_v2_q43225 := congrArg Int32.toInt h_v2_q43225
        have b_43227 := i32b y6_4
        exact ih y6_4 v2_q43225 ⟨by omega, by omega⟩ (by omega)
      · have l_7 := il_7
        refine wq_b (tt_fX12_at hN I0 L0 M0 x1 (7 : Int32) ⟨by omega, by omega⟩ ⟨by omega, by omega⟩ k_I0) (fun r3_q43228 h_r3_q43228 => ?_)
        obtain ⟨h_r3_q43228_0, h_r3_q43228_1, h_r3_q43228_2, -⟩ := h_r3_q43228
        have b_43229 := i32b x2
        have b_43230 := i32b x3
        have t_43231 := KX12.i1 k_I0
        refine wq_b (tt_fX12_houseAt hN I0 L0 M0 r3_q43228 x2 x3 y6_5 ⟨by omega, by omega⟩ ⟨by omega, by omega⟩ k_I0 (by omega)) (fun r4_q43232 h_r4_q43232 => ?_)
        obtain ⟨h_r4_q43232_0, -⟩ := h_r4_q43232
        refine wq_eq (fun hc_43233 => ?_) (fun hc_43234 => ?_)
        · have b_43236 := i32b y6_4
          refine wq_v (fun v6_q43235 h_v6_q43235 => ?_)
          have t_v6_q43235 := congrArg Int32.toInt h_v6_q43235
          have t_43238 := ia_add y6_5 (1 : Int32) (by omega) (by omega)
          refine wq_v (fun v7_q43237 h_v7_q43237 => ?_)
          have t_v7_q43237 := congrArg Int32.toInt h_v7_q43237
          have b_43239 := i32b v6_q43235
          exact ih v6_q43235 v7_q43237 ⟨by omega, by omega⟩ (by omega)
        · have t_43241 := ia_add y6_5 (1 : Int32) (by omega) (by omega)
          refine wq_v (fun v5_q43240 h_v5_q43240 => ?_)
          have t_v5_q43240 := congrArg Int32.toInt h_v5_q43240
          have b_43242 := i32b y6_4
          exact ih y6_4 v5_q43240 ⟨by omega, by omega⟩ (by omega)
set_option maxHeartbeats 4000000 in
theorem tt_fX12_agrees {N : Nat} (hN : 3000000000 ≤ N) (I0 : Nat → Int32) (L0 : Int64) (M0 : Nat → Nat → Int32) (x1 : Int32) (x2 : Int32) (x3 : Int32) (h_x1 : 0 ≤ x1.toInt ∧ x1.toInt ≤ 119) (k_I0 : KX12 I0 M0) (hr_2 : ((0 ≤ x2.toInt ∧ x2.toInt ≤ 1) ∨ (0 ≤ x3.toInt ∧ x3.toInt < (I0 1).toInt))) : wq (fX12_agrees N I0 L0 M0 x1 x2 x3) (fun r => True) := by
  unfold fX12_agrees
  have b_43243 := i32b x2
  have b_43244 := i32b x3
  have l_0 := il_0
  have l_1 := il_1
  have t_43245 := KX12.i1 k_I0
  exact tt_fX12_agrees_L6 hN I0 L0 M0 x1 x2 x3 ⟨by omega, by omega⟩ k_I0 (by omega) N (0 : Int32) (1 : Int32) ⟨by omega, by omega⟩ (by omega)

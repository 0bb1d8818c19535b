set_option maxHeartbeats 4000000 in
theorem tt_fX12_cost {N : Nat} (hN : 3000000000 ≤ N) (I0 : Nat → Int32) (L0 : Int64) (M0 : Nat → Nat → Int32) (x1 : Int32) (x2 : Int32) (x3 : Int32) (x4 : Int32) (k_I0 : KX12 I0 M0) : wq (fX12_cost N I0 L0 M0 x1 x2 x3 x4) (fun r => (0 ≤ r.1.toInt ∧ r.1.toInt ≤ 93) ∧ KX12 r.2.1 r.2.2.2 ∧ True) := by
  unfold fX12_cost
  have b_27482 := i32b x1
  have b_27483 := i32b x2
  refine wq_b (tt_fX12_isWheel hN I0 L0 M0 x1 x2 k_I0) (fun r3_q27484 h_r3_q27484 => ?_)
  obtain ⟨h_r3_q27484_0, h_r3_q27484_1, h_r3_q27484_2, h_r3_q27484_3, -⟩ := h_r3_q27484
  have t_27485 := KX12.i1 h_r3_q27484_3
  have t_27486 := KX12.i1 k_I0
  have l_0 := il_0
  refine wq_eq (fun hc_27487 => ?_) (fun hc_27488 => ?_)
  · exact wq_s ⟨(show 0 ≤ (0 : Int32).toInt ∧ (0 : Int32).toInt ≤ 93 from ⟨by omega, by omega⟩), h_r3_q27484_3, trivial⟩
  · have b_27489 := i32b x3
    have l_3 := il_3
    refine wq_b (tt_fX12_within hN x3 (0 : Int32) (3 : Int32)) (fun r4_q27490 h_r4_q27490 => ?_)
    obtain ⟨h_r4_q27490_0, h_r4_q27490_1, -⟩ := h_r4_q27490
    refine wq_eq (fun hc_27491 => ?_) (fun hc_27492 => ?_)
    · unfold fX12_cost_J34
      unfold fX12_cost_J35
      have l_1 := il_1
      refine wq_b (tt_fX12_right hN r3_q27484.2.1 r3_q27484.2.2.1 r3_q27484.2.2.2 (0 : Int32) (1 : Int32) ⟨by omega, by omega⟩ h_r3_q27484_3) (fun r1_q27493 h_r1_q27493 => ?_)
      obtain ⟨h_r1_q27493_0, h_r1_q27493_1, h_r1_q27493_2, h_r1_q27493_3, -⟩ := h_r1_q27493
      have t_27494 := KX12.i1 h_r1_q27493_3
      refine wq_eq (fun hc_27495 => ?_) (fun hc_27496 => ?_)
      · exact wq_s ⟨(show 0 ≤ (0 : Int32).toInt ∧ (0 : Int32).toInt ≤ 93 from ⟨by omega, by omega⟩), h_r1_q27493_3, trivial⟩
      · have l_20 := il_20
        have t_27497 := ia_mul (20 : Int32) (20) il_20 x1 (by omega) (by omega)
        have t_27498 := ia_add ((20 : Int32) * x1) x2 (by omega) (by omega)
        have b_27499 := i32b x4
        have l_999 := il_999
        refine wq_b (tt_fX12_costOn hN r1_q27493.2.1 r1_q27493.2.2.1 r1_q27493.2.2.2 (((20 : Int32) * x1) + x2) x3 x4 (999 : Int32) ⟨by omega, by omega⟩ ⟨by omega, by omega⟩ h_r1_q27493_3) (fun r2_q27500 h_r2_q27500 => ?_)
        obtain ⟨h_r2_q27500_0, -⟩ := h_r2_q27500
        exact wq_s ⟨(show 0 ≤ r2_q27500.toInt ∧ r2_q27500.toInt ≤ 93 from ⟨by omega, by omega⟩), h_r1_q27493_3, trivial⟩
    · have b_27501 := i32b x4
      have l_1000000 := il_1000000
      refine wq_b (tt_fX12_within hN x4 (0 : Int32) (1000000 : Int32)) (fun r5_q27502 h_r5_q27502 => ?_)
      obtain ⟨h_r5_q27502_0, h_r5_q27502_1, -⟩ := h_r5_q27502
      refine wq_eq (fun hc_27503 => ?_) (fun hc_27504 => ?_)
      · unfold fX12_cost_J34
        unfold fX12_cost_J35
        have l_1 := il_1
        refine wq_b (tt_fX12_right hN r3_q27484.2.1 r3_q27484.2.2.1 r3_q27484.2.2.2 (0 : Int32) (1 : Int32) ⟨by omega, by omega⟩ h_r3_q27484_3) (fun r1_q27505 h_r1_q27505 => ?_)
        obtain ⟨h_r1_q27505_0, h_r1_q27505_1, h_r1_q27505_2, h_r1_q27505_3, -⟩ := h_r1_q27505
        have t_27506 := KX12.i1 h_r1_q27505_3
        refine wq_eq (fun hc_27507 => ?_) (fun hc_27508 => ?_)
        · exact wq_s ⟨(show 0 ≤ (0 : Int32).toInt ∧ (0 : Int32).toInt ≤ 93 from ⟨by omega, by omega⟩), h_r1_q27505_3, trivial⟩
        · have l_20 := il_20
          have t_27509 := ia_mul (20 : Int32) (20) il_20 x1 (by omega) (by omega)
          have t_27510 := ia_add ((20 : Int32) * x1) x2 (by omega) (by omega)
          have l_999 := il_999
          refine wq_b (tt_fX12_costOn hN r1_q27505.2.1 r1_q27505.2.2.1 r1_q27505.2.2.2 (((20 : Int32) * x1) + x2) x3 x4 (999 : Int32) ⟨by omega, by omega⟩ ⟨by omega, by omega⟩ h_r1_q27505_3) (fun r2_q27511 h_r2_q27511 => ?_)
          obtain ⟨h_r2_q27511_0, -⟩ := h_r2_q27511
          exact wq_s ⟨(show 0 ≤ r2_q27511.toInt ∧ r2_q27511.toInt ≤ 93 from ⟨by omega, by omega⟩), h_r1_q27505_3, trivial⟩
      · unfold fX12_cost_J35
        have l_1 := il_1
        refine wq_b (tt_fX12_right hN r3_q27484.2.1 r3_q27484.2.2.1 r3_q27484.2.2.2 (1 : Int32) (1 : Int32) ⟨by omega, by omega⟩ h_r3_q27484_3) (fun r1_q27512 h_r1_q27512 => ?_)
        obtain ⟨h_r1_q27512_0, h_r1_q27512_1, h_r1_q27512_2, h_r1_q27512_3, -⟩ := h_r1_q27512
        have t_27513 := KX12.i1 h_r1_q27512_3
        refine wq_eq (fun hc_27514 => ?_) (fun hc_27515 => ?_)
        · exact wq_s ⟨(show 0 ≤ (0 : Int32).toInt ∧ (0 : Int32).toInt ≤ 93 from ⟨by omega, by omega⟩), h_r1_q27512_3, trivial⟩
        · have l_20 := il_20
          have t_27516 := ia_mul (20 : Int32) (20) il_20 x1 (by omega) (by omega)
          have t_27517 := ia_add ((20 : Int32) * x1) x2 (by omega) (by omega)
          have l_999 := il_999
          refine wq_b (tt_fX12_costOn hN r1_q27512.2.1 r1_q27512.2.2.1 r1_q27512.2.2.2 (((20 : Int32) * x1) + x2) x3 x4 (999 : Int32) ⟨by omega, by omega⟩ ⟨by omega, by omega⟩ h_r1_q27512_3) (fun r2_q27518 h_r2_q27518 => ?_)
          obtain ⟨h_r2_q27518_0, -⟩ := h_r2_q27518
          exact wq_s ⟨(show 0 ≤ r2_q27518.toInt ∧ r2_q27518.toInt ≤ 93 from ⟨by omega, by omega⟩), h_r1_q27512_3, trivial⟩
set_option maxHeartbeats 4000000 in
theorem tt_fX12_isSpan {N : Nat} (hN : 3000000000 ≤ N) (I0 : Nat → Int32) (L0 : Int64) (M0 : Nat → Nat → Int32) (x1 : Int32) (x2 : Int32) (k_I0 : KX12 I0 M0) : wq (fX12_isSpan N I0 L0 M0 x1 x2) (fun r => (r.1.toInt = 0 ∨ (r.1.toInt = 1 ∧ 0 ≤ x1.toInt ∧ x1.toInt ≤ 1000000 ∧ 0 ≤ x2.toInt ∧ x2.toInt ≤ 50000 ∧ x1.toInt + x2.toInt ≤ 1000000)) ∧ (r.2.1 1).toInt = (I0 1).toInt ∧ (0 ≤ r.1.toInt ∧ r.1.toInt ≤ 1) ∧ KX12 r.2.1 r.2.2.2 ∧ True) := by
  unfold fX12_isSpan
  have b_27675 := i32b x1
  have l_0 := il_0
  have l_1000000 := il_1000000
  refine wq_b (tt_fX12_within hN x1 (0 : Int32) (1000000 : Int32)) (fun r2_q27676 h_r2_q27676 => ?_)
  obtain ⟨h_r2_q27676_0, h_r2_q27676_1, -⟩ := h_r2_q27676
  have l_1 := il_1
  refine wq_b (tt_fX12_right hN I0 L0 M0 r2_q27676 (1 : Int32) ⟨by omega, by omega⟩ k_I0) (fun r3_q27677 h_r3_q27677 => ?_)
  obtain ⟨h_r3_q27677_0, h_r3_q27677_1, h_r3_q27677_2, h_r3_q27677_3, -⟩ := h_r3_q27677
  have t_27678 := KX12.i1 h_r3_q27677_3
  have t_27679 := KX12.i1 k_I0
  refine wq_eq (fun hc_27680 => ?_) (fun hc_27681 => ?_)
  · have b_27682 := i32b x2
    exact wq_s ⟨(show ((0 : Int32).toInt = 0 ∨ ((0 : Int32).toInt = 1 ∧ 0 ≤ x1.toInt ∧ x1.toInt ≤ 1000000 ∧ 0 ≤ x2.toInt ∧ x2.toInt ≤ 50000 ∧ x1.toInt + x2.toInt ≤ 1000000)) from by omega), (show (r3_q27677.2.1 1).toInt = (I0 1).toInt from by omega), (show 0 ≤ (0 : Int32).toInt ∧ (0 : Int32).toInt ≤ 1 from ⟨by omega, by omega⟩), h_r3_q27677_3, trivial⟩
  · have b_27683 := i32b x2
    have l_50000 := il_50000
    refine wq_b (tt_fX12_within hN x2 (0 : Int32) (50000 : Int32)) (fun r4_q27684 h_r4_q27684 => ?_)
    obtain ⟨h_r4_q27684_0, h_r4_q27684_1, -⟩ := h_r4_q27684
    refine wq_eq (fun hc_27685 => ?_) (fun hc_27686 => ?_)
    · unfold fX12_isSpan_J39
      have l_2 := il_2
      refine wq_b (tt_fX12_right hN r3_q27677.2.1 r3_q27677.2.2.1 r3_q27677.2.2.2 (0 : Int32) (2 : Int32) ⟨by omega, by omega⟩ h_r3_q27677_3) (fun r1_q27687 h_r1_q27687 => ?_)
      obtain ⟨h_r1_q27687_0, h_r1_q27687_1, h_r1_q27687_2, h_r1_q27687_3, -⟩ := h_r1_q27687
      have t_27688 := KX12.i1 h_r1_q27687_3
      refine wq_eq (fun hc_27689 => ?_) (fun hc_27690 => ?_)
      · exact wq_s ⟨(show ((0 : Int32).toInt = 0 ∨ ((0 : Int32).toInt = 1 ∧ 0 ≤ x1.toInt ∧ x1.toInt ≤ 1000000 ∧ 0 ≤ x2.toInt ∧ x2.toInt ≤ 50000 ∧ x1.toInt + x2.toInt ≤ 1000000)) from by omega), (show (r1_q27687.2.1 1).toInt = (I0 1).toInt from by omega), (show 0 ≤ (0 : Int32).toInt ∧ (0 : Int32).toInt ≤ 1 from ⟨by omega, by omega⟩), h_r1_q27687_3, trivial⟩
      · exact wq_s ⟨(show ((1 : Int32).toInt = 0 ∨ ((1 : Int32).toInt = 1 ∧ 0 ≤ x1.toInt ∧ x1.toInt ≤ 1000000 ∧ 0 ≤ x2.toInt ∧ x2.toInt ≤ 50000 ∧ x1.toInt + x2.toInt ≤ 1000000)) from by omega), (show (r1_q27687.2.1 1).toInt = (I0 1).toInt from by omega), (show 0 ≤ (1 : Int32).toInt ∧ (1 : Int32).toInt ≤ 1 from ⟨by omega, by omega⟩), h_r1_q27687_3, trivial⟩
    · have t_27691 := ia_add x1 x2 (by omega) (by omega)
      refine wq_lt (fun hc_27692 => ?_) (fun hc_27693 => ?_)
      · unfold fX12_isSpan_J39
        have l_2 := il_2
        refine wq_b (tt_fX12_right hN r3_q27677.2.1 r3_q27677.2.2.1 r3_q27677.2.2.2 (0 : Int32) (2 : Int32) ⟨by omega, by omega⟩ h_r3_q27677_3) (fun r1_q27694 h_r1_q27694 => ?_)
        obtain ⟨h_r1_q27694_0, h_r1_q27694_1, h_r1_q27694_2, h_r1_q27694_3, -⟩ := h_r1_q27694
        have t_27695 := KX12.i1 h_r1_q27694_3
        refine wq_eq (fun hc_27696 => ?_) (fun hc_27697 => ?_)
        · exact wq_s ⟨(show ((0 : Int32).toInt = 0 ∨ ((0 : Int32).toInt = 1 ∧ 0 ≤ x1.toInt ∧ x1.toInt ≤ 1000000 ∧ 0 ≤ x2.toInt ∧ x2.toInt ≤ 50000 ∧ x1.toInt + x2.toInt ≤ 1000000)) from by omega), (show (r1_q27694.2.1 1).toInt = (I0 1).toInt from by omega), (show 0 ≤ (0 : Int32).toInt ∧ (0 : Int32).toInt ≤ 1 from ⟨by omega, by omega⟩), h_r1_q27694_3, trivial⟩
        · exact wq_s ⟨(show ((1 : Int32).toInt = 0 ∨ ((1 : Int32).toInt = 1 ∧ 0 ≤ x1.toInt ∧ x1.toInt ≤ 1000000 ∧ 0 ≤ x2.toInt ∧ x2.toInt ≤ 50000 ∧ x1.toInt + x2.toInt ≤ 1000000)) from by omega), (show (r1_q27694.2.1 1).toInt = (I0 1).toInt from by omega), (show 0 ≤ (1 : Int32).toInt ∧ (1 : Int32).toInt ≤ 1 from ⟨by omega, by omega⟩), h_r1_q27694_3, trivial⟩
      · have l_2 := il_2
        refine wq_b (tt_fX12_right hN r3_q27677.2.1 r3_q27677.2.2.1 r3_q27677.2.2.2 (1 : Int32) (2 : Int32) ⟨by omega, by omega⟩ h_r3_q27677_3) (fun r5_q27698 h_r5_q27698 => ?_)
        obtain ⟨h_r5_q27698_0, h_r5_q27698_1, h_r5_q27698_2, h_r5_q27698_3, -⟩ := h_r5_q27698
        have t_27699 := KX12.i1 h_r5_q27698_3
        refine wq_eq (fun hc_27700 => ?_) (fun hc_27701 => ?_)
        · exact wq_s ⟨(show ((0 : Int32).toInt = 0 ∨ ((0 : Int32).toInt = 1 ∧ 0 ≤ x1.toInt ∧ x1.toInt ≤ 1000000 ∧ 0 ≤ x2.toInt ∧ x2.toInt ≤ 50000 ∧ x1.toInt + x2.toInt ≤ 1000000)) from by omega), (show (r5_q27698.2.1 1).toInt = (I0 1).toInt from by omega), (show 0 ≤ (0 : Int32).toInt ∧ (0 : Int32).toInt ≤ 1 from ⟨by omega, by omega⟩), h_r5_q27698_3, trivial⟩
        · exact wq_s ⟨(show ((1 : Int32).toInt = 0 ∨ ((1 : Int32).toInt = 1 ∧ 0 ≤ x1.toInt ∧ x1.toInt ≤ 1000000 ∧ 0 ≤ x2.toInt ∧ x2.toInt ≤ 50000 ∧ x1.toInt + x2.toInt ≤ 1000000)) from by omega), (show (r5_q27698.2.1 1).toInt = (I0 1).toInt from by omega), (show 0 ≤ (1 : Int32).toInt ∧ (1 : Int32).toInt ≤ 1 from ⟨by omega, by omega⟩), h_r5_q27698_3, trivial⟩
set_option maxHeartbeats 4000000 in
theorem tt_fX12_best_L45 {N : Nat} (hN : 3000000000 ≤ N) (x1 : Int32) (x2 : Int32) (x3 : Int32) (x4 : Int32) (x5 : Int32) (h_x1 : 0 ≤ x1.toInt ∧ x1.toInt ≤ 5) (h_x2 : 0 ≤ x2.toInt ∧ x2.toInt ≤ 19) (h_x3 : 0 ≤ x3.toInt ∧ x3.toInt ≤ 3) (h_x4 : 0 ≤ x4.toInt ∧ x4.toInt ≤ 1000000) (h_x5 : 0 ≤ x5.toInt ∧ x5.toInt ≤ 50000)  : ∀ (fu : Nat) (I0_l45 : (Nat → Int32)) (L0_l45 : Int64) (M0_l45 : (Nat → Nat → Int32)) (y45_6 : Int32) (y45_7 : Int32), (0 ≤ y45_6.toInt ∧ y45_6.toInt ≤ 999) → (0 ≤ y45_7.toInt ∧ y45_7.toInt ≤ 1050001) → (KX12 I0_l45 M0_l45) → (x4.toInt ≤ y45_7.toInt) → ((y45_6.toInt = 999 ∨ (0 ≤ (I0_l45 15).toInt ∧ (I0_l45 15).toInt ≤ y45_7.toInt - x4.toInt))) → (1050001 - y45_7.toInt) < (fu : Int) → wq (fX12_best_L45 N x1 x2 x3 x4 x5 fu I0_l45 L0_l45 M0_l45 y45_6 y45_7) (fun r => (0 ≤ r.1.toInt ∧ r.1.toInt ≤ 999) ∧ KX12 r.2.1 r.2.2.2 ∧ True) := by
  intro fu
  induction fu with
  | zero => intro I0_l45 L0_l45 M0_l45 y45_6 y45_7 h_y45_6 h_y45_7 k_I0_l45 hl_3 hl_4 hm; exfalso; omega
  | succ fu ih =>
    intro I0_l45 L0_l45 M0_l45 y45_6 y45_7 h_y45_6 h_y45_7 k_I0_l45 hl_3 hl_4 hm
    rw [fX12_best_L45.eq_2]
    have t_28136 := ia_add x4 x5 (by omega) (by omega)
    refine wq_lt (fun hc_28137 => ?_) (fun hc_28138 => ?_)
    · exact wq_s ⟨(show 0 ≤ y45_6.toInt ∧ y45_6.toInt ≤ 999 from ⟨by omega, by omega⟩), k_I0_l45, trivial⟩
    · have l_20 := il_20
      have t_28139 := ia_mul (20 : Int32) (20) il_20 x1 (by omega) (by omega)
      have t_28140 := ia_add ((20 : Int32) * x1) x2 (by omega) (by omega)
      refine wq_b (tt_fX12_costOn hN I0_l45 L0_l45 M0_l45 (((20 : Int32) * x1) + x2) x3 y45_7 y45_6 ⟨by omega, by omega⟩ ⟨by omega, by omega⟩ k_I0_l45) (fun r8_q28141 h_r8_q28141 => ?_)
      obtain ⟨h_r8_q28141_0, -⟩ := h_r8_q28141
      refine wq_le (fun hc_28142 => ?_) (fun hc_28143 => ?_)
      · refine wq_le (fun hc_28144 => ?_) (fun hc_28145 => ?_)
        · unfold fX12_best_J94
          refine wq_le (fun hc_28146 => ?_) (fun hc_28147 => ?_)
          · unfold fX12_best_J118
            refine wq_v (fun I0_5_q28148 h_I0_5_q28148 => ?_)
            have k_I0_5_q28148 : KX12 I0_5_q28148 M0_l45 := by rw [h_I0_5_q28148]; exact KX12.si15 k_I0_l45
            have l_1 := il_1
            have t_28150 := ia_add y45_7 (1 : Int32) (by omega) (by omega)
            refine wq_v (fun v6_q28149 h_v6_q28149 => ?_)
            have t_v6_q28149 := congrArg Int32.toInt h_v6_q28149
            have t_28151 := ia_add (I0_l45 15) (1 : Int32) (by omega) (by omega)
            have t_28152 : (I0_5_q28148 15).toInt = ((I0_l45 15) + (1 : Int32)).toInt := by rw [h_I0_5_q28148]; rfl
            exact ih I0_5_q28148 L0_l45 M0_l45 r8_q28141 v6_q28149 ⟨by omega, by omega⟩ ⟨by omega, by omega⟩ k_I0_5_q28148 (by omega) (by omega) (by omega)
          · refine wq_in (n := 20) ⟨by omega, by omega⟩ ?_
            refine wq_v (fun M0_7_q28153 h_M0_7_q28153 => ?_)
            have k_M0_7_q28153 : KX12 I0_l45 M0_7_q28153 := by rw [h_M0_7_q28153]; exact KX12.sm17 k_I0_l45
            unfold fX12_best_J118
            refine wq_v (fun I0_5_q28154 h_I0_5_q28154 => ?_)
            have k_I0_5_q28154 : KX12 I0_5_q28154 M0_7_q28153 := by rw [h_I0_5_q28154]; exact KX12.si15 k_M0_7_q28153
            have l_1 := il_1
            have t_28156 := ia_add y45_7 (1 : Int32) (by omega) (by omega)
            refine wq_v (fun v6_q28155 h_v6_q28155 => ?_)
            have t_v6_q28155 := congrArg Int32.toInt h_v6_q28155
            have t_28157 := ia_add (I0_l45 15) (1 : Int32) (by omega) (by omega)
            have t_28158 : (I0_5_q28154 15).toInt = ((I0_l45 15) + (1 : Int32)).toInt := by rw [h_I0_5_q28154]; rfl
            exact ih I0_5_q28154 L0_l45 M0_7_q28153 r8_q28141 v6_q28155 ⟨by omega, by omega⟩ ⟨by omega, by omega⟩ k_I0_5_q28154 (by omega) (by omega) (by omega)
        · refine wq_v (fun I0_9_q28159 h_I0_9_q28159 => ?_)
          have k_I0_9_q28159 : KX12 I0_9_q28159 M0_l45 := by rw [h_I0_9_q28159]; exact KX12.si15 k_I0_l45
          unfold fX12_best_J94
          have l_0 := il_0
          have t_28160 : (I0_9_q28159 15).toInt = (0 : Int32).toInt := by rw [h_I0_9_q28159]; rfl
          refine wq_le (fun hc_28161 => ?_) (fun hc_28162 => ?_)
          · exfalso; omega
          · refine wq_in (n := 20) ⟨by omega, by omega⟩ ?_
            refine wq_v (fun M0_7_q28163 h_M0_7_q28163 => ?_)
            have k_M0_7_q28163 : KX12 I0_9_q28159 M0_7_q28163 := by rw [h_M0_7_q28163]; exact KX12.sm17 k_I0_9_q28159
            unfold fX12_best_J118
            refine wq_v (fun I0_5_q28164 h_I0_5_q28164 => ?_)
            have k_I0_5_q28164 : KX12 I0_5_q28164 M0_7_q28163 := by rw [h_I0_5_q28164]; exact KX12.si15 k_M0_7_q28163
            have l_1 := il_1
            have t_28166 := ia_add y45_7 (1 : Int32) (by omega) (by omega)
            refine wq_v (fun v6_q28165 h_v6_q28165 => ?_)
            have t_v6_q28165 := congrArg Int32.toInt h_v6_q28165
            have t_28167 := ia_add (I0_9_q28159 15) (1 : Int32) (by omega) (by omega)
            have t_28168 : (I0_5_q28164 15).toInt = ((I0_9_q28159 15) + (1 : Int32)).toInt := by rw [h_I0_5_q28164]; rfl
            exact ih I0_5_q28164 L0_l45 M0_7_q28163 r8_q28141 v6_q28165 ⟨by omega, by omega⟩ ⟨by omega, by omega⟩ k_I0_5_q28164 (by omega) (by omega) (by omega)
      · have l_1 := il_1
        have t_28170 := ia_add y45_7 (1 : Int32) (by omega) (by omega)
        refine wq_v (fun v10_q28169 h_v10_q28169 => ?_)
        have t_v10_q28169 := congrArg Int32.toInt h_v10_q28169
        exact ih I0_l45 L0_l45 M0_l45 y45_6 v10_q28169 ⟨by omega, by omega⟩ ⟨by omega, by omega⟩ k_I0_l45 (by omega) (by omega) (by omega)
set_option maxHeartbeats 4000000 in
theorem tt_fX12_best {N : Nat} (hN : 3000000000 ≤ N) (I0 : Nat → Int32) (L0 : Int64) (M0 : Nat → Nat → Int32) (x1 : Int32) (x2 : Int32) (x3 : Int32) (x4 : Int32) (x5 : Int32) (k_I0 : KX12 I0 M0) : wq (fX12_best N I0 L0 M0 x1 x2 x3 x4 x5) (fun r => (0 ≤ r.1.toInt ∧ r.1.toInt ≤ 999) ∧ KX12 r.2.1 r.2.2.2 ∧ True) := by
  unfold fX12_best
  have b_28171 := i32b x1
  have b_28172 := i32b x2
  refine wq_b (tt_fX12_isWheel hN I0 L0 M0 x1 x2 k_I0) (fun r1_q28173 h_r1_q28173 => ?_)
  obtain ⟨h_r1_q28173_0, h_r1_q28173_1, h_r1_q28173_2, h_r1_q28173_3, -⟩ := h_r1_q28173
  have t_28174 := KX12.i1 h_r1_q28173_3
  have t_28175 := KX12.i1 k_I0
  have l_0 := il_0
  refine wq_eq (fun hc_28176 => ?_) (fun hc_28177 => ?_)
  · exact wq_s ⟨(show 0 ≤ (0 : Int32).toInt ∧ (0 : Int32).toInt ≤ 999 from ⟨by omega, by omega⟩), h_r1_q28173_3, trivial⟩
  · have b_28178 := i32b x3
    have l_3 := il_3
    refine wq_b (tt_fX12_within hN x3 (0 : Int32) (3 : Int32)) (fun r2_q28179 h_r2_q28179 => ?_)
    obtain ⟨h_r2_q28179_0, h_r2_q28179_1, -⟩ := h_r2_q28179
    have l_1 := il_1
    refine wq_b (tt_fX12_right hN r1_q28173.2.1 r1_q28173.2.2.1 r1_q28173.2.2.2 r2_q28179 (1 : Int32) ⟨by omega, by omega⟩ h_r1_q28173_3) (fun r3_q28180 h_r3_q28180 => ?_)
    obtain ⟨h_r3_q28180_0, h_r3_q28180_1, h_r3_q28180_2, h_r3_q28180_3, -⟩ := h_r3_q28180
    have t_28181 := KX12.i1 h_r3_q28180_3
    refine wq_eq (fun hc_28182 => ?_) (fun hc_28183 => ?_)
    · exact wq_s ⟨(show 0 ≤ (0 : Int32).toInt ∧ (0 : Int32).toInt ≤ 999 from ⟨by omega, by omega⟩), h_r3_q28180_3, trivial⟩
    · have b_28184 := i32b x4
      have b_28185 := i32b x5
      refine wq_b (tt_fX12_isSpan hN r3_q28180.2.1 r3_q28180.2.2.1 r3_q28180.2.2.2 x4 x5 h_r3_q28180_3) (fun r4_q28186 h_r4_q28186 => ?_)
      obtain ⟨h_r4_q28186_0, h_r4_q28186_1, h_r4_q28186_2, h_r4_q28186_3, -⟩ := h_r4_q28186
      have t_28187 := KX12.i1 h_r4_q28186_3
      refine wq_eq (fun hc_28188 => ?_) (fun hc_28189 => ?_)
      · exact wq_s ⟨(show 0 ≤ (0 : Int32).toInt ∧ (0 : Int32).toInt ≤ 999 from ⟨by omega, by omega⟩), h_r4_q28186_3, trivial⟩
      · have l_999 := il_999
        exact tt_fX12_best_L45 hN x1 x2 x3 x4 x5 ⟨by omega, by omega⟩ ⟨by omega, by omega⟩ ⟨by omega, by omega⟩ ⟨by omega, by omega⟩ ⟨by omega, by omega⟩ N r4_q28186.2.1 r4_q28186.2.2.1 r4_q28186.2.2.2 (999 : Int32) x4 ⟨by omega, by omega⟩ ⟨by omega, by omega⟩ h_r4_q28186_3 (by omega) (by omega) (by omega)
set_option maxHeartbeats 4000000 in
theorem tt_fX12_day {N : Nat} (hN : 3000000000 ≤ N) (I0 : Nat → Int32) (L0 : Int64) (M0 : Nat → Nat → Int32) (x1 : Int32) (k_I0 : KX12 I0 M0) : wq (fX12_day N I0 L0 M0 x1) (fun r => KX12 r.2.1 r.2.2.2 ∧ True) := by
  unfold fX12_day
  refine wq_v (fun I0_2_q28502 h_I0_2_q28502 => ?_)
  have k_I0_2_q28502 : KX12 I0_2_q28502 M0 := by rw [h_I0_2_q28502]; exact KX12.si0 k_I0
  have t_28503 : (I0_2_q28502 15).toInt = (I0 15).toInt := by rw [h_I0_2_q28502]; rfl
  have l_m1 := il_m1
  refine wq_eq (fun hc_28504 => ?_) (fun hc_28505 => ?_)
  · unfold fX12_day_J37
    unfold fX12_day_J38
    have l_0 := il_0
    have l_1 := il_1
    refine wq_b (tt_fX12_right hN I0_2_q28502 L0 M0 (0 : Int32) (1 : Int32) ⟨by omega, by omega⟩ k_I0_2_q28502) (fun r1_q28506 h_r1_q28506 => ?_)
    obtain ⟨h_r1_q28506_0, h_r1_q28506_1, h_r1_q28506_2, h_r1_q28506_3, -⟩ := h_r1_q28506
    have t_28507 := KX12.i1 h_r1_q28506_3
    have t_28508 := KX12.i1 k_I0
    have t_28509 : (I0_2_q28502 1).toInt = (I0 1).toInt := by rw [h_I0_2_q28502]; rfl
    refine wq_eq (fun hc_28510 => ?_) (fun hc_28511 => ?_)
    · exact wq_s ⟨h_r1_q28506_3, trivial⟩
    · have b_28512 := i32b x1
      refine wq_eq (fun hc_28513 => ?_) (fun hc_28514 => ?_)
      · exact wq_s ⟨h_r1_q28506_3, trivial⟩
      · refine wq_in (n := 20) ⟨by omega, by omega⟩ ?_
        exact wq_s ⟨h_r1_q28506_3, trivial⟩
  · have b_28515 := i32b x1
    refine wq_lt (fun hc_28516 => ?_) (fun hc_28517 => ?_)
    · unfold fX12_day_J37
      unfold fX12_day_J38
      have l_0 := il_0
      have l_1 := il_1
      refine wq_b (tt_fX12_right hN I0_2_q28502 L0 M0 (0 : Int32) (1 : Int32) ⟨by omega, by omega⟩ k_I0_2_q28502) (fun r1_q28518 h_r1_q28518 => ?_)
      obtain ⟨h_r1_q28518_0, h_r1_q28518_1, h_r1_q28518_2, h_r1_q28518_3, -⟩ := h_r1_q28518
      have t_28519 := KX12.i1 h_r1_q28518_3
      have t_28520 := KX12.i1 k_I0
      have t_28521 : (I0_2_q28502 1).toInt = (I0 1).toInt := by rw [h_I0_2_q28502]; rfl
      refine wq_eq (fun hc_28522 => ?_) (fun hc_28523 => ?_)
      · exact wq_s ⟨h_r1_q28518_3, trivial⟩
      · refine wq_eq (fun hc_28524 => ?_) (fun hc_28525 => ?_)
        · exfalso; omega
        · refine wq_in (n := 20) ⟨by omega, by omega⟩ ?_
          exact wq_s ⟨h_r1_q28518_3, trivial⟩
    · refine wq_le (fun hc_28526 => ?_) (fun hc_28527 => ?_)
      · unfold fX12_day_J37
        unfold fX12_day_J38
        have l_0 := il_0
        have l_1 := il_1
        refine wq_b (tt_fX12_right hN I0_2_q28502 L0 M0 (0 : Int32) (1 : Int32) ⟨by omega, by omega⟩ k_I0_2_q28502) (fun r1_q28528 h_r1_q28528 => ?_)
        obtain ⟨h_r1_q28528_0, h_r1_q28528_1, h_r1_q28528_2, h_r1_q28528_3, -⟩ := h_r1_q28528
        have t_28529 := KX12.i1 h_r1_q28528_3
        have t_28530 := KX12.i1 k_I0
        have t_28531 : (I0_2_q28502 1).toInt = (I0 1).toInt := by rw [h_I0_2_q28502]; rfl
        refine wq_eq (fun hc_28532 => ?_) (fun hc_28533 => ?_)
        · exact wq_s ⟨h_r1_q28528_3, trivial⟩
        · refine wq_eq (fun hc_28534 => ?_) (fun hc_28535 => ?_)
          · exact wq_s ⟨h_r1_q28528_3, trivial⟩
          · refine wq_in (n := 20) ⟨by omega, by omega⟩ ?_
            exact wq_s ⟨h_r1_q28528_3, trivial⟩
      · have l_20 := il_20
        refine wq_le (fun hc_28536 => ?_) (fun hc_28537 => ?_)
        · unfold fX12_day_J37
          unfold fX12_day_J38
          have l_0 := il_0
          have l_1 := il_1
          refine wq_b (tt_fX12_right hN I0_2_q28502 L0 M0 (0 : Int32) (1 : Int32) ⟨by omega, by omega⟩ k_I0_2_q28502) (fun r1_q28538 h_r1_q28538 => ?_)
          obtain ⟨h_r1_q28538_0, h_r1_q28538_1, h_r1_q28538_2, h_r1_q28538_3, -⟩ := h_r1_q28538
          have t_28539 := KX12.i1 h_r1_q28538_3
          have t_28540 := KX12.i1 k_I0
          have t_28541 : (I0_2_q28502 1).toInt = (I0 1).toInt := by rw [h_I0_2_q28502]; rfl
          refine wq_eq (fun hc_28542 => ?_) (fun hc_28543 => ?_)
          · exact wq_s ⟨h_r1_q28538_3, trivial⟩
          · refine wq_eq (fun hc_28544 => ?_) (fun hc_28545 => ?_)
            · exfalso; omega
            · refine wq_in (n := 20) ⟨by omega, by omega⟩ ?_
              exact wq_s ⟨h_r1_q28538_3, trivial⟩
        · unfold fX12_day_J38
          have l_1 := il_1
          refine wq_b (tt_fX12_right hN I0_2_q28502 L0 M0 (1 : Int32) (1 : Int32) ⟨by omega, by omega⟩ k_I0_2_q28502) (fun r1_q28546 h_r1_q28546 => ?_)
          obtain ⟨h_r1_q28546_0, h_r1_q28546_1, h_r1_q28546_2, h_r1_q28546_3, -⟩ := h_r1_q28546
          have t_28547 := KX12.i1 h_r1_q28546_3
          have t_28548 := KX12.i1 k_I0
          have t_28549 : (I0_2_q28502 1).toInt = (I0 1).toInt := by rw [h_I0_2_q28502]; rfl
          have l_0 := il_0
          refine wq_eq (fun hc_28550 => ?_) (fun hc_28551 => ?_)
          · exact wq_s ⟨h_r1_q28546_3, trivial⟩
          · refine wq_eq (fun hc_28552 => ?_) (fun hc_28553 => ?_)
            · exact wq_s ⟨h_r1_q28546_3, trivial⟩
            · refine wq_in (n := 20) ⟨by omega, by omega⟩ ?_
              exact wq_s ⟨h_r1_q28546_3, trivial⟩
set_option maxHeartbeats 4000000 in
theorem tt_fX12_whose_L64 {N : Nat} (hN : 3000000000 ≤ N) (x1 : Int32) (x2 : Int32) (x3 : Int32) (x4 : Int32) (x5 : Int32) (y50_6 : Int32) (y50_7 : Int32) (y50_8 : Int32) (y50_9 : Int32) (g50 : (Nat → Int32) → Int64 → (Nat → Nat → Int32) → Int32 → Int32 → Int32 → Int32 → Option (Int32 × (Nat → Int32) × Int64 × (Nat → Nat → Int32))) (h_x1 : 0 ≤ x1.toInt ∧ x1.toInt ≤ 5) (h_x2 : 0 ≤ x2.toInt ∧ x2.toInt ≤ 19) (h_x3 : 0 ≤ x3.toInt ∧ x3.toInt ≤ 1000000) (h_x4 : 0 ≤ x4.toInt ∧ x4.toInt ≤ 50000) (h_x5 : 0 ≤ x5.toInt ∧ x5.toInt ≤ 2) (h_y50_6 : 0 ≤ y50_6.toInt ∧ y50_6.toInt ≤ 999) (h_y50_7 : -1 ≤ y50_7.toInt ∧ y50_7.toInt ≤ 3) (h_y50_9 : 0 ≤ y50_9.toInt ∧ y50_9.toInt ≤ 3) (hg50 : ∀ (q0 : (Nat → Int32)) (q1 : Int64) (q2 : (Nat → Nat → Int32)) (q3 : Int32) (q4 : Int32) (q5 : Int32) (q6 : Int32), (0 ≤ q3.toInt ∧ q3.toInt ≤ 999) → (-1 ≤ q4.toInt ∧ q4.toInt ≤ 3) → (0 ≤ q6.toInt ∧ q6.toInt ≤ 4) → (KX12 q0 q2) → (y50_9.toInt < q6.toInt) → wq (g50 q0 q1 q2 q3 q4 q5 q6) (fun r => KX12 r.2.1 r.2.2.2 ∧ True)) : ∀ (fu : Nat) (I0_l64 : (Nat → Int32)) (L0_l64 : Int64) (M0_l64 : (Nat → Nat → Int32)) (y64_10 : Int32) (y64_11 : Int32), (0 ≤ y64_10.toInt ∧ y64_10.toInt ≤ 999) → (0 ≤ y64_11.toInt ∧ y64_11.toInt ≤ 1050001) → (KX12 I0_l64 M0_l64) → (1050001 - y64_11.toInt) < (fu : Int) → wq (fX12_whose_L64 N x1 x2 x3 x4 x5 y50_6 y50_7 y50_8 y50_9 g50 fu I0_l64 L0_l64 M0_l64 y64_10 y64_11) (fun r => KX12 r.2.1 r.2.2.2 ∧ True) := by
  intro fu
  induction fu with
  | zero => intro I0_l64 L0_l64 M0_l64 y64_10 y64_11 h_y64_10 h_y64_11 k_I0_l64 hm; exfalso; omega
  | succ fu ih =>
    intro I0_l64 L0_l64 M0_l64 y64_10 y64_11 h_y64_10 h_y64_11 k_I0_l64 hm
    rw [fX12_whose_L64.eq_2]
    have t_29924 := ia_add x3 x4 (by omega) (by omega)
    refine wq_lt (fun hc_29925 => ?_) (fun hc_29926 => ?_)
    · refine wq_le (fun hc_29927 => ?_) (fun hc_29928 => ?_)
      · refine wq_le (fun hc_29929 => ?_) (fun hc_29930 => ?_)
        · unfold fX12_whose_J138
          refine wq_le (fun hc_29931 => ?_) (fun hc_29932 => ?_)
          · have l_1 := il_1
            have t_29934 := ia_add y50_9 (1 : Int32) (by omega) (by omega)
            refine wq_v (fun v5_q29933 h_v5_q29933 => ?_)
            have t_v5_q29933 := congrArg Int32.toInt h_v5_q29933
            have b_29935 := i32b y50_8
            exact hg50 I0_l64 L0_l64 M0_l64 y64_10 y50_7 (y50_8 + (1 : Int32)) v5_q29933 ⟨by omega, by omega⟩ ⟨by omega, by omega⟩ ⟨by omega, by omega⟩ k_I0_l64 (by omega)
          · have l_1 := il_1
            have t_29937 := ia_add y50_9 (1 : Int32) (by omega) (by omega)
            refine wq_v (fun v6_q29936 h_v6_q29936 => ?_)
            have t_v6_q29936 := congrArg Int32.toInt h_v6_q29936
            have b_29938 := i32b y50_8
            exact hg50 I0_l64 L0_l64 M0_l64 y64_10 y50_9 (y50_8 + (1 : Int32)) v6_q29936 ⟨by omega, by omega⟩ ⟨by omega, by omega⟩ ⟨by omega, by omega⟩ k_I0_l64 (by omega)
        · unfold fX12_whose_J138
          refine wq_le (fun hc_29939 => ?_) (fun hc_29940 => ?_)
          · have l_1 := il_1
            have t_29942 := ia_add y50_9 (1 : Int32) (by omega) (by omega)
            refine wq_v (fun v5_q29941 h_v5_q29941 => ?_)
            have t_v5_q29941 := congrArg Int32.toInt h_v5_q29941
            exact hg50 I0_l64 L0_l64 M0_l64 y64_10 y50_7 (1 : Int32) v5_q29941 ⟨by omega, by omega⟩ ⟨by omega, by omega⟩ ⟨by omega, by omega⟩ k_I0_l64 (by omega)
          · have l_1 := il_1
            have t_29944 := ia_add y50_9 (1 : Int32) (by omega) (by omega)
            refine wq_v (fun v6_q29943 h_v6_q29943 => ?_)
            have t_v6_q29943 := congrArg Int32.toInt h_v6_q29943
            exact hg50 I0_l64 L0_l64 M0_l64 y64_10 y50_9 (1 : Int32) v6_q29943 ⟨by omega, by omega⟩ ⟨by omega, by omega⟩ ⟨by omega, by omega⟩ k_I0_l64 (by omega)
      · have l_1 := il_1
        have t_29946 := ia_add y50_9 (1 : Int32) (by omega) (by omega)
        refine wq_v (fun v7_q29945 h_v7_q29945 => ?_)
        have t_v7_q29945 := congrArg Int32.toInt h_v7_q29945
        have b_29947 := i32b y50_8
        exact hg50 I0_l64 L0_l64 M0_l64 y50_6 y50_7 y50_8 v7_q29945 ⟨by omega, by omega⟩ ⟨by omega, by omega⟩ ⟨by omega, by omega⟩ k_I0_l64 (by omega)
    · have l_20 := il_20
      have t_29948 := ia_mul (20 : Int32) (20) il_20 x1 (by omega) (by omega)
      have t_29949 := ia_add ((20 : Int32) * x1) x2 (by omega) (by omega)
      refine wq_b (tt_fX12_costOn hN I0_l64 L0_l64 M0_l64 (((20 : Int32) * x1) + x2) y50_9 y64_11 y64_10 ⟨by omega, by omega⟩ ⟨by omega, by omega⟩ k_I0_l64) (fun r8_q29950 h_r8_q29950 => ?_)
      obtain ⟨h_r8_q29950_0, -⟩ := h_r8_q29950
      refine wq_le (fun hc_29951 => ?_) (fun hc_29952 => ?_)
      · have l_1 := il_1
        have t_29954 := ia_add y64_11 (1 : Int32) (by omega) (by omega)
        refine wq_v (fun v9_q29953 h_v9_q29953 => ?_)
        have t_v9_q29953 := congrArg Int32.toInt h_v9_q29953
        exact ih I0_l64 L0_l64 M0_l64 y64_10 v9_q29953 ⟨by omega, by omega⟩ ⟨by omega, by omega⟩ k_I0_l64 (by omega)
      · have l_1 := il_1
        have t_29956 := ia_add y64_11 (1 : Int32) (by omega) (by omega)
        refine wq_v (fun v10_q29955 h_v10_q29955 => ?_)
        have t_v10_q29955 := congrArg Int32.toInt h_v10_q29955
        exact ih I0_l64 L0_l64 M0_l64 r8_q29950 v10_q29955 ⟨by omega, by omega⟩ ⟨by omega, by omega⟩ k_I0_l64 (by omega)
set_option maxHeartbeats 4000000 in
theorem tt_fX12_whose_L50 {N : Nat} (hN : 3000000000 ≤ N) (x1 : Int32) (x2 : Int32) (x3 : Int32) (x4 : Int32) (x5 : Int32) (h_x1 : 0 ≤ x1.toInt ∧ x1.toInt ≤ 5) (h_x2 : 0 ≤ x2.toInt ∧ x2.toInt ≤ 19) (h_x3 : 0 ≤ x3.toInt ∧ x3.toInt ≤ 1000000) (h_x4 : 0 ≤ x4.toInt ∧ x4.toInt ≤ 50000) (h_x5 : 0 ≤ x5.toInt ∧ x5.toInt ≤ 2)  : ∀ (fu : Nat) (I0_l50 : (Nat → Int32)) (L0_l50 : Int64) (M0_l50 : (Nat → Nat → Int32)) (y50_6 : Int32) (y50_7 : Int32) (y50_8 : Int32) (y50_9 : Int32), (0 ≤ y50_6.toInt ∧ y50_6.toInt ≤ 999) → (-1 ≤ y50_7.toInt ∧ y50_7.toInt ≤ 3) → (0 ≤ y50_9.toInt ∧ y50_9.toInt ≤ 4) → (KX12 I0_l50 M0_l50) → (4 - y50_9.toInt) < (fu : Int) → wq (fX12_whose_L50 N x1 x2 x3 x4 x5 fu I0_l50 L0_l50 M0_l50 y50_6 y50_7 y50_8 y50_9) (fun r => KX12 r.2.1 r.2.2.2 ∧ True) := by
  intro fu
  induction fu with
  | zero => intro I0_l50 L0_l50 M0_l50 y50_6 y50_7 y50_8 y50_9 h_y50_6 h_y50_7 h_y50_9 k_I0_l50 hm; exfalso; omega
  | succ fu ih =>
    intro I0_l50 L0_l50 M0_l50 y50_6 y50_7 y50_8 y50_9 h_y50_6 h_y50_7 h_y50_9 k_I0_l50 hm
    rw [fX12_whose_L50.eq_2]
    have l_4 := il_4
    refine wq_le (fun hc_29957 => ?_) (fun hc_29958 => ?_)
    · have l_0 := il_0
      refine wq_eq (fun hc_29959 => ?_) (fun hc_29960 => ?_)
      · exact wq_s ⟨k_I0_l50, trivial⟩
      · have l_1 := il_1
        refine wq_eq (fun hc_29961 => ?_) (fun hc_29962 => ?_)
        · exact wq_s ⟨k_I0_l50, trivial⟩
        · have b_29963 := i32b y50_8
          exact wq_s ⟨k_I0_l50, trivial⟩
    · have b_29964 := i32b y50_8
      have l_999 := il_999
      exact tt_fX12_whose_L64 hN x1 x2 x3 x4 x5 y50_6 y50_7 y50_8 y50_9 _ ⟨by omega, by omega⟩ ⟨by omega, by omega⟩ ⟨by omega, by omega⟩ ⟨by omega, by omega⟩ ⟨by omega, by omega⟩ ⟨by omega, by omega⟩ ⟨by omega, by omega⟩ ⟨by omega, by omega⟩ (fun q0 q1 q2 q3 q4 q5 q6 hq0 hq1 hq2 hq3 hq4 => ih q0 q1 q2 q3 q4 q5 q6 hq0 hq1 hq2 hq3 (by omega)) N I0_l50 L0_l50 M0_l50 (999 : Int32) x3 ⟨by omega, by omega⟩ ⟨by omega, by omega⟩ k_I0_l50 (by omega)
set_option maxHeartbeats 4000000 in
theorem tt_fX12_whose {N : Nat} (hN : 3000000000 ≤ N) (I0 : Nat → Int32) (L0 : Int64) (M0 : Nat → Nat → Int32) (x1 : Int32) (x2 : Int32) (x3 : Int32) (x4 : Int32) (x5 : Int32) (k_I0 : KX12 I0 M0) : wq (fX12_whose N I0 L0 M0 x1 x2 x3 x4 x5) (fun r => KX12 r.2.1 r.2.2.2 ∧ True) := by
  unfold fX12_whose
  have b_29965 := i32b x1
  have b_29966 := i32b x2
  refine wq_b (tt_fX12_isWheel hN I0 L0 M0 x1 x2 k_I0) (fun r1_q29967 h_r1_q29967 => ?_)
  obtain ⟨h_r1_q29967_0, h_r1_q29967_1, h_r1_q29967_2, h_r1_q29967_3, -⟩ := h_r1_q29967
  have t_29968 := KX12.i1 h_r1_q29967_3
  have t_29969 := KX12.i1 k_I0
  have l_0 := il_0
  refine wq_eq (fun hc_29970 => ?_) (fun hc_29971 => ?_)
  · exact wq_s ⟨h_r1_q29967_3, trivial⟩
  · have b_29972 := i32b x5
    have l_2 := il_2
    refine wq_b (tt_fX12_within hN x5 (0 : Int32) (2 : Int32)) (fun r2_q29973 h_r2_q29973 => ?_)
    obtain ⟨h_r2_q29973_0, h_r2_q29973_1, -⟩ := h_r2_q29973
    have l_1 := il_1
    refine wq_b (tt_fX12_right hN r1_q29967.2.1 r1_q29967.2.2.1 r1_q29967.2.2.2 r2_q29973 (1 : Int32) ⟨by omega, by omega⟩ h_r1_q29967_3) (fun r3_q29974 h_r3_q29974 => ?_)
    obtain ⟨h_r3_q29974_0, h_r3_q29974_1, h_r3_q29974_2, h_r3_q29974_3, -⟩ := h_r3_q29974
    have t_29975 := KX12.i1 h_r3_q29974_3
    refine wq_eq (fun hc_29976 => ?_) (fun hc_29977 => ?_)
    · exact wq_s ⟨h_r3_q29974_3, trivial⟩
    · have b_29978 := i32b x3
      have b_29979 := i32b x4
      refine wq_b (tt_fX12_isSpan hN r3_q29974.2.1 r3_q29974.2.2.1 r3_q29974.2.2.2 x3 x4 h_r3_q29974_3) (fun r4_q29980 h_r4_q29980 => ?_)
      obtain ⟨h_r4_q29980_0, h_r4_q29980_1, h_r4_q29980_2, h_r4_q29980_3, -⟩ := h_r4_q29980
      have t_29981 := KX12.i1 h_r4_q29980_3
      refine wq_eq (fun hc_29982 => ?_) (fun hc_29983 => ?_)
      · exact wq_s ⟨h_r4_q29980_3, trivial⟩
      · have l_999 := il_999
        have l_m1 := il_m1
        exact tt_fX12_whose_L50 hN x1 x2 x3 x4 x5 ⟨by omega, by omega⟩ ⟨by omega, by omega⟩ ⟨by omega, by omega⟩ ⟨by omega, by omega⟩ ⟨by omega, by omega⟩ N r4_q29980.2.1 r4_q29980.2.2.1 r4_q29980.2.2.2 (999 : Int32) ((-1) : Int32) (0 : Int32) (0 : Int32) ⟨by omega, by omega⟩ ⟨by omega, by omega⟩ ⟨by omega, by omega⟩ h_r4_q29980_3 (by omega)
set_option maxHeartbeats 4000000 in
theorem tt_fX12_isMixed_L41 {N : Nat} (hN : 3000000000 ≤ N) (I0 : Nat → Int32) (L0 : Int64) (M0 : Nat → Nat → Int32) (x1 : Int32) (x2 : Int32) (y9_3 : Int32) (y9_5 : Int32) (g9 : Int32 → Int32 → Int32 → Option (Int32)) (h_x1 : 0 ≤ x1.toInt ∧ x1.toInt ≤ 119) (h_y9_5 : 0 ≤ y9_5.toInt ∧ y9_5.toInt ≤ 6) (k_I0 : KX12 I0 M0) (hg9 : ∀ (q0 : Int32) (q1 : Int32) (q2 : Int32), (0 ≤ q1.toInt ∧ q1.toInt ≤ 1) → (0 ≤ q2.toInt ∧ q2.toInt ≤ 7) → (y9_5.toInt < q2.toInt) → wq (g9 q0 q1 q2) (fun r => (0 ≤ r.toInt ∧ r.toInt ≤ 1) ∧ True)) : ∀ (fu : Nat) (y41_6 : Int32) (y41_7 : Int32), (0 ≤ y41_6.toInt ∧ y41_6.toInt ≤ 255) → (0 ≤ y41_7.toInt ∧ y41_7.toInt ≤ 4) → (4 - y41_7.toInt) < (fu : Int) → wq (fX12_isMixed_L41 N I0 L0 M0 x1 x2 y9_3 y9_5 g9 fu y41_6 y41_7) (fun r => (0 ≤ r.toInt ∧ r.toInt ≤ 1) ∧ True) := by
  intro fu
  induction fu with
  | zero => intro y41_6 y41_7 h_y41_6 h_y41_7 hm; exfalso; omega
  | succ fu ih =>
    intro y41_6 y41_7 h_y41_6 h_y41_7 hm
    rw [fX12_isMixed_L41.eq_2]
    have l_4 := il_4
    refine wq_le (fun hc_30478 => ?_) (fun hc_30479 => ?_)
    · refine wq_v (fun v2_q30480 h_v2_q30480 => ?_)
      have t_v2_q30480 := congrArg Int32.toInt h_v2_q30480
      have l_0 := il_0
      refine wq_eq (fun hc_30481 => ?_) (fun hc_30482 => ?_)
      · have l_1 := il_1
        have t_30484 := ia_add y9_5 (1 : Int32) (by omega) (by omega)
        refine wq_v (fun v3_q30483 h_v3_q30483 => ?_)
        have t_v3_q30483 := congrArg Int32.toInt h_v3_q30483
        have b_30485 := i32b v2_q30480
        exact hg9 v2_q30480 (0 : Int32) v3_q30483 ⟨by omega, by omega⟩ ⟨by omega, by omega⟩ (by omega)
      · have l_1 := il_1
        have t_30487 := ia_add y9_5 (1 : Int32) (by omega) (by omega)
        refine wq_v (fun v4_q30486 h_v4_q30486 => ?_)
        have t_v4_q30486 := congrArg Int32.toInt h_v4_q30486
        have b_30488 := i32b v2_q30480
        exact hg9 v2_q30480 (1 : Int32) v4_q30486 ⟨by omega, by omega⟩ ⟨by omega, by omega⟩ (by omega)
    · have b_30489 := i32b x2
      refine wq_b (tt_fX12_placeOn hN I0 L0 M0 y41_7 y9_5 x2 ⟨by omega, by omega⟩ ⟨by omega, by omega⟩ k_I0) (fun r5_q30490 h_r5_q30490 => ?_)
      obtain ⟨-⟩ := h_r5_q30490
      refine wq_b (tt_fX12_at hN I0 L0 M0 x1 y9_5 ⟨by omega, by omega⟩ ⟨by omega, by omega⟩ k_I0) (fun r6_q30491 h_r6_q30491 => ?_)
      obtain ⟨h_r6_q30491_0, h_r6_q30491_1, h_r6_q30491_2, -⟩ := h_r6_q30491
      have b_30492 := i32b r5_q30490
      have l_60 := il_60
      have t_30493 := i32b r5_q30490
      have t_30494 := ia_div2 r5_q30490 (60 : Int32) 60 il_60 (by decide)
      refine wq_eq (fun hc_30495 => ?_) (fun hc_30496 => ?_)
      · have t_30498 := or_sh y41_6 y41_7 ⟨by omega, by omega⟩ ⟨by omega, by omega⟩
        refine wq_v (fun v8_q30497 h_v8_q30497 => ?_)
        have t_v8_q30497 := congrArg Int32.toInt h_v8_q30497
        have l_1 := il_1
        have t_30500 := ia_add y41_7 (1 : Int32) (by omega) (by omega)
        refine wq_v (fun v9_q30499 h_v9_q30499 => ?_)
        have t_v9_q30499 := congrArg Int32.toInt h_v9_q30499
        exact ih v8_q30497 v9_q30499 ⟨by omega, by omega⟩ ⟨by omega, by omega⟩ (by omega)
      · have l_1 := il_1
        have t_30502 := ia_add y41_7 (1 : Int32) (by omega) (by omega)
        refine wq_v (fun v7_q30501 h_v7_q30501 => ?_)
        have t_v7_q30501 := congrArg Int32.toInt h_v7_q30501
        exact ih y41_6 v7_q30501 ⟨by omega, by omega⟩ ⟨by omega, by omega⟩ (by omega)
set_option maxHeartbeats 4000000 in
theorem tt_fX12_isMixed_L9 {N : Nat} (hN : 3000000000 ≤ N) (I0 : Nat → Int32) (L0 : Int64) (M0 : Nat → Nat → Int32) (x1 : Int32) (x2 : Int32) (h_x1 : 0 ≤ x1.toInt ∧ x1.toInt ≤ 119) (k_I0 : KX12 I0 M0)  : ∀ (fu : Nat) (y9_3 : Int32) (y9_4 : Int32) (y9_5 : Int32), (0 ≤ y9_4.toInt ∧ y9_4.toInt ≤ 1) → (0 ≤ y9_5.toInt ∧ y9_5.toInt ≤ 7) → (7 - y9_5.toInt) < (fu : Int) → wq (fX12_isMixed_L9 N I0 L0 M0 x1 x2 fu y9_3 y9_4 y9_5) (fun r => (0 ≤ r.toInt ∧ r.toInt ≤ 1) ∧ True) := by
  intro fu
  induction fu with
  | zero => intro y9_3 y9_4 y9_5 h_y9_4 h_y9_5 hm; exfalso; omega
  | succ fu ih =>
    intro y9_3 y9_4 y9_5 h_y9_4 h_y9_5 hm
    rw [fX12_isMixed_L9.eq_2]
    have l_7 := il_7
    refine wq_le (fun hc_30503 => ?_) (fun hc_30504 => ?_)
    · unfold fX12_isMixed_J107
      have l_0 := il_0
      refine wq_eq (fun hc_30505 => ?_) (fun hc_30506 => ?_)
      · exact wq_s ⟨(show 0 ≤ (0 : Int32).toInt ∧ (0 : Int32).toInt ≤ 1 from ⟨by omega, by omega⟩), trivial⟩
      · have b_30507 := i32b y9_3
        refine wq_eq (fun hc_30508 => ?_) (fun hc_30509 => ?_)
        · have l_1 := il_1
          exact wq_s ⟨(show 0 ≤ (1 : Int32).toInt ∧ (1 : Int32).toInt ≤ 1 from ⟨by omega, by omega⟩), trivial⟩
        · exact wq_s ⟨(show 0 ≤ (0 : Int32).toInt ∧ (0 : Int32).toInt ≤ 1 from ⟨by omega, by omega⟩), trivial⟩
    · have l_0 := il_0
      refine wq_eq (fun hc_30510 => ?_) (fun hc_30511 => ?_)
      · unfold fX12_isMixed_J107
        refine wq_eq (fun hc_30512 => ?_) (fun hc_30513 => ?_)
        · exact wq_s ⟨(show 0 ≤ (0 : Int32).toInt ∧ (0 : Int32).toInt ≤ 1 from ⟨by omega, by omega⟩), trivial⟩
        · exfalso; omega
      · refine wq_b (tt_fX12_at hN I0 L0 M0 x1 y9_5 ⟨by omega, by omega⟩ ⟨by omega, by omega⟩ k_I0) (fun r1_q30514 h_r1_q30514 => ?_)
        obtain ⟨h_r1_q30514_0, h_r1_q30514_1, h_r1_q30514_2, -⟩ := h_r1_q30514
        have l_m1 := il_m1
        refine wq_eq (fun hc_30515 => ?_) (fun hc_30516 => ?_)
        · have l_1 := il_1
          have t_30518 := ia_add y9_5 (1 : Int32) (by omega) (by omega)
          refine wq_v (fun v10_q30517 h_v10_q30517 => ?_)
          have t_v10_q30517 := congrArg Int32.toInt h_v10_q30517
          have b_30519 := i32b y9_3
          exact ih y9_3 y9_4 v10_q30517 ⟨by omega, by omega⟩ ⟨by omega, by omega⟩ (by omega)
        · have b_30520 := i32b x2
          have b_30521 := i32b y9_3
          exact tt_fX12_isMixed_L41 hN I0 L0 M0 x1 x2 y9_3 y9_5 _ ⟨by omega, by omega⟩ ⟨by omega, by omega⟩ k_I0 (fun q0 q1 q2 hq0 hq1 hq2 => ih q0 q1 q2 hq0 hq1 (by omega)) N (0 : Int32) (0 : Int32) ⟨by omega, by omega⟩ ⟨by omega, by omega⟩ (by omega)
set_option maxHeartbeats 4000000 in
theorem tt_fX12_isMixed {N : Nat} (hN : 3000000000 ≤ N) (I0 : Nat → Int32) (L0 : Int64) (M0 : Nat → Nat → Int32) (x1 : Int32) (x2 : Int32) (h_x1 : 0 ≤ x1.toInt ∧ x1.toInt ≤ 119) (k_I0 : KX12 I0 M0) : wq (fX12_isMixed N I0 L0 M0 x1 x2) (fun r => (0 ≤ r.toInt ∧ r.toInt ≤ 1) ∧ True) := by
  unfold fX12_isMixed
  have b_30522 := i32b x2
  have l_15 := il_15
  have l_1 := il_1
  have l_0 := il_0
  exact tt_fX12_isMixed_L9 hN I0 L0 M0 x1 x2 ⟨by omega, by omega⟩ k_I0 N (15 : Int32) (1 : Int32) (0 : Int32) ⟨by omega, by omega⟩ ⟨by omega, by omega⟩ (by omega)
set_option maxHeartbeats 4000000 in
theorem tt_fX12_mixed_L27 {N : Nat} (hN : 3000000000 ≤ N) (x1 : Int32) (x2 : Int32) (x3 : Int32) (x4 : Int32) (h_x1 : 0 ≤ x1.toInt ∧ x1.toInt ≤ 5) (h_x2 : 0 ≤ x2.toInt ∧ x2.toInt ≤ 19) (h_x3 : 0 ≤ x3.toInt ∧ x3.toInt ≤ 1000000) (h_x4 : 0 ≤ x4.toInt ∧ x4.toInt ≤ 50000)  : ∀ (fu : Nat) (I0_l27 : (Nat → Int32)) (L0_l27 : Int64) (M0_l27 : (Nat → Nat → Int32)) (y27_5 : Int32) (y27_6 : Int32), (0 ≤ y27_6.toInt ∧ y27_6.toInt ≤ 1050001) → (KX12 I0_l27 M0_l27) → (1050001 - y27_6.toInt) < (fu : Int) → wq (fX12_mixed_L27 N x1 x2 x3 x4 fu I0_l27 L0_l27 M0_l27 y27_5 y27_6) (fun r => KX12 r.2.1 r.2.2.2 ∧ True) := by
  intro fu
  induction fu with
  | zero => intro I0_l27 L0_l27 M0_l27 y27_5 y27_6 h_y27_6 k_I0_l27 hm; exfalso; omega
  | succ fu ih =>
    intro I0_l27 L0_l27 M0_l27 y27_5 y27_6 h_y27_6 k_I0_l27 hm
    rw [fX12_mixed_L27.eq_2]
    have t_31097 := ia_add x3 x4 (by omega) (by omega)
    refine wq_lt (fun hc_31098 => ?_) (fun hc_31099 => ?_)
    · have b_31100 := i32b y27_5
      exact wq_s ⟨k_I0_l27, trivial⟩
    · have l_20 := il_20
      have t_31101 := ia_mul (20 : Int32) (20) il_20 x1 (by omega) (by omega)
      have t_31102 := ia_add ((20 : Int32) * x1) x2 (by omega) (by omega)
      refine wq_b (tt_fX12_isMixed hN I0_l27 L0_l27 M0_l27 (((20 : Int32) * x1) + x2) y27_6 ⟨by omega, by omega⟩ k_I0_l27) (fun r3_q31103 h_r3_q31103 => ?_)
      obtain ⟨h_r3_q31103_0, -⟩ := h_r3_q31103
      have l_0 := il_0
      refine wq_eq (fun hc_31104 => ?_) (fun hc_31105 => ?_)
      · have l_1 := il_1
        have t_31107 := ia_add y27_6 (1 : Int32) (by omega) (by omega)
        refine wq_v (fun v4_q31106 h_v4_q31106 => ?_)
        have t_v4_q31106 := congrArg Int32.toInt h_v4_q31106
        have b_31108 := i32b y27_5
        exact ih I0_l27 L0_l27 M0_l27 y27_5 v4_q31106 ⟨by omega, by omega⟩ k_I0_l27 (by omega)
      · have b_31110 := i32b y27_5
        have l_1 := il_1
        refine wq_v (fun v5_q31109 h_v5_q31109 => ?_)
        have t_v5_q31109 := congrArg Int32.toInt h_v5_q31109
        have t_31112 := ia_add y27_6 (1 : Int32) (by omega) (by omega)
        refine wq_v (fun v6_q31111 h_v6_q31111 => ?_)
        have t_v6_q31111 := congrArg Int32.toInt h_v6_q31111
        have b_31113 := i32b v5_q31109
        exact ih I0_l27 L0_l27 M0_l27 v5_q31109 v6_q31111 ⟨by omega, by omega⟩ k_I0_l27 (by omega)
set_option maxHeartbeats 4000000 in
theorem tt_fX12_mixed {N : Nat} (hN : 3000000000 ≤ N) (I0 : Nat → Int32) (L0 : Int64) (M0 : Nat → Nat → Int32) (x1 : Int32) (x2 : Int32) (x3 : Int32) (x4 : Int32) (k_I0 : KX12 I0 M0) : wq (fX12_mixed N I0 L0 M0 x1 x2 x3 x4) (fun r => KX12 r.2.1 r.2.2.2 ∧ True) := by
  unfold fX12_mixed
  have b_31114 := i32b x1
  have b_31115 := i32b x2
  refine wq_b (tt_fX12_isWheel hN I0 L0 M0 x1 x2 k_I0) (fun r1_q31116 h_r1_q31116 => ?_)
  obtain ⟨h_r1_q31116_0, h_r1_q31116_1, h_r1_q31116_2, h_r1_q31116_3, -⟩ := h_r1_q31116
  have t_31117 := KX12.i1 h_r1_q31116_3
  have t_31118 := KX12.i1 k_I0
  have l_0 := il_0
  refine wq_eq (fun hc_31119 => ?_) (fun hc_31120 => ?_)
  · exact wq_s ⟨h_r1_q31116_3, trivial⟩
  · have b_31121 := i32b x3
    have b_31122 := i32b x4
    refine wq_b (tt_fX12_isSpan hN r1_q31116.2.1 r1_q31116.2.2.1 r1_q31116.2.2.2 x3 x4 h_r1_q31116_3) (fun r2_q31123 h_r2_q31123 => ?_)
    obtain ⟨h_r2_q31123_0, h_r2_q31123_1, h_r2_q31123_2, h_r2_q31123_3, -⟩ := h_r2_q31123
    have t_31124 := KX12.i1 h_r2_q31123_3
    refine wq_eq (fun hc_31125 => ?_) (fun hc_31126 => ?_)
    · exact wq_s ⟨h_r2_q31123_3, trivial⟩
    · exact tt_fX12_mixed_L27 hN x1 x2 x3 x4 ⟨by omega, by omega⟩ ⟨by omega, by omega⟩ ⟨by omega, by omega⟩ ⟨by omega, by omega⟩ N r2_q31123.2.1 r2_q31123.2.2.1 r2_q31123.2.2.2 (0 : Int32) x3 ⟨by omega, by omega⟩ h_r2_q31123_3 (by omega)

set_option maxHeartbeats 4000000 in
theorem tt_fX12_cost {N : Nat} (hN : 3000000000 ≤ N) (I0 : Nat → Int32) (L0 : Int64) (M0 : Nat → Nat → Int32) (x1 : Int32) (x2 : Int32) (x3 : Int32) (x4 : Int32) (k_I0 : KX12 I0 M0) : wq (fX12_cost N I0 L0 M0 x1 x2 x3 x4) (fun r => (0 ≤ r.1.toInt ∧ r.1.toInt ≤ 93) ∧ KX12 r.2.1 r.2.2.2 ∧ True) := by
  unfold fX12_cost
  have b_32408 := i32b x1
  have b_32409 := i32b x2
  refine wq_b (tt_fX12_isWheel hN I0 L0 M0 x1 x2 k_I0) (fun r3_q32410 h_r3_q32410 => ?_)
  obtain ⟨h_r3_q32410_0, h_r3_q32410_1, h_r3_q32410_2, h_r3_q32410_3, -⟩ := h_r3_q32410
  have t_32411 := KX12.i1 h_r3_q32410_3
  have t_32412 := KX12.i1 k_I0
  have l_0 := il_0
  refine wq_eq (fun hc_32413 => ?_) (fun hc_32414 => ?_)
  · exact wq_s ⟨(show 0 ≤ (0 : Int32).toInt ∧ (0 : Int32).toInt ≤ 93 from ⟨by omega, by omega⟩), h_r3_q32410_3, trivial⟩
  · have b_32415 := i32b x3
    have l_3 := il_3
    refine wq_b (tt_fX12_within hN x3 (0 : Int32) (3 : Int32)) (fun r4_q32416 h_r4_q32416 => ?_)
    obtain ⟨h_r4_q32416_0, h_r4_q32416_1, -⟩ := h_r4_q32416
    refine wq_eq (fun hc_32417 => ?_) (fun hc_32418 => ?_)
    · unfold fX12_cost_J34
      unfold fX12_cost_J35
      have l_1 := il_1
      refine wq_b (tt_fX12_right hN r3_q32410.2.1 r3_q32410.2.2.1 r3_q32410.2.2.2 (0 : Int32) (1 : Int32) ⟨by omega, by omega⟩ h_r3_q32410_3) (fun r1_q32419 h_r1_q32419 => ?_)
      obtain ⟨h_r1_q32419_0, h_r1_q32419_1, h_r1_q32419_2, h_r1_q32419_3, -⟩ := h_r1_q32419
      have t_32420 := KX12.i1 h_r1_q32419_3
      refine wq_eq (fun hc_32421 => ?_) (fun hc_32422 => ?_)
      · exact wq_s ⟨(show 0 ≤ (0 : Int32).toInt ∧ (0 : Int32).toInt ≤ 93 from ⟨by omega, by omega⟩), h_r1_q32419_3, trivial⟩
      · have l_20 := il_20
        have t_32423 := ia_mul (20 : Int32) (20) il_20 x1 (by omega) (by omega)
        have t_32424 := ia_add ((20 : Int32) * x1) x2 (by omega) (by omega)
        have b_32425 := i32b x4
        have l_999 := il_999
        refine wq_b (tt_fX12_costOn hN r1_q32419.2.1 r1_q32419.2.2.1 r1_q32419.2.2.2 (((20 : Int32) * x1) + x2) x3 x4 (999 : Int32) ⟨by omega, by omega⟩ ⟨by omega, by omega⟩ h_r1_q32419_3) (fun r2_q32426 h_r2_q32426 => ?_)
        obtain ⟨h_r2_q32426_0, -⟩ := h_r2_q32426
        exact wq_s ⟨(show 0 ≤ r2_q32426.toInt ∧ r2_q32426.toInt ≤ 93 from ⟨by omega, by omega⟩), h_r1_q32419_3, trivial⟩
    · have b_32427 := i32b x4
      have l_1000000 := il_1000000
      refine wq_b (tt_fX12_within hN x4 (0 : Int32) (1000000 : Int32)) (fun r5_q32428 h_r5_q32428 => ?_)
      obtain ⟨h_r5_q32428_0, h_r5_q32428_1, -⟩ := h_r5_q32428
      refine wq_eq (fun hc_32429 => ?_) (fun hc_32430 => ?_)
      · unfold fX12_cost_J34
        unfold fX12_cost_J35
        have l_1 := il_1
        refine wq_b (tt_fX12_right hN r3_q32410.2.1 r3_q32410.2.2.1 r3_q32410.2.2.2 (0 : Int32) (1 : Int32) ⟨by omega, by omega⟩ h_r3_q32410_3) (fun r1_q32431 h_r1_q32431 => ?_)
        obtain ⟨h_r1_q32431_0, h_r1_q32431_1, h_r1_q32431_2, h_r1_q32431_3, -⟩ := h_r1_q32431
        have t_32432 := KX12.i1 h_r1_q32431_3
        refine wq_eq (fun hc_32433 => ?_) (fun hc_32434 => ?_)
        · exact wq_s ⟨(show 0 ≤ (0 : Int32).toInt ∧ (0 : Int32).toInt ≤ 93 from ⟨by omega, by omega⟩), h_r1_q32431_3, trivial⟩
        · have l_20 := il_20
          have t_32435 := ia_mul (20 : Int32) (20) il_20 x1 (by omega) (by omega)
          have t_32436 := ia_add ((20 : Int32) * x1) x2 (by omega) (by omega)
          have l_999 := il_999
          refine wq_b (tt_fX12_costOn hN r1_q32431.2.1 r1_q32431.2.2.1 r1_q32431.2.2.2 (((20 : Int32) * x1) + x2) x3 x4 (999 : Int32) ⟨by omega, by omega⟩ ⟨by omega, by omega⟩ h_r1_q32431_3) (fun r2_q32437 h_r2_q32437 => ?_)
          obtain ⟨h_r2_q32437_0, -⟩ := h_r2_q32437
          exact wq_s ⟨(show 0 ≤ r2_q32437.toInt ∧ r2_q32437.toInt ≤ 93 from ⟨by omega, by omega⟩), h_r1_q32431_3, trivial⟩
      · unfold fX12_cost_J35
        have l_1 := il_1
        refine wq_b (tt_fX12_right hN r3_q32410.2.1 r3_q32410.2.2.1 r3_q32410.2.2.2 (1 : Int32) (1 : Int32) ⟨by omega, by omega⟩ h_r3_q32410_3) (fun r1_q32438 h_r1_q32438 => ?_)
        obtain ⟨h_r1_q32438_0, h_r1_q32438_1, h_r1_q32438_2, h_r1_q32438_3, -⟩ := h_r1_q32438
        have t_32439 := KX12.i1 h_r1_q32438_3
        refine wq_eq (fun hc_32440 => ?_) (fun hc_32441 => ?_)
        · exact wq_s ⟨(show 0 ≤ (0 : Int32).toInt ∧ (0 : Int32).toInt ≤ 93 from ⟨by omega, by omega⟩), h_r1_q32438_3, trivial⟩
        · have l_20 := il_20
          have t_32442 := ia_mul (20 : Int32) (20) il_20 x1 (by omega) (by omega)
          have t_32443 := ia_add ((20 : Int32) * x1) x2 (by omega) (by omega)
          have l_999 := il_999
          refine wq_b (tt_fX12_costOn hN r1_q32438.2.1 r1_q32438.2.2.1 r1_q32438.2.2.2 (((20 : Int32) * x1) + x2) x3 x4 (999 : Int32) ⟨by omega, by omega⟩ ⟨by omega, by omega⟩ h_r1_q32438_3) (fun r2_q32444 h_r2_q32444 => ?_)
          obtain ⟨h_r2_q32444_0, -⟩ := h_r2_q32444
          exact wq_s ⟨(show 0 ≤ r2_q32444.toInt ∧ r2_q32444.toInt ≤ 93 from ⟨by omega, by omega⟩), h_r1_q32438_3, trivial⟩
set_option maxHeartbeats 4000000 in
theorem tt_fX12_isSpan {N : Nat} (hN : 3000000000 ≤ N) (I0 : Nat → Int32) (L0 : Int64) (M0 : Nat → Nat → Int32) (x1 : Int32) (x2 : Int32) (k_I0 : KX12 I0 M0) : wq (fX12_isSpan N I0 L0 M0 x1 x2) (fun r => (r.1.toInt = 0 ∨ (r.1.toInt = 1 ∧ 0 ≤ x1.toInt ∧ x1.toInt ≤ 1000000 ∧ 0 ≤ x2.toInt ∧ x2.toInt ≤ 50000 ∧ x1.toInt + x2.toInt ≤ 1000000)) ∧ (r.2.1 1).toInt = (I0 1).toInt ∧ (0 ≤ r.1.toInt ∧ r.1.toInt ≤ 1) ∧ KX12 r.2.1 r.2.2.2 ∧ True) := by
  unfold fX12_isSpan
  have b_32601 := i32b x1
  have l_0 := il_0
  have l_1000000 := il_1000000
  refine wq_b (tt_fX12_within hN x1 (0 : Int32) (1000000 : Int32)) (fun r2_q32602 h_r2_q32602 => ?_)
  obtain ⟨h_r2_q32602_0, h_r2_q32602_1, -⟩ := h_r2_q32602
  have l_1 := il_1
  refine wq_b (tt_fX12_right hN I0 L0 M0 r2_q32602 (1 : Int32) ⟨by omega, by omega⟩ k_I0) (fun r3_q32603 h_r3_q32603 => ?_)
  obtain ⟨h_r3_q32603_0, h_r3_q32603_1, h_r3_q32603_2, h_r3_q32603_3, -⟩ := h_r3_q32603
  have t_32604 := KX12.i1 h_r3_q32603_3
  have t_32605 := KX12.i1 k_I0
  refine wq_eq (fun hc_32606 => ?_) (fun hc_32607 => ?_)
  · have b_32608 := i32b x2
    exact wq_s ⟨(show ((0 : Int32).toInt = 0 ∨ ((0 : Int32).toInt = 1 ∧ 0 ≤ x1.toInt ∧ x1.toInt ≤ 1000000 ∧ 0 ≤ x2.toInt ∧ x2.toInt ≤ 50000 ∧ x1.toInt + x2.toInt ≤ 1000000)) from by omega), (show (r3_q32603.2.1 1).toInt = (I0 1).toInt from by omega), (show 0 ≤ (0 : Int32).toInt ∧ (0 : Int32).toInt ≤ 1 from ⟨by omega, by omega⟩), h_r3_q32603_3, trivial⟩
  · have b_32609 := i32b x2
    have l_50000 := il_50000
    refine wq_b (tt_fX12_within hN x2 (0 : Int32) (50000 : Int32)) (fun r4_q32610 h_r4_q32610 => ?_)
    obtain ⟨h_r4_q32610_0, h_r4_q32610_1, -⟩ := h_r4_q32610
    refine wq_eq (fun hc_32611 => ?_) (fun hc_32612 => ?_)
    · unfold fX12_isSpan_J39
      have l_2 := il_2
      refine wq_b (tt_fX12_right hN r3_q32603.2.1 r3_q32603.2.2.1 r3_q32603.2.2.2 (0 : Int32) (2 : Int32) ⟨by omega, by omega⟩ h_r3_q32603_3) (fun r1_q32613 h_r1_q32613 => ?_)
      obtain ⟨h_r1_q32613_0, h_r1_q32613_1, h_r1_q32613_2, h_r1_q32613_3, -⟩ := h_r1_q32613
      have t_32614 := KX12.i1 h_r1_q32613_3
      refine wq_eq (fun hc_32615 => ?_) (fun hc_32616 => ?_)
      · exact wq_s ⟨(show ((0 : Int32).toInt = 0 ∨ ((0 : Int32).toInt = 1 ∧ 0 ≤ x1.toInt ∧ x1.toInt ≤ 1000000 ∧ 0 ≤ x2.toInt ∧ x2.toInt ≤ 50000 ∧ x1.toInt + x2.toInt ≤ 1000000)) from by omega), (show (r1_q32613.2.1 1).toInt = (I0 1).toInt from by omega), (show 0 ≤ (0 : Int32).toInt ∧ (0 : Int32).toInt ≤ 1 from ⟨by omega, by omega⟩), h_r1_q32613_3, trivial⟩
      · exact wq_s ⟨(show ((1 : Int32).toInt = 0 ∨ ((1 : Int32).toInt = 1 ∧ 0 ≤ x1.toInt ∧ x1.toInt ≤ 1000000 ∧ 0 ≤ x2.toInt ∧ x2.toInt ≤ 50000 ∧ x1.toInt + x2.toInt ≤ 1000000)) from by omega), (show (r1_q32613.2.1 1).toInt = (I0 1).toInt from by omega), (show 0 ≤ (1 : Int32).toInt ∧ (1 : Int32).toInt ≤ 1 from ⟨by omega, by omega⟩), h_r1_q32613_3, trivial⟩
    · have t_32617 := ia_add x1 x2 (by omega) (by omega)
      refine wq_lt (fun hc_32618 => ?_) (fun hc_32619 => ?_)
      · unfold fX12_isSpan_J39
        have l_2 := il_2
        refine wq_b (tt_fX12_right hN r3_q32603.2.1 r3_q32603.2.2.1 r3_q32603.2.2.2 (0 : Int32) (2 : Int32) ⟨by omega, by omega⟩ h_r3_q32603_3) (fun r1_q32620 h_r1_q32620 => ?_)
        obtain ⟨h_r1_q32620_0, h_r1_q32620_1, h_r1_q32620_2, h_r1_q32620_3, -⟩ := h_r1_q32620
        have t_32621 := KX12.i1 h_r1_q32620_3
        refine wq_eq (fun hc_32622 => ?_) (fun hc_32623 => ?_)
        · exact wq_s ⟨(show ((0 : Int32).toInt = 0 ∨ ((0 : Int32).toInt = 1 ∧ 0 ≤ x1.toInt ∧ x1.toInt ≤ 1000000 ∧ 0 ≤ x2.toInt ∧ x2.toInt ≤ 50000 ∧ x1.toInt + x2.toInt ≤ 1000000)) from by omega), (show (r1_q32620.2.1 1).toInt = (I0 1).toInt from by omega), (show 0 ≤ (0 : Int32).toInt ∧ (0 : Int32).toInt ≤ 1 from ⟨by omega, by omega⟩), h_r1_q32620_3, trivial⟩
        · exact wq_s ⟨(show ((1 : Int32).toInt = 0 ∨ ((1 : Int32).toInt = 1 ∧ 0 ≤ x1.toInt ∧ x1.toInt ≤ 1000000 ∧ 0 ≤ x2.toInt ∧ x2.toInt ≤ 50000 ∧ x1.toInt + x2.toInt ≤ 1000000)) from by omega), (show (r1_q32620.2.1 1).toInt = (I0 1).toInt from by omega), (show 0 ≤ (1 : Int32).toInt ∧ (1 : Int32).toInt ≤ 1 from ⟨by omega, by omega⟩), h_r1_q32620_3, trivial⟩
      · have l_2 := il_2
        refine wq_b (tt_fX12_right hN r3_q32603.2.1 r3_q32603.2.2.1 r3_q32603.2.2.2 (1 : Int32) (2 : Int32) ⟨by omega, by omega⟩ h_r3_q32603_3) (fun r5_q32624 h_r5_q32624 => ?_)
        obtain ⟨h_r5_q32624_0, h_r5_q32624_1, h_r5_q32624_2, h_r5_q32624_3, -⟩ := h_r5_q32624
        have t_32625 := KX12.i1 h_r5_q32624_3
        refine wq_eq (fun hc_32626 => ?_) (fun hc_32627 => ?_)
        · exact wq_s ⟨(show ((0 : Int32).toInt = 0 ∨ ((0 : Int32).toInt = 1 ∧ 0 ≤ x1.toInt ∧ x1.toInt ≤ 1000000 ∧ 0 ≤ x2.toInt ∧ x2.toInt ≤ 50000 ∧ x1.toInt + x2.toInt ≤ 1000000)) from by omega), (show (r5_q32624.2.1 1).toInt = (I0 1).toInt from by omega), (show 0 ≤ (0 : Int32).toInt ∧ (0 : Int32).toInt ≤ 1 from ⟨by omega, by omega⟩), h_r5_q32624_3, trivial⟩
        · exact wq_s ⟨(show ((1 : Int32).toInt = 0 ∨ ((1 : Int32).toInt = 1 ∧ 0 ≤ x1.toInt ∧ x1.toInt ≤ 1000000 ∧ 0 ≤ x2.toInt ∧ x2.toInt ≤ 50000 ∧ x1.toInt + x2.toInt ≤ 1000000)) from by omega), (show (r5_q32624.2.1 1).toInt = (I0 1).toInt from by omega), (show 0 ≤ (1 : Int32).toInt ∧ (1 : Int32).toInt ≤ 1 from ⟨by omega, by omega⟩), h_r5_q32624_3, trivial⟩
set_option maxHeartbeats 4000000 in
theorem tt_fX12_best_L45 {N : Nat} (hN : 3000000000 ≤ N) (x1 : Int32) (x2 : Int32) (x3 : Int32) (x4 : Int32) (x5 : Int32) (h_x1 : 0 ≤ x1.toInt ∧ x1.toInt ≤ 5) (h_x2 : 0 ≤ x2.toInt ∧ x2.toInt ≤ 19) (h_x3 : 0 ≤ x3.toInt ∧ x3.toInt ≤ 3) (h_x4 : 0 ≤ x4.toInt ∧ x4.toInt ≤ 1000000) (h_x5 : 0 ≤ x5.toInt ∧ x5.toInt ≤ 50000)  : ∀ (fu : Nat) (I0_l45 : (Nat → Int32)) (L0_l45 : Int64) (M0_l45 : (Nat → Nat → Int32)) (y45_6 : Int32) (y45_7 : Int32), (0 ≤ y45_6.toInt ∧ y45_6.toInt ≤ 999) → (0 ≤ y45_7.toInt ∧ y45_7.toInt ≤ 1050001) → (KX12 I0_l45 M0_l45) → (x4.toInt ≤ y45_7.toInt) → ((y45_6.toInt = 999 ∨ (0 ≤ (I0_l45 15).toInt ∧ (I0_l45 15).toInt ≤ y45_7.toInt - x4.toInt))) → (1050001 - y45_7.toInt) < (fu : Int) → wq (fX12_best_L45 N x1 x2 x3 x4 x5 fu I0_l45 L0_l45 M0_l45 y45_6 y45_7) (fun r => (0 ≤ r.1.toInt ∧ r.1.toInt ≤ 999) ∧ KX12 r.2.1 r.2.2.2 ∧ True) := by
  intro fu
  induction fu with
  | zero => intro I0_l45 L0_l45 M0_l45 y45_6 y45_7 h_y45_6 h_y45_7 k_I0_l45 hl_3 hl_4 hm; exfalso; omega
  | succ fu ih =>
    intro I0_l45 L0_l45 M0_l45 y45_6 y45_7 h_y45_6 h_y45_7 k_I0_l45 hl_3 hl_4 hm
    rw [fX12_best_L45.eq_2]
    have t_33062 := ia_add x4 x5 (by omega) (by omega)
    refine wq_lt (fun hc_33063 => ?_) (fun hc_33064 => ?_)
    · exact wq_s ⟨(show 0 ≤ y45_6.toInt ∧ y45_6.toInt ≤ 999 from ⟨by omega, by omega⟩), k_I0_l45, trivial⟩
    · have l_20 := il_20
      have t_33065 := ia_mul (20 : Int32) (20) il_20 x1 (by omega) (by omega)
      have t_33066 := ia_add ((20 : Int32) * x1) x2 (by omega) (by omega)
      refine wq_b (tt_fX12_costOn hN I0_l45 L0_l45 M0_l45 (((20 : Int32) * x1) + x2) x3 y45_7 y45_6 ⟨by omega, by omega⟩ ⟨by omega, by omega⟩ k_I0_l45) (fun r8_q33067 h_r8_q33067 => ?_)
      obtain ⟨h_r8_q33067_0, -⟩ := h_r8_q33067
      refine wq_le (fun hc_33068 => ?_) (fun hc_33069 => ?_)
      · refine wq_le (fun hc_33070 => ?_) (fun hc_33071 => ?_)
        · unfold fX12_best_J94
          refine wq_le (fun hc_33072 => ?_) (fun hc_33073 => ?_)
          · unfold fX12_best_J118
            refine wq_v (fun I0_5_q33074 h_I0_5_q33074 => ?_)
            have k_I0_5_q33074 : KX12 I0_5_q33074 M0_l45 := by rw [h_I0_5_q33074]; exact KX12.si15 k_I0_l45
            have l_1 := il_1
            have t_33076 := ia_add y45_7 (1 : Int32) (by omega) (by omega)
            refine wq_v (fun v6_q33075 h_v6_q33075 => ?_)
            have t_v6_q33075 := congrArg Int32.toInt h_v6_q33075
            have t_33077 := ia_add (I0_l45 15) (1 : Int32) (by omega) (by omega)
            have t_33078 : (I0_5_q33074 15).toInt = ((I0_l45 15) + (1 : Int32)).toInt := by rw [h_I0_5_q33074]; rfl
            exact ih I0_5_q33074 L0_l45 M0_l45 r8_q33067 v6_q33075 ⟨by omega, by omega⟩ ⟨by omega, by omega⟩ k_I0_5_q33074 (by omega) (by omega) (by omega)
          · refine wq_in (n := 20) ⟨by omega, by omega⟩ ?_
            refine wq_v (fun M0_7_q33079 h_M0_7_q33079 => ?_)
            have k_M0_7_q33079 : KX12 I0_l45 M0_7_q33079 := by rw [h_M0_7_q33079]; exact KX12.sm17 k_I0_l45
            unfold fX12_best_J118
            refine wq_v (fun I0_5_q33080 h_I0_5_q33080 => ?_)
            have k_I0_5_q33080 : KX12 I0_5_q33080 M0_7_q33079 := by rw [h_I0_5_q33080]; exact KX12.si15 k_M0_7_q33079
            have l_1 := il_1
            have t_33082 := ia_add y45_7 (1 : Int32) (by omega) (by omega)
            refine wq_v (fun v6_q33081 h_v6_q33081 => ?_)
            have t_v6_q33081 := congrArg Int32.toInt h_v6_q33081
            have t_33083 := ia_add (I0_l45 15) (1 : Int32) (by omega) (by omega)
            have t_33084 : (I0_5_q33080 15).toInt = ((I0_l45 15) + (1 : Int32)).toInt := by rw [h_I0_5_q33080]; rfl
            exact ih I0_5_q33080 L0_l45 M0_7_q33079 r8_q33067 v6_q33081 ⟨by omega, by omega⟩ ⟨by omega, by omega⟩ k_I0_5_q33080 (by omega) (by omega) (by omega)
        · refine wq_v (fun I0_9_q33085 h_I0_9_q33085 => ?_)
          have k_I0_9_q33085 : KX12 I0_9_q33085 M0_l45 := by rw [h_I0_9_q33085]; exact KX12.si15 k_I0_l45
          unfold fX12_best_J94
          have l_0 := il_0
          have t_33086 : (I0_9_q33085 15).toInt = (0 : Int32).toInt := by rw [h_I0_9_q33085]; rfl
          refine wq_le (fun hc_33087 => ?_) (fun hc_33088 => ?_)
          · exfalso; omega
          · refine wq_in (n := 20) ⟨by omega, by omega⟩ ?_
            refine wq_v (fun M0_7_q33089 h_M0_7_q33089 => ?_)
            have k_M0_7_q33089 : KX12 I0_9_q33085 M0_7_q33089 := by rw [h_M0_7_q33089]; exact KX12.sm17 k_I0_9_q33085
            unfold fX12_best_J118
            refine wq_v (fun I0_5_q33090 h_I0_5_q33090 => ?_)
            have k_I0_5_q33090 : KX12 I0_5_q33090 M0_7_q33089 := by rw [h_I0_5_q33090]; exact KX12.si15 k_M0_7_q33089
            have l_1 := il_1
            have t_33092 := ia_add y45_7 (1 : Int32) (by omega) (by omega)
            refine wq_v (fun v6_q33091 h_v6_q33091 => ?_)
            have t_v6_q33091 := congrArg Int32.toInt h_v6_q33091
            have t_33093 := ia_add (I0_9_q33085 15) (1 : Int32) (by omega) (by omega)
            have t_33094 : (I0_5_q33090 15).toInt = ((I0_9_q33085 15) + (1 : Int32)).toInt := by rw [h_I0_5_q33090]; rfl
            exact ih I0_5_q33090 L0_l45 M0_7_q33089 r8_q33067 v6_q33091 ⟨by omega, by omega⟩ ⟨by omega, by omega⟩ k_I0_5_q33090 (by omega) (by omega) (by omega)
      · have l_1 := il_1
        have t_33096 := ia_add y45_7 (1 : Int32) (by omega) (by omega)
        refine wq_v (fun v10_q33095 h_v10_q33095 => ?_)
        have t_v10_q33095 := congrArg Int32.toInt h_v10_q33095
        exact ih I0_l45 L0_l45 M0_l45 y45_6 v10_q33095 ⟨by omega, by omega⟩ ⟨by omega, by omega⟩ k_I0_l45 (by omega) (by omega) (by omega)
set_option maxHeartbeats 4000000 in
theorem tt_fX12_best {N : Nat} (hN : 3000000000 ≤ N) (I0 : Nat → Int32) (L0 : Int64) (M0 : Nat → Nat → Int32) (x1 : Int32) (x2 : Int32) (x3 : Int32) (x4 : Int32) (x5 : Int32) (k_I0 : KX12 I0 M0) : wq (fX12_best N I0 L0 M0 x1 x2 x3 x4 x5) (fun r => (0 ≤ r.1.toInt ∧ r.1.toInt ≤ 999) ∧ KX12 r.2.1 r.2.2.2 ∧ True) := by
  unfold fX12_best
  have b_33097 := i32b x1
  have b_33098 := i32b x2
  refine wq_b (tt_fX12_isWheel hN I0 L0 M0 x1 x2 k_I0) (fun r1_q33099 h_r1_q33099 => ?_)
  obtain ⟨h_r1_q33099_0, h_r1_q33099_1, h_r1_q33099_2, h_r1_q33099_3, -⟩ := h_r1_q33099
  have t_33100 := KX12.i1 h_r1_q33099_3
  have t_33101 := KX12.i1 k_I0
  have l_0 := il_0
  refine wq_eq (fun hc_33102 => ?_) (fun hc_33103 => ?_)
  · exact wq_s ⟨(show 0 ≤ (0 : Int32).toInt ∧ (0 : Int32).toInt ≤ 999 from ⟨by omega, by omega⟩), h_r1_q33099_3, trivial⟩
  · have b_33104 := i32b x3
    have l_3 := il_3
    refine wq_b (tt_fX12_within hN x3 (0 : Int32) (3 : Int32)) (fun r2_q33105 h_r2_q33105 => ?_)
    obtain ⟨h_r2_q33105_0, h_r2_q33105_1, -⟩ := h_r2_q33105
    have l_1 := il_1
    refine wq_b (tt_fX12_right hN r1_q33099.2.1 r1_q33099.2.2.1 r1_q33099.2.2.2 r2_q33105 (1 : Int32) ⟨by omega, by omega⟩ h_r1_q33099_3) (fun r3_q33106 h_r3_q33106 => ?_)
    obtain ⟨h_r3_q33106_0, h_r3_q33106_1, h_r3_q33106_2, h_r3_q33106_3, -⟩ := h_r3_q33106
    have t_33107 := KX12.i1 h_r3_q33106_3
    refine wq_eq (fun hc_33108 => ?_) (fun hc_33109 => ?_)
    · exact wq_s ⟨(show 0 ≤ (0 : Int32).toInt ∧ (0 : Int32).toInt ≤ 999 from ⟨by omega, by omega⟩), h_r3_q33106_3, trivial⟩
    · have b_33110 := i32b x4
      have b_33111 := i32b x5
      refine wq_b (tt_fX12_isSpan hN r3_q33106.2.1 r3_q33106.2.2.1 r3_q33106.2.2.2 x4 x5 h_r3_q33106_3) (fun r4_q33112 h_r4_q33112 => ?_)
      obtain ⟨h_r4_q33112_0, h_r4_q33112_1, h_r4_q33112_2, h_r4_q33112_3, -⟩ := h_r4_q33112
      have t_33113 := KX12.i1 h_r4_q33112_3
      refine wq_eq (fun hc_33114 => ?_) (fun hc_33115 => ?_)
      · exact wq_s ⟨(show 0 ≤ (0 : Int32).toInt ∧ (0 : Int32).toInt ≤ 999 from ⟨by omega, by omega⟩), h_r4_q33112_3, trivial⟩
      · have l_999 := il_999
        exact tt_fX12_best_L45 hN x1 x2 x3 x4 x5 ⟨by omega, by omega⟩ ⟨by omega, by omega⟩ ⟨by omega, by omega⟩ ⟨by omega, by omega⟩ ⟨by omega, by omega⟩ N r4_q33112.2.1 r4_q33112.2.2.1 r4_q33112.2.2.2 (999 : Int32) x4 ⟨by omega, by omega⟩ ⟨by omega, by omega⟩ h_r4_q33112_3 (by omega) (by omega) (by omega)
set_option maxHeartbeats 4000000 in
theorem tt_fX12_day {N : Nat} (hN : 3000000000 ≤ N) (I0 : Nat → Int32) (L0 : Int64) (M0 : Nat → Nat → Int32) (x1 : Int32) (k_I0 : KX12 I0 M0) : wq (fX12_day N I0 L0 M0 x1) (fun r => KX12 r.2.1 r.2.2.2 ∧ True) := by
  unfold fX12_day
  refine wq_v (fun I0_2_q33428 h_I0_2_q33428 => ?_)
  have k_I0_2_q33428 : KX12 I0_2_q33428 M0 := by rw [h_I0_2_q33428]; exact KX12.si0 k_I0
  have t_33429 : (I0_2_q33428 15).toInt = (I0 15).toInt := by rw [h_I0_2_q33428]; rfl
  have l_m1 := il_m1
  refine wq_eq (fun hc_33430 => ?_) (fun hc_33431 => ?_)
  · unfold fX12_day_J37
    unfold fX12_day_J38
    have l_0 := il_0
    have l_1 := il_1
    refine wq_b (tt_fX12_right hN I0_2_q33428 L0 M0 (0 : Int32) (1 : Int32) ⟨by omega, by omega⟩ k_I0_2_q33428) (fun r1_q33432 h_r1_q33432 => ?_)
    obtain ⟨h_r1_q33432_0, h_r1_q33432_1, h_r1_q33432_2, h_r1_q33432_3, -⟩ := h_r1_q33432
    have t_33433 := KX12.i1 h_r1_q33432_3
    have t_33434 := KX12.i1 k_I0
    have t_33435 : (I0_2_q33428 1).toInt = (I0 1).toInt := by rw [h_I0_2_q33428]; rfl
    refine wq_eq (fun hc_33436 => ?_) (fun hc_33437 => ?_)
    · exact wq_s ⟨h_r1_q33432_3, trivial⟩
    · have b_33438 := i32b x1
      refine wq_eq (fun hc_33439 => ?_) (fun hc_33440 => ?_)
      · exact wq_s ⟨h_r1_q33432_3, trivial⟩
      · refine wq_in (n := 20) ⟨by omega, by omega⟩ ?_
        exact wq_s ⟨h_r1_q33432_3, trivial⟩
  · have b_33441 := i32b x1
    refine wq_lt (fun hc_33442 => ?_) (fun hc_33443 => ?_)
    · unfold fX12_day_J37
      unfold fX12_day_J38
      have l_0 := il_0
      have l_1 := il_1
      refine wq_b (tt_fX12_right hN I0_2_q33428 L0 M0 (0 : Int32) (1 : Int32) ⟨by omega, by omega⟩ k_I0_2_q33428) (fun r1_q33444 h_r1_q33444 => ?_)
      obtain ⟨h_r1_q33444_0, h_r1_q33444_1, h_r1_q33444_2, h_r1_q33444_3, -⟩ := h_r1_q33444
      have t_33445 := KX12.i1 h_r1_q33444_3
      have t_33446 := KX12.i1 k_I0
      have t_33447 : (I0_2_q33428 1).toInt = (I0 1).toInt := by rw [h_I0_2_q33428]; rfl
      refine wq_eq (fun hc_33448 => ?_) (fun hc_33449 => ?_)
      · exact wq_s ⟨h_r1_q33444_3, trivial⟩
      · refine wq_eq (fun hc_33450 => ?_) (fun hc_33451 => ?_)
        · exfalso; omega
        · refine wq_in (n := 20) ⟨by omega, by omega⟩ ?_
          exact wq_s ⟨h_r1_q33444_3, trivial⟩
    · refine wq_le (fun hc_33452 => ?_) (fun hc_33453 => ?_)
      · unfold fX12_day_J37
        unfold fX12_day_J38
        have l_0 := il_0
        have l_1 := il_1
        refine wq_b (tt_fX12_right hN I0_2_q33428 L0 M0 (0 : Int32) (1 : Int32) ⟨by omega, by omega⟩ k_I0_2_q33428) (fun r1_q33454 h_r1_q33454 => ?_)
        obtain ⟨h_r1_q33454_0, h_r1_q33454_1, h_r1_q33454_2, h_r1_q33454_3, -⟩ := h_r1_q33454
        have t_33455 := KX12.i1 h_r1_q33454_3
        have t_33456 := KX12.i1 k_I0
        have t_33457 : (I0_2_q33428 1).toInt = (I0 1).toInt := by rw [h_I0_2_q33428]; rfl
        refine wq_eq (fun hc_33458 => ?_) (fun hc_33459 => ?_)
        · exact wq_s ⟨h_r1_q33454_3, trivial⟩
        · refine wq_eq (fun hc_33460 => ?_) (fun hc_33461 => ?_)
          · exact wq_s ⟨h_r1_q33454_3, trivial⟩
          · refine wq_in (n := 20) ⟨by omega, by omega⟩ ?_
            exact wq_s ⟨h_r1_q33454_3, trivial⟩
      · have l_20 := il_20
        refine wq_le (fun hc_33462 => ?_) (fun hc_33463 => ?_)
        · unfold fX12_day_J37
          unfold fX12_day_J38
          have l_0 := il_0
          have l_1 := il_1
          refine wq_b (tt_fX12_right hN I0_2_q33428 L0 M0 (0 : Int32) (1 : Int32) ⟨by omega, by omega⟩ k_I0_2_q33428) (fun r1_q33464 h_r1_q33464 => ?_)
          obtain ⟨h_r1_q33464_0, h_r1_q33464_1, h_r1_q33464_2, h_r1_q33464_3, -⟩ := h_r1_q33464
          have t_33465 := KX12.i1 h_r1_q33464_3
          have t_33466 := KX12.i1 k_I0
          have t_33467 : (I0_2_q33428 1).toInt = (I0 1).toInt := by rw [h_I0_2_q33428]; rfl
          refine wq_eq (fun hc_33468 => ?_) (fun hc_33469 => ?_)
          · exact wq_s ⟨h_r1_q33464_3, trivial⟩
          · refine wq_eq (fun hc_33470 => ?_) (fun hc_33471 => ?_)
            · exfalso; omega
            · refine wq_in (n := 20) ⟨by omega, by omega⟩ ?_
              exact wq_s ⟨h_r1_q33464_3, trivial⟩
        · unfold fX12_day_J38
          have l_1 := il_1
          refine wq_b (tt_fX12_right hN I0_2_q33428 L0 M0 (1 : Int32) (1 : Int32) ⟨by omega, by omega⟩ k_I0_2_q33428) (fun r1_q33472 h_r1_q33472 => ?_)
          obtain ⟨h_r1_q33472_0, h_r1_q33472_1, h_r1_q33472_2, h_r1_q33472_3, -⟩ := h_r1_q33472
          have t_33473 := KX12.i1 h_r1_q33472_3
          have t_33474 := KX12.i1 k_I0
          have t_33475 : (I0_2_q33428 1).toInt = (I0 1).toInt := by rw [h_I0_2_q33428]; rfl
          have l_0 := il_0
          refine wq_eq (fun hc_33476 => ?_) (fun hc_33477 => ?_)
          · exact wq_s ⟨h_r1_q33472_3, trivial⟩
          · refine wq_eq (fun hc_33478 => ?_) (fun hc_33479 => ?_)
            · exact wq_s ⟨h_r1_q33472_3, trivial⟩
            · refine wq_in (n := 20) ⟨by omega, by omega⟩ ?_
              exact wq_s ⟨h_r1_q33472_3, trivial⟩
set_option maxHeartbeats 4000000 in
theorem tt_fX12_whose_L64 {N : Nat} (hN : 3000000000 ≤ N) (x1 : Int32) (x2 : Int32) (x3 : Int32) (x4 : Int32) (x5 : Int32) (y50_6 : Int32) (y50_7 : Int32) (y50_8 : Int32) (y50_9 : Int32) (g50 : (Nat → Int32) → Int64 → (Nat → Nat → Int32) → Int32 → Int32 → Int32 → Int32 → Option (Int32 × (Nat → Int32) × Int64 × (Nat → Nat → Int32))) (h_x1 : 0 ≤ x1.toInt ∧ x1.toInt ≤ 5) (h_x2 : 0 ≤ x2.toInt ∧ x2.toInt ≤ 19) (h_x3 : 0 ≤ x3.toInt ∧ x3.toInt ≤ 1000000) (h_x4 : 0 ≤ x4.toInt ∧ x4.toInt ≤ 50000) (h_x5 : 0 ≤ x5.toInt ∧ x5.toInt ≤ 2) (h_y50_6 : 0 ≤ y50_6.toInt ∧ y50_6.toInt ≤ 999) (h_y50_7 : -1 ≤ y50_7.toInt ∧ y50_7.toInt ≤ 3) (h_y50_9 : 0 ≤ y50_9.toInt ∧ y50_9.toInt ≤ 3) (hg50 : ∀ (q0 : (Nat → Int32)) (q1 : Int64) (q2 : (Nat → Nat → Int32)) (q3 : Int32) (q4 : Int32) (q5 : Int32) (q6 : Int32), (0 ≤ q3.toInt ∧ q3.toInt ≤ 999) → (-1 ≤ q4.toInt ∧ q4.toInt ≤ 3) → (0 ≤ q6.toInt ∧ q6.toInt ≤ 4) → (KX12 q0 q2) → (y50_9.toInt < q6.toInt) → wq (g50 q0 q1 q2 q3 q4 q5 q6) (fun r => KX12 r.2.1 r.2.2.2 ∧ True)) : ∀ (fu : Nat) (I0_l64 : (Nat → Int32)) (L0_l64 : Int64) (M0_l64 : (Nat → Nat → Int32)) (y64_10 : Int32) (y64_11 : Int32), (0 ≤ y64_10.toInt ∧ y64_10.toInt ≤ 999) → (0 ≤ y64_11.toInt ∧ y64_11.toInt ≤ 1050001) → (KX12 I0_l64 M0_l64) → (1050001 - y64_11.toInt) < (fu : Int) → wq (fX12_whose_L64 N x1 x2 x3 x4 x5 y50_6 y50_7 y50_8 y50_9 g50 fu I0_l64 L0_l64 M0_l64 y64_10 y64_11) (fun r => KX12 r.2.1 r.2.2.2 ∧ True) := by
  intro fu
  induction fu with
  | zero => intro I0_l64 L0_l64 M0_l64 y64_10 y64_11 h_y64_10 h_y64_11 k_I0_l64 hm; exfalso; omega
  | succ fu ih =>
    intro I0_l64 L0_l64 M0_l64 y64_10 y64_11 h_y64_10 h_y64_11 k_I0_l64 hm
    rw [fX12_whose_L64.eq_2]
    have t_34850 := ia_add x3 x4 (by omega) (by omega)
    refine wq_lt (fun hc_34851 => ?_) (fun hc_34852 => ?_)
    · refine wq_le (fun hc_34853 => ?_) (fun hc_34854 => ?_)
      · refine wq_le (fun hc_34855 => ?_) (fun hc_34856 => ?_)
        · unfold fX12_whose_J138
          refine wq_le (fun hc_34857 => ?_) (fun hc_34858 => ?_)
          · have l_1 := il_1
            have t_34860 := ia_add y50_9 (1 : Int32) (by omega) (by omega)
            refine wq_v (fun v5_q34859 h_v5_q34859 => ?_)
            have t_v5_q34859 := congrArg Int32.toInt h_v5_q34859
            have b_34861 := i32b y50_8
            exact hg50 I0_l64 L0_l64 M0_l64 y64_10 y50_7 (y50_8 + (1 : Int32)) v5_q34859 ⟨by omega, by omega⟩ ⟨by omega, by omega⟩ ⟨by omega, by omega⟩ k_I0_l64 (by omega)
          · have l_1 := il_1
            have t_34863 := ia_add y50_9 (1 : Int32) (by omega) (by omega)
            refine wq_v (fun v6_q34862 h_v6_q34862 => ?_)
            have t_v6_q34862 := congrArg Int32.toInt h_v6_q34862
            have b_34864 := i32b y50_8
            exact hg50 I0_l64 L0_l64 M0_l64 y64_10 y50_9 (y50_8 + (1 : Int32)) v6_q34862 ⟨by omega, by omega⟩ ⟨by omega, by omega⟩ ⟨by omega, by omega⟩ k_I0_l64 (by omega)
        · unfold fX12_whose_J138
          refine wq_le (fun hc_34865 => ?_) (fun hc_34866 => ?_)
          · have l_1 := il_1
            have t_34868 := ia_add y50_9 (1 : Int32) (by omega) (by omega)
            refine wq_v (fun v5_q34867 h_v5_q34867 => ?_)
            have t_v5_q34867 := congrArg Int32.toInt h_v5_q34867
            exact hg50 I0_l64 L0_l64 M0_l64 y64_10 y50_7 (1 : Int32) v5_q34867 ⟨by omega, by omega⟩ ⟨by omega, by omega⟩ ⟨by omega, by omega⟩ k_I0_l64 (by omega)
          · have l_1 := il_1
            have t_34870 := ia_add y50_9 (1 : Int32) (by omega) (by omega)
            refine wq_v (fun v6_q34869 h_v6_q34869 => ?_)
            have t_v6_q34869 := congrArg Int32.toInt h_v6_q34869
            exact hg50 I0_l64 L0_l64 M0_l64 y64_10 y50_9 (1 : Int32) v6_q34869 ⟨by omega, by omega⟩ ⟨by omega, by omega⟩ ⟨by omega, by omega⟩ k_I0_l64 (by omega)
      · have l_1 := il_1
        have t_34872 := ia_add y50_9 (1 : Int32) (by omega) (by omega)
        refine wq_v (fun v7_q34871 h_v7_q34871 => ?_)
        have t_v7_q34871 := congrArg Int32.toInt h_v7_q34871
        have b_34873 := i32b y50_8
        exact hg50 I0_l64 L0_l64 M0_l64 y50_6 y50_7 y50_8 v7_q34871 ⟨by omega, by omega⟩ ⟨by omega, by omega⟩ ⟨by omega, by omega⟩ k_I0_l64 (by omega)
    · have l_20 := il_20
      have t_34874 := ia_mul (20 : Int32) (20) il_20 x1 (by omega) (by omega)
      have t_34875 := ia_add ((20 : Int32) * x1) x2 (by omega) (by omega)
      refine wq_b (tt_fX12_costOn hN I0_l64 L0_l64 M0_l64 (((20 : Int32) * x1) + x2) y50_9 y64_11 y64_10 ⟨by omega, by omega⟩ ⟨by omega, by omega⟩ k_I0_l64) (fun r8_q34876 h_r8_q34876 => ?_)
      obtain ⟨h_r8_q34876_0, -⟩ := h_r8_q34876
      refine wq_le (fun hc_34877 => ?_) (fun hc_34878 => ?_)
      · have l_1 := il_1
        have t_34880 := ia_add y64_11 (1 : Int32) (by omega) (by omega)
        refine wq_v (fun v9_q34879 h_v9_q34879 => ?_)
        have t_v9_q34879 := congrArg Int32.toInt h_v9_q34879
        exact ih I0_l64 L0_l64 M0_l64 y64_10 v9_q34879 ⟨by omega, by omega⟩ ⟨by omega, by omega⟩ k_I0_l64 (by omega)
      · have l_1 := il_1
        have t_34882 := ia_add y64_11 (1 : Int32) (by omega) (by omega)
        refine wq_v (fun v10_q34881 h_v10_q34881 => ?_)
        have t_v10_q34881 := congrArg Int32.toInt h_v10_q34881
        exact ih I0_l64 L0_l64 M0_l64 r8_q34876 v10_q34881 ⟨by omega, by omega⟩ ⟨by omega, by omega⟩ k_I0_l64 (by omega)
set_option maxHeartbeats 4000000 in
theorem tt_fX12_whose_L50 {N : Nat} (hN : 3000000000 ≤ N) (x1 : Int32) (x2 : Int32) (x3 : Int32) (x4 : Int32) (x5 : Int32) (h_x1 : 0 ≤ x1.toInt ∧ x1.toInt ≤ 5) (h_x2 : 0 ≤ x2.toInt ∧ x2.toInt ≤ 19) (h_x3 : 0 ≤ x3.toInt ∧ x3.toInt ≤ 1000000) (h_x4 : 0 ≤ x4.toInt ∧ x4.toInt ≤ 50000) (h_x5 : 0 ≤ x5.toInt ∧ x5.toInt ≤ 2)  : ∀ (fu : Nat) (I0_l50 : (Nat → Int32)) (L0_l50 : Int64) (M0_l50 : (Nat → Nat → Int32)) (y50_6 : Int32) (y50_7 : Int32) (y50_8 : Int32) (y50_9 : Int32), (0 ≤ y50_6.toInt ∧ y50_6.toInt ≤ 999) → (-1 ≤ y50_7.toInt ∧ y50_7.toInt ≤ 3) → (0 ≤ y50_9.toInt ∧ y50_9.toInt ≤ 4) → (KX12 I0_l50 M0_l50) → (4 - y50_9.toInt) < (fu : Int) → wq (fX12_whose_L50 N x1 x2 x3 x4 x5 fu I0_l50 L0_l50 M0_l50 y50_6 y50_7 y50_8 y50_9) (fun r => KX12 r.2.1 r.2.2.2 ∧ True) := by
  intro fu
  induction fu with
  | zero => intro I0_l50 L0_l50 M0_l50 y50_6 y50_7 y50_8 y50_9 h_y50_6 h_y50_7 h_y50_9 k_I0_l50 hm; exfalso; omega
  | succ fu ih =>
    intro I0_l50 L0_l50 M0_l50 y50_6 y50_7 y50_8 y50_9 h_y50_6 h_y50_7 h_y50_9 k_I0_l50 hm
    rw [fX12_whose_L50.eq_2]
    have l_4 := il_4
    refine wq_le (fun hc_34883 => ?_) (fun hc_34884 => ?_)
    · have l_0 := il_0
      refine wq_eq (fun hc_34885 => ?_) (fun hc_34886 => ?_)
      · exact wq_s ⟨k_I0_l50, trivial⟩
      · have l_1 := il_1
        refine wq_eq (fun hc_34887 => ?_) (fun hc_34888 => ?_)
        · exact wq_s ⟨k_I0_l50, trivial⟩
        · have b_34889 := i32b y50_8
          exact wq_s ⟨k_I0_l50, trivial⟩
    · have b_34890 := i32b y50_8
      have l_999 := il_999
      exact tt_fX12_whose_L64 hN x1 x2 x3 x4 x5 y50_6 y50_7 y50_8 y50_9 _ ⟨by omega, by omega⟩ ⟨by omega, by omega⟩ ⟨by omega, by omega⟩ ⟨by omega, by omega⟩ ⟨by omega, by omega⟩ ⟨by omega, by omega⟩ ⟨by omega, by omega⟩ ⟨by omega, by omega⟩ (fun q0 q1 q2 q3 q4 q5 q6 hq0 hq1 hq2 hq3 hq4 => ih q0 q1 q2 q3 q4 q5 q6 hq0 hq1 hq2 hq3 (by omega)) N I0_l50 L0_l50 M0_l50 (999 : Int32) x3 ⟨by omega, by omega⟩ ⟨by omega, by omega⟩ k_I0_l50 (by omega)
set_option maxHeartbeats 4000000 in
theorem tt_fX12_whose {N : Nat} (hN : 3000000000 ≤ N) (I0 : Nat → Int32) (L0 : Int64) (M0 : Nat → Nat → Int32) (x1 : Int32) (x2 : Int32) (x3 : Int32) (x4 : Int32) (x5 : Int32) (k_I0 : KX12 I0 M0) : wq (fX12_whose N I0 L0 M0 x1 x2 x3 x4 x5) (fun r => KX12 r.2.1 r.2.2.2 ∧ True) := by
  unfold fX12_whose
  have b_34891 := i32b x1
  have b_34892 := i32b x2
  refine wq_b (tt_fX12_isWheel hN I0 L0 M0 x1 x2 k_I0) (fun r1_q34893 h_r1_q34893 => ?_)
  obtain ⟨h_r1_q34893_0, h_r1_q34893_1, h_r1_q34893_2, h_r1_q34893_3, -⟩ := h_r1_q34893
  have t_34894 := KX12.i1 h_r1_q34893_3
  have t_34895 := KX12.i1 k_I0
  have l_0 := il_0
  refine wq_eq (fun hc_34896 => ?_) (fun hc_34897 => ?_)
  · exact wq_s ⟨h_r1_q34893_3, trivial⟩
  · have b_34898 := i32b x5
    have l_2 := il_2
    refine wq_b (tt_fX12_within hN x5 (0 : Int32) (2 : Int32)) (fun r2_q34899 h_r2_q34899 => ?_)
    obtain ⟨h_r2_q34899_0, h_r2_q34899_1, -⟩ := h_r2_q34899
    have l_1 := il_1
    refine wq_b (tt_fX12_right hN r1_q34893.2.1 r1_q34893.2.2.1 r1_q34893.2.2.2 r2_q34899 (1 : Int32) ⟨by omega, by omega⟩ h_r1_q34893_3) (fun r3_q34900 h_r3_q34900 => ?_)
    obtain ⟨h_r3_q34900_0, h_r3_q34900_1, h_r3_q34900_2, h_r3_q34900_3, -⟩ := h_r3_q34900
    have t_34901 := KX12.i1 h_r3_q34900_3
    refine wq_eq (fun hc_34902 => ?_) (fun hc_34903 => ?_)
    · exact wq_s ⟨h_r3_q34900_3, trivial⟩
    · have b_34904 := i32b x3
      have b_34905 := i32b x4
      refine wq_b (tt_fX12_isSpan hN r3_q34900.2.1 r3_q34900.2.2.1 r3_q34900.2.2.2 x3 x4 h_r3_q34900_3) (fun r4_q34906 h_r4_q34906 => ?_)
      obtain ⟨h_r4_q34906_0, h_r4_q34906_1, h_r4_q34906_2, h_r4_q34906_3, -⟩ := h_r4_q34906
      have t_34907 := KX12.i1 h_r4_q34906_3
      refine wq_eq (fun hc_34908 => ?_) (fun hc_34909 => ?_)
      · exact wq_s ⟨h_r4_q34906_3, trivial⟩
      · have l_999 := il_999
        have l_m1 := il_m1
        exact tt_fX12_whose_L50 hN x1 x2 x3 x4 x5 ⟨by omega, by omega⟩ ⟨by omega, by omega⟩ ⟨by omega, by omega⟩ ⟨by omega, by omega⟩ ⟨by omega, by omega⟩ N r4_q34906.2.1 r4_q34906.2.2.1 r4_q34906.2.2.2 (999 : Int32) ((-1) : Int32) (0 : Int32) (0 : Int32) ⟨by omega, by omega⟩ ⟨by omega, by omega⟩ ⟨by omega, by omega⟩ h_r4_q34906_3 (by omega)
set_option maxHeartbeats 4000000 in
theorem tt_fX12_isMixed_L41 {N : Nat} (hN : 3000000000 ≤ N) (I0 : Nat → Int32) (L0 : Int64) (M0 : Nat → Nat → Int32) (x1 : Int32) (x2 : Int32) (y9_3 : Int32) (y9_5 : Int32) (g9 : Int32 → Int32 → Int32 → Option (Int32)) (h_x1 : 0 ≤ x1.toInt ∧ x1.toInt ≤ 119) (h_y9_5 : 0 ≤ y9_5.toInt ∧ y9_5.toInt ≤ 6) (k_I0 : KX12 I0 M0) (hg9 : ∀ (q0 : Int32) (q1 : Int32) (q2 : Int32), (0 ≤ q1.toInt ∧ q1.toInt ≤ 1) → (0 ≤ q2.toInt ∧ q2.toInt ≤ 7) → (y9_5.toInt < q2.toInt) → wq (g9 q0 q1 q2) (fun r => (0 ≤ r.toInt ∧ r.toInt ≤ 1) ∧ True)) : ∀ (fu : Nat) (y41_6 : Int32) (y41_7 : Int32), (0 ≤ y41_6.toInt ∧ y41_6.toInt ≤ 255) → (0 ≤ y41_7.toInt ∧ y41_7.toInt ≤ 4) → (4 - y41_7.toInt) < (fu : Int) → wq (fX12_isMixed_L41 N I0 L0 M0 x1 x2 y9_3 y9_5 g9 fu y41_6 y41_7) (fun r => (0 ≤ r.toInt ∧ r.toInt ≤ 1) ∧ True) := by
  intro fu
  induction fu with
  | zero => intro y41_6 y41_7 h_y41_6 h_y41_7 hm; exfalso; omega
  | succ fu ih =>
    intro y41_6 y41_7 h_y41_6 h_y41_7 hm
    rw [fX12_isMixed_L41.eq_2]
    have l_4 := il_4
    refine wq_le (fun hc_35404 => ?_) (fun hc_35405 => ?_)
    · refine wq_v (fun v2_q35406 h_v2_q35406 => ?_)
      have t_v2_q35406 := congrArg Int32.toInt h_v2_q35406
      have l_0 := il_0
      refine wq_eq (fun hc_35407 => ?_) (fun hc_35408 => ?_)
      · have l_1 := il_1
        have t_35410 := ia_add y9_5 (1 : Int32) (by omega) (by omega)
        refine wq_v (fun v3_q35409 h_v3_q35409 => ?_)
        have t_v3_q35409 := congrArg Int32.toInt h_v3_q35409
        have b_35411 := i32b v2_q35406
        exact hg9 v2_q35406 (0 : Int32) v3_q35409 ⟨by omega, by omega⟩ ⟨by omega, by omega⟩ (by omega)
      · have l_1 := il_1
        have t_35413 := ia_add y9_5 (1 : Int32) (by omega) (by omega)
        refine wq_v (fun v4_q35412 h_v4_q35412 => ?_)
        have t_v4_q35412 := congrArg Int32.toInt h_v4_q35412
        have b_35414 := i32b v2_q35406
        exact hg9 v2_q35406 (1 : Int32) v4_q35412 ⟨by omega, by omega⟩ ⟨by omega, by omega⟩ (by omega)
    · have b_35415 := i32b x2
      refine wq_b (tt_fX12_placeOn hN I0 L0 M0 y41_7 y9_5 x2 ⟨by omega, by omega⟩ ⟨by omega, by omega⟩ k_I0) (fun r5_q35416 h_r5_q35416 => ?_)
      obtain ⟨-⟩ := h_r5_q35416
      refine wq_b (tt_fX12_at hN I0 L0 M0 x1 y9_5 ⟨by omega, by omega⟩ ⟨by omega, by omega⟩ k_I0) (fun r6_q35417 h_r6_q35417 => ?_)
      obtain ⟨h_r6_q35417_0, h_r6_q35417_1, h_r6_q35417_2, -⟩ := h_r6_q35417
      have b_35418 := i32b r5_q35416
      have l_60 := il_60
      have t_35419 := i32b r5_q35416
      have t_35420 := ia_div2 r5_q35416 (60 : Int32) 60 il_60 (by decide)
      refine wq_eq (fun hc_35421 => ?_) (fun hc_35422 => ?_)
      · have t_35424 := or_sh y41_6 y41_7 ⟨by omega, by omega⟩ ⟨by omega, by omega⟩
        refine wq_v (fun v8_q35423 h_v8_q35423 => ?_)
        have t_v8_q35423 := congrArg Int32.toInt h_v8_q35423
        have l_1 := il_1
        have t_35426 := ia_add y41_7 (1 : Int32) (by omega) (by omega)
        refine wq_v (fun v9_q35425 h_v9_q35425 => ?_)
        have t_v9_q35425 := congrArg Int32.toInt h_v9_q35425
        exact ih v8_q35423 v9_q35425 ⟨by omega, by omega⟩ ⟨by omega, by omega⟩ (by omega)
      · have l_1 := il_1
        have t_35428 := ia_add y41_7 (1 : Int32) (by omega) (by omega)
        refine wq_v (fun v7_q35427 h_v7_q35427 => ?_)
        have t_v7_q35427 := congrArg Int32.toInt h_v7_q35427
        exact ih y41_6 v7_q35427 ⟨by omega, by omega⟩ ⟨by omega, by omega⟩ (by omega)
set_option maxHeartbeats 4000000 in
theorem tt_fX12_isMixed_L9 {N : Nat} (hN : 3000000000 ≤ N) (I0 : Nat → Int32) (L0 : Int64) (M0 : Nat → Nat → Int32) (x1 : Int32) (x2 : Int32) (h_x1 : 0 ≤ x1.toInt ∧ x1.toInt ≤ 119) (k_I0 : KX12 I0 M0)  : ∀ (fu : Nat) (y9_3 : Int32) (y9_4 : Int32) (y9_5 : Int32), (0 ≤ y9_4.toInt ∧ y9_4.toInt ≤ 1) → (0 ≤ y9_5.toInt ∧ y9_5.toInt ≤ 7) → (7 - y9_5.toInt) < (fu : Int) → wq (fX12_isMixed_L9 N I0 L0 M0 x1 x2 fu y9_3 y9_4 y9_5) (fun r => (0 ≤ r.toInt ∧ r.toInt ≤ 1) ∧ True) := by
  intro fu
  induction fu with
  | zero => intro y9_3 y9_4 y9_5 h_y9_4 h_y9_5 hm; exfalso; omega
  | succ fu ih =>
    intro y9_3 y9_4 y9_5 h_y9_4 h_y9_5 hm
    rw [fX12_isMixed_L9.eq_2]
    have l_7 := il_7
    refine wq_le (fun hc_35429 => ?_) (fun hc_35430 => ?_)
    · unfold fX12_isMixed_J107
      have l_0 := il_0
      refine wq_eq (fun hc_35431 => ?_) (fun hc_35432 => ?_)
      · exact wq_s ⟨(show 0 ≤ (0 : Int32).toInt ∧ (0 : Int32).toInt ≤ 1 from ⟨by omega, by omega⟩), trivial⟩
      · have b_35433 := i32b y9_3
        refine wq_eq (fun hc_35434 => ?_) (fun hc_35435 => ?_)
        · have l_1 := il_1
          exact wq_s ⟨(show 0 ≤ (1 : Int32).toInt ∧ (1 : Int32).toInt ≤ 1 from ⟨by omega, by omega⟩), trivial⟩
        · exact wq_s ⟨(show 0 ≤ (0 : Int32).toInt ∧ (0 : Int32).toInt ≤ 1 from ⟨by omega, by omega⟩), trivial⟩
    · have l_0 := il_0
      refine wq_eq (fun hc_35436 => ?_) (fun hc_35437 => ?_)
      · unfold fX12_isMixed_J107
        refine wq_eq (fun hc_35438 => ?_) (fun hc_35439 => ?_)
        · exact wq_s ⟨(show 0 ≤ (0 : Int32).toInt ∧ (0 : Int32).toInt ≤ 1 from ⟨by omega, by omega⟩), trivial⟩
        · exfalso; omega
      · refine wq_b (tt_fX12_at hN I0 L0 M0 x1 y9_5 ⟨by omega, by omega⟩ ⟨by omega, by omega⟩ k_I0) (fun r1_q35440 h_r1_q35440 => ?_)
        obtain ⟨h_r1_q35440_0, h_r1_q35440_1, h_r1_q35440_2, -⟩ := h_r1_q35440
        have l_m1 := il_m1
        refine wq_eq (fun hc_35441 => ?_) (fun hc_35442 => ?_)
        · have l_1 := il_1
          have t_35444 := ia_add y9_5 (1 : Int32) (by omega) (by omega)
          refine wq_v (fun v10_q35443 h_v10_q35443 => ?_)
          have t_v10_q35443 := congrArg Int32.toInt h_v10_q35443
          have b_35445 := i32b y9_3
          exact ih y9_3 y9_4 v10_q35443 ⟨by omega, by omega⟩ ⟨by omega, by omega⟩ (by omega)
        · have b_35446 := i32b x2
          have b_35447 := i32b y9_3
          exact tt_fX12_isMixed_L41 hN I0 L0 M0 x1 x2 y9_3 y9_5 _ ⟨by omega, by omega⟩ ⟨by omega, by omega⟩ k_I0 (fun q0 q1 q2 hq0 hq1 hq2 => ih q0 q1 q2 hq0 hq1 (by omega)) N (0 : Int32) (0 : Int32) ⟨by omega, by omega⟩ ⟨by omega, by omega⟩ (by omega)
set_option maxHeartbeats 4000000 in
theorem tt_fX12_isMixed {N : Nat} (hN : 3000000000 ≤ N) (I0 : Nat → Int32) (L0 : Int64) (M0 : Nat → Nat → Int32) (x1 : Int32) (x2 : Int32) (h_x1 : 0 ≤ x1.toInt ∧ x1.toInt ≤ 119) (k_I0 : KX12 I0 M0) : wq (fX12_isMixed N I0 L0 M0 x1 x2) (fun r => (0 ≤ r.toInt ∧ r.toInt ≤ 1) ∧ True) := by
  unfold fX12_isMixed
  have b_35448 := i32b x2
  have l_15 := il_15
  have l_1 := il_1
  have l_0 := il_0
  exact tt_fX12_isMixed_L9 hN I0 L0 M0 x1 x2 ⟨by omega, by omega⟩ k_I0 N (15 : Int32) (1 : Int32) (0 : Int32) ⟨by omega, by omega⟩ ⟨by omega, by omega⟩ (by omega)
set_option maxHeartbeats 4000000 in
theorem tt_fX12_mixed_L27 {N : Nat} (hN : 3000000000 ≤ N) (x1 : Int32) (x2 : Int32) (x3 : Int32) (x4 : Int32) (h_x1 : 0 ≤ x1.toInt ∧ x1.toInt ≤ 5) (h_x2 : 0 ≤ x2.toInt ∧ x2.toInt ≤ 19) (h_x3 : 0 ≤ x3.toInt ∧ x3.toInt ≤ 1000000) (h_x4 : 0 ≤ x4.toInt ∧ x4.toInt ≤ 50000)  : ∀ (fu : Nat) (I0_l27 : (Nat → Int32)) (L0_l27 : Int64) (M0_l27 : (Nat → Nat → Int32)) (y27_5 : Int32) (y27_6 : Int32), (0 ≤ y27_6.toInt ∧ y27_6.toInt ≤ 1050001) → (KX12 I0_l27 M0_l27) → (1050001 - y27_6.toInt) < (fu : Int) → wq (fX12_mixed_L27 N x1 x2 x3 x4 fu I0_l27 L0_l27 M0_l27 y27_5 y27_6) (fun r => KX12 r.2.1 r.2.2.2 ∧ True) := by
  intro fu
  induction fu with
  | zero => intro I0_l27 L0_l27 M0_l27 y27_5 y27_6 h_y27_6 k_I0_l27 hm; exfalso; omega
  | succ fu ih =>
    intro I0_l27 L0_l27 M0_l27 y27_5 y27_6 h_y27_6 k_I0_l27 hm
    rw [fX12_mixed_L27.eq_2]
    have t_36023 := ia_add x3 x4 (by omega) (by omega)
    refine wq_lt (fun hc_36024 => ?_) (fun hc_36025 => ?_)
    · have b_36026 := i32b y27_5
      exact wq_s ⟨k_I0_l27, trivial⟩
    · have l_20 := il_20
      have t_36027 := ia_mul (20 : Int32) (20) il_20 x1 (by omega) (by omega)
      have t_36028 := ia_add ((20 : Int32) * x1) x2 (by omega) (by omega)
      refine wq_b (tt_fX12_isMixed hN I0_l27 L0_l27 M0_l27 (((20 : Int32) * x1) + x2) y27_6 ⟨by omega, by omega⟩ k_I0_l27) (fun r3_q36029 h_r3_q36029 => ?_)
      obtain ⟨h_r3_q36029_0, -⟩ := h_r3_q36029
      have l_0 := il_0
      refine wq_eq (fun hc_36030 => ?_) (fun hc_36031 => ?_)
      · have l_1 := il_1
        have t_36033 := ia_add y27_6 (1 : Int32) (by omega) (by omega)
        refine wq_v (fun v4_q36032 h_v4_q36032 => ?_)
        have t_v4_q36032 := congrArg Int32.toInt h_v4_q36032
        have b_36034 := i32b y27_5
        exact ih I0_l27 L0_l27 M0_l27 y27_5 v4_q36032 ⟨by omega, by omega⟩ k_I0_l27 (by omega)
      · have b_36036 := i32b y27_5
        have l_1 := il_1
        refine wq_v (fun v5_q36035 h_v5_q36035 => ?_)
        have t_v5_q36035 := congrArg Int32.toInt h_v5_q36035
        have t_36038 := ia_add y27_6 (1 : Int32) (by omega) (by omega)
        refine wq_v (fun v6_q36037 h_v6_q36037 => ?_)
        have t_v6_q36037 := congrArg Int32.toInt h_v6_q36037
        have b_36039 := i32b v5_q36035
        exact ih I0_l27 L0_l27 M0_l27 v5_q36035 v6_q36037 ⟨by omega, by omega⟩ k_I0_l27 (by omega)
set_option maxHeartbeats 4000000 in
theorem tt_fX12_mixed {N : Nat} (hN : 3000000000 ≤ N) (I0 : Nat → Int32) (L0 : Int64) (M0 : Nat → Nat → Int32) (x1 : Int32) (x2 : Int32) (x3 : Int32) (x4 : Int32) (k_I0 : KX12 I0 M0) : wq (fX12_mixed N I0 L0 M0 x1 x2 x3 x4) (fun r => KX12 r.2.1 r.2.2.2 ∧ True) := by
  unfold fX12_mixed
  have b_36040 := i32b x1
  have b_36041 := i32b x2
  refine wq_b (tt_fX12_isWheel hN I0 L0 M0 x1 x2 k_I0) (fun r1_q36042 h_r1_q36042 => ?_)
  obtain ⟨h_r1_q36042_0, h_r1_q36042_1, h_r1_q36042_2, h_r1_q36042_3, -⟩ := h_r1_q36042
  have t_36043 := KX12.i1 h_r1_q36042_3
  have t_36044 := KX12.i1 k_I0
  have l_0 := il_0
  refine wq_eq (fun hc_36045 => ?_) (fun hc_36046 => ?_)
  · exact wq_s ⟨h_r1_q36042_3, trivial⟩
  · have b_36047 := i32b x3
    have b_36048 := i32b x4
    refine wq_b (tt_fX12_isSpan hN r1_q36042.2.1 r1_q36042.2.2.1 r1_q36042.2.2.2 x3 x4 h_r1_q36042_3) (fun r2_q36049 h_r2_q36049 => ?_)
    obtain ⟨h_r2_q36049_0, h_r2_q36049_1, h_r2_q36049_2, h_r2_q36049_3, -⟩ := h_r2_q36049
    have t_36050 := KX12.i1 h_r2_q36049_3
    refine wq_eq (fun hc_36051 => ?_) (fun hc_36052 => ?_)
    · exact wq_s ⟨h_r2_q36049_3, trivial⟩
    · exact tt_fX12_mixed_L27 hN x1 x2 x3 x4 ⟨by omega, by omega⟩ ⟨by omega, by omega⟩ ⟨by omega, by omega⟩ ⟨by omega, by omega⟩ N r2_q36049.2.1 r2_q36049.2.2.1 r2_q36049.2.2.2 (0 : Int32) x3 ⟨by omega, by omega⟩ h_r2_q36049_3 (by omega)

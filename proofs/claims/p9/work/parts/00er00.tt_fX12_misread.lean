set_option maxHeartbeats 4000000 in
theorem tt_fX12_misread {N : Nat} (hN : 3000000000 ≤ N) (I0 : Nat → Int32) (L0 : Int64) (M0 : Nat → Nat → Int32) (x1 : Int32) (x2 : Int32) (x3 : Int32) (x4 : Int32) (x5 : Int32) (k_I0 : KX12 I0 M0) : wq (fX12_misread N I0 L0 M0 x1 x2 x3 x4 x5) (fun r => (-1 ≤ r.1.toInt ∧ r.1.toInt ≤ 9) ∧ KX12 r.2.1 r.2.2.2 ∧ True) := by
  unfold fX12_misread
  have b_39485 := i32b x1
  have b_39486 := i32b x2
  refine wq_b (tt_fX12_isWheel hN I0 L0 M0 x1 x2 k_I0) (fun r5_q39487 h_r5_q39487 => ?_)
  obtain ⟨h_r5_q39487_0, h_r5_q39487_1, h_r5_q39487_2, h_r5_q39487_3, -⟩ := h_r5_q39487
  have t_39488 := KX12.i1 h_r5_q39487_3
  have t_39489 := KX12.i1 k_I0
  have l_0 := il_0
  refine wq_eq (fun hc_39490 => ?_) (fun hc_39491 => ?_)
  · exact wq_s ⟨(show -1 ≤ (0 : Int32).toInt ∧ (0 : Int32).toInt ≤ 9 from ⟨by omega, by omega⟩), h_r5_q39487_3, trivial⟩
  · have b_39492 := i32b x3
    have l_3 := il_3
    refine wq_b (tt_fX12_within hN x3 (0 : Int32) (3 : Int32)) (fun r6_q39493 h_r6_q39493 => ?_)
    obtain ⟨h_r6_q39493_0, h_r6_q39493_1, -⟩ := h_r6_q39493
    refine wq_eq (fun hc_39494 => ?_) (fun hc_39495 => ?_)
    · unfold fX12_misread_J45
      unfold fX12_misread_J46
      have l_1 := il_1
      refine wq_b (tt_fX12_right hN r5_q39487.2.1 r5_q39487.2.2.1 r5_q39487.2.2.2 (0 : Int32) (1 : Int32) ⟨by omega, by omega⟩ h_r5_q39487_3) (fun r1_q39496 h_r1_q39496 => ?_)
      obtain ⟨h_r1_q39496_0, h_r1_q39496_1, h_r1_q39496_2, h_r1_q39496_3, -⟩ := h_r1_q39496
      have t_39497 := KX12.i1 h_r1_q39496_3
      refine wq_eq (fun hc_39498 => ?_) (fun hc_39499 => ?_)
      · exact wq_s ⟨(show -1 ≤ (0 : Int32).toInt ∧ (0 : Int32).toInt ≤ 9 from ⟨by omega, by omega⟩), h_r1_q39496_3, trivial⟩
      · have l_20 := il_20
        have t_39500 := ia_mul (20 : Int32) (20) il_20 x1 (by omega) (by omega)
        have t_39501 := ia_add ((20 : Int32) * x1) x2 (by omega) (by omega)
        have b_39502 := i32b x5
        refine wq_b (tt_fX12_at hN r1_q39496.2.1 r1_q39496.2.2.1 r1_q39496.2.2.2 (((20 : Int32) * x1) + x2) x5 ⟨by omega, by omega⟩ ⟨by omega, by omega⟩ h_r1_q39496_3) (fun r2_q39503 h_r2_q39503 => ?_)
        obtain ⟨h_r2_q39503_0, h_r2_q39503_1, h_r2_q39503_2, -⟩ := h_r2_q39503
        have l_m1 := il_m1
        refine wq_eq (fun hc_39504 => ?_) (fun hc_39505 => ?_)
        · exact wq_s ⟨(show -1 ≤ (-1 : Int32).toInt ∧ (-1 : Int32).toInt ≤ 9 from ⟨by omega, by omega⟩), h_r1_q39496_3, trivial⟩
        · have b_39506 := i32b x4
          refine wq_b (tt_fX12_placeOn hN r1_q39496.2.1 r1_q39496.2.2.1 r1_q39496.2.2.2 x3 x5 x4 ⟨by omega, by omega⟩ ⟨by omega, by omega⟩ h_r1_q39496_3) (fun r3_q39507 h_r3_q39507 => ?_)
          obtain ⟨-⟩ := h_r3_q39507
          have b_39508 := i32b r3_q39507
          have l_60 := il_60
          have t_39509 := i32b r3_q39507
          have t_39510 := ia_div2 r3_q39507 (60 : Int32) 60 il_60 (by decide)
          refine wq_b (tt_fX12_beside hN r1_q39496.2.1 r1_q39496.2.2.1 r1_q39496.2.2.2 r2_q39503 (r3_q39507 / (60 : Int32)) ⟨by omega, by omega⟩ h_r1_q39496_3) (fun r4_q39511 h_r4_q39511 => ?_)
          obtain ⟨h_r4_q39511_0, -⟩ := h_r4_q39511
          exact wq_s ⟨(show -1 ≤ r4_q39511.toInt ∧ r4_q39511.toInt ≤ 9 from ⟨by omega, by omega⟩), h_r1_q39496_3, trivial⟩
    · have b_39512 := i32b x4
      have l_1000000 := il_1000000
      refine wq_b (tt_fX12_within hN x4 (0 : Int32) (1000000 : Int32)) (fun r7_q39513 h_r7_q39513 => ?_)
      obtain ⟨h_r7_q39513_0, h_r7_q39513_1, -⟩ := h_r7_q39513
      refine wq_eq (fun hc_39514 => ?_) (fun hc_39515 => ?_)
      · unfold fX12_misread_J45
        unfold fX12_misread_J46
        have l_1 := il_1
        refine wq_b (tt_fX12_right hN r5_q39487.2.1 r5_q39487.2.2.1 r5_q39487.2.2.2 (0 : Int32) (1 : Int32) ⟨by omega, by omega⟩ h_r5_q39487_3) (fun r1_q39516 h_r1_q39516 => ?_)
        obtain ⟨h_r1_q39516_0, h_r1_q39516_1, h_r1_q39516_2, h_r1_q39516_3, -⟩ := h_r1_q39516
        have t_39517 := KX12.i1 h_r1_q39516_3
        refine wq_eq (fun hc_39518 => ?_) (fun hc_39519 => ?_)
        · exact wq_s ⟨(show -1 ≤ (0 : Int32).toInt ∧ (0 : Int32).toInt ≤ 9 from ⟨by omega, by omega⟩), h_r1_q39516_3, trivial⟩
        · have l_20 := il_20
          have t_39520 := ia_mul (20 : Int32) (20) il_20 x1 (by omega) (by omega)
          have t_39521 := ia_add ((20 : Int32) * x1) x2 (by omega) (by omega)
          have b_39522 := i32b x5
          refine wq_b (tt_fX12_at hN r1_q39516.2.1 r1_q39516.2.2.1 r1_q39516.2.2.2 (((20 : Int32) * x1) + x2) x5 ⟨by omega, by omega⟩ ⟨by omega, by omega⟩ h_r1_q39516_3) (fun r2_q39523 h_r2_q39523 => ?_)
          obtain ⟨h_r2_q39523_0, h_r2_q39523_1, h_r2_q39523_2, -⟩ := h_r2_q39523
          have l_m1 := il_m1
          refine wq_eq (fun hc_39524 => ?_) (fun hc_39525 => ?_)
          · exact wq_s ⟨(show -1 ≤ (-1 : Int32).toInt ∧ (-1 : Int32).toInt ≤ 9 from ⟨by omega, by omega⟩), h_r1_q39516_3, trivial⟩
          · refine wq_b (tt_fX12_placeOn hN r1_q39516.2.1 r1_q39516.2.2.1 r1_q39516.2.2.2 x3 x5 x4 ⟨by omega, by omega⟩ ⟨by omega, by omega⟩ h_r1_q39516_3) (fun r3_q39526 h_r3_q39526 => ?_)
            obtain ⟨-⟩ := h_r3_q39526
            have b_39527 := i32b r3_q39526
            have l_60 := il_60
            have t_39528 := i32b r3_q39526
            have t_39529 := ia_div2 r3_q39526 (60 : Int32) 60 il_60 (by decide)
            refine wq_b (tt_fX12_beside hN r1_q39516.2.1 r1_q39516.2.2.1 r1_q39516.2.2.2 r2_q39523 (r3_q39526 / (60 : Int32)) ⟨by omega, by omega⟩ h_r1_q39516_3) (fun r4_q39530 h_r4_q39530 => ?_)
            obtain ⟨h_r4_q39530_0, -⟩ := h_r4_q39530
            exact wq_s ⟨(show -1 ≤ r4_q39530.toInt ∧ r4_q39530.toInt ≤ 9 from ⟨by omega, by omega⟩), h_r1_q39516_3, trivial⟩
      · have b_39531 := i32b x5
        have l_6 := il_6
        refine wq_b (tt_fX12_within hN x5 (0 : Int32) (6 : Int32)) (fun r8_q39532 h_r8_q39532 => ?_)
        obtain ⟨h_r8_q39532_0, h_r8_q39532_1, -⟩ := h_r8_q39532
        refine wq_eq (fun hc_39533 => ?_) (fun hc_39534 => ?_)
        · unfold fX12_misread_J45
          unfold fX12_misread_J46
          have l_1 := il_1
          refine wq_b (tt_fX12_right hN r5_q39487.2.1 r5_q39487.2.2.1 r5_q39487.2.2.2 (0 : Int32) (1 : Int32) ⟨by omega, by omega⟩ h_r5_q39487_3) (fun r1_q39535 h_r1_q39535 => ?_)
          obtain ⟨h_r1_q39535_0, h_r1_q39535_1, h_r1_q39535_2, h_r1_q39535_3, -⟩ := h_r1_q39535
          have t_39536 := KX12.i1 h_r1_q39535_3
          refine wq_eq (fun hc_39537 => ?_) (fun hc_39538 => ?_)
          · exact wq_s ⟨(show -1 ≤ (0 : Int32).toInt ∧ (0 : Int32).toInt ≤ 9 from ⟨by omega, by omega⟩), h_r1_q39535_3, trivial⟩
          · have l_20 := il_20
            have t_39539 := ia_mul (20 : Int32) (20) il_20 x1 (by omega) (by omega)
            have t_39540 := ia_add ((20 : Int32) * x1) x2 (by omega) (by omega)
            refine wq_b (tt_fX12_at hN r1_q39535.2.1 r1_q39535.2.2.1 r1_q39535.2.2.2 (((20 : Int32) * x1) + x2) x5 ⟨by omega, by omega⟩ ⟨by omega, by omega⟩ h_r1_q39535_3) (fun r2_q39541 h_r2_q39541 => ?_)
            obtain ⟨h_r2_q39541_0, h_r2_q39541_1, h_r2_q39541_2, -⟩ := h_r2_q39541
            have l_m1 := il_m1
            refine wq_eq (fun hc_39542 => ?_) (fun hc_39543 => ?_)
            · exact wq_s ⟨(show -1 ≤ (-1 : Int32).toInt ∧ (-1 : Int32).toInt ≤ 9 from ⟨by omega, by omega⟩), h_r1_q39535_3, trivial⟩
            · refine wq_b (tt_fX12_placeOn hN r1_q39535.2.1 r1_q39535.2.2.1 r1_q39535.2.2.2 x3 x5 x4 ⟨by omega, by omega⟩ ⟨by omega, by omega⟩ h_r1_q39535_3) (fun r3_q39544 h_r3_q39544 => ?_)
              obtain ⟨-⟩ := h_r3_q39544
              have b_39545 := i32b r3_q39544
              have l_60 := il_60
              have t_39546 := i32b r3_q39544
              have t_39547 := ia_div2 r3_q39544 (60 : Int32) 60 il_60 (by decide)
              refine wq_b (tt_fX12_beside hN r1_q39535.2.1 r1_q39535.2.2.1 r1_q39535.2.2.2 r2_q39541 (r3_q39544 / (60 : Int32)) ⟨by omega, by omega⟩ h_r1_q39535_3) (fun r4_q39548 h_r4_q39548 => ?_)
              obtain ⟨h_r4_q39548_0, -⟩ := h_r4_q39548
              exact wq_s ⟨(show -1 ≤ r4_q39548.toInt ∧ r4_q39548.toInt ≤ 9 from ⟨by omega, by omega⟩), h_r1_q39535_3, trivial⟩
        · unfold fX12_misread_J46
          have l_1 := il_1
          refine wq_b (tt_fX12_right hN r5_q39487.2.1 r5_q39487.2.2.1 r5_q39487.2.2.2 (1 : Int32) (1 : Int32) ⟨by omega, by omega⟩ h_r5_q39487_3) (fun r1_q39549 h_r1_q39549 => ?_)
          obtain ⟨h_r1_q39549_0, h_r1_q39549_1, h_r1_q39549_2, h_r1_q39549_3, -⟩ := h_r1_q39549
          have t_39550 := KX12.i1 h_r1_q39549_3
          refine wq_eq (fun hc_39551 => ?_) (fun hc_39552 => ?_)
          · exact wq_s ⟨(show -1 ≤ (0 : Int32).toInt ∧ (0 : Int32).toInt ≤ 9 from ⟨by omega, by omega⟩), h_r1_q39549_3, trivial⟩
          · have l_20 := il_20
            have t_39553 := ia_mul (20 : Int32) (20) il_20 x1 (by omega) (by omega)
            have t_39554 := ia_add ((20 : Int32) * x1) x2 (by omega) (by omega)
            refine wq_b (tt_fX12_at hN r1_q39549.2.1 r1_q39549.2.2.1 r1_q39549.2.2.2 (((20 : Int32) * x1) + x2) x5 ⟨by omega, by omega⟩ ⟨by omega, by omega⟩ h_r1_q39549_3) (fun r2_q39555 h_r2_q39555 => ?_)
            obtain ⟨h_r2_q39555_0, h_r2_q39555_1, h_r2_q39555_2, -⟩ := h_r2_q39555
            have l_m1 := il_m1
            refine wq_eq (fun hc_39556 => ?_) (fun hc_39557 => ?_)
            · exact wq_s ⟨(show -1 ≤ (-1 : Int32).toInt ∧ (-1 : Int32).toInt ≤ 9 from ⟨by omega, by omega⟩), h_r1_q39549_3, trivial⟩
            · refine wq_b (tt_fX12_placeOn hN r1_q39549.2.1 r1_q39549.2.2.1 r1_q39549.2.2.2 x3 x5 x4 ⟨by omega, by omega⟩ ⟨by omega, by omega⟩ h_r1_q39549_3) (fun r3_q39558 h_r3_q39558 => ?_)
              obtain ⟨-⟩ := h_r3_q39558
              have b_39559 := i32b r3_q39558
              have l_60 := il_60
              have t_39560 := i32b r3_q39558
              have t_39561 := ia_div2 r3_q39558 (60 : Int32) 60 il_60 (by decide)
              refine wq_b (tt_fX12_beside hN r1_q39549.2.1 r1_q39549.2.2.1 r1_q39549.2.2.2 r2_q39555 (r3_q39558 / (60 : Int32)) ⟨by omega, by omega⟩ h_r1_q39549_3) (fun r4_q39562 h_r4_q39562 => ?_)
              obtain ⟨h_r4_q39562_0, -⟩ := h_r4_q39562
              exact wq_s ⟨(show -1 ≤ r4_q39562.toInt ∧ r4_q39562.toInt ≤ 9 from ⟨by omega, by omega⟩), h_r1_q39549_3, trivial⟩

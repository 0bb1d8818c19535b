set_option maxHeartbeats 4000000 in
theorem tt_fX12_misread {N : Nat} (hN : 3000000000 ≤ N) (I0 : Nat → Int32) (L0 : Int64) (M0 : Nat → Nat → Int32) (x1 : Int32) (x2 : Int32) (x3 : Int32) (x4 : Int32) (x5 : Int32) (k_I0 : KX12 I0 M0) : wq (fX12_misread N I0 L0 M0 x1 x2 x3 x4 x5) (fun r => (-1 ≤ r.1.toInt ∧ r.1.toInt ≤ 9) ∧ KX12 r.2.1 r.2.2.2 ∧ True) := by
  unfold fX12_misread
  have b_39485 := i32b x1
  have b_39486 := i32b x2
  refine wq_b (tt_fX12_isWheel hN I0 L0 M0 x1 x2 k_I0) (fun r5_q39487 h_r5_q39487 => ?_)
  obtain ⟨h_r5_q39487_0, h_r5_q39487_1, h_r5_q39487_2, h_r5_q39487_3, -⟩ := h_r5_q39487
  have t_39488 := KX12.i1 h_r5_q39487_3
  have t_39489 := KX12.i1 k_I0
  have l_0 := il_0
  refine wq_eq (fun hc_39490 => ?_) (fun hc_39491 => ?_)
  · exact wq_s ⟨(show -1 ≤ (0 : Int32).toInt ∧ (0 : Int32).toInt ≤ 9 from ⟨by omega, by omega⟩), h_r5_q39487_3, trivial⟩
  · have b_39492 := i32b x3
    have l_3 := il_3
    refine wq_b (tt_fX12_within hN x3 (0 : Int32) (3 : Int32)) (fun r6_q39493 h_r6_q39493 => ?_)
    obtain ⟨h_r6_q39493_0, h_r6_q39493_1, -⟩ := h_r6_q39493
    refine wq_eq (fun hc_39494 => ?_) (fun hc_39495 => ?_)
    · unfold fX12_misread_J45
      unfold fX12_misread_J46
      have l_1 := il_1
      refine wq_b (tt_fX12_right hN r5_q39487.2.1 r5_q39487.2.2.1 r5_q39487.2.2.2 (0 : Int32) (1 : Int32) ⟨by omega, by omega⟩ h_r5_q39487_3) (fun r1_q39496 h_r1_q39496 => ?_)
      obtain ⟨h_r1_q39496_0, h_r1_q39496_1, h_r1_q39496_2, h_r1_q39496_3, -⟩ := h_r1_q39496
      have t_39497 := KX12.i1 h_r1_q39496_3
      refine wq_eq (fun hc_39498 => ?_) (fun hc_39499 => ?_)
      · exact wq_s ⟨(show -1 ≤ (0 : Int32).toInt ∧ (0 : Int32).toInt ≤ 9 from ⟨by omega, by omega⟩), h_r1_q39496_3, trivial⟩
      · have l_20 := il_20
        have t_39500 := ia_mul (20 : Int32) (20) il_20 x1 (by omega) (by omega)
        have t_39501 := ia_add ((20 : Int32) * x1) x2 (by omega) (by omega)
        have b_39502 := i32b x5
        refine wq_b (tt_fX12_at hN r1_q39496.2.1 r1_q39496.2.2.1 r1_q39496.2.2.2 (((20 : Int32) * x1) + x2) x5 ⟨by omega, by omega⟩ ⟨by omega, by omega⟩ h_r1_q39496_3) (fun r2_q39503 h_r2_q39503 => ?_)
        obtain ⟨h_r2_q39503_0, h_r2_q39503_1, h_r2_q39503_2, -⟩ := h_r2_q39503
        have l_m1 := il_m1
        refine wq_eq (fun hc_39504 => ?_) (fun hc_39505 => ?_)
        · exact wq_s ⟨(show -1 ≤ (-1 : Int32).toInt ∧ (-1 : Int32).toInt ≤ 9 from ⟨by omega, by omega⟩), h_r1_q39496_3, trivial⟩
        · have b_39506 := i32b x4
          refine wq_b (tt_fX12_placeOn hN r1_q39496.2.1 r1_q39496.2.2.1 r1_q39496.2.2.2 x3 x5 x4 ⟨by omega, by omega⟩ ⟨by omega, by omega⟩ h_r1_q39496_3) (fun r3_q39507 h_r3_q39507 => ?_)
          obtain ⟨-⟩ := h_r3_q39507
          have b_39508 := i32b r3_q39507
          have l_60 := il_60
          have t_39509 := i32b r3_q39507
          have t_39510 := ia_div2 r3_q39507 (60 : Int32) 60 il_60 (by decide)
          refine wq_b (tt_fX12_beside hN r1_q39496.2.1 r1_q39496.2.2.1 r1_q39496.2.2.2 r2_q39503 (r3_q39507 / (60 : Int32)) ⟨by omega, by omega⟩ h_r1_q39496_3) (fun r4_q39511 h_r4_q39511 => ?_)
          obtain ⟨h_r4_q39511_0, -⟩ := h_r4_q39511
          exact wq_s ⟨(show -1 ≤ r4_q39511.toInt ∧ r4_q39511.toInt ≤ 9 from ⟨by omega, by omega⟩), h_r1_q39496_3, trivial⟩
    · have b_39512 := i32b x4
      have l_1000000 := il_1000000
      refine wq_b (tt_fX12_within hN x4 (0 : Int32) (1000000 : Int32)) (fun r7_q39513 h_r7_q39513 => ?_)
      obtain ⟨h_r7_q39513_0, h_r7_q39513_1, -⟩ := h_r7_q39513
      refine wq_eq (fun hc_39514 => ?_) (fun hc_39515 => ?_)
      · unfold fX12_misread_J45
        unfold fX12_misread_J46
        have l_1 := il_1
        refine wq_b (tt_fX12_right hN r5_q39487.2.1 r5_q39487.2.2.1 r5_q39487.2.2.2 (0 : Int32) (1 : Int32) ⟨by omega, by omega⟩ h_r5_q39487_3) (fun r1_q39516 h_r1_q39516 => ?_)
        obtain ⟨h_r1_q39516_0, h_r1_q39516_1, h_r1_q39516_2, h_r1_q39516_3, -⟩ := h_r1_q39516
        have t_39517 := KX12.i1 h_r1_q39516_3
        refine wq_eq (fun hc_39518 => ?_) (fun hc_39519 => ?_)
        · exact wq_s ⟨(show -1 ≤ (0 : Int32).toInt ∧ (0 : Int32).toInt ≤ 9 from ⟨by omega, by omega⟩), h_r1_q39516_3, trivial⟩
        · have l_20 := il_20
          have t_39520 := ia_mul (20 : Int32) (20) il_20 x1 (by omega) (by omega)
          have t_39521 := ia_add ((20 : Int32) * x1) x2 (by omega) (by omega)
          have b_39522 := i32b x5
          refine wq_b (tt_fX12_at hN r1_q39516.2.1 r1_q39516.2.2.1 r1_q39516.2.2.2 (((20 : Int32) * x1) + x2) x5 ⟨by omega, by omega⟩ ⟨by omega, by omega⟩ h_r1_q39516_3) (fun r2_q39523 h_r2_q39523 => ?_)
          obtain ⟨h_r2_q39523_0, h_r2_q39523_1, h_r2_q39523_2, -⟩ := h_r2_q39523
          have l_m1 := il_m1
          refine wq_eq (fun hc_39524 => ?_) (fun hc_39525 => ?_)
          · exact wq_s ⟨(show -1 ≤ (-1 : Int32).toInt ∧ (-1 : Int32).toInt ≤ 9 from ⟨by omega, by omega⟩), h_r1_q39516_3, trivial⟩
          · refine wq_b (tt_fX12_placeOn hN r1_q39516.2.1 r1_q39516.2.2.1 r1_q39516.2.2.2 x3 x5 x4 ⟨by omega, by omega⟩ ⟨by omega, by omega⟩ h_r1_q39516_3) (fun r3_q39526 h_r3_q39526 => ?_)
            obtain ⟨-⟩ := h_r3_q39526
            have b_39527 := i32b r3_q39526
            have l_60 := il_60
            have t_39528 := i32b r3_q39526
            have t_39529 := ia_div2 r3_q39526 (60 : Int32) 60 il_60 (by decide)
            refine wq_b (tt_fX12_beside hN r1_q39516.2.1 r1_q39516.2.2.1 r1_q39516.2.2.2 r2_q39523 (r3_q39526 / (60 : Int32)) ⟨by omega, by omega⟩ h_r1_q39516_3) (fun r4_q39530 h_r4_q39530 => ?_)
            obtain ⟨h_r4_q39530_0, -⟩ := h_r4_q39530
            exact wq_s ⟨(show -1 ≤ r4_q39530.toInt ∧ r4_q39530.toInt ≤ 9 from ⟨by omega, by omega⟩), h_r1_q39516_3, trivial⟩
      · have b_39531 := i32b x5
        have l_6 := il_6
        refine wq_b (tt_fX12_within hN x5 (0 : Int32) (6 : Int32)) (fun r8_q39532 h_r8_q39532 => ?_)
        obtain ⟨h_r8_q39532_0, h_r8_q39532_1, -⟩ := h_r8_q39532
        refine wq_eq (fun hc_39533 => ?_) (fun hc_39534 => ?_)
        · unfold fX12_misread_J45
          unfold fX12_misread_J46
          have l_1 := il_1
          refine wq_b (tt_fX12_right hN r5_q39487.2.1 r5_q39487.2.2.1 r5_q39487.2.2.2 (0 : Int32) (1 : Int32) ⟨by omega, by omega⟩ h_r5_q39487_3) (fun r1_q39535 h_r1_q39535 => ?_)
          obtain ⟨h_r1_q39535_0, h_r1_q39535_1, h_r1_q39535_2, h_r1_q39535_3, -⟩ := h_r1_q39535
          have t_39536 := KX12.i1 h_r1_q39535_3
          refine wq_eq (fun hc_39537 => ?_) (fun hc_39538 => ?_)
          · exact wq_s ⟨(show -1 ≤ (0 : Int32).toInt ∧ (0 : Int32).toInt ≤ 9 from ⟨by omega, by omega⟩), h_r1_q39535_3, trivial⟩
          · have l_20 := il_20
            have t_39539 := ia_mul (20 : Int32) (20) il_20 x1 (by omega) (by omega)
            have t_39540 := ia_add ((20 : Int32) * x1) x2 (by omega) (by omega)
            refine wq_b (tt_fX12_at hN r1_q39535.2.1 r1_q39535.2.2.1 r1_q39535.2.2.2 (((20 : Int32) * x1) + x2) x5 ⟨by omega, by omega⟩ ⟨by omega, by omega⟩ h_r1_q39535_3) (fun r2_q39541 h_r2_q39541 => ?_)
            obtain ⟨h_r2_q39541_0, h_r2_q39541_1, h_r2_q39541_2, -⟩ := h_r2_q39541
            have l_m1 := il_m1
            refine wq_eq (fun hc_39542 => ?_) (fun hc_39543 => ?_)
            · exact wq_s ⟨(show -1 ≤ (-1 : Int32).toInt ∧ (-1 : Int32).toInt ≤ 9 from ⟨by omega, by omega⟩), h_r1_q39535_3, trivial⟩
            · refine wq_b (tt_fX12_placeOn hN r1_q39535.2.1 r1_q39535.2.2.1 r1_q39535.2.2.2 x3 x5 x4 ⟨by omega, by omega⟩ ⟨by omega, by omega⟩ h_r1_q39535_3) (fun r3_q39544 h_r3_q39544 => ?_)
              obtain ⟨-⟩ := h_r3_q39544
              have b_39545 := i32b r3_q39544
              have l_60 := il_60
              have t_39546 := i32b r3_q39544
              have t_39547 := ia_div2 r3_q39544 (60 : Int32) 60 il_60 (by decide)
              refine wq_b (tt_fX12_beside hN r1_q39535.2.1 r1_q39535.2.2.1 r1_q39535.2.2.2 r2_q39541 (r3_q39544 / (60 : Int32)) ⟨by omega, by omega⟩ h_r1_q39535_3) (fun r4_q39548 h_r4_q39548 => ?_)
              obtain ⟨h_r4_q39548_0, -⟩ := h_r4_q39548
              exact wq_s ⟨(show -1 ≤ r4_q39548.toInt ∧ r4_q39548.toInt ≤ 9 from ⟨by omega, by omega⟩), h_r1_q39535_3, trivial⟩
        · unfold fX12_misread_J46
          have l_1 := il_1
          refine wq_b (tt_fX12_right hN r5_q39487.2.1 r5_q39487.2.2.1 r5_q39487.2.2.2 (1 : Int32) (1 : Int32) ⟨by omega, by omega⟩ h_r5_q39487_3) (fun r1_q39549 h_r1_q39549 => ?_)
          obtain ⟨h_r1_q39549_0, h_r1_q39549_1, h_r1_q39549_2, h_r1_q39549_3, -⟩ := h_r1_q39549
          have t_39550 := KX12.i1 h_r1_q39549_3
          refine wq_eq (fun hc_39551 => ?_) (fun hc_39552 => ?_)
          · exact wq_s ⟨(show -1 ≤ (0 : Int32).toInt ∧ (0 : Int32).toInt ≤ 9 from ⟨by omega, by omega⟩), h_r1_q39549_3, trivial⟩
          · have l_20 := il_20
            have t_39553 := ia_mul (20 : Int32) (20) il_20 x1 (by omega) (by omega)
            have t_39554 := ia_add ((20 : Int32) * x1) x2 (by omega) (by omega)
            refine wq_b (tt_fX12_at hN r1_q39549.2.1 r1_q39549.2.2.1 r1_q39549.2.2.2 (((20 : Int32) * x1) + x2) x5 ⟨by omega, by omega⟩ ⟨by omega, by omega⟩ h_r1_q39549_3) (fun r2_q39555 h_r2_q39555 => ?_)
            obtain ⟨h_r2_q39555_0, h_r2_q39555_1, h_r2_q39555_2, -⟩ := h_r2_q39555
            have l_m1 := il_m1
            refine wq_eq (fun hc_39556 => ?_) (fun hc_39557 => ?_)
            · exact wq_s ⟨(show -1 ≤ (-1 : Int32).toInt ∧ (-1 : Int32).toInt ≤ 9 from ⟨by omega, by omega⟩), h_r1_q39549_3, trivial⟩
            · refine wq_b (tt_fX12_placeOn hN r1_q39549.2.1 r1_q39549.2.2.1 r1_q39549.2.2.2 x3 x5 x4 ⟨by omega, by omega⟩ ⟨by omega, by omega⟩ h_r1_q39549_3) (fun r3_q39558 h_r3_q39558 => ?_)
              obtain ⟨-⟩ := h_r3_q39558
              have b_39559 := i32b r3_q39558
              have l_60 := il_60
              have t_39560 := i32b r3_q39558
              have t_39561 := ia_div2 r3_q39558 (60 : Int32) 60 il_60 (by decide)
              refine wq_b (tt_fX12_beside hN r1_q39549.2.1 r1_q39549.2.2.1 r1_q39549.2.2.2 r2_q39555 (r3_q39558 / (60 : Int32)) ⟨by omega, by omega⟩ h_r1_q39549_3) (fun r4_q39562 h_r4_q39562 => ?_)
              obtain ⟨h_r4_q39562_0, -⟩ := h_r4_q39562
              exact wq_s ⟨(show -1 ≤ r4_q39562.toInt ∧ r4_q39562.toInt ≤ 9 from ⟨by omega, by omega⟩), h_r1_q39549_3, trivial⟩
set_option maxHeartbeats 4000000 in
theorem tt_fX12_errors_L340 {N : Nat} (hN : 3000000000 ≤ N) (x1 : Int32) (x2 : Int32) (x3 : Int32) (x4 : Int32) (g51 : (Nat → Int32) → Int64 → (Nat → Nat → Int32) → Int32 → Option (Int32 × (Nat → Int32) × Int64 × (Nat → Nat → Int32))) (g90 : (Nat → Int32) → Int64 → (Nat → Nat → Int32) → Int32 → Int32 → Option (Int32 × (Nat → Int32) × Int64 × (Nat → Nat → Int32))) (h_x1 : 0 ≤ x1.toInt ∧ x1.toInt ≤ 5) (h_x2 : 0 ≤ x2.toInt ∧ x2.toInt ≤ 19) (h_x3 : 0 ≤ x3.toInt ∧ x3.toInt ≤ 1000000) (h_x4 : 1 ≤ x4.toInt ∧ x4.toInt ≤ 1)  : ∀ (fu : Nat) (I0_l340 : (Nat → Int32)) (L0_l340 : Int64) (M0_l340 : (Nat → Nat → Int32)) (y340_6 : Int32) (y340_7 : Int32), (1 ≤ y340_6.toInt ∧ y340_6.toInt ≤ 3) → (2 ≤ y340_7.toInt ∧ y340_7.toInt ≤ 4) → (KX12 I0_l340 M0_l340) → (4 - y340_7.toInt) < (fu : Int) → wq (fX12_errors_L340 N x1 x2 x3 x4 g51 g90 fu I0_l340 L0_l340 M0_l340 y340_6 y340_7) (fun r => KX12 r.2.1 r.2.2.2 ∧ True) := by
  intro fu
  induction fu with
  | zero => intro I0_l340 L0_l340 M0_l340 y340_6 y340_7 h_y340_6 h_y340_7 k_I0_l340 hm; exfalso; omega
  | succ fu ih =>
    intro I0_l340 L0_l340 M0_l340 y340_6 y340_7 h_y340_6 h_y340_7 k_I0_l340 hm
    rw [fX12_errors_L340.eq_2]
    have l_4 := il_4
    refine wq_le (fun hc_43290 => ?_) (fun hc_43291 => ?_)
    · refine wq_in (n := 4) ⟨by omega, by omega⟩ ?_
      have l_0 := il_0
      refine wq_eq (fun hc_43292 => ?_) (fun hc_43293 => ?_)
      · have l_m1 := il_m1
        exact wq_s ⟨k_I0_l340, trivial⟩
      · exact wq_s ⟨k_I0_l340, trivial⟩
    · refine wq_in (n := 4) ⟨by omega, by omega⟩ ?_
      refine wq_in (n := 4) ⟨by omega, by omega⟩ ?_
      refine wq_le (fun hc_43294 => ?_) (fun hc_43295 => ?_)
      · have l_1 := il_1
        have t_43297 := ia_add y340_7 (1 : Int32) (by omega) (by omega)
        refine wq_v (fun v2_q43296 h_v2_q43296 => ?_)
        have t_v2_q43296 := congrArg Int32.toInt h_v2_q43296
        exact ih I0_l340 L0_l340 M0_l340 y340_6 v2_q43296 ⟨by omega, by omega⟩ ⟨by omega, by omega⟩ k_I0_l340 (by omega)
      · have l_1 := il_1
        have t_43299 := ia_add y340_7 (1 : Int32) (by omega) (by omega)
        refine wq_v (fun v3_q43298 h_v3_q43298 => ?_)
        have t_v3_q43298 := congrArg Int32.toInt h_v3_q43298
        exact ih I0_l340 L0_l340 M0_l340 y340_7 v3_q43298 ⟨by omega, by omega⟩ ⟨by omega, by omega⟩ k_I0_l340 (by omega)
set_option maxHeartbeats 4000000 in
theorem wq_be {α β : Type} {x : Option α} {k : α → Option β} {P : α → Prop} {Q : β → Prop} (h : wq x P) (h2 : ∀ r, x = some r → P r → wq (k r) Q) : wq (x.bind k) Q := by
  obtain ⟨r, e, hr⟩ := h
  rw [e]
  exact h2 r e hr
def ER (N : Nat) (I : Nat → Int32) (L : Int64) (M : Nat → Nat → Int32) (k d e n b : Int32) : Prop :=
  0 ≤ b.toInt ∧ b.toInt < n.toInt ∧ ∀ s p : Int32, 1 ≤ s.toInt → s.toInt < n.toInt → fX12_placeOn N I L M s k d = some p → (p / (60 : Int32)).toInt = e.toInt → 1 ≤ b.toInt
theorem pl_um {N : Nat} {I : Nat → Int32} {L : Int64} {M : Nat → Nat → Int32} {q i : Nat} {v s k d : Int32} (hq : 4 ≤ q) : fX12_placeOn N I L (wb_um M q i v) s k d = fX12_placeOn N I L M s k d := by
  have h0 : wb_um M q i v 0 = M 0 := by unfold wb_um; exact if_neg (by omega)
  have h1 : wb_um M q i v 1 = M 1 := by unfold wb_um; exact if_neg (by omega)
  have h2 : wb_um M q i v 2 = M 2 := by unfold wb_um; exact if_neg (by omega)
  have h3 : wb_um M q i v 3 = M 3 := by unfold wb_um; exact if_neg (by omega)
  unfold fX12_placeOn fX12_placeOn_J79
  simp only [h0, h1, h2, h3]
theorem ER_um {N : Nat} {I : Nat → Int32} {L : Int64} {M : Nat → Nat → Int32} {k d e n b : Int32} {q i : Nat} {v : Int32} (hq : 4 ≤ q) (h : ER N I L M k d e n b) : ER N I L (wb_um M q i v) k d e n b :=
  ⟨h.1, h.2.1, fun s p h1 h2 h3 h4 => h.2.2 s p h1 h2 ((pl_um hq).symm.trans h3) h4⟩
theorem ER_0 {N : Nat} {I : Nat → Int32} {L : Int64} {M : Nat → Nat → Int32} {k d e : Int32} : ER N I L M k d e (1 : Int32) (0 : Int32) := by
  have l_0 := il_0
  have l_1 := il_1
  exact ⟨by omega, by omega, fun s p h1 h2 => by omega⟩
theorem ER_4 {N : Nat} {I : Nat → Int32} {L : Int64} {M : Nat → Nat → Int32} {k d e n b : Int32} (h : ER N I L M k d e n b) (hn : n.toInt = 4) : ER N I L M k d e (4 : Int32) b := by
  have l_4 := il_4
  exact ⟨h.1, by have := h.2.1; omega, fun s p h1 h2 => h.2.2 s p h1 (by omega)⟩
theorem ER_y {N : Nat} {I : Nat → Int32} {L : Int64} {M : Nat → Nat → Int32} {k d e n b n2 b2 p : Int32} (h : ER N I L M k d e n b) (_ : fX12_placeOn N I L M n k d = some p) (_ : (p / (60 : Int32)).toInt = e.toInt) (hb : b2.toInt = b.toInt + 1) (hn : n2.toInt = n.toInt + 1) : ER N I L M k d e n2 b2 := by
  have h1 := h.1
  have h2 := h.2.1
  exact ⟨by omega, by omega, fun s p _ _ _ _ => by omega⟩
theorem ER_n {N : Nat} {I : Nat → Int32} {L : Int64} {M : Nat → Nat → Int32} {k d e n b n2 b2 p : Int32} (h : ER N I L M k d e n b) (hp : fX12_placeOn N I L M n k d = some p) (hne : ¬ (p / (60 : Int32)).toInt = e.toInt) (hb : b2.toInt = b.toInt) (hn : n2.toInt = n.toInt + 1) : ER N I L M k d e n2 b2 := by
  have h1 := h.1
  have h2 := h.2.1
  refine ⟨by omega, by omega, fun s p' h3 h4 h5 h6 => ?_⟩
  by_cases hs : s.toInt = n.toInt
  · have : s = n := Int32.toInt_inj.mp hs
    rw [this, hp] at h5
    exact absurd (Option.some.inj h5 ▸ h6) hne
  · rw [hb]
    exact h.2.2 s p' h3 (by omega) h5 h6
set_option maxHeartbeats 4000000 in
theorem tt_fX12_errors_L187 {N : Nat} (hN : 3000000000 ≤ N) (x1 : Int32) (x2 : Int32) (x3 : Int32) (x4 : Int32) (r4 : Int32) (v7 : Int32) (y145_8 : Int32) (y90_6 : Int32) (g51 : (Nat → Int32) → Int64 → (Nat → Nat → Int32) → Int32 → Option (Int32 × (Nat → Int32) × Int64 × (Nat → Nat → Int32))) (g90 : (Nat → Int32) → Int64 → (Nat → Nat → Int32) → Int32 → Int32 → Option (Int32 × (Nat → Int32) × Int64 × (Nat → Nat → Int32))) (g145 : (Nat → Int32) → Int64 → (Nat → Nat → Int32) → Int32 → Int32 → Option (Int32 × (Nat → Int32) × Int64 × (Nat → Nat → Int32))) (h_x1 : 0 ≤ x1.toInt ∧ x1.toInt ≤ 5) (h_x2 : 0 ≤ x2.toInt ∧ x2.toInt ≤ 19) (h_x3 : 0 ≤ x3.toInt ∧ x3.toInt ≤ 1000000) (h_x4 : 0 ≤ x4.toInt ∧ x4.toInt ≤ 10) (h_r4 : 0 ≤ r4.toInt ∧ r4.toInt ≤ 359) (h_y90_6 : 0 ≤ y90_6.toInt ∧ y90_6.toInt ≤ 6) (hg90 : ∀ (q0 : (Nat → Int32)) (q1 : Int64) (q2 : (Nat → Nat → Int32)) (q3 : Int32) (q4 : Int32), (0 ≤ q4.toInt ∧ q4.toInt ≤ 7) → (KX12 q0 q2) → (y90_6.toInt < q4.toInt) → wq (g90 q0 q1 q2 q3 q4) (fun r => KX12 r.2.1 r.2.2.2 ∧ True)) : ∀ (fu : Nat) (I0_l187 : (Nat → Int32)) (L0_l187 : Int64) (M0_l187 : (Nat → Nat → Int32)) (y187_9 : Int32), (1 ≤ y187_9.toInt ∧ y187_9.toInt ≤ 4) → (KX12 I0_l187 M0_l187) → ER N I0_l187 L0_l187 M0_l187 y90_6 x3 r4 (4 : Int32) y145_8 → (4 - y187_9.toInt) < (fu : Int) → wq (fX12_errors_L187 N x1 x2 x3 x4 r4 v7 y145_8 y90_6 g51 g90 g145 fu I0_l187 L0_l187 M0_l187 y187_9) (fun r => KX12 r.2.1 r.2.2.2 ∧ True) := by
  intro fu
  induction fu with
  | zero => intro I0_l187 L0_l187 M0_l187 y187_9 h_y187_9 k_I0_l187 hE hm; exfalso; omega
  | succ fu ih =>
    intro I0_l187 L0_l187 M0_l187 y187_9 h_y187_9 k_I0_l187 hE hm
    rw [fX12_errors_L187.eq_2]
    have l_4 := il_4
    refine wq_le (fun hc_43300 => ?_) (fun hc_43301 => ?_)
    · have l_1 := il_1
      have t_43303 := ia_add y90_6 (1 : Int32) (by omega) (by omega)
      refine wq_v (fun v11_q43302 h_v11_q43302 => ?_)
      have t_v11_q43302 := congrArg Int32.toInt h_v11_q43302
      have b_43304 := i32b v7
      exact hg90 I0_l187 L0_l187 M0_l187 v7 v11_q43302 ⟨by omega, by omega⟩ k_I0_l187 (by omega)
    · refine wq_be (tt_fX12_placeOn hN I0_l187 L0_l187 M0_l187 y187_9 y90_6 x3 ⟨by omega, by omega⟩ ⟨by omega, by omega⟩ k_I0_l187) (fun r12_q43305 hpl h_r12_q43305 => ?_)
      obtain ⟨-⟩ := h_r12_q43305
      have b_43306 := i32b r12_q43305
      have l_60 := il_60
      have t_43307 := i32b r12_q43305
      have t_43308 := ia_div2 r12_q43305 (60 : Int32) 60 il_60 (by decide)
      refine wq_eq (fun hc_43309 => ?_) (fun hc_43310 => ?_)
      · refine wq_in (n := 4) ⟨by omega, by omega⟩ ?_
        refine wq_in (n := 4) ⟨by omega, by omega⟩ ?_
        refine wq_v (fun M0_13_q43311 h_M0_13_q43311 => ?_)
        have k_M0_13_q43311 : KX12 I0_l187 M0_13_q43311 := by rw [h_M0_13_q43311]; exact KX12.sm20 k_I0_l187
        refine wq_in (n := 4) ⟨by omega, by omega⟩ ?_
        have b_43312 := i32b y145_8
        have l_1 := il_1
        refine wq_eq (fun hc_43313 => ?_) (fun hc_43314 => ?_)
        · unfold fX12_errors_J243
          refine wq_in (n := 4) ⟨by omega, by omega⟩ ?_
          refine wq_v (fun M0_8_q43315 h_M0_8_q43315 => ?_)
          have k_M0_8_q43315 : KX12 I0_l187 M0_8_q43315 := by rw [h_M0_8_q43315]; exact KX12.sm21 k_M0_13_q43311
          refine wq_in (n := 4) ⟨by omega, by omega⟩ ?_
          refine wq_nz (by have hb := hE.2.2 _ _ (by omega) (by omega) hpl hc_43309; omega) ?_
          refine wq_in (n := 4) ⟨by omega, by omega⟩ ?_
          refine wq_v (fun M0_9_q43316 h_M0_9_q43316 => ?_)
          have k_M0_9_q43316 : KX12 I0_l187 M0_9_q43316 := by rw [h_M0_9_q43316]; exact KX12.sm22 k_M0_8_q43315
          have t_43318 := ia_add y187_9 (1 : Int32) (by omega) (by omega)
          refine wq_v (fun v10_q43317 h_v10_q43317 => ?_)
          have t_v10_q43317 := congrArg Int32.toInt h_v10_q43317
          exact ih I0_l187 L0_l187 M0_9_q43316 v10_q43317 ⟨by omega, by omega⟩ k_M0_9_q43316 (by rw [h_M0_9_q43316, h_M0_8_q43315, h_M0_13_q43311]; exact ER_um (by decide) (ER_um (by decide) (ER_um (by decide) hE))) (by omega)
        · unfold fX12_errors_J243
          refine wq_in (n := 4) ⟨by omega, by omega⟩ ?_
          refine wq_v (fun M0_8_q43319 h_M0_8_q43319 => ?_)
          have k_M0_8_q43319 : KX12 I0_l187 M0_8_q43319 := by rw [h_M0_8_q43319]; exact KX12.sm21 k_M0_13_q43311
          refine wq_in (n := 4) ⟨by omega, by omega⟩ ?_
          refine wq_nz (by have hb := hE.2.2 _ _ (by omega) (by omega) hpl hc_43309; omega) ?_
          refine wq_in (n := 4) ⟨by omega, by omega⟩ ?_
          refine wq_v (fun M0_9_q43320 h_M0_9_q43320 => ?_)
          have k_M0_9_q43320 : KX12 I0_l187 M0_9_q43320 := by rw [h_M0_9_q43320]; exact KX12.sm22 k_M0_8_q43319
          have t_43322 := ia_add y187_9 (1 : Int32) (by omega) (by omega)
          refine wq_v (fun v10_q43321 h_v10_q43321 => ?_)
          have t_v10_q43321 := congrArg Int32.toInt h_v10_q43321
          exact ih I0_l187 L0_l187 M0_9_q43320 v10_q43321 ⟨by omega, by omega⟩ k_M0_9_q43320 (by rw [h_M0_9_q43320, h_M0_8_q43319, h_M0_13_q43311]; exact ER_um (by decide) (ER_um (by decide) (ER_um (by decide) hE))) (by omega)
      · have l_1 := il_1
        have t_43324 := ia_add y187_9 (1 : Int32) (by omega) (by omega)
        refine wq_v (fun v14_q43323 h_v14_q43323 => ?_)
        have t_v14_q43323 := congrArg Int32.toInt h_v14_q43323
        exact ih I0_l187 L0_l187 M0_l187 v14_q43323 ⟨by omega, by omega⟩ k_I0_l187 hE (by omega)
set_option maxHeartbeats 4000000 in
theorem tt_fX12_errors_L145 {N : Nat} (hN : 3000000000 ≤ N) (x1 : Int32) (x2 : Int32) (x3 : Int32) (x4 : Int32) (r4 : Int32) (v7 : Int32) (y90_6 : Int32) (g51 : (Nat → Int32) → Int64 → (Nat → Nat → Int32) → Int32 → Option (Int32 × (Nat → Int32) × Int64 × (Nat → Nat → Int32))) (g90 : (Nat → Int32) → Int64 → (Nat → Nat → Int32) → Int32 → Int32 → Option (Int32 × (Nat → Int32) × Int64 × (Nat → Nat → Int32))) (h_x1 : 0 ≤ x1.toInt ∧ x1.toInt ≤ 5) (h_x2 : 0 ≤ x2.toInt ∧ x2.toInt ≤ 19) (h_x3 : 0 ≤ x3.toInt ∧ x3.toInt ≤ 1000000) (h_x4 : 0 ≤ x4.toInt ∧ x4.toInt ≤ 10) (h_r4 : 0 ≤ r4.toInt ∧ r4.toInt ≤ 359) (h_y90_6 : 0 ≤ y90_6.toInt ∧ y90_6.toInt ≤ 6) (hg90 : ∀ (q0 : (Nat → Int32)) (q1 : Int64) (q2 : (Nat → Nat → Int32)) (q3 : Int32) (q4 : Int32), (0 ≤ q4.toInt ∧ q4.toInt ≤ 7) → (KX12 q0 q2) → (y90_6.toInt < q4.toInt) → wq (g90 q0 q1 q2 q3 q4) (fun r => KX12 r.2.1 r.2.2.2 ∧ True)) : ∀ (fu : Nat) (I0_l145 : (Nat → Int32)) (L0_l145 : Int64) (M0_l145 : (Nat → Nat → Int32)) (y145_8 : Int32) (y145_9 : Int32), (1 ≤ y145_9.toInt ∧ y145_9.toInt ≤ 4) → (KX12 I0_l145 M0_l145) → ER N I0_l145 L0_l145 M0_l145 y90_6 x3 r4 y145_9 y145_8 → (4 - y145_9.toInt) < (fu : Int) → wq (fX12_errors_L145 N x1 x2 x3 x4 r4 v7 y90_6 g51 g90 fu I0_l145 L0_l145 M0_l145 y145_8 y145_9) (fun r => KX12 r.2.1 r.2.2.2 ∧ True) := by
  intro fu
  induction fu with
  | zero => intro I0_l145 L0_l145 M0_l145 y145_8 y145_9 h_y145_9 k_I0_l145 hE hm; exfalso; omega
  | succ fu ih =>
    intro I0_l145 L0_l145 M0_l145 y145_8 y145_9 h_y145_9 k_I0_l145 hE hm
    have hE1 := hE.1
    have hE2 := hE.2.1
    rw [fX12_errors_L145.eq_2]
    have l_4 := il_4
    refine wq_le (fun hc_43325 => ?_) (fun hc_43326 => ?_)
    · have b_43327 := i32b v7
      have b_43328 := i32b y145_8
      have l_1 := il_1
      exact tt_fX12_errors_L187 hN x1 x2 x3 x4 r4 v7 y145_8 y90_6 g51 g90 _ ⟨by omega, by omega⟩ ⟨by omega, by omega⟩ ⟨by omega, by omega⟩ ⟨by omega, by omega⟩ ⟨by omega, by omega⟩ ⟨by omega, by omega⟩ hg90 N I0_l145 L0_l145 M0_l145 (1 : Int32) ⟨by omega, by omega⟩ k_I0_l145 (ER_4 hE (by omega)) (by omega)
    · refine wq_be (tt_fX12_placeOn hN I0_l145 L0_l145 M0_l145 y145_9 y90_6 x3 ⟨by omega, by omega⟩ ⟨by omega, by omega⟩ k_I0_l145) (fun r15_q43329 hpl h_r15_q43329 => ?_)
      obtain ⟨-⟩ := h_r15_q43329
      have b_43330 := i32b r15_q43329
      have l_60 := il_60
      have t_43331 := i32b r15_q43329
      have t_43332 := ia_div2 r15_q43329 (60 : Int32) 60 il_60 (by decide)
      refine wq_eq (fun hc_43333 => ?_) (fun hc_43334 => ?_)
      · have b_43336 := i32b y145_8
        have l_1 := il_1
        refine wq_v (fun v18_q43335 h_v18_q43335 => ?_)
        have t_v18_q43335 := congrArg Int32.toInt h_v18_q43335
        have t_43338 := ia_add y145_9 (1 : Int32) (by omega) (by omega)
        refine wq_v (fun v19_q43337 h_v19_q43337 => ?_)
        have t_v19_q43337 := congrArg Int32.toInt h_v19_q43337
        have b_43339 := i32b v18_q43335
        have tby := ia_add y145_8 (1 : Int32) (by omega) (by omega)
        exact ih I0_l145 L0_l145 M0_l145 v18_q43335 v19_q43337 ⟨by omega, by omega⟩ k_I0_l145 (ER_y hE hpl hc_43333 (by omega) (by omega)) (by omega)
      · have b_43341 := i32b y145_8
        have l_0 := il_0
        have t_43342 := ia_add y145_8 (0 : Int32) (by omega) (by omega)
        refine wq_v (fun v16_q43340 h_v16_q43340 => ?_)
        have t_v16_q43340 := congrArg Int32.toInt h_v16_q43340
        have l_1 := il_1
        have t_43344 := ia_add y145_9 (1 : Int32) (by omega) (by omega)
        refine wq_v (fun v17_q43343 h_v17_q43343 => ?_)
        have t_v17_q43343 := congrArg Int32.toInt h_v17_q43343
        have b_43345 := i32b v16_q43340
        exact ih I0_l145 L0_l145 M0_l145 v16_q43340 v17_q43343 ⟨by omega, by omega⟩ k_I0_l145 (ER_n hE hpl hc_43334 (by omega) (by omega)) (by omega)
set_option maxHeartbeats 4000000 in
theorem tt_fX12_errors_L90 {N : Nat} (hN : 3000000000 ≤ N) (x1 : Int32) (x2 : Int32) (x3 : Int32) (x4 : Int32) (g51 : (Nat → Int32) → Int64 → (Nat → Nat → Int32) → Int32 → Option (Int32 × (Nat → Int32) × Int64 × (Nat → Nat → Int32))) (h_x1 : 0 ≤ x1.toInt ∧ x1.toInt ≤ 5) (h_x2 : 0 ≤ x2.toInt ∧ x2.toInt ≤ 19) (h_x3 : 0 ≤ x3.toInt ∧ x3.toInt ≤ 1000000) (h_x4 : 0 ≤ x4.toInt ∧ x4.toInt ≤ 10)  : ∀ (fu : Nat) (I0_l90 : (Nat → Int32)) (L0_l90 : Int64) (M0_l90 : (Nat → Nat → Int32)) (y90_5 : Int32) (y90_6 : Int32), (0 ≤ y90_6.toInt ∧ y90_6.toInt ≤ 7) → (KX12 I0_l90 M0_l90) → (7 - y90_6.toInt) < (fu : Int) → wq (fX12_errors_L90 N x1 x2 x3 x4 g51 fu I0_l90 L0_l90 M0_l90 y90_5 y90_6) (fun r => KX12 r.2.1 r.2.2.2 ∧ True) := by
  intro fu
  induction fu with
  | zero => intro I0_l90 L0_l90 M0_l90 y90_5 y90_6 h_y90_6 k_I0_l90 hm; exfalso; omega
  | succ fu ih =>
    intro I0_l90 L0_l90 M0_l90 y90_5 y90_6 h_y90_6 k_I0_l90 hm
    rw [fX12_errors_L90.eq_2]
    have l_7 := il_7
    refine wq_le (fun hc_43346 => ?_) (fun hc_43347 => ?_)
    · have l_0 := il_0
      refine wq_eq (fun hc_43348 => ?_) (fun hc_43349 => ?_)
      · have b_43350 := i32b y90_5
        exact wq_s ⟨k_I0_l90, trivial⟩
      · have l_1 := il_1
        refine wq_le (fun hc_43351 => ?_) (fun hc_43352 => ?_)
        · have l_2 := il_2
          exact tt_fX12_errors_L340 hN x1 x2 x3 x4 g51 _ ⟨by omega, by omega⟩ ⟨by omega, by omega⟩ ⟨by omega, by omega⟩ ⟨by omega, by omega⟩ N I0_l90 L0_l90 M0_l90 (1 : Int32) (2 : Int32) ⟨by omega, by omega⟩ ⟨by omega, by omega⟩ k_I0_l90 (by omega)
        · have l_5 := il_5
          refine wq_le (fun hc_43353 => ?_) (fun hc_43354 => ?_)
          · have l_8 := il_8
            refine wq_le (fun hc_43355 => ?_) (fun hc_43356 => ?_)
            · have t_43357 := ia_sub x4 (7 : Int32) (by omega) (by omega)
              refine wq_in (n := 4) ⟨by omega, by omega⟩ ?_
              exact wq_s ⟨k_I0_l90, trivial⟩
            · have l_4 := il_4
              have t_43358 := ia_sub x4 (4 : Int32) (by omega) (by omega)
              refine wq_in (n := 4) ⟨by omega, by omega⟩ ?_
              exact wq_s ⟨k_I0_l90, trivial⟩
          · have t_43359 := ia_sub x4 (1 : Int32) (by omega) (by omega)
            refine wq_in (n := 4) ⟨by omega, by omega⟩ ?_
            exact wq_s ⟨k_I0_l90, trivial⟩
    · have l_20 := il_20
      have t_43360 := ia_mul (20 : Int32) (20) il_20 x1 (by omega) (by omega)
      have t_43361 := ia_add ((20 : Int32) * x1) x2 (by omega) (by omega)
      refine wq_b (tt_fX12_at hN I0_l90 L0_l90 M0_l90 (((20 : Int32) * x1) + x2) y90_6 ⟨by omega, by omega⟩ ⟨by omega, by omega⟩ k_I0_l90) (fun r4_q43362 h_r4_q43362 => ?_)
      obtain ⟨h_r4_q43362_0, h_r4_q43362_1, h_r4_q43362_2, -⟩ := h_r4_q43362
      have l_m1 := il_m1
      refine wq_eq (fun hc_43363 => ?_) (fun hc_43364 => ?_)
      · have l_1 := il_1
        have t_43366 := ia_add y90_6 (1 : Int32) (by omega) (by omega)
        refine wq_v (fun v5_q43365 h_v5_q43365 => ?_)
        have t_v5_q43365 := congrArg Int32.toInt h_v5_q43365
        have b_43367 := i32b y90_5
        exact ih I0_l90 L0_l90 M0_l90 y90_5 v5_q43365 ⟨by omega, by omega⟩ k_I0_l90 (by omega)
      · have l_0 := il_0
        refine wq_b (tt_fX12_placeOn hN I0_l90 L0_l90 M0_l90 (0 : Int32) y90_6 x3 ⟨by omega, by omega⟩ ⟨by omega, by omega⟩ k_I0_l90) (fun r6_q43368 h_r6_q43368 => ?_)
        obtain ⟨-⟩ := h_r6_q43368
        have b_43369 := i32b r6_q43368
        have l_60 := il_60
        have t_43370 := i32b r6_q43368
        have t_43371 := ia_div2 r6_q43368 (60 : Int32) 60 il_60 (by decide)
        refine wq_eq (fun hc_43372 => ?_) (fun hc_43373 => ?_)
        · have l_1 := il_1
          have t_43375 := ia_add y90_6 (1 : Int32) (by omega) (by omega)
          refine wq_v (fun v20_q43374 h_v20_q43374 => ?_)
          have t_v20_q43374 := congrArg Int32.toInt h_v20_q43374
          have b_43376 := i32b y90_5
          exact ih I0_l90 L0_l90 M0_l90 y90_5 v20_q43374 ⟨by omega, by omega⟩ k_I0_l90 (by omega)
        · have b_43378 := i32b y90_5
          have l_1 := il_1
          refine wq_v (fun v7_q43377 h_v7_q43377 => ?_)
          have t_v7_q43377 := congrArg Int32.toInt h_v7_q43377
          have b_43379 := i32b v7_q43377
          exact tt_fX12_errors_L145 hN x1 x2 x3 x4 r4_q43362 v7_q43377 y90_6 g51 _ ⟨by omega, by omega⟩ ⟨by omega, by omega⟩ ⟨by omega, by omega⟩ ⟨by omega, by omega⟩ ⟨by omega, by omega⟩ ⟨by omega, by omega⟩ (fun q0 q1 q2 q3 q4 hq0 hq1 hq2 => ih q0 q1 q2 q3 q4 hq0 hq1 (by omega)) N I0_l90 L0_l90 M0_l90 (0 : Int32) (1 : Int32) ⟨by omega, by omega⟩ k_I0_l90 ER_0 (by omega)
set_option maxHeartbeats 4000000 in
theorem tt_fX12_errors_L51 {N : Nat} (hN : 3000000000 ≤ N) (x1 : Int32) (x2 : Int32) (x3 : Int32) (x4 : Int32) (h_x1 : 0 ≤ x1.toInt ∧ x1.toInt ≤ 5) (h_x2 : 0 ≤ x2.toInt ∧ x2.toInt ≤ 19) (h_x3 : 0 ≤ x3.toInt ∧ x3.toInt ≤ 1000000) (h_x4 : 0 ≤ x4.toInt ∧ x4.toInt ≤ 10)  : ∀ (fu : Nat) (I0_l51 : (Nat → Int32)) (L0_l51 : Int64) (M0_l51 : (Nat → Nat → Int32)) (y51_6 : Int32), (1 ≤ y51_6.toInt ∧ y51_6.toInt ≤ 4) → (KX12 I0_l51 M0_l51) → (4 - y51_6.toInt) < (fu : Int) → wq (fX12_errors_L51 N x1 x2 x3 x4 fu I0_l51 L0_l51 M0_l51 y51_6) (fun r => KX12 r.2.1 r.2.2.2 ∧ True) := by
  intro fu
  induction fu with
  | zero => intro I0_l51 L0_l51 M0_l51 y51_6 h_y51_6 k_I0_l51 hm; exfalso; omega
  | succ fu ih =>
    intro I0_l51 L0_l51 M0_l51 y51_6 h_y51_6 k_I0_l51 hm
    rw [fX12_errors_L51.eq_2]
    have l_4 := il_4
    refine wq_le (fun hc_43380 => ?_) (fun hc_43381 => ?_)
    · have l_0 := il_0
      exact tt_fX12_errors_L90 hN x1 x2 x3 x4 _ ⟨by omega, by omega⟩ ⟨by omega, by omega⟩ ⟨by omega, by omega⟩ ⟨by omega, by omega⟩ N I0_l51 L0_l51 M0_l51 (0 : Int32) (0 : Int32) ⟨by omega, by omega⟩ k_I0_l51 (by omega)
    · refine wq_in (n := 4) ⟨by omega, by omega⟩ ?_
      refine wq_v (fun M0_21_q43382 h_M0_21_q43382 => ?_)
      have k_M0_21_q43382 : KX12 I0_l51 M0_21_q43382 := by rw [h_M0_21_q43382]; exact KX12.sm20 k_I0_l51
      refine wq_in (n := 4) ⟨by omega, by omega⟩ ?_
      refine wq_v (fun M0_22_q43383 h_M0_22_q43383 => ?_)
      have k_M0_22_q43383 : KX12 I0_l51 M0_22_q43383 := by rw [h_M0_22_q43383]; exact KX12.sm21 k_M0_21_q43382
      refine wq_in (n := 4) ⟨by omega, by omega⟩ ?_
      refine wq_v (fun M0_23_q43384 h_M0_23_q43384 => ?_)
      have k_M0_23_q43384 : KX12 I0_l51 M0_23_q43384 := by rw [h_M0_23_q43384]; exact KX12.sm22 k_M0_22_q43383
      have l_1 := il_1
      have t_43386 := ia_add y51_6 (1 : Int32) (by omega) (by omega)
      refine wq_v (fun v24_q43385 h_v24_q43385 => ?_)
      have t_v24_q43385 := congrArg Int32.toInt h_v24_q43385
      exact ih I0_l51 L0_l51 M0_23_q43384 v24_q43385 ⟨by omega, by omega⟩ k_M0_23_q43384 (by omega)
set_option maxHeartbeats 4000000 in
theorem tt_fX12_errors {N : Nat} (hN : 3000000000 ≤ N) (I0 : Nat → Int32) (L0 : Int64) (M0 : Nat → Nat → Int32) (x1 : Int32) (x2 : Int32) (x3 : Int32) (x4 : Int32) (k_I0 : KX12 I0 M0) : wq (fX12_errors N I0 L0 M0 x1 x2 x3 x4) (fun r => KX12 r.2.1 r.2.2.2 ∧ True) := by
  unfold fX12_errors
  have b_43387 := i32b x1
  have b_43388 := i32b x2
  refine wq_b (tt_fX12_isWheel hN I0 L0 M0 x1 x2 k_I0) (fun r25_q43389 h_r25_q43389 => ?_)
  obtain ⟨h_r25_q43389_0, h_r25_q43389_1, h_r25_q43389_2, h_r25_q43389_3, -⟩ := h_r25_q43389
  have t_43390 := KX12.i1 h_r25_q43389_3
  have t_43391 := KX12.i1 k_I0
  have l_0 := il_0
  refine wq_eq (fun hc_43392 => ?_) (fun hc_43393 => ?_)
  · exact wq_s ⟨h_r25_q43389_3, trivial⟩
  · have b_43394 := i32b x3
    have l_1000000 := il_1000000
    refine wq_b (tt_fX12_within hN x3 (0 : Int32) (1000000 : Int32)) (fun r26_q43395 h_r26_q43395 => ?_)
    obtain ⟨h_r26_q43395_0, h_r26_q43395_1, -⟩ := h_r26_q43395
    refine wq_eq (fun hc_43396 => ?_) (fun hc_43397 => ?_)
    · unfold fX12_errors_J35
      unfold fX12_errors_J36
      have l_1 := il_1
      refine wq_b (tt_fX12_right hN r25_q43389.2.1 r25_q43389.2.2.1 r25_q43389.2.2.2 (0 : Int32) (1 : Int32) ⟨by omega, by omega⟩ h_r25_q43389_3) (fun r1_q43398 h_r1_q43398 => ?_)
      obtain ⟨h_r1_q43398_0, h_r1_q43398_1, h_r1_q43398_2, h_r1_q43398_3, -⟩ := h_r1_q43398
      have t_43399 := KX12.i1 h_r1_q43398_3
      refine wq_eq (fun hc_43400 => ?_) (fun hc_43401 => ?_)
      · exact wq_s ⟨h_r1_q43398_3, trivial⟩
      · have b_43402 := i32b x4
        exact tt_fX12_errors_L51 hN x1 x2 x3 x4 ⟨by omega, by omega⟩ ⟨by omega, by omega⟩ ⟨by omega, by omega⟩ ⟨by omega, by omega⟩ N r1_q43398.2.1 r1_q43398.2.2.1 r1_q43398.2.2.2 (1 : Int32) ⟨by omega, by omega⟩ h_r1_q43398_3 (by omega)
    · have b_43403 := i32b x4
      have l_10 := il_10
      refine wq_b (tt_fX12_within hN x4 (0 : Int32) (10 : Int32)) (fun r27_q43404 h_r27_q43404 => ?_)
      obtain ⟨h_r27_q43404_0, h_r27_q43404_1, -⟩ := h_r27_q43404
      refine wq_eq (fun hc_43405 => ?_) (fun hc_43406 => ?_)
      · unfold fX12_errors_J35
        unfold fX12_errors_J36
        have l_1 := il_1
        refine wq_b (tt_fX12_right hN r25_q43389.2.1 r25_q43389.2.2.1 r25_q43389.2.2.2 (0 : Int32) (1 : Int32) ⟨by omega, by omega⟩ h_r25_q43389_3) (fun r1_q43407 h_r1_q43407 => ?_)
        obtain ⟨h_r1_q43407_0, h_r1_q43407_1, h_r1_q43407_2, h_r1_q43407_3, -⟩ := h_r1_q43407
        have t_43408 := KX12.i1 h_r1_q43407_3
        refine wq_eq (fun hc_43409 => ?_) (fun hc_43410 => ?_)
        · exact wq_s ⟨h_r1_q43407_3, trivial⟩
        · exact tt_fX12_errors_L51 hN x1 x2 x3 x4 ⟨by omega, by omega⟩ ⟨by omega, by omega⟩ ⟨by omega, by omega⟩ ⟨by omega, by omega⟩ N r1_q43407.2.1 r1_q43407.2.2.1 r1_q43407.2.2.2 (1 : Int32) ⟨by omega, by omega⟩ h_r1_q43407_3 (by omega)
      · unfold fX12_errors_J36
        have l_1 := il_1
        refine wq_b (tt_fX12_right hN r25_q43389.2.1 r25_q43389.2.2.1 r25_q43389.2.2.2 (1 : Int32) (1 : Int32) ⟨by omega, by omega⟩ h_r25_q43389_3) (fun r1_q43411 h_r1_q43411 => ?_)
        obtain ⟨h_r1_q43411_0, h_r1_q43411_1, h_r1_q43411_2, h_r1_q43411_3, -⟩ := h_r1_q43411
        have t_43412 := KX12.i1 h_r1_q43411_3
        refine wq_eq (fun hc_43413 => ?_) (fun hc_43414 => ?_)
        · exact wq_s ⟨h_r1_q43411_3, trivial⟩
        · exact tt_fX12_errors_L51 hN x1 x2 x3 x4 ⟨by omega, by omega⟩ ⟨by omega, by omega⟩ ⟨by omega, by omega⟩ ⟨by omega, by omega⟩ N r1_q43411.2.1 r1_q43411.2.2.1 r1_q43411.2.2.2 (1 : Int32) ⟨by omega, by omega⟩ h_r1_q43411_3 (by omega)
set_option maxHeartbeats 4000000 in
theorem tt_fX12_climbOf_L5 {N : Nat} (hN : 3000000000 ≤ N) (I0 : Nat → Int32) (L0 : Int64) (M0 : Nat → Nat → Int32) (x1 : Int32) (x2 : Int32) (h_x1 : 0 ≤ x1.toInt ∧ x1.toInt ≤ 6) (h_x2 : -60 ≤ x2.toInt ∧ x2.toInt ≤ 21599) (k_I0 : KX12 I0 M0)  : ∀ (fu : Nat) (y5_3 : Int32) (y5_4 : Int32), (0 ≤ y5_4.toInt ∧ y5_4.toInt ≤ 11) → (11 - y5_4.toInt) < (fu : Int) → wq (fX12_climbOf_L5 N I0 L0 M0 x1 x2 fu y5_3 y5_4) (fun r => True) := by
  intro fu
  induction fu with
  | zero => intro y5_3 y5_4 h_y5_4 hm; exfalso; omega
  | succ fu ih =>
    intro y5_3 y5_4 h_y5_4 hm
    rw [fX12_climbOf_L5.eq_2]
    have l_1800 := il_1800
    have t_43558 := ia_div2 x2 (1800 : Int32) 1800 il_1800 (by decide)
    refine wq_le (fun hc_43559 => ?_) (fun hc_43560 => ?_)
    · have l_12 := il_12
      have t_43561 := ia_mul (12 : Int32) (12) il_12 x1 (by omega) (by omega)
      have t_43562 := ia_add ((12 : Int32) * x1) (x2 / (1800 : Int32)) (by omega) (by omega)
      refine wq_in (n := 84) ⟨by omega, by omega⟩ ?_
      have b_43563 := i32b y5_3
      exact wq_s trivial
    · have l_12 := il_12
      have t_43564 := ia_mul (12 : Int32) (12) il_12 x1 (by omega) (by omega)
      have t_43565 := ia_add ((12 : Int32) * x1) y5_4 (by omega) (by omega)
      refine wq_in (n := 84) ⟨by omega, by omega⟩ ?_
      have b_43567 := i32b y5_3
      refine wq_v (fun v1_q43566 h_v1_q43566 => ?_)
      have t_v1_q43566 := congrArg Int32.toInt h_v1_q43566
      have l_1 := il_1
      have t_43569 := ia_add y5_4 (1 : Int32) (by omega) (by omega)
      refine wq_v (fun v2_q43568 h_v2_q43568 => ?_)
      have t_v2_q43568 := congrArg Int32.toInt h_v2_q43568
      have b_43570 := i32b v1_q43566
      exact ih v1_q43566 v2_q43568 ⟨by omega, by omega⟩ (by omega)
set_option maxHeartbeats 4000000 in
theorem tt_fX12_climbOf {N : Nat} (hN : 3000000000 ≤ N) (I0 : Nat → Int32) (L0 : Int64) (M0 : Nat → Nat → Int32) (x1 : Int32) (x2 : Int32) (h_x1 : 0 ≤ x1.toInt ∧ x1.toInt ≤ 6) (h_x2 : -60 ≤ x2.toInt ∧ x2.toInt ≤ 21599) (k_I0 : KX12 I0 M0) : wq (fX12_climbOf N I0 L0 M0 x1 x2) (fun r => True) := by
  unfold fX12_climbOf
  have l_0 := il_0
  exact tt_fX12_climbOf_L5 hN I0 L0 M0 x1 x2 ⟨by omega, by omega⟩ ⟨by omega, by omega⟩ k_I0 N (0 : Int32) (0 : Int32) ⟨by omega, by omega⟩ (by omega)
theorem sm_nn (f : Nat → Int32) (a : Nat) (n : Nat) (h : ∀ z : Nat, z < n → 1 ≤ (f (a + z)).toInt) : ∀ m : Nat, m ≤ n → (m : Int) ≤ sm f a m ∧ sm f a m + ((n - m : Nat) : Int) ≤ sm f a n := by
  intro m hm
  constructor
  · induction m with
    | zero => simp [sm]
    | succ m ih => have := ih (by omega); have := h m (by omega); simp only [sm]; omega
  · have key : ∀ d : Nat, m + d ≤ n → sm f a m + (d : Int) ≤ sm f a (m + d) := by
      intro d
      induction d with
      | zero => intro _; simp
      | succ d ih => intro hd; have := ih (by omega); have := h (m + d) (by omega); show _ ≤ sm f a (m + d) + (f (a + (m + d))).toInt; omega
    have := key (n - m) (by omega)
    have e : m + (n - m) = n := by omega
    rw [e] at this
    exact this
theorem tt_fX12_placeOf_L5 {N : Nat} (I0 : Nat → Int32) (L0 : Int64) (M0 : Nat → Nat → Int32) (x1 x2 : Int32) (c : Nat) (hc : c ≤ 6) (hx : x1 = nI c) (hv : RV (M0 4) c) : ∀ (fu : Nat) (s : Nat) (left : Int32), s ≤ 11 → left.toInt + 1800 * sm (M0 4) (12 * c) s < 6480000 → 12 - s < fu → wq (fX12_placeOf_L5 N I0 L0 M0 x1 x2 fu left (nI s)) (fun r => True) := by
  intro fu
  induction fu with
  | zero => intro s left h1 h2 h3; omega
  | succ fu ih =>
    intro s left h1 h2 h3
    subst hx
    have e12 : (12 : Int32) * nI c + nI s = nI (12 * c + s) := by rw [show (12 : Int32) = nI 12 from rfl, pk_mul, nI_add]
    have hr := hv.1 s (by omega)
    have l18 : (1800 : Int32).toInt = 1800 := by decide
    rw [fX12_placeOf_L5.eq_2, e12]
    have hin : ¬ (nI (12 * c + s) < 0 ∨ 84 ≤ (nI (12 * c + s)).toNatClampNeg) := wp_in (by omega) (by decide)
    rw [if_neg hin, nI_clamp (by omega)]
    rw [nI_clamp (by omega)] at hin
    have tm := ia_mul (1800 : Int32) 1800 l18 (M0 4 (12 * c + s)) (by omega) (by omega)
    refine wq_lt (fun hq => ?_) (fun hq => ?_)
    · rw [if_neg hin]
      exact wq_nz (by omega) (wq_s trivial)
    · rw [if_neg hin]
      have hs := sm_nn (M0 4) (12 * c) 12 (fun z hz => (hv.1 z hz).1)
      have ts := ia_sub left ((1800 : Int32) * M0 4 (12 * c + s)) (by omega) (by have := Int32.toInt_lt left; omega)
      refine wq_v (fun v ev => ?_)
      have tv := congrArg Int32.toInt ev
      refine wq_v (fun w ew => ?_)
      rw [ew, nI_1]
      have es : sm (M0 4) (12 * c) (s + 1) = sm (M0 4) (12 * c) s + (M0 4 (12 * c + s)).toInt := rfl
      have hsum := hv.2
      refine ih (s + 1) v ?_ (by omega) (by omega)
      rcases Nat.lt_or_ge s 11 with q | q
      · omega
      · exfalso
        have e11 : s = 11 := by omega
        subst e11
        have e2 : sm (M0 4) (12 * c) 12 = sm (M0 4) (12 * c) 11 + (M0 4 (12 * c + 11)).toInt := rfl
        omega
theorem tt_fX12_placeOf {N : Nat} (hN : 3000000000 ≤ N) (I0 : Nat → Int32) (L0 : Int64) (M0 : Nat → Nat → Int32) (x1 : Int32) (x2 : Int32) (h_x1 : 0 ≤ x1.toInt ∧ x1.toInt ≤ 6) (k_I0 : KX12 I0 M0) (hr_2 : x1.toInt < (I0 1).toInt) (hr_3 : x2.toInt < 6480000) : wq (fX12_placeOf N I0 L0 M0 x1 x2) (fun r => True) := by
  unfold fX12_placeOf
  have h0 : 0 ≤ x1.toInt := h_x1.1
  have ex : x1 = nI x1.toInt.toNat := by
    apply Int32.toInt_inj.mp
    rw [nI_toInt (by omega)]
    omega
  have hv := k_I0.er1 x1.toInt.toNat (by omega)
  exact tt_fX12_placeOf_L5 I0 L0 M0 x1 x2 x1.toInt.toNat (by omega) ex hv N 0 x2 (by omega) (by simp only [sm]; omega) (by omega)
set_option maxHeartbeats 4000000 in
theorem tt_fX12_isClimate {N : Nat} (hN : 3000000000 ≤ N) (I0 : Nat → Int32) (L0 : Int64) (M0 : Nat → Nat → Int32) (x1 : Int32) (x2 : Int32) (k_I0 : KX12 I0 M0) : wq (fX12_isClimate N I0 L0 M0 x1 x2) (fun r => (r.1.toInt = 0 ∨ (r.1.toInt = 1 ∧ 0 ≤ x1.toInt ∧ x1.toInt ≤ 6 ∧ x1.toInt < (r.2.1 1).toInt ∧ 0 ≤ x2.toInt ∧ x2.toInt ≤ 21599)) ∧ (r.2.1 1).toInt = (I0 1).toInt ∧ (0 ≤ r.1.toInt ∧ r.1.toInt ≤ 1) ∧ KX12 r.2.1 r.2.2.2 ∧ True) := by
  unfold fX12_isClimate
  have b_43685 := i32b x1
  have l_0 := il_0
  refine wq_lt (fun hc_43686 => ?_) (fun hc_43687 => ?_)
  · have l_1 := il_1
    refine wq_b (tt_fX12_right hN I0 L0 M0 (0 : Int32) (1 : Int32) ⟨by omega, by omega⟩ k_I0) (fun r1_q43688 h_r1_q43688 => ?_)
    obtain ⟨h_r1_q43688_0, h_r1_q43688_1, h_r1_q43688_2, h_r1_q43688_3, -⟩ := h_r1_q43688
    have t_43689 := KX12.i1 h_r1_q43688_3
    have t_43690 := KX12.i1 k_I0
    refine wq_bz (by omega) ?_
    have b_43691 := i32b x2
    exact wq_s ⟨(show (r1_q43688.1.toInt = 0 ∨ (r1_q43688.1.toInt = 1 ∧ 0 ≤ x1.toInt ∧ x1.toInt ≤ 6 ∧ x1.toInt < (r1_q43688.2.1 1).toInt ∧ 0 ≤ x2.toInt ∧ x2.toInt ≤ 21599)) from by omega), (show (r1_q43688.2.1 1).toInt = (I0 1).toInt from by omega), (show 0 ≤ r1_q43688.1.toInt ∧ r1_q43688.1.toInt ≤ 1 from ⟨by omega, by omega⟩), h_r1_q43688_3, trivial⟩
  · have t_43692 := KX12.i1 k_I0
    refine wq_le (fun hc_43693 => ?_) (fun hc_43694 => ?_)
    · have l_1 := il_1
      refine wq_b (tt_fX12_right hN I0 L0 M0 (0 : Int32) (1 : Int32) ⟨by omega, by omega⟩ k_I0) (fun r2_q43695 h_r2_q43695 => ?_)
      obtain ⟨h_r2_q43695_0, h_r2_q43695_1, h_r2_q43695_2, h_r2_q43695_3, -⟩ := h_r2_q43695
      have t_43696 := KX12.i1 h_r2_q43695_3
      refine wq_bz (by omega) ?_
      have b_43697 := i32b x2
      exact wq_s ⟨(show (r2_q43695.1.toInt = 0 ∨ (r2_q43695.1.toInt = 1 ∧ 0 ≤ x1.toInt ∧ x1.toInt ≤ 6 ∧ x1.toInt < (r2_q43695.2.1 1).toInt ∧ 0 ≤ x2.toInt ∧ x2.toInt ≤ 21599)) from by omega), (show (r2_q43695.2.1 1).toInt = (I0 1).toInt from by omega), (show 0 ≤ r2_q43695.1.toInt ∧ r2_q43695.1.toInt ≤ 1 from ⟨by omega, by omega⟩), h_r2_q43695_3, trivial⟩
    · have b_43698 := i32b x2
      have l_21599 := il_21599
      refine wq_b (tt_fX12_within hN x2 (0 : Int32) (21599 : Int32)) (fun r3_q43699 h_r3_q43699 => ?_)
      obtain ⟨h_r3_q43699_0, h_r3_q43699_1, -⟩ := h_r3_q43699
      refine wq_eq (fun hc_43700 => ?_) (fun hc_43701 => ?_)
      · have l_1 := il_1
        refine wq_b (tt_fX12_right hN I0 L0 M0 (0 : Int32) (1 : Int32) ⟨by omega, by omega⟩ k_I0) (fun r4_q43702 h_r4_q43702 => ?_)
        obtain ⟨h_r4_q43702_0, h_r4_q43702_1, h_r4_q43702_2, h_r4_q43702_3, -⟩ := h_r4_q43702
        have t_43703 := KX12.i1 h_r4_q43702_3
        refine wq_bz (by omega) ?_
        exact wq_s ⟨(show (r4_q43702.1.toInt = 0 ∨ (r4_q43702.1.toInt = 1 ∧ 0 ≤ x1.toInt ∧ x1.toInt ≤ 6 ∧ x1.toInt < (r4_q43702.2.1 1).toInt ∧ 0 ≤ x2.toInt ∧ x2.toInt ≤ 21599)) from by omega), (show (r4_q43702.2.1 1).toInt = (I0 1).toInt from by omega), (show 0 ≤ r4_q43702.1.toInt ∧ r4_q43702.1.toInt ≤ 1 from ⟨by omega, by omega⟩), h_r4_q43702_3, trivial⟩
      · have l_1 := il_1
        refine wq_b (tt_fX12_right hN I0 L0 M0 (1 : Int32) (1 : Int32) ⟨by omega, by omega⟩ k_I0) (fun r5_q43704 h_r5_q43704 => ?_)
        obtain ⟨h_r5_q43704_0, h_r5_q43704_1, h_r5_q43704_2, h_r5_q43704_3, -⟩ := h_r5_q43704
        have t_43705 := KX12.i1 h_r5_q43704_3
        refine wq_bz (by omega) ?_
        exact wq_s ⟨(show (r5_q43704.1.toInt = 0 ∨ (r5_q43704.1.toInt = 1 ∧ 0 ≤ x1.toInt ∧ x1.toInt ≤ 6 ∧ x1.toInt < (r5_q43704.2.1 1).toInt ∧ 0 ≤ x2.toInt ∧ x2.toInt ≤ 21599)) from by omega), (show (r5_q43704.2.1 1).toInt = (I0 1).toInt from by omega), (show 0 ≤ r5_q43704.1.toInt ∧ r5_q43704.1.toInt ≤ 1 from ⟨by omega, by omega⟩), h_r5_q43704_3, trivial⟩
set_option maxHeartbeats 4000000 in
theorem tt_fX12_climb {N : Nat} (hN : 3000000000 ≤ N) (I0 : Nat → Int32) (L0 : Int64) (M0 : Nat → Nat → Int32) (x1 : Int32) (x2 : Int32) (k_I0 : KX12 I0 M0) : wq (fX12_climb N I0 L0 M0 x1 x2) (fun r => KX12 r.2.1 r.2.2.2 ∧ True) := by
  unfold fX12_climb
  refine wq_v (fun I0_1_q43772 h_I0_1_q43772 => ?_)
  have k_I0_1_q43772 : KX12 I0_1_q43772 M0 := by rw [h_I0_1_q43772]; exact KX12.si0 k_I0
  have b_43773 := i32b x1
  have b_43774 := i32b x2
  refine wq_b (tt_fX12_isClimate hN I0_1_q43772 L0 M0 x1 x2 k_I0_1_q43772) (fun r2_q43775 h_r2_q43775 => ?_)
  obtain ⟨h_r2_q43775_0, h_r2_q43775_1, h_r2_q43775_2, h_r2_q43775_3, -⟩ := h_r2_q43775
  have t_43776 := KX12.i1 h_r2_q43775_3
  have t_43777 := KX12.i1 k_I0
  have t_43778 : (I0_1_q43772 1).toInt = (I0 1).toInt := by rw [h_I0_1_q43772]; rfl
  have l_0 := il_0
  refine wq_eq (fun hc_43779 => ?_) (fun hc_43780 => ?_)
  · exact wq_s ⟨h_r2_q43775_3, trivial⟩
  · refine wq_b (tt_fX12_climbOf hN r2_q43775.2.1 r2_q43775.2.2.1 r2_q43775.2.2.2 x1 x2 ⟨by omega, by omega⟩ ⟨by omega, by omega⟩ h_r2_q43775_3) (fun r3_q43781 h_r3_q43781 => ?_)
    obtain ⟨-⟩ := h_r3_q43781
    have b_43782 := i32b r3_q43781
    exact wq_s ⟨h_r2_q43775_3, trivial⟩

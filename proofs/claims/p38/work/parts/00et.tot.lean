set_option maxHeartbeats 4000000 in
theorem tt_fX12_slips {N : Nat} (hN : 3000000000 ≤ N) (I0 : Nat → Int32) (L0 : Int64) (M0 : Nat → Nat → Int32) (x1 : Int32) (x2 : Int32) (k_I0 : KX12 I0 M0) : wq (fX12_slips N I0 L0 M0 x1 x2) (fun r => KX12 r.2.1 r.2.2.2 ∧ True) := by
  unfold fX12_slips
  refine wq_v (fun I0_16_q55553 h_I0_16_q55553 => ?_)
  have k_I0_16_q55553 : KX12 I0_16_q55553 M0 := by rw [h_I0_16_q55553]; exact KX12.si0 k_I0
  have b_55554 := i32b x1
  have l_0 := il_0
  have l_29 := il_29
  refine wq_b (tt_fX12_within hN x1 (0 : Int32) (29 : Int32)) (fun r17_q55555 h_r17_q55555 => ?_)
  obtain ⟨h_r17_q55555_0, h_r17_q55555_1, -⟩ := h_r17_q55555
  refine wq_eq (fun hc_55556 => ?_) (fun hc_55557 => ?_)
  · unfold fX12_slips_J37
    unfold fX12_slips_J38
    have l_1 := il_1
    refine wq_b (tt_fX12_right hN I0_16_q55553 L0 M0 (0 : Int32) (1 : Int32) ⟨by omega, by omega⟩ k_I0_16_q55553) (fun r1_q55558 h_r1_q55558 => ?_)
    obtain ⟨h_r1_q55558_0, h_r1_q55558_1, h_r1_q55558_2, h_r1_q55558_3, -⟩ := h_r1_q55558
    have t_55559 := KX12.i1 h_r1_q55558_3
    have t_55560 := KX12.i1 k_I0
    have t_55561 : (I0_16_q55553 1).toInt = (I0 1).toInt := by rw [h_I0_16_q55553]; rfl
    refine wq_eq (fun hc_55562 => ?_) (fun hc_55563 => ?_)
    · exact wq_s ⟨h_r1_q55558_3, trivial⟩
    · have b_55564 := i32b x2
      exact tt_fX12_slips_L52 hN x1 x2 N r1_q55558.2.1 r1_q55558.2.2.1 r1_q55558.2.2.2 (0 : Int32) (0 : Int32) ⟨by omega, by omega⟩ h_r1_q55558_3 (by omega)
  · have b_55565 := i32b x2
    refine wq_b (tt_fX12_within hN x2 (0 : Int32) (29 : Int32)) (fun r18_q55566 h_r18_q55566 => ?_)
    obtain ⟨h_r18_q55566_0, h_r18_q55566_1, -⟩ := h_r18_q55566
    refine wq_eq (fun hc_55567 => ?_) (fun hc_55568 => ?_)
    · unfold fX12_slips_J37
      unfold fX12_slips_J38
      have l_1 := il_1
      refine wq_b (tt_fX12_right hN I0_16_q55553 L0 M0 (0 : Int32) (1 : Int32) ⟨by omega, by omega⟩ k_I0_16_q55553) (fun r1_q55569 h_r1_q55569 => ?_)
      obtain ⟨h_r1_q55569_0, h_r1_q55569_1, h_r1_q55569_2, h_r1_q55569_3, -⟩ := h_r1_q55569
      have t_55570 := KX12.i1 h_r1_q55569_3
      have t_55571 := KX12.i1 k_I0
      have t_55572 : (I0_16_q55553 1).toInt = (I0 1).toInt := by rw [h_I0_16_q55553]; rfl
      refine wq_eq (fun hc_55573 => ?_) (fun hc_55574 => ?_)
      · exact wq_s ⟨h_r1_q55569_3, trivial⟩
      · exact tt_fX12_slips_L52 hN x1 x2 N r1_q55569.2.1 r1_q55569.2.2.1 r1_q55569.2.2.2 (0 : Int32) (0 : Int32) ⟨by omega, by omega⟩ h_r1_q55569_3 (by omega)
    · have t_55575 := KX12.i18 k_I0
      have t_55576 : (I0_16_q55553 18).toInt = (I0 18).toInt := by rw [h_I0_16_q55553]; rfl
      refine wq_eq (fun hc_55577 => ?_) (fun hc_55578 => ?_)
      · unfold fX12_slips_J37
        unfold fX12_slips_J38
        have l_1 := il_1
        refine wq_b (tt_fX12_right hN I0_16_q55553 L0 M0 (0 : Int32) (1 : Int32) ⟨by omega, by omega⟩ k_I0_16_q55553) (fun r1_q55579 h_r1_q55579 => ?_)
        obtain ⟨h_r1_q55579_0, h_r1_q55579_1, h_r1_q55579_2, h_r1_q55579_3, -⟩ := h_r1_q55579
        have t_55580 := KX12.i1 h_r1_q55579_3
        have t_55581 := KX12.i1 k_I0
        have t_55582 : (I0_16_q55553 1).toInt = (I0 1).toInt := by rw [h_I0_16_q55553]; rfl
        refine wq_eq (fun hc_55583 => ?_) (fun hc_55584 => ?_)
        · exact wq_s ⟨h_r1_q55579_3, trivial⟩
        · exact tt_fX12_slips_L52 hN x1 x2 N r1_q55579.2.1 r1_q55579.2.2.1 r1_q55579.2.2.2 (0 : Int32) (0 : Int32) ⟨by omega, by omega⟩ h_r1_q55579_3 (by omega)
      · unfold fX12_slips_J38
        have l_1 := il_1
        refine wq_b (tt_fX12_right hN I0_16_q55553 L0 M0 (1 : Int32) (1 : Int32) ⟨by omega, by omega⟩ k_I0_16_q55553) (fun r1_q55585 h_r1_q55585 => ?_)
        obtain ⟨h_r1_q55585_0, h_r1_q55585_1, h_r1_q55585_2, h_r1_q55585_3, -⟩ := h_r1_q55585
        have t_55586 := KX12.i1 h_r1_q55585_3
        have t_55587 := KX12.i1 k_I0
        have t_55588 : (I0_16_q55553 1).toInt = (I0 1).toInt := by rw [h_I0_16_q55553]; rfl
        refine wq_eq (fun hc_55589 => ?_) (fun hc_55590 => ?_)
        · exact wq_s ⟨h_r1_q55585_3, trivial⟩
        · exact tt_fX12_slips_L52 hN x1 x2 N r1_q55585.2.1 r1_q55585.2.2.1 r1_q55585.2.2.2 (0 : Int32) (0 : Int32) ⟨by omega, by omega⟩ h_r1_q55585_3 (by omega)
set_option maxHeartbeats 4000000 in
theorem tt_fX12_handed_L37 {N : Nat} (hN : 3000000000 ≤ N) (x1 : Int32) (x2 : Int32) (x3 : Int32) (h_x1 : 0 ≤ x1.toInt ∧ x1.toInt ≤ 5) (h_x2 : 0 ≤ x2.toInt ∧ x2.toInt ≤ 5) (h_x3 : 0 ≤ x3.toInt ∧ x3.toInt ≤ 5)  : ∀ (fu : Nat) (I0_l37 : (Nat → Int32)) (L0_l37 : Int64) (M0_l37 : (Nat → Nat → Int32)) (y37_4 : Int32) (y37_5 : Int32), (0 ≤ y37_5.toInt ∧ y37_5.toInt ≤ 440) → (KX12 I0_l37 M0_l37) → (440 - y37_5.toInt) < (fu : Int) → wq (fX12_handed_L37 N x1 x2 x3 fu I0_l37 L0_l37 M0_l37 y37_4 y37_5) (fun r => KX12 r.2.1 r.2.2.2 ∧ True) := by
  intro fu
  induction fu with
  | zero => intro I0_l37 L0_l37 M0_l37 y37_4 y37_5 h_y37_5 k_I0_l37 hm; exfalso; omega
  | succ fu ih =>
    intro I0_l37 L0_l37 M0_l37 y37_4 y37_5 h_y37_5 k_I0_l37 hm
    rw [fX12_handed_L37.eq_2]
    have l_440 := il_440
    refine wq_le (fun hc_56465 => ?_) (fun hc_56466 => ?_)
    · have b_56467 := i32b y37_4
      exact wq_s ⟨k_I0_l37, trivial⟩
    · have t_56468 := ia_mul (440 : Int32) (440) il_440 x1 (by omega) (by omega)
      have t_56469 := ia_add ((440 : Int32) * x1) y37_5 (by omega) (by omega)
      refine wq_in (n := 2640) ⟨by omega, by omega⟩ ?_
      have t_56471 := KX12.m7 k_I0_l37 ((((440 : Int32) * x1) + y37_5)).toNatClampNeg
      refine wq_v (fun v5_q56470 h_v5_q56470 => ?_)
      have t_v5_q56470 := congrArg Int32.toInt h_v5_q56470
      have t_56472 := ia_mul (440 : Int32) (440) il_440 x2 (by omega) (by omega)
      have t_56473 := ia_add ((440 : Int32) * x2) y37_5 (by omega) (by omega)
      refine wq_in (n := 2640) ⟨by omega, by omega⟩ ?_
      have t_56475 := KX12.m7 k_I0_l37 ((((440 : Int32) * x2) + y37_5)).toNatClampNeg
      refine wq_v (fun v6_q56474 h_v6_q56474 => ?_)
      have t_v6_q56474 := congrArg Int32.toInt h_v6_q56474
      have t_56476 := ia_mul (440 : Int32) (440) il_440 x3 (by omega) (by omega)
      have t_56477 := ia_add ((440 : Int32) * x3) y37_5 (by omega) (by omega)
      refine wq_in (n := 2640) ⟨by omega, by omega⟩ ?_
      have t_56479 := KX12.m7 k_I0_l37 ((((440 : Int32) * x3) + y37_5)).toNatClampNeg
      refine wq_v (fun v7_q56478 h_v7_q56478 => ?_)
      have t_v7_q56478 := congrArg Int32.toInt h_v7_q56478
      have l_m1 := il_m1
      refine wq_eq (fun hc_56480 => ?_) (fun hc_56481 => ?_)
      · have l_1 := il_1
        have t_56483 := ia_add y37_5 (1 : Int32) (by omega) (by omega)
        refine wq_v (fun v8_q56482 h_v8_q56482 => ?_)
        have t_v8_q56482 := congrArg Int32.toInt h_v8_q56482
        have b_56484 := i32b y37_4
        exact ih I0_l37 L0_l37 M0_l37 y37_4 v8_q56482 ⟨by omega, by omega⟩ k_I0_l37 (by omega)
      · refine wq_eq (fun hc_56485 => ?_) (fun hc_56486 => ?_)
        · refine wq_eq (fun hc_56487 => ?_) (fun hc_56488 => ?_)
          · have l_1 := il_1
            have t_56490 := ia_add y37_5 (1 : Int32) (by omega) (by omega)
            refine wq_v (fun v10_q56489 h_v10_q56489 => ?_)
            have t_v10_q56489 := congrArg Int32.toInt h_v10_q56489
            have b_56491 := i32b y37_4
            exact ih I0_l37 L0_l37 M0_l37 y37_4 v10_q56489 ⟨by omega, by omega⟩ k_I0_l37 (by omega)
          · refine wq_eq (fun hc_56492 => ?_) (fun hc_56493 => ?_)
            · have l_1 := il_1
              have t_56495 := ia_add y37_5 (1 : Int32) (by omega) (by omega)
              refine wq_v (fun v11_q56494 h_v11_q56494 => ?_)
              have t_v11_q56494 := congrArg Int32.toInt h_v11_q56494
              have b_56496 := i32b y37_4
              exact ih I0_l37 L0_l37 M0_l37 y37_4 v11_q56494 ⟨by omega, by omega⟩ k_I0_l37 (by omega)
            · have b_56498 := i32b y37_4
              have l_1 := il_1
              refine wq_v (fun v12_q56497 h_v12_q56497 => ?_)
              have t_v12_q56497 := congrArg Int32.toInt h_v12_q56497
              have t_56500 := ia_add y37_5 (1 : Int32) (by omega) (by omega)
              refine wq_v (fun v13_q56499 h_v13_q56499 => ?_)
              have t_v13_q56499 := congrArg Int32.toInt h_v13_q56499
              have b_56501 := i32b v12_q56497
              exact ih I0_l37 L0_l37 M0_l37 v12_q56497 v13_q56499 ⟨by omega, by omega⟩ k_I0_l37 (by omega)
        · have l_1 := il_1
          have t_56503 := ia_add y37_5 (1 : Int32) (by omega) (by omega)
          refine wq_v (fun v9_q56502 h_v9_q56502 => ?_)
          have t_v9_q56502 := congrArg Int32.toInt h_v9_q56502
          have b_56504 := i32b y37_4
          exact ih I0_l37 L0_l37 M0_l37 y37_4 v9_q56502 ⟨by omega, by omega⟩ k_I0_l37 (by omega)
set_option maxHeartbeats 4000000 in
theorem tt_fX12_handed {N : Nat} (hN : 3000000000 ≤ N) (I0 : Nat → Int32) (L0 : Int64) (M0 : Nat → Nat → Int32) (x1 : Int32) (x2 : Int32) (x3 : Int32) (k_I0 : KX12 I0 M0) : wq (fX12_handed N I0 L0 M0 x1 x2 x3) (fun r => KX12 r.2.1 r.2.2.2 ∧ True) := by
  unfold fX12_handed
  refine wq_v (fun I0_1_q56505 h_I0_1_q56505 => ?_)
  have k_I0_1_q56505 : KX12 I0_1_q56505 M0 := by rw [h_I0_1_q56505]; exact KX12.si0 k_I0
  have b_56506 := i32b x1
  refine wq_b (tt_fX12_isBook hN I0_1_q56505 L0 M0 x1 k_I0_1_q56505) (fun r2_q56507 h_r2_q56507 => ?_)
  obtain ⟨h_r2_q56507_0, h_r2_q56507_1, h_r2_q56507_2, h_r2_q56507_3, -⟩ := h_r2_q56507
  have t_56508 := KX12.i1 h_r2_q56507_3
  have t_56509 := KX12.i1 k_I0
  have t_56510 : (I0_1_q56505 1).toInt = (I0 1).toInt := by rw [h_I0_1_q56505]; rfl
  have l_0 := il_0
  refine wq_eq (fun hc_56511 => ?_) (fun hc_56512 => ?_)
  · exact wq_s ⟨h_r2_q56507_3, trivial⟩
  · have b_56513 := i32b x2
    refine wq_b (tt_fX12_isBook hN r2_q56507.2.1 r2_q56507.2.2.1 r2_q56507.2.2.2 x2 h_r2_q56507_3) (fun r3_q56514 h_r3_q56514 => ?_)
    obtain ⟨h_r3_q56514_0, h_r3_q56514_1, h_r3_q56514_2, h_r3_q56514_3, -⟩ := h_r3_q56514
    have t_56515 := KX12.i1 h_r3_q56514_3
    refine wq_eq (fun hc_56516 => ?_) (fun hc_56517 => ?_)
    · exact wq_s ⟨h_r3_q56514_3, trivial⟩
    · have b_56518 := i32b x3
      refine wq_b (tt_fX12_isBook hN r3_q56514.2.1 r3_q56514.2.2.1 r3_q56514.2.2.2 x3 h_r3_q56514_3) (fun r4_q56519 h_r4_q56519 => ?_)
      obtain ⟨h_r4_q56519_0, h_r4_q56519_1, h_r4_q56519_2, h_r4_q56519_3, -⟩ := h_r4_q56519
      have t_56520 := KX12.i1 h_r4_q56519_3
      refine wq_eq (fun hc_56521 => ?_) (fun hc_56522 => ?_)
      · exact wq_s ⟨h_r4_q56519_3, trivial⟩
      · exact tt_fX12_handed_L37 hN x1 x2 x3 ⟨by omega, by omega⟩ ⟨by omega, by omega⟩ ⟨by omega, by omega⟩ N r4_q56519.2.1 r4_q56519.2.2.1 r4_q56519.2.2.2 (0 : Int32) (0 : Int32) ⟨by omega, by omega⟩ h_r4_q56519_3 (by omega)
set_option maxHeartbeats 4000000 in
theorem tt_fX12_leafAt_L2 {N : Nat} (hN : 3000000000 ≤ N) (I0 : Nat → Int32) (L0 : Int64) (M0 : Nat → Nat → Int32) (x1 : Int32) (x2 : Int32) (h_x1 : 0 ≤ x1.toInt ∧ x1.toInt ≤ 5) (k_I0 : KX12 I0 M0)  : ∀ (fu : Nat) (y2_3 : Int32), (0 ≤ y2_3.toInt ∧ y2_3.toInt ≤ 20) → (20 - y2_3.toInt) < (fu : Int) → wq (fX12_leafAt_L2 N I0 L0 M0 x1 x2 fu y2_3) (fun r => (-1 ≤ r.toInt ∧ r.toInt ≤ 19) ∧ True) := by
  intro fu
  induction fu with
  | zero => intro y2_3 h_y2_3 hm; exfalso; omega
  | succ fu ih =>
    intro y2_3 h_y2_3 hm
    rw [fX12_leafAt_L2.eq_2]
    refine wq_in (n := 6) ⟨by omega, by omega⟩ ?_
    have t_56655 := KX12.m27 k_I0 x1.toNatClampNeg
    refine wq_le (fun hc_56656 => ?_) (fun hc_56657 => ?_)
    · have l_m1 := il_m1
      exact wq_s ⟨(show -1 ≤ (-1 : Int32).toInt ∧ (-1 : Int32).toInt ≤ 19 from ⟨by omega, by omega⟩), trivial⟩
    · have l_20 := il_20
      have t_56658 := ia_mul (20 : Int32) (20) il_20 x1 (by omega) (by omega)
      have t_56659 := ia_add ((20 : Int32) * x1) y2_3 (by omega) (by omega)
      refine wq_in (n := 120) ⟨by omega, by omega⟩ ?_
      have b_56660 := i32b x2
      refine wq_eq (fun hc_56661 => ?_) (fun hc_56662 => ?_)
      · exact wq_s ⟨(show -1 ≤ y2_3.toInt ∧ y2_3.toInt ≤ 19 from ⟨by omega, by omega⟩), trivial⟩
      · have l_1 := il_1
        have t_56664 := ia_add y2_3 (1 : Int32) (by omega) (by omega)
        refine wq_v (fun v1_q56663 h_v1_q56663 => ?_)
        have t_v1_q56663 := congrArg Int32.toInt h_v1_q56663
        exact ih v1_q56663 ⟨by omega, by omega⟩ (by omega)
set_option maxHeartbeats 4000000 in
theorem tt_fX12_leafAt {N : Nat} (hN : 3000000000 ≤ N) (I0 : Nat → Int32) (L0 : Int64) (M0 : Nat → Nat → Int32) (x1 : Int32) (x2 : Int32) (h_x1 : 0 ≤ x1.toInt ∧ x1.toInt ≤ 5) (k_I0 : KX12 I0 M0) : wq (fX12_leafAt N I0 L0 M0 x1 x2) (fun r => (-1 ≤ r.toInt ∧ r.toInt ≤ 19) ∧ True) := by
  unfold fX12_leafAt
  have b_56665 := i32b x2
  have l_0 := il_0
  exact tt_fX12_leafAt_L2 hN I0 L0 M0 x1 x2 ⟨by omega, by omega⟩ k_I0 N (0 : Int32) ⟨by omega, by omega⟩ (by omega)
set_option maxHeartbeats 4000000 in
theorem tt_fX12_leaf {N : Nat} (hN : 3000000000 ≤ N) (I0 : Nat → Int32) (L0 : Int64) (M0 : Nat → Nat → Int32) (x1 : Int32) (x2 : Int32) (k_I0 : KX12 I0 M0) : wq (fX12_leaf N I0 L0 M0 x1 x2) (fun r => KX12 r.2.1 r.2.2.2 ∧ True) := by sorry
set_option maxHeartbeats 4000000 in
theorem tt_fX12_order_L135 {N : Nat} (hN : 3000000000 ≤ N) (x1 : Int32) (x2 : Int32) (x3 : Int32) (y117_5 : Int32) (y117_7 : Int32) (y51_4 : Int32) (g51 : (Nat → Int32) → Int64 → (Nat → Nat → Int32) → Int32 → Int32 → Option (Int32 × (Nat → Int32) × Int64 × (Nat → Nat → Int32))) (g117 : (Nat → Int32) → Int64 → (Nat → Nat → Int32) → Int32 → Int32 → Int32 → Option (Int32 × (Nat → Int32) × Int64 × (Nat → Nat → Int32))) (h_x1 : 0 ≤ x1.toInt ∧ x1.toInt ≤ 5) (h_x2 : 0 ≤ x2.toInt ∧ x2.toInt ≤ 5) (h_y117_5 : 0 ≤ y117_5.toInt ∧ y117_5.toInt ≤ 2147483647) (h_y117_7 : 0 ≤ y117_7.toInt ∧ y117_7.toInt ≤ 19) (h_y51_4 : 1 ≤ y51_4.toInt ∧ y51_4.toInt ≤ 20) (hg117 : ∀ (q0 : (Nat → Int32)) (q1 : Int64) (q2 : (Nat → Nat → Int32)) (q3 : Int32) (q4 : Int32) (q5 : Int32), (0 ≤ q3.toInt ∧ q3.toInt ≤ 2147483647) → (0 ≤ q5.toInt ∧ q5.toInt ≤ 20) → (KX12 q0 q2) → (y117_7.toInt < q5.toInt) → wq (g117 q0 q1 q2 q3 q4 q5) (fun r => KX12 r.2.1 r.2.2.2 ∧ True)) : ∀ (fu : Nat) (I0_l135 : (Nat → Int32)) (L0_l135 : Int64) (M0_l135 : (Nat → Nat → Int32)) (y135_6 : Int32) (y135_8 : Int32), (0 ≤ y135_8.toInt ∧ y135_8.toInt ≤ 19) → (KX12 I0_l135 M0_l135) → (19 - y135_8.toInt) < (fu : Int) → wq (fX12_order_L135 N x1 x2 x3 y117_5 y117_7 y51_4 g51 g117 fu I0_l135 L0_l135 M0_l135 y135_6 y135_8) (fun r => KX12 r.2.1 r.2.2.2 ∧ True) := by
  intro fu
  induction fu with
  | zero => intro I0_l135 L0_l135 M0_l135 y135_6 y135_8 h_y135_8 k_I0_l135 hm; exfalso; omega
  | succ fu ih =>
    intro I0_l135 L0_l135 M0_l135 y135_6 y135_8 h_y135_8 k_I0_l135 hm
    rw [fX12_order_L135.eq_2]
    refine wq_le (fun hc_58112 => ?_) (fun hc_58113 => ?_)
    · refine wq_in (n := 20) ⟨by omega, by omega⟩ ?_
      have b_58114 := i32b y117_5
      refine wq_le (fun hc_58115 => ?_) (fun hc_58116 => ?_)
      · have l_1 := il_1
        have t_58118 := ia_add y117_7 (1 : Int32) (by omega) (by omega)
        refine wq_v (fun v3_q58117 h_v3_q58117 => ?_)
        have t_v3_q58117 := congrArg Int32.toInt h_v3_q58117
        have b_58119 := i32b y135_6
        exact hg117 I0_l135 L0_l135 M0_l135 y117_5 y135_6 v3_q58117 ⟨by omega, by omega⟩ ⟨by omega, by omega⟩ k_I0_l135 (by omega)
      · refine wq_in (n := 20) ⟨by omega, by omega⟩ ?_
        refine wq_v (fun v4_q58120 h_v4_q58120 => ?_)
        have t_v4_q58120 := congrArg Int32.toInt h_v4_q58120
        have l_1 := il_1
        have t_58122 := ia_add y117_7 (1 : Int32) (by omega) (by omega)
        refine wq_v (fun v5_q58121 h_v5_q58121 => ?_)
        have t_v5_q58121 := congrArg Int32.toInt h_v5_q58121
        have b_58123 := i32b v4_q58120
        have b_58124 := i32b y135_6
        exact hg117 I0_l135 L0_l135 M0_l135 v4_q58120 y135_6 v5_q58121 ⟨by omega, by omega⟩ ⟨by omega, by omega⟩ k_I0_l135 (by omega)
    · refine wq_in (n := 20) ⟨by omega, by omega⟩ ?_
      refine wq_in (n := 20) ⟨by omega, by omega⟩ ?_
      refine wq_le (fun hc_58125 => ?_) (fun hc_58126 => ?_)
      · refine wq_in (n := 20) ⟨by omega, by omega⟩ ?_
        refine wq_in (n := 20) ⟨by omega, by omega⟩ ?_
        have l_1 := il_1
        refine wq_le (fun hc_58127 => ?_) (fun hc_58128 => ?_)
        · have t_58130 := ia_add y135_8 (1 : Int32) (by omega) (by omega)
          refine wq_v (fun v6_q58129 h_v6_q58129 => ?_)
          have t_v6_q58129 := congrArg Int32.toInt h_v6_q58129
          have b_58131 := i32b y135_6
          exact ih I0_l135 L0_l135 M0_l135 y135_6 v6_q58129 ⟨by omega, by omega⟩ k_I0_l135 (by omega)
        · refine wq_in (n := 20) ⟨by omega, by omega⟩ ?_
          refine wq_in (n := 20) ⟨by omega, by omega⟩ ?_
          refine wq_v (fun M0_7_q58132 h_M0_7_q58132 => ?_)
          have k_M0_7_q58132 : KX12 I0_l135 M0_7_q58132 := by rw [h_M0_7_q58132]; exact KX12.sm30 k_I0_l135
          have t_58134 := ia_add y135_8 (1 : Int32) (by omega) (by omega)
          refine wq_v (fun v8_q58133 h_v8_q58133 => ?_)
          have t_v8_q58133 := congrArg Int32.toInt h_v8_q58133
          have b_58135 := i32b y135_6
          exact ih I0_l135 L0_l135 M0_7_q58132 y135_6 v8_q58133 ⟨by omega, by omega⟩ k_M0_7_q58132 (by omega)
      · have b_58137 := i32b y135_6
        have l_1 := il_1
        refine wq_v (fun v9_q58136 h_v9_q58136 => ?_)
        have t_v9_q58136 := congrArg Int32.toInt h_v9_q58136
        have t_58139 := ia_add y135_8 (1 : Int32) (by omega) (by omega)
        refine wq_v (fun v10_q58138 h_v10_q58138 => ?_)
        have t_v10_q58138 := congrArg Int32.toInt h_v10_q58138
        have b_58140 := i32b v9_q58136
        exact ih I0_l135 L0_l135 M0_l135 v9_q58136 v10_q58138 ⟨by omega, by omega⟩ k_I0_l135 (by omega)
set_option maxHeartbeats 4000000 in
theorem tt_fX12_order_L117 {N : Nat} (hN : 3000000000 ≤ N) (x1 : Int32) (x2 : Int32) (x3 : Int32) (y51_4 : Int32) (g51 : (Nat → Int32) → Int64 → (Nat → Nat → Int32) → Int32 → Int32 → Option (Int32 × (Nat → Int32) × Int64 × (Nat → Nat → Int32))) (h_x1 : 0 ≤ x1.toInt ∧ x1.toInt ≤ 5) (h_x2 : 0 ≤ x2.toInt ∧ x2.toInt ≤ 5) (h_y51_4 : 0 ≤ y51_4.toInt ∧ y51_4.toInt ≤ 20)  : ∀ (fu : Nat) (I0_l117 : (Nat → Int32)) (L0_l117 : Int64) (M0_l117 : (Nat → Nat → Int32)) (y117_5 : Int32) (y117_6 : Int32) (y117_7 : Int32), (0 ≤ y117_5.toInt ∧ y117_5.toInt ≤ 2147483647) → (0 ≤ y117_7.toInt ∧ y117_7.toInt ≤ 20) → (KX12 I0_l117 M0_l117) → (20 - y117_7.toInt) < (fu : Int) → wq (fX12_order_L117 N x1 x2 x3 y51_4 g51 fu I0_l117 L0_l117 M0_l117 y117_5 y117_6 y117_7) (fun r => KX12 r.2.1 r.2.2.2 ∧ True) := by
  intro fu
  induction fu with
  | zero => intro I0_l117 L0_l117 M0_l117 y117_5 y117_6 y117_7 h_y117_5 h_y117_7 k_I0_l117 hm; exfalso; omega
  | succ fu ih =>
    intro I0_l117 L0_l117 M0_l117 y117_5 y117_6 y117_7 h_y117_5 h_y117_7 k_I0_l117 hm
    rw [fX12_order_L117.eq_2]
    refine wq_le (fun hc_58141 => ?_) (fun hc_58142 => ?_)
    · have b_58143 := i32b x3
      have l_0 := il_0
      refine wq_eq (fun hc_58144 => ?_) (fun hc_58145 => ?_)
      · have b_58146 := i32b y117_5
        exact wq_s ⟨k_I0_l117, trivial⟩
      · have b_58147 := i32b y117_6
        exact wq_s ⟨k_I0_l117, trivial⟩
    · refine wq_in (n := 20) ⟨by omega, by omega⟩ ?_
      refine wq_v (fun M0_2_q58148 h_M0_2_q58148 => ?_)
      have k_M0_2_q58148 : KX12 I0_l117 M0_2_q58148 := by rw [h_M0_2_q58148]; exact KX12.sm30 k_I0_l117
      have b_58149 := i32b x3
      have b_58150 := i32b y117_5
      have b_58151 := i32b y117_6
      have l_0 := il_0
      exact tt_fX12_order_L135 hN x1 x2 x3 y117_5 y117_7 y51_4 g51 _ ⟨by omega, by omega⟩ ⟨by omega, by omega⟩ ⟨by omega, by omega⟩ ⟨by omega, by omega⟩ ⟨by omega, by omega⟩ (fun q0 q1 q2 q3 q4 q5 hq0 hq1 hq2 hq3 => ih q0 q1 q2 q3 q4 q5 hq0 hq1 hq2 (by omega)) N I0_l117 L0_l117 M0_2_q58148 y117_6 (0 : Int32) ⟨by omega, by omega⟩ k_M0_2_q58148 (by omega)
set_option maxHeartbeats 4000000 in
theorem tt_fX12_order_L51 {N : Nat} (hN : 3000000000 ≤ N) (x1 : Int32) (x2 : Int32) (x3 : Int32) (h_x1 : 0 ≤ x1.toInt ∧ x1.toInt ≤ 5) (h_x2 : 0 ≤ x2.toInt ∧ x2.toInt ≤ 5)  : ∀ (fu : Nat) (I0_l51 : (Nat → Int32)) (L0_l51 : Int64) (M0_l51 : (Nat → Nat → Int32)) (y51_4 : Int32) (y51_5 : Int32), (0 ≤ y51_4.toInt ∧ y51_4.toInt ≤ 20) → (0 ≤ y51_5.toInt ∧ y51_5.toInt ≤ 20) → (KX12 I0_l51 M0_l51) → (20 - y51_5.toInt) < (fu : Int) → wq (fX12_order_L51 N x1 x2 x3 fu I0_l51 L0_l51 M0_l51 y51_4 y51_5) (fun r => KX12 r.2.1 r.2.2.2 ∧ True) := by
  intro fu
  induction fu with
  | zero => intro I0_l51 L0_l51 M0_l51 y51_4 y51_5 h_y51_4 h_y51_5 k_I0_l51 hm; exfalso; omega
  | succ fu ih =>
    intro I0_l51 L0_l51 M0_l51 y51_4 y51_5 h_y51_4 h_y51_5 k_I0_l51 hm
    rw [fX12_order_L51.eq_2]
    refine wq_in (n := 6) ⟨by omega, by omega⟩ ?_
    have t_58152 := KX12.m27 k_I0_l51 x1.toNatClampNeg
    refine wq_le (fun hc_58153 => ?_) (fun hc_58154 => ?_)
    · have b_58155 := i32b x3
      have l_0 := il_0
      exact tt_fX12_order_L117 hN x1 x2 x3 y51_4 _ ⟨by omega, by omega⟩ ⟨by omega, by omega⟩ ⟨by omega, by omega⟩ N I0_l51 L0_l51 M0_l51 (0 : Int32) (0 : Int32) (0 : Int32) ⟨by omega, by omega⟩ ⟨by omega, by omega⟩ k_I0_l51 (by omega)
    · have l_20 := il_20
      have t_58156 := ia_mul (20 : Int32) (20) il_20 x1 (by omega) (by omega)
      have t_58157 := ia_add ((20 : Int32) * x1) y51_5 (by omega) (by omega)
      refine wq_in (n := 120) ⟨by omega, by omega⟩ ?_
      refine wq_b (tt_fX12_leafAt hN I0_l51 L0_l51 M0_l51 x2 (M0_l51 28 (((20 : Int32) * x1) + y51_5).toNatClampNeg) ⟨by omega, by omega⟩ k_I0_l51) (fun r11_q58158 h_r11_q58158 => ?_)
      obtain ⟨h_r11_q58158_0, -⟩ := h_r11_q58158
      have l_m1 := il_m1
      refine wq_eq (fun hc_58159 => ?_) (fun hc_58160 => ?_)
      · have l_1 := il_1
        have t_58162 := ia_add y51_5 (1 : Int32) (by omega) (by omega)
        refine wq_v (fun v15_q58161 h_v15_q58161 => ?_)
        have t_v15_q58161 := congrArg Int32.toInt h_v15_q58161
        exact ih I0_l51 L0_l51 M0_l51 y51_4 v15_q58161 ⟨by omega, by omega⟩ ⟨by omega, by omega⟩ k_I0_l51 (by omega)
      · refine wq_in (n := 20) ⟨by omega, by omega⟩ ?_
        refine wq_v (fun M0_12_q58163 h_M0_12_q58163 => ?_)
        have k_M0_12_q58163 : KX12 I0_l51 M0_12_q58163 := by rw [h_M0_12_q58163]; exact KX12.sm29 k_I0_l51
        have l_1 := il_1
        have t_58165 := ia_add y51_4 (1 : Int32) (by omega) (by omega)
        refine wq_v (fun v13_q58164 h_v13_q58164 => ?_)
        have t_v13_q58164 := congrArg Int32.toInt h_v13_q58164
        have t_58167 := ia_add y51_5 (1 : Int32) (by omega) (by omega)
        refine wq_v (fun v14_q58166 h_v14_q58166 => ?_)
        have t_v14_q58166 := congrArg Int32.toInt h_v14_q58166
        exact ih I0_l51 L0_l51 M0_12_q58163 v13_q58164 v14_q58166 ⟨by omega, by omega⟩ ⟨by omega, by omega⟩ k_M0_12_q58163 (by omega)
set_option maxHeartbeats 4000000 in
theorem tt_fX12_order {N : Nat} (hN : 3000000000 ≤ N) (I0 : Nat → Int32) (L0 : Int64) (M0 : Nat → Nat → Int32) (x1 : Int32) (x2 : Int32) (x3 : Int32) (k_I0 : KX12 I0 M0) : wq (fX12_order N I0 L0 M0 x1 x2 x3) (fun r => KX12 r.2.1 r.2.2.2 ∧ True) := by
  unfold fX12_order
  refine wq_v (fun I0_16_q58168 h_I0_16_q58168 => ?_)
  have k_I0_16_q58168 : KX12 I0_16_q58168 M0 := by rw [h_I0_16_q58168]; exact KX12.si0 k_I0
  have b_58169 := i32b x1
  refine wq_b (tt_fX12_isBook hN I0_16_q58168 L0 M0 x1 k_I0_16_q58168) (fun r17_q58170 h_r17_q58170 => ?_)
  obtain ⟨h_r17_q58170_0, h_r17_q58170_1, h_r17_q58170_2, h_r17_q58170_3, -⟩ := h_r17_q58170
  have t_58171 := KX12.i1 h_r17_q58170_3
  have t_58172 := KX12.i1 k_I0
  have t_58173 : (I0_16_q58168 1).toInt = (I0 1).toInt := by rw [h_I0_16_q58168]; rfl
  have l_0 := il_0
  refine wq_eq (fun hc_58174 => ?_) (fun hc_58175 => ?_)
  · exact wq_s ⟨h_r17_q58170_3, trivial⟩
  · have b_58176 := i32b x2
    refine wq_b (tt_fX12_isBook hN r17_q58170.2.1 r17_q58170.2.2.1 r17_q58170.2.2.2 x2 h_r17_q58170_3) (fun r18_q58177 h_r18_q58177 => ?_)
    obtain ⟨h_r18_q58177_0, h_r18_q58177_1, h_r18_q58177_2, h_r18_q58177_3, -⟩ := h_r18_q58177
    have t_58178 := KX12.i1 h_r18_q58177_3
    refine wq_eq (fun hc_58179 => ?_) (fun hc_58180 => ?_)
    · exact wq_s ⟨h_r18_q58177_3, trivial⟩
    · have b_58181 := i32b x3
      refine wq_eq (fun hc_58182 => ?_) (fun hc_58183 => ?_)
      · unfold fX12_order_J31
        unfold fX12_order_J36
        have l_1 := il_1
        refine wq_b (tt_fX12_right hN r18_q58177.2.1 r18_q58177.2.2.1 r18_q58177.2.2.2 (1 : Int32) (1 : Int32) ⟨by omega, by omega⟩ h_r18_q58177_3) (fun r1_q58184 h_r1_q58184 => ?_)
        obtain ⟨h_r1_q58184_0, h_r1_q58184_1, h_r1_q58184_2, h_r1_q58184_3, -⟩ := h_r1_q58184
        have t_58185 := KX12.i1 h_r1_q58184_3
        refine wq_eq (fun hc_58186 => ?_) (fun hc_58187 => ?_)
        · exact wq_s ⟨h_r1_q58184_3, trivial⟩
        · exact tt_fX12_order_L51 hN x1 x2 x3 ⟨by omega, by omega⟩ ⟨by omega, by omega⟩ N r1_q58184.2.1 r1_q58184.2.2.1 r1_q58184.2.2.2 (0 : Int32) (0 : Int32) ⟨by omega, by omega⟩ ⟨by omega, by omega⟩ h_r1_q58184_3 (by omega)
      · have l_1 := il_1
        refine wq_eq (fun hc_58188 => ?_) (fun hc_58189 => ?_)
        · unfold fX12_order_J31
          unfold fX12_order_J36
          refine wq_b (tt_fX12_right hN r18_q58177.2.1 r18_q58177.2.2.1 r18_q58177.2.2.2 (1 : Int32) (1 : Int32) ⟨by omega, by omega⟩ h_r18_q58177_3) (fun r1_q58190 h_r1_q58190 => ?_)
          obtain ⟨h_r1_q58190_0, h_r1_q58190_1, h_r1_q58190_2, h_r1_q58190_3, -⟩ := h_r1_q58190
          have t_58191 := KX12.i1 h_r1_q58190_3
          refine wq_eq (fun hc_58192 => ?_) (fun hc_58193 => ?_)
          · exact wq_s ⟨h_r1_q58190_3, trivial⟩
          · exact tt_fX12_order_L51 hN x1 x2 x3 ⟨by omega, by omega⟩ ⟨by omega, by omega⟩ N r1_q58190.2.1 r1_q58190.2.2.1 r1_q58190.2.2.2 (0 : Int32) (0 : Int32) ⟨by omega, by omega⟩ ⟨by omega, by omega⟩ h_r1_q58190_3 (by omega)
        · unfold fX12_order_J36
          refine wq_b (tt_fX12_right hN r18_q58177.2.1 r18_q58177.2.2.1 r18_q58177.2.2.2 (0 : Int32) (1 : Int32) ⟨by omega, by omega⟩ h_r18_q58177_3) (fun r1_q58194 h_r1_q58194 => ?_)
          obtain ⟨h_r1_q58194_0, h_r1_q58194_1, h_r1_q58194_2, h_r1_q58194_3, -⟩ := h_r1_q58194
          have t_58195 := KX12.i1 h_r1_q58194_3
          refine wq_eq (fun hc_58196 => ?_) (fun hc_58197 => ?_)
          · exact wq_s ⟨h_r1_q58194_3, trivial⟩
          · exact tt_fX12_order_L51 hN x1 x2 x3 ⟨by omega, by omega⟩ ⟨by omega, by omega⟩ N r1_q58194.2.1 r1_q58194.2.2.1 r1_q58194.2.2.2 (0 : Int32) (0 : Int32) ⟨by omega, by omega⟩ ⟨by omega, by omega⟩ h_r1_q58194_3 (by omega)
set_option maxHeartbeats 4000000 in
theorem tt_fX12_areSame_L6 {N : Nat} (hN : 3000000000 ≤ N) (I0 : Nat → Int32) (L0 : Int64) (M0 : Nat → Nat → Int32) (x1 : Int32) (x2 : Int32) (x3 : Int32) (h_x1 : 0 ≤ x1.toInt ∧ x1.toInt ≤ 119) (h_x2 : 0 ≤ x2.toInt ∧ x2.toInt ≤ 119) (k_I0 : KX12 I0 M0)  : ∀ (fu : Nat) (y6_4 : Int32) (y6_5 : Int32), (0 ≤ y6_5.toInt ∧ y6_5.toInt ≤ 7) → (7 - y6_5.toInt) < (fu : Int) → wq (fX12_areSame_L6 N I0 L0 M0 x1 x2 x3 fu y6_4 y6_5) (fun r => (0 ≤ r.toInt ∧ r.toInt ≤ 1) ∧ True) := by
  intro fu
  induction fu with
  | zero => intro y6_4 y6_5 h_y6_5 hm; exfalso; omega
  | succ fu ih =>
    intro y6_4 y6_5 h_y6_5 hm
    rw [fX12_areSame_L6.eq_2]
    have l_7 := il_7
    refine wq_le (fun hc_58663 => ?_) (fun hc_58664 => ?_)
    · have b_58665 := i32b y6_4
      have b_58666 := i32b x3
      refine wq_lt (fun hc_58667 => ?_) (fun hc_58668 => ?_)
      · have l_0 := il_0
        exact wq_s ⟨(show 0 ≤ (0 : Int32).toInt ∧ (0 : Int32).toInt ≤ 1 from ⟨by omega, by omega⟩), trivial⟩
      · have l_1 := il_1
        exact wq_s ⟨(show 0 ≤ (1 : Int32).toInt ∧ (1 : Int32).toInt ≤ 1 from ⟨by omega, by omega⟩), trivial⟩
    · refine wq_b (tt_fX12_at hN I0 L0 M0 x1 y6_5 ⟨by omega, by omega⟩ ⟨by omega, by omega⟩ k_I0) (fun r1_q58669 h_r1_q58669 => ?_)
      obtain ⟨h_r1_q58669_0, h_r1_q58669_1, h_r1_q58669_2, -⟩ := h_r1_q58669
      refine wq_b (tt_fX12_at hN I0 L0 M0 x2 y6_5 ⟨by omega, by omega⟩ ⟨by omega, by omega⟩ k_I0) (fun r2_q58670 h_r2_q58670 => ?_)
      obtain ⟨h_r2_q58670_0, h_r2_q58670_1, h_r2_q58670_2, -⟩ := h_r2_q58670
      have l_m1 := il_m1
      refine wq_eq (fun hc_58671 => ?_) (fun hc_58672 => ?_)
      · have l_1 := il_1
        have t_58674 := ia_add y6_5 (1 : Int32) (by omega) (by omega)
        refine wq_v (fun v3_q58673 h_v3_q58673 => ?_)
        have t_v3_q58673 := congrArg Int32.toInt h_v3_q58673
        have b_58675 := i32b y6_4
        exact ih y6_4 v3_q58673 ⟨by omega, by omega⟩ (by omega)
      · refine wq_eq (fun hc_58676 => ?_) (fun hc_58677 => ?_)
        · have l_1 := il_1
          have t_58679 := ia_add y6_5 (1 : Int32) (by omega) (by omega)
          refine wq_v (fun v10_q58678 h_v10_q58678 => ?_)
          have t_v10_q58678 := congrArg Int32.toInt h_v10_q58678
          have b_58680 := i32b y6_4
          exact ih y6_4 v10_q58678 ⟨by omega, by omega⟩ (by omega)
        · refine wq_b (tt_fX12_costOf hN I0 L0 M0 r1_q58669 r2_q58670 ⟨by omega, by omega⟩ k_I0) (fun r4_q58681 h_r4_q58681 => ?_)
          obtain ⟨h_r4_q58681_0, -⟩ := h_r4_q58681
          have l_1 := il_1
          refine wq_le (fun hc_58682 => ?_) (fun hc_58683 => ?_)
          · have b_58685 := i32b y6_4
            refine wq_v (fun v5_q58684 h_v5_q58684 => ?_)
            have t_v5_q58684 := congrArg Int32.toInt h_v5_q58684
            have t_58687 := ia_add y6_5 (1 : Int32) (by omega) (by omega)
            refine wq_v (fun v6_q58686 h_v6_q58686 => ?_)
            have t_v6_q58686 := congrArg Int32.toInt h_v6_q58686
            have b_58688 := i32b v5_q58684
            exact ih v5_q58684 v6_q58686 ⟨by omega, by omega⟩ (by omega)
          · refine wq_b (tt_fX12_costOf hN I0 L0 M0 r2_q58670 r1_q58669 ⟨by omega, by omega⟩ k_I0) (fun r7_q58689 h_r7_q58689 => ?_)
            obtain ⟨h_r7_q58689_0, -⟩ := h_r7_q58689
            refine wq_le (fun hc_58690 => ?_) (fun hc_58691 => ?_)
            · have b_58693 := i32b y6_4
              refine wq_v (fun v8_q58692 h_v8_q58692 => ?_)
              have t_v8_q58692 := congrArg Int32.toInt h_v8_q58692
              have t_58695 := ia_add y6_5 (1 : Int32) (by omega) (by omega)
              refine wq_v (fun v9_q58694 h_v9_q58694 => ?_)
              have t_v9_q58694 := congrArg Int32.toInt h_v9_q58694
              have b_58696 := i32b v8_q58692
              exact ih v8_q58692 v9_q58694 ⟨by omega, by omega⟩ (by omega)
            · have l_0 := il_0
              exact wq_s ⟨(show 0 ≤ (0 : Int32).toInt ∧ (0 : Int32).toInt ≤ 1 from ⟨by omega, by omega⟩), trivial⟩
set_option maxHeartbeats 4000000 in
theorem tt_fX12_areSame {N : Nat} (hN : 3000000000 ≤ N) (I0 : Nat → Int32) (L0 : Int64) (M0 : Nat → Nat → Int32) (x1 : Int32) (x2 : Int32) (x3 : Int32) (h_x1 : 0 ≤ x1.toInt ∧ x1.toInt ≤ 119) (h_x2 : 0 ≤ x2.toInt ∧ x2.toInt ≤ 119) (k_I0 : KX12 I0 M0) : wq (fX12_areSame N I0 L0 M0 x1 x2 x3) (fun r => (0 ≤ r.toInt ∧ r.toInt ≤ 1) ∧ True) := by
  unfold fX12_areSame
  have b_58697 := i32b x3
  have l_0 := il_0
  exact tt_fX12_areSame_L6 hN I0 L0 M0 x1 x2 x3 ⟨by omega, by omega⟩ ⟨by omega, by omega⟩ k_I0 N (0 : Int32) (0 : Int32) ⟨by omega, by omega⟩ (by omega)
set_option maxHeartbeats 4000000 in
theorem tt_fX12_isNumber {N : Nat} (hN : 3000000000 ≤ N) (I0 : Nat → Int32) (L0 : Int64) (M0 : Nat → Nat → Int32) (x1 : Int32) (k_I0 : KX12 I0 M0) : wq (fX12_isNumber N I0 L0 M0 x1) (fun r => (r.1.toInt = 0 ∨ (r.1.toInt = 1 ∧ 0 ≤ x1.toInt ∧ x1.toInt ≤ 119)) ∧ (r.2.1 1).toInt = (I0 1).toInt ∧ (0 ≤ r.1.toInt ∧ r.1.toInt ≤ 1) ∧ KX12 r.2.1 r.2.2.2 ∧ True) := by
  unfold fX12_isNumber
  have b_58782 := i32b x1
  have l_0 := il_0
  refine wq_lt (fun hc_58783 => ?_) (fun hc_58784 => ?_)
  · have l_1 := il_1
    refine wq_b (tt_fX12_right hN I0 L0 M0 (0 : Int32) (1 : Int32) ⟨by omega, by omega⟩ k_I0) (fun r1_q58785 h_r1_q58785 => ?_)
    obtain ⟨h_r1_q58785_0, h_r1_q58785_1, h_r1_q58785_2, h_r1_q58785_3, -⟩ := h_r1_q58785
    have t_58786 := KX12.i1 h_r1_q58785_3
    have t_58787 := KX12.i1 k_I0
    refine wq_bz (by omega) ?_
    exact wq_s ⟨(show (r1_q58785.1.toInt = 0 ∨ (r1_q58785.1.toInt = 1 ∧ 0 ≤ x1.toInt ∧ x1.toInt ≤ 119)) from by omega), (show (r1_q58785.2.1 1).toInt = (I0 1).toInt from by omega), (show 0 ≤ r1_q58785.1.toInt ∧ r1_q58785.1.toInt ≤ 1 from ⟨by omega, by omega⟩), h_r1_q58785_3, trivial⟩
  · have l_120 := il_120
    refine wq_le (fun hc_58788 => ?_) (fun hc_58789 => ?_)
    · have l_1 := il_1
      refine wq_b (tt_fX12_right hN I0 L0 M0 (0 : Int32) (1 : Int32) ⟨by omega, by omega⟩ k_I0) (fun r2_q58790 h_r2_q58790 => ?_)
      obtain ⟨h_r2_q58790_0, h_r2_q58790_1, h_r2_q58790_2, h_r2_q58790_3, -⟩ := h_r2_q58790
      have t_58791 := KX12.i1 h_r2_q58790_3
      have t_58792 := KX12.i1 k_I0
      refine wq_bz (by omega) ?_
      exact wq_s ⟨(show (r2_q58790.1.toInt = 0 ∨ (r2_q58790.1.toInt = 1 ∧ 0 ≤ x1.toInt ∧ x1.toInt ≤ 119)) from by omega), (show (r2_q58790.2.1 1).toInt = (I0 1).toInt from by omega), (show 0 ≤ r2_q58790.1.toInt ∧ r2_q58790.1.toInt ≤ 1 from ⟨by omega, by omega⟩), h_r2_q58790_3, trivial⟩
    · have l_1 := il_1
      refine wq_b (tt_fX12_right hN I0 L0 M0 (1 : Int32) (1 : Int32) ⟨by omega, by omega⟩ k_I0) (fun r3_q58793 h_r3_q58793 => ?_)
      obtain ⟨h_r3_q58793_0, h_r3_q58793_1, h_r3_q58793_2, h_r3_q58793_3, -⟩ := h_r3_q58793
      have t_58794 := KX12.i1 h_r3_q58793_3
      have t_58795 := KX12.i1 k_I0
      refine wq_bz (by omega) ?_
      exact wq_s ⟨(show (r3_q58793.1.toInt = 0 ∨ (r3_q58793.1.toInt = 1 ∧ 0 ≤ x1.toInt ∧ x1.toInt ≤ 119)) from by omega), (show (r3_q58793.2.1 1).toInt = (I0 1).toInt from by omega), (show 0 ≤ r3_q58793.1.toInt ∧ r3_q58793.1.toInt ≤ 1 from ⟨by omega, by omega⟩), h_r3_q58793_3, trivial⟩
set_option maxHeartbeats 4000000 in
theorem tt_fX12_same {N : Nat} (hN : 3000000000 ≤ N) (I0 : Nat → Int32) (L0 : Int64) (M0 : Nat → Nat → Int32) (x1 : Int32) (x2 : Int32) (x3 : Int32) (k_I0 : KX12 I0 M0) : wq (fX12_same N I0 L0 M0 x1 x2 x3) (fun r => (0 ≤ r.1.toInt ∧ r.1.toInt ≤ 1) ∧ KX12 r.2.1 r.2.2.2 ∧ True) := by
  unfold fX12_same
  refine wq_v (fun I0_1_q58916 h_I0_1_q58916 => ?_)
  have k_I0_1_q58916 : KX12 I0_1_q58916 M0 := by rw [h_I0_1_q58916]; exact KX12.si0 k_I0
  have b_58917 := i32b x3
  have l_1 := il_1
  have l_7 := il_7
  refine wq_b (tt_fX12_within hN x3 (1 : Int32) (7 : Int32)) (fun r2_q58918 h_r2_q58918 => ?_)
  obtain ⟨h_r2_q58918_0, h_r2_q58918_1, -⟩ := h_r2_q58918
  refine wq_b (tt_fX12_right hN I0_1_q58916 L0 M0 r2_q58918 (1 : Int32) ⟨by omega, by omega⟩ k_I0_1_q58916) (fun r3_q58919 h_r3_q58919 => ?_)
  obtain ⟨h_r3_q58919_0, h_r3_q58919_1, h_r3_q58919_2, h_r3_q58919_3, -⟩ := h_r3_q58919
  have t_58920 := KX12.i1 h_r3_q58919_3
  have t_58921 := KX12.i1 k_I0
  have t_58922 : (I0_1_q58916 1).toInt = (I0 1).toInt := by rw [h_I0_1_q58916]; rfl
  have l_0 := il_0
  refine wq_eq (fun hc_58923 => ?_) (fun hc_58924 => ?_)
  · exact wq_s ⟨(show 0 ≤ (0 : Int32).toInt ∧ (0 : Int32).toInt ≤ 1 from ⟨by omega, by omega⟩), h_r3_q58919_3, trivial⟩
  · have b_58925 := i32b x1
    refine wq_b (tt_fX12_isNumber hN r3_q58919.2.1 r3_q58919.2.2.1 r3_q58919.2.2.2 x1 h_r3_q58919_3) (fun r4_q58926 h_r4_q58926 => ?_)
    obtain ⟨h_r4_q58926_0, h_r4_q58926_1, h_r4_q58926_2, h_r4_q58926_3, -⟩ := h_r4_q58926
    have t_58927 := KX12.i1 h_r4_q58926_3
    refine wq_eq (fun hc_58928 => ?_) (fun hc_58929 => ?_)
    · exact wq_s ⟨(show 0 ≤ (0 : Int32).toInt ∧ (0 : Int32).toInt ≤ 1 from ⟨by omega, by omega⟩), h_r4_q58926_3, trivial⟩
    · have b_58930 := i32b x2
      refine wq_b (tt_fX12_isNumber hN r4_q58926.2.1 r4_q58926.2.2.1 r4_q58926.2.2.2 x2 h_r4_q58926_3) (fun r5_q58931 h_r5_q58931 => ?_)
      obtain ⟨h_r5_q58931_0, h_r5_q58931_1, h_r5_q58931_2, h_r5_q58931_3, -⟩ := h_r5_q58931
      have t_58932 := KX12.i1 h_r5_q58931_3
      refine wq_eq (fun hc_58933 => ?_) (fun hc_58934 => ?_)
      · exact wq_s ⟨(show 0 ≤ (0 : Int32).toInt ∧ (0 : Int32).toInt ≤ 1 from ⟨by omega, by omega⟩), h_r5_q58931_3, trivial⟩
      · refine wq_b (tt_fX12_areSame hN r5_q58931.2.1 r5_q58931.2.2.1 r5_q58931.2.2.2 x1 x2 x3 ⟨by omega, by omega⟩ ⟨by omega, by omega⟩ h_r5_q58931_3) (fun r6_q58935 h_r6_q58935 => ?_)
        obtain ⟨h_r6_q58935_0, -⟩ := h_r6_q58935
        refine wq_bz (by omega) ?_
        exact wq_s ⟨(show 0 ≤ r6_q58935.toInt ∧ r6_q58935.toInt ≤ 1 from ⟨by omega, by omega⟩), h_r5_q58931_3, trivial⟩
set_option maxHeartbeats 4000000 in
theorem tt_fX12_births {N : Nat} (hN : 3000000000 ≤ N) (I0 : Nat → Int32) (L0 : Int64) (M0 : Nat → Nat → Int32) (x1 : Int32) (x2 : Int32) (k_I0 : KX12 I0 M0) : wq (fX12_births N I0 L0 M0 x1 x2) (fun r => KX12 r.2.1 r.2.2.2 ∧ True) := by sorry
set_option maxHeartbeats 4000000 in
theorem tt_fX12_count_L81 {N : Nat} (hN : 3000000000 ≤ N) (x1 : Int32) (h_x1 : 2 ≤ x1.toInt ∧ x1.toInt ≤ 5)  : ∀ (fu : Nat) (I0_l81 : (Nat → Int32)) (L0_l81 : Int64) (M0_l81 : (Nat → Nat → Int32)) (y81_2 : Int32) (y81_3 : Int32), (0 ≤ y81_3.toInt ∧ y81_3.toInt ≤ 20) → (KX12 I0_l81 M0_l81) → (20 - y81_3.toInt) < (fu : Int) → wq (fX12_count_L81 N x1 fu I0_l81 L0_l81 M0_l81 y81_2 y81_3) (fun r => KX12 r.2.1 r.2.2.2 ∧ True) := by
  intro fu
  induction fu with
  | zero => intro I0_l81 L0_l81 M0_l81 y81_2 y81_3 h_y81_3 k_I0_l81 hm; exfalso; omega
  | succ fu ih =>
    intro I0_l81 L0_l81 M0_l81 y81_2 y81_3 h_y81_3 k_I0_l81 hm
    rw [fX12_count_L81.eq_2]
    have l_20 := il_20
    refine wq_le (fun hc_63170 => ?_) (fun hc_63171 => ?_)
    · have l_4 := il_4
      refine wq_eq (fun hc_63172 => ?_) (fun hc_63173 => ?_)
      · have t_63174 := KX12.i3 k_I0_l81
        exact wq_s ⟨k_I0_l81, trivial⟩
      · have b_63175 := i32b y81_2
        exact wq_s ⟨k_I0_l81, trivial⟩
    · have l_3 := il_3
      refine wq_eq (fun hc_63176 => ?_) (fun hc_63177 => ?_)
      · refine wq_in (n := 20) ⟨by omega, by omega⟩ ?_
        have l_m1 := il_m1
        refine wq_eq (fun hc_63178 => ?_) (fun hc_63179 => ?_)
        · unfold fX12_count_J103
          have l_5 := il_5
          refine wq_eq (fun hc_63180 => ?_) (fun hc_63181 => ?_)
          · exfalso; omega
          · have b_63183 := i32b y81_2
            have l_0 := il_0
            have t_63184 := ia_add y81_2 (0 : Int32) (by omega) (by omega)
            refine wq_v (fun v1_q63182 h_v1_q63182 => ?_)
            have t_v1_q63182 := congrArg Int32.toInt h_v1_q63182
            have l_1 := il_1
            have t_63186 := ia_add y81_3 (1 : Int32) (by omega) (by omega)
            refine wq_v (fun v2_q63185 h_v2_q63185 => ?_)
            have t_v2_q63185 := congrArg Int32.toInt h_v2_q63185
            have b_63187 := i32b v1_q63182
            exact ih I0_l81 L0_l81 M0_l81 v1_q63182 v2_q63185 ⟨by omega, by omega⟩ k_I0_l81 (by omega)
        · have b_63189 := i32b y81_2
          have l_1 := il_1
          refine wq_v (fun v7_q63188 h_v7_q63188 => ?_)
          have t_v7_q63188 := congrArg Int32.toInt h_v7_q63188
          have t_63191 := ia_add y81_3 (1 : Int32) (by omega) (by omega)
          refine wq_v (fun v8_q63190 h_v8_q63190 => ?_)
          have t_v8_q63190 := congrArg Int32.toInt h_v8_q63190
          have b_63192 := i32b v7_q63188
          exact ih I0_l81 L0_l81 M0_l81 v7_q63188 v8_q63190 ⟨by omega, by omega⟩ k_I0_l81 (by omega)
      · unfold fX12_count_J103
        have l_5 := il_5
        refine wq_eq (fun hc_63193 => ?_) (fun hc_63194 => ?_)
        · refine wq_in (n := 20) ⟨by omega, by omega⟩ ?_
          have l_m1 := il_m1
          refine wq_eq (fun hc_63195 => ?_) (fun hc_63196 => ?_)
          · have b_63198 := i32b y81_2
            have l_0 := il_0
            have t_63199 := ia_add y81_2 (0 : Int32) (by omega) (by omega)
            refine wq_v (fun v3_q63197 h_v3_q63197 => ?_)
            have t_v3_q63197 := congrArg Int32.toInt h_v3_q63197
            have l_1 := il_1
            have t_63201 := ia_add y81_3 (1 : Int32) (by omega) (by omega)
            refine wq_v (fun v4_q63200 h_v4_q63200 => ?_)
            have t_v4_q63200 := congrArg Int32.toInt h_v4_q63200
            have b_63202 := i32b v3_q63197
            exact ih I0_l81 L0_l81 M0_l81 v3_q63197 v4_q63200 ⟨by omega, by omega⟩ k_I0_l81 (by omega)
          · have b_63204 := i32b y81_2
            have l_1 := il_1
            refine wq_v (fun v5_q63203 h_v5_q63203 => ?_)
            have t_v5_q63203 := congrArg Int32.toInt h_v5_q63203
            have t_63206 := ia_add y81_3 (1 : Int32) (by omega) (by omega)
            refine wq_v (fun v6_q63205 h_v6_q63205 => ?_)
            have t_v6_q63205 := congrArg Int32.toInt h_v6_q63205
            have b_63207 := i32b v5_q63203
            exact ih I0_l81 L0_l81 M0_l81 v5_q63203 v6_q63205 ⟨by omega, by omega⟩ k_I0_l81 (by omega)
        · have b_63209 := i32b y81_2
          have l_0 := il_0
          have t_63210 := ia_add y81_2 (0 : Int32) (by omega) (by omega)
          refine wq_v (fun v1_q63208 h_v1_q63208 => ?_)
          have t_v1_q63208 := congrArg Int32.toInt h_v1_q63208
          have l_1 := il_1
          have t_63212 := ia_add y81_3 (1 : Int32) (by omega) (by omega)
          refine wq_v (fun v2_q63211 h_v2_q63211 => ?_)
          have t_v2_q63211 := congrArg Int32.toInt h_v2_q63211
          have b_63213 := i32b v1_q63208
          exact ih I0_l81 L0_l81 M0_l81 v1_q63208 v2_q63211 ⟨by omega, by omega⟩ k_I0_l81 (by omega)

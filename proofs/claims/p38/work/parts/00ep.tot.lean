set_option maxHeartbeats 4000000 in
theorem tt_fX12_misread {N : Nat} (hN : 3000000000 ≤ N) (I0 : Nat → Int32) (L0 : Int64) (M0 : Nat → Nat → Int32) (x1 : Int32) (x2 : Int32) (x3 : Int32) (x4 : Int32) (x5 : Int32) (k_I0 : KX12 I0 M0) : wq (fX12_misread N I0 L0 M0 x1 x2 x3 x4 x5) (fun r => (-1 ≤ r.1.toInt ∧ r.1.toInt ≤ 9) ∧ KX12 r.2.1 r.2.2.2 ∧ True) := by
  unfold fX12_misread
  have b_34559 := i32b x1
  have b_34560 := i32b x2
  refine wq_b (tt_fX12_isWheel hN I0 L0 M0 x1 x2 k_I0) (fun r5_q34561 h_r5_q34561 => ?_)
  obtain ⟨h_r5_q34561_0, h_r5_q34561_1, h_r5_q34561_2, h_r5_q34561_3, -⟩ := h_r5_q34561
  have t_34562 := KX12.i1 h_r5_q34561_3
  have t_34563 := KX12.i1 k_I0
  have l_0 := il_0
  refine wq_eq (fun hc_34564 => ?_) (fun hc_34565 => ?_)
  · exact wq_s ⟨(show -1 ≤ (0 : Int32).toInt ∧ (0 : Int32).toInt ≤ 9 from ⟨by omega, by omega⟩), h_r5_q34561_3, trivial⟩
  · have b_34566 := i32b x3
    have l_3 := il_3
    refine wq_b (tt_fX12_within hN x3 (0 : Int32) (3 : Int32)) (fun r6_q34567 h_r6_q34567 => ?_)
    obtain ⟨h_r6_q34567_0, h_r6_q34567_1, -⟩ := h_r6_q34567
    refine wq_eq (fun hc_34568 => ?_) (fun hc_34569 => ?_)
    · unfold fX12_misread_J45
      unfold fX12_misread_J46
      have l_1 := il_1
      refine wq_b (tt_fX12_right hN r5_q34561.2.1 r5_q34561.2.2.1 r5_q34561.2.2.2 (0 : Int32) (1 : Int32) ⟨by omega, by omega⟩ h_r5_q34561_3) (fun r1_q34570 h_r1_q34570 => ?_)
      obtain ⟨h_r1_q34570_0, h_r1_q34570_1, h_r1_q34570_2, h_r1_q34570_3, -⟩ := h_r1_q34570
      have t_34571 := KX12.i1 h_r1_q34570_3
      refine wq_eq (fun hc_34572 => ?_) (fun hc_34573 => ?_)
      · exact wq_s ⟨(show -1 ≤ (0 : Int32).toInt ∧ (0 : Int32).toInt ≤ 9 from ⟨by omega, by omega⟩), h_r1_q34570_3, trivial⟩
      · have l_20 := il_20
        have t_34574 := ia_mul (20 : Int32) (20) il_20 x1 (by omega) (by omega)
        have t_34575 := ia_add ((20 : Int32) * x1) x2 (by omega) (by omega)
        have b_34576 := i32b x5
        refine wq_b (tt_fX12_at hN r1_q34570.2.1 r1_q34570.2.2.1 r1_q34570.2.2.2 (((20 : Int32) * x1) + x2) x5 ⟨by omega, by omega⟩ ⟨by omega, by omega⟩ h_r1_q34570_3) (fun r2_q34577 h_r2_q34577 => ?_)
        obtain ⟨h_r2_q34577_0, h_r2_q34577_1, h_r2_q34577_2, -⟩ := h_r2_q34577
        have l_m1 := il_m1
        refine wq_eq (fun hc_34578 => ?_) (fun hc_34579 => ?_)
        · exact wq_s ⟨(show -1 ≤ (-1 : Int32).toInt ∧ (-1 : Int32).toInt ≤ 9 from ⟨by omega, by omega⟩), h_r1_q34570_3, trivial⟩
        · have b_34580 := i32b x4
          refine wq_b (tt_fX12_placeOn hN r1_q34570.2.1 r1_q34570.2.2.1 r1_q34570.2.2.2 x3 x5 x4 ⟨by omega, by omega⟩ ⟨by omega, by omega⟩ h_r1_q34570_3) (fun r3_q34581 h_r3_q34581 => ?_)
          obtain ⟨-⟩ := h_r3_q34581
          have b_34582 := i32b r3_q34581
          have l_60 := il_60
          have t_34583 := i32b r3_q34581
          have t_34584 := ia_div2 r3_q34581 (60 : Int32) 60 il_60 (by decide)
          refine wq_b (tt_fX12_beside hN r1_q34570.2.1 r1_q34570.2.2.1 r1_q34570.2.2.2 r2_q34577 (r3_q34581 / (60 : Int32)) ⟨by omega, by omega⟩ h_r1_q34570_3) (fun r4_q34585 h_r4_q34585 => ?_)
          obtain ⟨h_r4_q34585_0, -⟩ := h_r4_q34585
          exact wq_s ⟨(show -1 ≤ r4_q34585.toInt ∧ r4_q34585.toInt ≤ 9 from ⟨by omega, by omega⟩), h_r1_q34570_3, trivial⟩
    · have b_34586 := i32b x4
      have l_1000000 := il_1000000
      refine wq_b (tt_fX12_within hN x4 (0 : Int32) (1000000 : Int32)) (fun r7_q34587 h_r7_q34587 => ?_)
      obtain ⟨h_r7_q34587_0, h_r7_q34587_1, -⟩ := h_r7_q34587
      refine wq_eq (fun hc_34588 => ?_) (fun hc_34589 => ?_)
      · unfold fX12_misread_J45
        unfold fX12_misread_J46
        have l_1 := il_1
        refine wq_b (tt_fX12_right hN r5_q34561.2.1 r5_q34561.2.2.1 r5_q34561.2.2.2 (0 : Int32) (1 : Int32) ⟨by omega, by omega⟩ h_r5_q34561_3) (fun r1_q34590 h_r1_q34590 => ?_)
        obtain ⟨h_r1_q34590_0, h_r1_q34590_1, h_r1_q34590_2, h_r1_q34590_3, -⟩ := h_r1_q34590
        have t_34591 := KX12.i1 h_r1_q34590_3
        refine wq_eq (fun hc_34592 => ?_) (fun hc_34593 => ?_)
        · exact wq_s ⟨(show -1 ≤ (0 : Int32).toInt ∧ (0 : Int32).toInt ≤ 9 from ⟨by omega, by omega⟩), h_r1_q34590_3, trivial⟩
        · have l_20 := il_20
          have t_34594 := ia_mul (20 : Int32) (20) il_20 x1 (by omega) (by omega)
          have t_34595 := ia_add ((20 : Int32) * x1) x2 (by omega) (by omega)
          have b_34596 := i32b x5
          refine wq_b (tt_fX12_at hN r1_q34590.2.1 r1_q34590.2.2.1 r1_q34590.2.2.2 (((20 : Int32) * x1) + x2) x5 ⟨by omega, by omega⟩ ⟨by omega, by omega⟩ h_r1_q34590_3) (fun r2_q34597 h_r2_q34597 => ?_)
          obtain ⟨h_r2_q34597_0, h_r2_q34597_1, h_r2_q34597_2, -⟩ := h_r2_q34597
          have l_m1 := il_m1
          refine wq_eq (fun hc_34598 => ?_) (fun hc_34599 => ?_)
          · exact wq_s ⟨(show -1 ≤ (-1 : Int32).toInt ∧ (-1 : Int32).toInt ≤ 9 from ⟨by omega, by omega⟩), h_r1_q34590_3, trivial⟩
          · refine wq_b (tt_fX12_placeOn hN r1_q34590.2.1 r1_q34590.2.2.1 r1_q34590.2.2.2 x3 x5 x4 ⟨by omega, by omega⟩ ⟨by omega, by omega⟩ h_r1_q34590_3) (fun r3_q34600 h_r3_q34600 => ?_)
            obtain ⟨-⟩ := h_r3_q34600
            have b_34601 := i32b r3_q34600
            have l_60 := il_60
            have t_34602 := i32b r3_q34600
            have t_34603 := ia_div2 r3_q34600 (60 : Int32) 60 il_60 (by decide)
            refine wq_b (tt_fX12_beside hN r1_q34590.2.1 r1_q34590.2.2.1 r1_q34590.2.2.2 r2_q34597 (r3_q34600 / (60 : Int32)) ⟨by omega, by omega⟩ h_r1_q34590_3) (fun r4_q34604 h_r4_q34604 => ?_)
            obtain ⟨h_r4_q34604_0, -⟩ := h_r4_q34604
            exact wq_s ⟨(show -1 ≤ r4_q34604.toInt ∧ r4_q34604.toInt ≤ 9 from ⟨by omega, by omega⟩), h_r1_q34590_3, trivial⟩
      · have b_34605 := i32b x5
        have l_6 := il_6
        refine wq_b (tt_fX12_within hN x5 (0 : Int32) (6 : Int32)) (fun r8_q34606 h_r8_q34606 => ?_)
        obtain ⟨h_r8_q34606_0, h_r8_q34606_1, -⟩ := h_r8_q34606
        refine wq_eq (fun hc_34607 => ?_) (fun hc_34608 => ?_)
        · unfold fX12_misread_J45
          unfold fX12_misread_J46
          have l_1 := il_1
          refine wq_b (tt_fX12_right hN r5_q34561.2.1 r5_q34561.2.2.1 r5_q34561.2.2.2 (0 : Int32) (1 : Int32) ⟨by omega, by omega⟩ h_r5_q34561_3) (fun r1_q34609 h_r1_q34609 => ?_)
          obtain ⟨h_r1_q34609_0, h_r1_q34609_1, h_r1_q34609_2, h_r1_q34609_3, -⟩ := h_r1_q34609
          have t_34610 := KX12.i1 h_r1_q34609_3
          refine wq_eq (fun hc_34611 => ?_) (fun hc_34612 => ?_)
          · exact wq_s ⟨(show -1 ≤ (0 : Int32).toInt ∧ (0 : Int32).toInt ≤ 9 from ⟨by omega, by omega⟩), h_r1_q34609_3, trivial⟩
          · have l_20 := il_20
            have t_34613 := ia_mul (20 : Int32) (20) il_20 x1 (by omega) (by omega)
            have t_34614 := ia_add ((20 : Int32) * x1) x2 (by omega) (by omega)
            refine wq_b (tt_fX12_at hN r1_q34609.2.1 r1_q34609.2.2.1 r1_q34609.2.2.2 (((20 : Int32) * x1) + x2) x5 ⟨by omega, by omega⟩ ⟨by omega, by omega⟩ h_r1_q34609_3) (fun r2_q34615 h_r2_q34615 => ?_)
            obtain ⟨h_r2_q34615_0, h_r2_q34615_1, h_r2_q34615_2, -⟩ := h_r2_q34615
            have l_m1 := il_m1
            refine wq_eq (fun hc_34616 => ?_) (fun hc_34617 => ?_)
            · exact wq_s ⟨(show -1 ≤ (-1 : Int32).toInt ∧ (-1 : Int32).toInt ≤ 9 from ⟨by omega, by omega⟩), h_r1_q34609_3, trivial⟩
            · refine wq_b (tt_fX12_placeOn hN r1_q34609.2.1 r1_q34609.2.2.1 r1_q34609.2.2.2 x3 x5 x4 ⟨by omega, by omega⟩ ⟨by omega, by omega⟩ h_r1_q34609_3) (fun r3_q34618 h_r3_q34618 => ?_)
              obtain ⟨-⟩ := h_r3_q34618
              have b_34619 := i32b r3_q34618
              have l_60 := il_60
              have t_34620 := i32b r3_q34618
              have t_34621 := ia_div2 r3_q34618 (60 : Int32) 60 il_60 (by decide)
              refine wq_b (tt_fX12_beside hN r1_q34609.2.1 r1_q34609.2.2.1 r1_q34609.2.2.2 r2_q34615 (r3_q34618 / (60 : Int32)) ⟨by omega, by omega⟩ h_r1_q34609_3) (fun r4_q34622 h_r4_q34622 => ?_)
              obtain ⟨h_r4_q34622_0, -⟩ := h_r4_q34622
              exact wq_s ⟨(show -1 ≤ r4_q34622.toInt ∧ r4_q34622.toInt ≤ 9 from ⟨by omega, by omega⟩), h_r1_q34609_3, trivial⟩
        · unfold fX12_misread_J46
          have l_1 := il_1
          refine wq_b (tt_fX12_right hN r5_q34561.2.1 r5_q34561.2.2.1 r5_q34561.2.2.2 (1 : Int32) (1 : Int32) ⟨by omega, by omega⟩ h_r5_q34561_3) (fun r1_q34623 h_r1_q34623 => ?_)
          obtain ⟨h_r1_q34623_0, h_r1_q34623_1, h_r1_q34623_2, h_r1_q34623_3, -⟩ := h_r1_q34623
          have t_34624 := KX12.i1 h_r1_q34623_3
          refine wq_eq (fun hc_34625 => ?_) (fun hc_34626 => ?_)
          · exact wq_s ⟨(show -1 ≤ (0 : Int32).toInt ∧ (0 : Int32).toInt ≤ 9 from ⟨by omega, by omega⟩), h_r1_q34623_3, trivial⟩
          · have l_20 := il_20
            have t_34627 := ia_mul (20 : Int32) (20) il_20 x1 (by omega) (by omega)
            have t_34628 := ia_add ((20 : Int32) * x1) x2 (by omega) (by omega)
            refine wq_b (tt_fX12_at hN r1_q34623.2.1 r1_q34623.2.2.1 r1_q34623.2.2.2 (((20 : Int32) * x1) + x2) x5 ⟨by omega, by omega⟩ ⟨by omega, by omega⟩ h_r1_q34623_3) (fun r2_q34629 h_r2_q34629 => ?_)
            obtain ⟨h_r2_q34629_0, h_r2_q34629_1, h_r2_q34629_2, -⟩ := h_r2_q34629
            have l_m1 := il_m1
            refine wq_eq (fun hc_34630 => ?_) (fun hc_34631 => ?_)
            · exact wq_s ⟨(show -1 ≤ (-1 : Int32).toInt ∧ (-1 : Int32).toInt ≤ 9 from ⟨by omega, by omega⟩), h_r1_q34623_3, trivial⟩
            · refine wq_b (tt_fX12_placeOn hN r1_q34623.2.1 r1_q34623.2.2.1 r1_q34623.2.2.2 x3 x5 x4 ⟨by omega, by omega⟩ ⟨by omega, by omega⟩ h_r1_q34623_3) (fun r3_q34632 h_r3_q34632 => ?_)
              obtain ⟨-⟩ := h_r3_q34632
              have b_34633 := i32b r3_q34632
              have l_60 := il_60
              have t_34634 := i32b r3_q34632
              have t_34635 := ia_div2 r3_q34632 (60 : Int32) 60 il_60 (by decide)
              refine wq_b (tt_fX12_beside hN r1_q34623.2.1 r1_q34623.2.2.1 r1_q34623.2.2.2 r2_q34629 (r3_q34632 / (60 : Int32)) ⟨by omega, by omega⟩ h_r1_q34623_3) (fun r4_q34636 h_r4_q34636 => ?_)
              obtain ⟨h_r4_q34636_0, -⟩ := h_r4_q34636
              exact wq_s ⟨(show -1 ≤ r4_q34636.toInt ∧ r4_q34636.toInt ≤ 9 from ⟨by omega, by omega⟩), h_r1_q34623_3, trivial⟩
set_option maxHeartbeats 4000000 in
theorem tt_fX12_errors_L340 {N : Nat} (hN : 3000000000 ≤ N) (x1 : Int32) (x2 : Int32) (x3 : Int32) (x4 : Int32) (g51 : (Nat → Int32) → Int64 → (Nat → Nat → Int32) → Int32 → Option (Int32 × (Nat → Int32) × Int64 × (Nat → Nat → Int32))) (g90 : (Nat → Int32) → Int64 → (Nat → Nat → Int32) → Int32 → Int32 → Option (Int32 × (Nat → Int32) × Int64 × (Nat → Nat → Int32))) (h_x1 : 0 ≤ x1.toInt ∧ x1.toInt ≤ 5) (h_x2 : 0 ≤ x2.toInt ∧ x2.toInt ≤ 19) (h_x3 : 0 ≤ x3.toInt ∧ x3.toInt ≤ 1000000) (h_x4 : 1 ≤ x4.toInt ∧ x4.toInt ≤ 1)  : ∀ (fu : Nat) (I0_l340 : (Nat → Int32)) (L0_l340 : Int64) (M0_l340 : (Nat → Nat → Int32)) (y340_6 : Int32) (y340_7 : Int32), (1 ≤ y340_6.toInt ∧ y340_6.toInt ≤ 3) → (2 ≤ y340_7.toInt ∧ y340_7.toInt ≤ 4) → (KX12 I0_l340 M0_l340) → (4 - y340_7.toInt) < (fu : Int) → wq (fX12_errors_L340 N x1 x2 x3 x4 g51 g90 fu I0_l340 L0_l340 M0_l340 y340_6 y340_7) (fun r => KX12 r.2.1 r.2.2.2 ∧ True) := by
  intro fu
  induction fu with
  | zero => intro I0_l340 L0_l340 M0_l340 y340_6 y340_7 h_y340_6 h_y340_7 k_I0_l340 hm; exfalso; omega
  | succ fu ih =>
    intro I0_l340 L0_l340 M0_l340 y340_6 y340_7 h_y340_6 h_y340_7 k_I0_l340 hm
    rw [fX12_errors_L340.eq_2]
    have l_4 := il_4
    refine wq_le (fun hc_38364 => ?_) (fun hc_38365 => ?_)
    · refine wq_in (n := 4) ⟨by omega, by omega⟩ ?_
      have l_0 := il_0
      refine wq_eq (fun hc_38366 => ?_) (fun hc_38367 => ?_)
      · have l_m1 := il_m1
        exact wq_s ⟨k_I0_l340, trivial⟩
      · exact wq_s ⟨k_I0_l340, trivial⟩
    · refine wq_in (n := 4) ⟨by omega, by omega⟩ ?_
      refine wq_in (n := 4) ⟨by omega, by omega⟩ ?_
      refine wq_le (fun hc_38368 => ?_) (fun hc_38369 => ?_)
      · have l_1 := il_1
        have t_38371 := ia_add y340_7 (1 : Int32) (by omega) (by omega)
        refine wq_v (fun v2_q38370 h_v2_q38370 => ?_)
        have t_v2_q38370 := congrArg Int32.toInt h_v2_q38370
        exact ih I0_l340 L0_l340 M0_l340 y340_6 v2_q38370 ⟨by omega, by omega⟩ ⟨by omega, by omega⟩ k_I0_l340 (by omega)
      · have l_1 := il_1
        have t_38373 := ia_add y340_7 (1 : Int32) (by omega) (by omega)
        refine wq_v (fun v3_q38372 h_v3_q38372 => ?_)
        have t_v3_q38372 := congrArg Int32.toInt h_v3_q38372
        exact ih I0_l340 L0_l340 M0_l340 y340_7 v3_q38372 ⟨by omega, by omega⟩ ⟨by omega, by omega⟩ k_I0_l340 (by omega)
set_option maxHeartbeats 4000000 in
theorem wq_be {α β : Type} {x : Option α} {k : α → Option β} {P : α → Prop} {Q : β → Prop} (h : wq x P) (h2 : ∀ r, x = some r → P r → wq (k r) Q) : wq (x.bind k) Q := by
  obtain ⟨r, e, hr⟩ := h
  rw [e]
  exact h2 r e hr
def ER (N : Nat) (I : Nat → Int32) (L : Int64) (M : Nat → Nat → Int32) (k d e n b : Int32) : Prop :=
  0 ≤ b.toInt ∧ b.toInt < n.toInt ∧ ∀ s p : Int32, 1 ≤ s.toInt → s.toInt < n.toInt → fX12_placeOn N I L M s k d = some p → (p / (60 : Int32)).toInt = e.toInt → 1 ≤ b.toInt
theorem pl_um {N : Nat} {I : Nat → Int32} {L : Int64} {M : Nat → Nat → Int32} {q i : Nat} {v s k d : Int32} (hq : 4 ≤ q) : fX12_placeOn N I L (wb_um M q i v) s k d = fX12_placeOn N I L M s k d := by
  have h0 : wb_um M q i v 0 = M 0 := by unfold wb_um; exact if_neg (by omega)
  have h1 : wb_um M q i v 1 = M 1 := by unfold wb_um; exact if_neg (by omega)
  have h2 : wb_um M q i v 2 = M 2 := by unfold wb_um; exact if_neg (by omega)
  have h3 : wb_um M q i v 3 = M 3 := by unfold wb_um; exact if_neg (by omega)
  unfold fX12_placeOn fX12_placeOn_J79
  simp only [h0, h1, h2, h3]
theorem ER_um {N : Nat} {I : Nat → Int32} {L : Int64} {M : Nat → Nat → Int32} {k d e n b : Int32} {q i : Nat} {v : Int32} (hq : 4 ≤ q) (h : ER N I L M k d e n b) : ER N I L (wb_um M q i v) k d e n b :=
  ⟨h.1, h.2.1, fun s p h1 h2 h3 h4 => h.2.2 s p h1 h2 ((pl_um hq).symm.trans h3) h4⟩
theorem ER_0 {N : Nat} {I : Nat → Int32} {L : Int64} {M : Nat → Nat → Int32} {k d e : Int32} : ER N I L M k d e (1 : Int32) (0 : Int32) := by
  have l_0 := il_0
  have l_1 := il_1
  exact ⟨by omega, by omega, fun s p h1 h2 => by omega⟩
theorem ER_4 {N : Nat} {I : Nat → Int32} {L : Int64} {M : Nat → Nat → Int32} {k d e n b : Int32} (h : ER N I L M k d e n b) (hn : n.toInt = 4) : ER N I L M k d e (4 : Int32) b := by
  have l_4 := il_4
  exact ⟨h.1, by have := h.2.1; omega, fun s p h1 h2 => h.2.2 s p h1 (by omega)⟩
theorem ER_y {N : Nat} {I : Nat → Int32} {L : Int64} {M : Nat → Nat → Int32} {k d e n b n2 b2 p : Int32} (h : ER N I L M k d e n b) (_ : fX12_placeOn N I L M n k d = some p) (_ : (p / (60 : Int32)).toInt = e.toInt) (hb : b2.toInt = b.toInt + 1) (hn : n2.toInt = n.toInt + 1) : ER N I L M k d e n2 b2 := by
  have h1 := h.1
  have h2 := h.2.1
  exact ⟨by omega, by omega, fun s p _ _ _ _ => by omega⟩
theorem ER_n {N : Nat} {I : Nat → Int32} {L : Int64} {M : Nat → Nat → Int32} {k d e n b n2 b2 p : Int32} (h : ER N I L M k d e n b) (hp : fX12_placeOn N I L M n k d = some p) (hne : ¬ (p / (60 : Int32)).toInt = e.toInt) (hb : b2.toInt = b.toInt) (hn : n2.toInt = n.toInt + 1) : ER N I L M k d e n2 b2 := by
  have h1 := h.1
  have h2 := h.2.1
  refine ⟨by omega, by omega, fun s p' h3 h4 h5 h6 => ?_⟩
  by_cases hs : s.toInt = n.toInt
  · have : s = n := Int32.toInt_inj.mp hs
    rw [this, hp] at h5
    exact absurd (Option.some.inj h5 ▸ h6) hne
  · rw [hb]
    exact h.2.2 s p' h3 (by omega) h5 h6
set_option maxHeartbeats 4000000 in
theorem tt_fX12_errors_L187 {N : Nat} (hN : 3000000000 ≤ N) (x1 : Int32) (x2 : Int32) (x3 : Int32) (x4 : Int32) (r4 : Int32) (v7 : Int32) (y145_8 : Int32) (y90_6 : Int32) (g51 : (Nat → Int32) → Int64 → (Nat → Nat → Int32) → Int32 → Option (Int32 × (Nat → Int32) × Int64 × (Nat → Nat → Int32))) (g90 : (Nat → Int32) → Int64 → (Nat → Nat → Int32) → Int32 → Int32 → Option (Int32 × (Nat → Int32) × Int64 × (Nat → Nat → Int32))) (g145 : (Nat → Int32) → Int64 → (Nat → Nat → Int32) → Int32 → Int32 → Option (Int32 × (Nat → Int32) × Int64 × (Nat → Nat → Int32))) (h_x1 : 0 ≤ x1.toInt ∧ x1.toInt ≤ 5) (h_x2 : 0 ≤ x2.toInt ∧ x2.toInt ≤ 19) (h_x3 : 0 ≤ x3.toInt ∧ x3.toInt ≤ 1000000) (h_x4 : 0 ≤ x4.toInt ∧ x4.toInt ≤ 10) (h_r4 : 0 ≤ r4.toInt ∧ r4.toInt ≤ 359) (h_y90_6 : 0 ≤ y90_6.toInt ∧ y90_6.toInt ≤ 6) (hg90 : ∀ (q0 : (Nat → Int32)) (q1 : Int64) (q2 : (Nat → Nat → Int32)) (q3 : Int32) (q4 : Int32), (0 ≤ q4.toInt ∧ q4.toInt ≤ 7) → (KX12 q0 q2) → (y90_6.toInt < q4.toInt) → wq (g90 q0 q1 q2 q3 q4) (fun r => KX12 r.2.1 r.2.2.2 ∧ True)) : ∀ (fu : Nat) (I0_l187 : (Nat → Int32)) (L0_l187 : Int64) (M0_l187 : (Nat → Nat → Int32)) (y187_9 : Int32), (1 ≤ y187_9.toInt ∧ y187_9.toInt ≤ 4) → (KX12 I0_l187 M0_l187) → ER N I0_l187 L0_l187 M0_l187 y90_6 x3 r4 (4 : Int32) y145_8 → (4 - y187_9.toInt) < (fu : Int) → wq (fX12_errors_L187 N x1 x2 x3 x4 r4 v7 y145_8 y90_6 g51 g90 g145 fu I0_l187 L0_l187 M0_l187 y187_9) (fun r => KX12 r.2.1 r.2.2.2 ∧ True) := by
  intro fu
  induction fu with
  | zero => intro I0_l187 L0_l187 M0_l187 y187_9 h_y187_9 k_I0_l187 hE hm; exfalso; omega
  | succ fu ih =>
    intro I0_l187 L0_l187 M0_l187 y187_9 h_y187_9 k_I0_l187 hE hm
    rw [fX12_errors_L187.eq_2]
    have l_4 := il_4
    refine wq_le (fun hc_38374 => ?_) (fun hc_38375 => ?_)
    · have l_1 := il_1
      have t_38377 := ia_add y90_6 (1 : Int32) (by omega) (by omega)
      refine wq_v (fun v11_q38376 h_v11_q38376 => ?_)
      have t_v11_q38376 := congrArg Int32.toInt h_v11_q38376
      have b_38378 := i32b v7
      exact hg90 I0_l187 L0_l187 M0_l187 v7 v11_q38376 ⟨by omega, by omega⟩ k_I0_l187 (by omega)
    · refine wq_be (tt_fX12_placeOn hN I0_l187 L0_l187 M0_l187 y187_9 y90_6 x3 ⟨by omega, by omega⟩ ⟨by omega, by omega⟩ k_I0_l187) (fun r12_q38379 hpl h_r12_q38379 => ?_)
      obtain ⟨-⟩ := h_r12_q38379
      have b_38380 := i32b r12_q38379
      have l_60 := il_60
      have t_38381 := i32b r12_q38379
      have t_38382 := ia_div2 r12_q38379 (60 : Int32) 60 il_60 (by decide)
      refine wq_eq (fun hc_38383 => ?_) (fun hc_38384 => ?_)
      · refine wq_in (n := 4) ⟨by omega, by omega⟩ ?_
        refine wq_in (n := 4) ⟨by omega, by omega⟩ ?_
        refine wq_v (fun M0_13_q38385 h_M0_13_q38385 => ?_)
        have k_M0_13_q38385 : KX12 I0_l187 M0_13_q38385 := by rw [h_M0_13_q38385]; exact KX12.sm20 k_I0_l187
        refine wq_in (n := 4) ⟨by omega, by omega⟩ ?_
        have b_38386 := i32b y145_8
        have l_1 := il_1
        refine wq_eq (fun hc_38387 => ?_) (fun hc_38388 => ?_)
        · unfold fX12_errors_J243
          refine wq_in (n := 4) ⟨by omega, by omega⟩ ?_
          refine wq_v (fun M0_8_q38389 h_M0_8_q38389 => ?_)
          have k_M0_8_q38389 : KX12 I0_l187 M0_8_q38389 := by rw [h_M0_8_q38389]; exact KX12.sm21 k_M0_13_q38385
          refine wq_in (n := 4) ⟨by omega, by omega⟩ ?_
          refine wq_nz (by have hb := hE.2.2 _ _ (by omega) (by omega) hpl hc_38383; omega) ?_
          refine wq_in (n := 4) ⟨by omega, by omega⟩ ?_
          refine wq_v (fun M0_9_q38390 h_M0_9_q38390 => ?_)
          have k_M0_9_q38390 : KX12 I0_l187 M0_9_q38390 := by rw [h_M0_9_q38390]; exact KX12.sm22 k_M0_8_q38389
          have t_38392 := ia_add y187_9 (1 : Int32) (by omega) (by omega)
          refine wq_v (fun v10_q38391 h_v10_q38391 => ?_)
          have t_v10_q38391 := congrArg Int32.toInt h_v10_q38391
          exact ih I0_l187 L0_l187 M0_9_q38390 v10_q38391 ⟨by omega, by omega⟩ k_M0_9_q38390 (by rw [h_M0_9_q38390, h_M0_8_q38389, h_M0_13_q38385]; exact ER_um (by decide) (ER_um (by decide) (ER_um (by decide) hE))) (by omega)
        · unfold fX12_errors_J243
          refine wq_in (n := 4) ⟨by omega, by omega⟩ ?_
          refine wq_v (fun M0_8_q38393 h_M0_8_q38393 => ?_)
          have k_M0_8_q38393 : KX12 I0_l187 M0_8_q38393 := by rw [h_M0_8_q38393]; exact KX12.sm21 k_M0_13_q38385
          refine wq_in (n := 4) ⟨by omega, by omega⟩ ?_
          refine wq_nz (by have hb := hE.2.2 _ _ (by omega) (by omega) hpl hc_38383; omega) ?_
          refine wq_in (n := 4) ⟨by omega, by omega⟩ ?_
          refine wq_v (fun M0_9_q38394 h_M0_9_q38394 => ?_)
          have k_M0_9_q38394 : KX12 I0_l187 M0_9_q38394 := by rw [h_M0_9_q38394]; exact KX12.sm22 k_M0_8_q38393
          have t_38396 := ia_add y187_9 (1 : Int32) (by omega) (by omega)
          refine wq_v (fun v10_q38395 h_v10_q38395 => ?_)
          have t_v10_q38395 := congrArg Int32.toInt h_v10_q38395
          exact ih I0_l187 L0_l187 M0_9_q38394 v10_q38395 ⟨by omega, by omega⟩ k_M0_9_q38394 (by rw [h_M0_9_q38394, h_M0_8_q38393, h_M0_13_q38385]; exact ER_um (by decide) (ER_um (by decide) (ER_um (by decide) hE))) (by omega)
      · have l_1 := il_1
        have t_38398 := ia_add y187_9 (1 : Int32) (by omega) (by omega)
        refine wq_v (fun v14_q38397 h_v14_q38397 => ?_)
        have t_v14_q38397 := congrArg Int32.toInt h_v14_q38397
        exact ih I0_l187 L0_l187 M0_l187 v14_q38397 ⟨by omega, by omega⟩ k_I0_l187 hE (by omega)
set_option maxHeartbeats 4000000 in
theorem tt_fX12_errors_L145 {N : Nat} (hN : 3000000000 ≤ N) (x1 : Int32) (x2 : Int32) (x3 : Int32) (x4 : Int32) (r4 : Int32) (v7 : Int32) (y90_6 : Int32) (g51 : (Nat → Int32) → Int64 → (Nat → Nat → Int32) → Int32 → Option (Int32 × (Nat → Int32) × Int64 × (Nat → Nat → Int32))) (g90 : (Nat → Int32) → Int64 → (Nat → Nat → Int32) → Int32 → Int32 → Option (Int32 × (Nat → Int32) × Int64 × (Nat → Nat → Int32))) (h_x1 : 0 ≤ x1.toInt ∧ x1.toInt ≤ 5) (h_x2 : 0 ≤ x2.toInt ∧ x2.toInt ≤ 19) (h_x3 : 0 ≤ x3.toInt ∧ x3.toInt ≤ 1000000) (h_x4 : 0 ≤ x4.toInt ∧ x4.toInt ≤ 10) (h_r4 : 0 ≤ r4.toInt ∧ r4.toInt ≤ 359) (h_y90_6 : 0 ≤ y90_6.toInt ∧ y90_6.toInt ≤ 6) (hg90 : ∀ (q0 : (Nat → Int32)) (q1 : Int64) (q2 : (Nat → Nat → Int32)) (q3 : Int32) (q4 : Int32), (0 ≤ q4.toInt ∧ q4.toInt ≤ 7) → (KX12 q0 q2) → (y90_6.toInt < q4.toInt) → wq (g90 q0 q1 q2 q3 q4) (fun r => KX12 r.2.1 r.2.2.2 ∧ True)) : ∀ (fu : Nat) (I0_l145 : (Nat → Int32)) (L0_l145 : Int64) (M0_l145 : (Nat → Nat → Int32)) (y145_8 : Int32) (y145_9 : Int32), (1 ≤ y145_9.toInt ∧ y145_9.toInt ≤ 4) → (KX12 I0_l145 M0_l145) → ER N I0_l145 L0_l145 M0_l145 y90_6 x3 r4 y145_9 y145_8 → (4 - y145_9.toInt) < (fu : Int) → wq (fX12_errors_L145 N x1 x2 x3 x4 r4 v7 y90_6 g51 g90 fu I0_l145 L0_l145 M0_l145 y145_8 y145_9) (fun r => KX12 r.2.1 r.2.2.2 ∧ True) := by
  intro fu
  induction fu with
  | zero => intro I0_l145 L0_l145 M0_l145 y145_8 y145_9 h_y145_9 k_I0_l145 hE hm; exfalso; omega
  | succ fu ih =>
    intro I0_l145 L0_l145 M0_l145 y145_8 y145_9 h_y145_9 k_I0_l145 hE hm
    have hE1 := hE.1
    have hE2 := hE.2.1
    rw [fX12_errors_L145.eq_2]
    have l_4 := il_4
    refine wq_le (fun hc_38399 => ?_) (fun hc_38400 => ?_)
    · have b_38401 := i32b v7
      have b_38402 := i32b y145_8
      have l_1 := il_1
      exact tt_fX12_errors_L187 hN x1 x2 x3 x4 r4 v7 y145_8 y90_6 g51 g90 _ ⟨by omega, by omega⟩ ⟨by omega, by omega⟩ ⟨by omega, by omega⟩ ⟨by omega, by omega⟩ ⟨by omega, by omega⟩ ⟨by omega, by omega⟩ hg90 N I0_l145 L0_l145 M0_l145 (1 : Int32) ⟨by omega, by omega⟩ k_I0_l145 (ER_4 hE (by omega)) (by omega)
    · refine wq_be (tt_fX12_placeOn hN I0_l145 L0_l145 M0_l145 y145_9 y90_6 x3 ⟨by omega, by omega⟩ ⟨by omega, by omega⟩ k_I0_l145) (fun r15_q38403 hpl h_r15_q38403 => ?_)
      obtain ⟨-⟩ := h_r15_q38403
      have b_38404 := i32b r15_q38403
      have l_60 := il_60
      have t_38405 := i32b r15_q38403
      have t_38406 := ia_div2 r15_q38403 (60 : Int32) 60 il_60 (by decide)
      refine wq_eq (fun hc_38407 => ?_) (fun hc_38408 => ?_)
      · have b_38410 := i32b y145_8
        have l_1 := il_1
        refine wq_v (fun v18_q38409 h_v18_q38409 => ?_)
        have t_v18_q38409 := congrArg Int32.toInt h_v18_q38409
        have t_38412 := ia_add y145_9 (1 : Int32) (by omega) (by omega)
        refine wq_v (fun v19_q38411 h_v19_q38411 => ?_)
        have t_v19_q38411 := congrArg Int32.toInt h_v19_q38411
        have b_38413 := i32b v18_q38409
        have tby := ia_add y145_8 (1 : Int32) (by omega) (by omega)
        exact ih I0_l145 L0_l145 M0_l145 v18_q38409 v19_q38411 ⟨by omega, by omega⟩ k_I0_l145 (ER_y hE hpl hc_38407 (by omega) (by omega)) (by omega)
      · have b_38415 := i32b y145_8
        have l_0 := il_0
        have t_38416 := ia_add y145_8 (0 : Int32) (by omega) (by omega)
        refine wq_v (fun v16_q38414 h_v16_q38414 => ?_)
        have t_v16_q38414 := congrArg Int32.toInt h_v16_q38414
        have l_1 := il_1
        have t_38418 := ia_add y145_9 (1 : Int32) (by omega) (by omega)
        refine wq_v (fun v17_q38417 h_v17_q38417 => ?_)
        have t_v17_q38417 := congrArg Int32.toInt h_v17_q38417
        have b_38419 := i32b v16_q38414
        exact ih I0_l145 L0_l145 M0_l145 v16_q38414 v17_q38417 ⟨by omega, by omega⟩ k_I0_l145 (ER_n hE hpl hc_38408 (by omega) (by omega)) (by omega)
set_option maxHeartbeats 4000000 in
theorem tt_fX12_errors_L90 {N : Nat} (hN : 3000000000 ≤ N) (x1 : Int32) (x2 : Int32) (x3 : Int32) (x4 : Int32) (g51 : (Nat → Int32) → Int64 → (Nat → Nat → Int32) → Int32 → Option (Int32 × (Nat → Int32) × Int64 × (Nat → Nat → Int32))) (h_x1 : 0 ≤ x1.toInt ∧ x1.toInt ≤ 5) (h_x2 : 0 ≤ x2.toInt ∧ x2.toInt ≤ 19) (h_x3 : 0 ≤ x3.toInt ∧ x3.toInt ≤ 1000000) (h_x4 : 0 ≤ x4.toInt ∧ x4.toInt ≤ 10)  : ∀ (fu : Nat) (I0_l90 : (Nat → Int32)) (L0_l90 : Int64) (M0_l90 : (Nat → Nat → Int32)) (y90_5 : Int32) (y90_6 : Int32), (0 ≤ y90_6.toInt ∧ y90_6.toInt ≤ 7) → (KX12 I0_l90 M0_l90) → (7 - y90_6.toInt) < (fu : Int) → wq (fX12_errors_L90 N x1 x2 x3 x4 g51 fu I0_l90 L0_l90 M0_l90 y90_5 y90_6) (fun r => KX12 r.2.1 r.2.2.2 ∧ True) := by
  intro fu
  induction fu with
  | zero => intro I0_l90 L0_l90 M0_l90 y90_5 y90_6 h_y90_6 k_I0_l90 hm; exfalso; omega
  | succ fu ih =>
    intro I0_l90 L0_l90 M0_l90 y90_5 y90_6 h_y90_6 k_I0_l90 hm
    rw [fX12_errors_L90.eq_2]
    have l_7 := il_7
    refine wq_le (fun hc_38420 => ?_) (fun hc_38421 => ?_)
    · have l_0 := il_0
      refine wq_eq (fun hc_38422 => ?_) (fun hc_38423 => ?_)
      · have b_38424 := i32b y90_5
        exact wq_s ⟨k_I0_l90, trivial⟩
      · have l_1 := il_1
        refine wq_le (fun hc_38425 => ?_) (fun hc_38426 => ?_)
        · have l_2 := il_2
          exact tt_fX12_errors_L340 hN x1 x2 x3 x4 g51 _ ⟨by omega, by omega⟩ ⟨by omega, by omega⟩ ⟨by omega, by omega⟩ ⟨by omega, by omega⟩ N I0_l90 L0_l90 M0_l90 (1 : Int32) (2 : Int32) ⟨by omega, by omega⟩ ⟨by omega, by omega⟩ k_I0_l90 (by omega)
        · have l_5 := il_5
          refine wq_le (fun hc_38427 => ?_) (fun hc_38428 => ?_)
          · have l_8 := il_8
            refine wq_le (fun hc_38429 => ?_) (fun hc_38430 => ?_)
            · have t_38431 := ia_sub x4 (7 : Int32) (by omega) (by omega)
              refine wq_in (n := 4) ⟨by omega, by omega⟩ ?_
              exact wq_s ⟨k_I0_l90, trivial⟩
            · have l_4 := il_4
              have t_38432 := ia_sub x4 (4 : Int32) (by omega) (by omega)
              refine wq_in (n := 4) ⟨by omega, by omega⟩ ?_
              exact wq_s ⟨k_I0_l90, trivial⟩
          · have t_38433 := ia_sub x4 (1 : Int32) (by omega) (by omega)
            refine wq_in (n := 4) ⟨by omega, by omega⟩ ?_
            exact wq_s ⟨k_I0_l90, trivial⟩
    · have l_20 := il_20
      have t_38434 := ia_mul (20 : Int32) (20) il_20 x1 (by omega) (by omega)
      have t_38435 := ia_add ((20 : Int32) * x1) x2 (by omega) (by omega)
      refine wq_b (tt_fX12_at hN I0_l90 L0_l90 M0_l90 (((20 : Int32) * x1) + x2) y90_6 ⟨by omega, by omega⟩ ⟨by omega, by omega⟩ k_I0_l90) (fun r4_q38436 h_r4_q38436 => ?_)
      obtain ⟨h_r4_q38436_0, h_r4_q38436_1, h_r4_q38436_2, -⟩ := h_r4_q38436
      have l_m1 := il_m1
      refine wq_eq (fun hc_38437 => ?_) (fun hc_38438 => ?_)
      · have l_1 := il_1
        have t_38440 := ia_add y90_6 (1 : Int32) (by omega) (by omega)
        refine wq_v (fun v5_q38439 h_v5_q38439 => ?_)
        have t_v5_q38439 := congrArg Int32.toInt h_v5_q38439
        have b_38441 := i32b y90_5
        exact ih I0_l90 L0_l90 M0_l90 y90_5 v5_q38439 ⟨by omega, by omega⟩ k_I0_l90 (by omega)
      · have l_0 := il_0
        refine wq_b (tt_fX12_placeOn hN I0_l90 L0_l90 M0_l90 (0 : Int32) y90_6 x3 ⟨by omega, by omega⟩ ⟨by omega, by omega⟩ k_I0_l90) (fun r6_q38442 h_r6_q38442 => ?_)
        obtain ⟨-⟩ := h_r6_q38442
        have b_38443 := i32b r6_q38442
        have l_60 := il_60
        have t_38444 := i32b r6_q38442
        have t_38445 := ia_div2 r6_q38442 (60 : Int32) 60 il_60 (by decide)
        refine wq_eq (fun hc_38446 => ?_) (fun hc_38447 => ?_)
        · have l_1 := il_1
          have t_38449 := ia_add y90_6 (1 : Int32) (by omega) (by omega)
          refine wq_v (fun v20_q38448 h_v20_q38448 => ?_)
          have t_v20_q38448 := congrArg Int32.toInt h_v20_q38448
          have b_38450 := i32b y90_5
          exact ih I0_l90 L0_l90 M0_l90 y90_5 v20_q38448 ⟨by omega, by omega⟩ k_I0_l90 (by omega)
        · have b_38452 := i32b y90_5
          have l_1 := il_1
          refine wq_v (fun v7_q38451 h_v7_q38451 => ?_)
          have t_v7_q38451 := congrArg Int32.toInt h_v7_q38451
          have b_38453 := i32b v7_q38451
          exact tt_fX12_errors_L145 hN x1 x2 x3 x4 r4_q38436 v7_q38451 y90_6 g51 _ ⟨by omega, by omega⟩ ⟨by omega, by omega⟩ ⟨by omega, by omega⟩ ⟨by omega, by omega⟩ ⟨by omega, by omega⟩ ⟨by omega, by omega⟩ (fun q0 q1 q2 q3 q4 hq0 hq1 hq2 => ih q0 q1 q2 q3 q4 hq0 hq1 (by omega)) N I0_l90 L0_l90 M0_l90 (0 : Int32) (1 : Int32) ⟨by omega, by omega⟩ k_I0_l90 ER_0 (by omega)
set_option maxHeartbeats 4000000 in
theorem tt_fX12_errors_L51 {N : Nat} (hN : 3000000000 ≤ N) (x1 : Int32) (x2 : Int32) (x3 : Int32) (x4 : Int32) (h_x1 : 0 ≤ x1.toInt ∧ x1.toInt ≤ 5) (h_x2 : 0 ≤ x2.toInt ∧ x2.toInt ≤ 19) (h_x3 : 0 ≤ x3.toInt ∧ x3.toInt ≤ 1000000) (h_x4 : 0 ≤ x4.toInt ∧ x4.toInt ≤ 10)  : ∀ (fu : Nat) (I0_l51 : (Nat → Int32)) (L0_l51 : Int64) (M0_l51 : (Nat → Nat → Int32)) (y51_6 : Int32), (1 ≤ y51_6.toInt ∧ y51_6.toInt ≤ 4) → (KX12 I0_l51 M0_l51) → (4 - y51_6.toInt) < (fu : Int) → wq (fX12_errors_L51 N x1 x2 x3 x4 fu I0_l51 L0_l51 M0_l51 y51_6) (fun r => KX12 r.2.1 r.2.2.2 ∧ True) := by
  intro fu
  induction fu with
  | zero => intro I0_l51 L0_l51 M0_l51 y51_6 h_y51_6 k_I0_l51 hm; exfalso; omega
  | succ fu ih =>
    intro I0_l51 L0_l51 M0_l51 y51_6 h_y51_6 k_I0_l51 hm
    rw [fX12_errors_L51.eq_2]
    have l_4 := il_4
    refine wq_le (fun hc_38454 => ?_) (fun hc_38455 => ?_)
    · have l_0 := il_0
      exact tt_fX12_errors_L90 hN x1 x2 x3 x4 _ ⟨by omega, by omega⟩ ⟨by omega, by omega⟩ ⟨by omega, by omega⟩ ⟨by omega, by omega⟩ N I0_l51 L0_l51 M0_l51 (0 : Int32) (0 : Int32) ⟨by omega, by omega⟩ k_I0_l51 (by omega)
    · refine wq_in (n := 4) ⟨by omega, by omega⟩ ?_
      refine wq_v (fun M0_21_q38456 h_M0_21_q38456 => ?_)
      have k_M0_21_q38456 : KX12 I0_l51 M0_21_q38456 := by rw [h_M0_21_q38456]; exact KX12.sm20 k_I0_l51
      refine wq_in (n := 4) ⟨by omega, by omega⟩ ?_
      refine wq_v (fun M0_22_q38457 h_M0_22_q38457 => ?_)
      have k_M0_22_q38457 : KX12 I0_l51 M0_22_q38457 := by rw [h_M0_22_q38457]; exact KX12.sm21 k_M0_21_q38456
      refine wq_in (n := 4) ⟨by omega, by omega⟩ ?_
      refine wq_v (fun M0_23_q38458 h_M0_23_q38458 => ?_)
      have k_M0_23_q38458 : KX12 I0_l51 M0_23_q38458 := by rw [h_M0_23_q38458]; exact KX12.sm22 k_M0_22_q38457
      have l_1 := il_1
      have t_38460 := ia_add y51_6 (1 : Int32) (by omega) (by omega)
      refine wq_v (fun v24_q38459 h_v24_q38459 => ?_)
      have t_v24_q38459 := congrArg Int32.toInt h_v24_q38459
      exact ih I0_l51 L0_l51 M0_23_q38458 v24_q38459 ⟨by omega, by omega⟩ k_M0_23_q38458 (by omega)
set_option maxHeartbeats 4000000 in
theorem tt_fX12_errors {N : Nat} (hN : 3000000000 ≤ N) (I0 : Nat → Int32) (L0 : Int64) (M0 : Nat → Nat → Int32) (x1 : Int32) (x2 : Int32) (x3 : Int32) (x4 : Int32) (k_I0 : KX12 I0 M0) : wq (fX12_errors N I0 L0 M0 x1 x2 x3 x4) (fun r => KX12 r.2.1 r.2.2.2 ∧ True) := by
  unfold fX12_errors
  have b_38461 := i32b x1
  have b_38462 := i32b x2
  refine wq_b (tt_fX12_isWheel hN I0 L0 M0 x1 x2 k_I0) (fun r25_q38463 h_r25_q38463 => ?_)
  obtain ⟨h_r25_q38463_0, h_r25_q38463_1, h_r25_q38463_2, h_r25_q38463_3, -⟩ := h_r25_q38463
  have t_38464 := KX12.i1 h_r25_q38463_3
  have t_38465 := KX12.i1 k_I0
  have l_0 := il_0
  refine wq_eq (fun hc_38466 => ?_) (fun hc_38467 => ?_)
  · exact wq_s ⟨h_r25_q38463_3, trivial⟩
  · have b_38468 := i32b x3
    have l_1000000 := il_1000000
    refine wq_b (tt_fX12_within hN x3 (0 : Int32) (1000000 : Int32)) (fun r26_q38469 h_r26_q38469 => ?_)
    obtain ⟨h_r26_q38469_0, h_r26_q38469_1, -⟩ := h_r26_q38469
    refine wq_eq (fun hc_38470 => ?_) (fun hc_38471 => ?_)
    · unfold fX12_errors_J35
      unfold fX12_errors_J36
      have l_1 := il_1
      refine wq_b (tt_fX12_right hN r25_q38463.2.1 r25_q38463.2.2.1 r25_q38463.2.2.2 (0 : Int32) (1 : Int32) ⟨by omega, by omega⟩ h_r25_q38463_3) (fun r1_q38472 h_r1_q38472 => ?_)
      obtain ⟨h_r1_q38472_0, h_r1_q38472_1, h_r1_q38472_2, h_r1_q38472_3, -⟩ := h_r1_q38472
      have t_38473 := KX12.i1 h_r1_q38472_3
      refine wq_eq (fun hc_38474 => ?_) (fun hc_38475 => ?_)
      · exact wq_s ⟨h_r1_q38472_3, trivial⟩
      · have b_38476 := i32b x4
        exact tt_fX12_errors_L51 hN x1 x2 x3 x4 ⟨by omega, by omega⟩ ⟨by omega, by omega⟩ ⟨by omega, by omega⟩ ⟨by omega, by omega⟩ N r1_q38472.2.1 r1_q38472.2.2.1 r1_q38472.2.2.2 (1 : Int32) ⟨by omega, by omega⟩ h_r1_q38472_3 (by omega)
    · have b_38477 := i32b x4
      have l_10 := il_10
      refine wq_b (tt_fX12_within hN x4 (0 : Int32) (10 : Int32)) (fun r27_q38478 h_r27_q38478 => ?_)
      obtain ⟨h_r27_q38478_0, h_r27_q38478_1, -⟩ := h_r27_q38478
      refine wq_eq (fun hc_38479 => ?_) (fun hc_38480 => ?_)
      · unfold fX12_errors_J35
        unfold fX12_errors_J36
        have l_1 := il_1
        refine wq_b (tt_fX12_right hN r25_q38463.2.1 r25_q38463.2.2.1 r25_q38463.2.2.2 (0 : Int32) (1 : Int32) ⟨by omega, by omega⟩ h_r25_q38463_3) (fun r1_q38481 h_r1_q38481 => ?_)
        obtain ⟨h_r1_q38481_0, h_r1_q38481_1, h_r1_q38481_2, h_r1_q38481_3, -⟩ := h_r1_q38481
        have t_38482 := KX12.i1 h_r1_q38481_3
        refine wq_eq (fun hc_38483 => ?_) (fun hc_38484 => ?_)
        · exact wq_s ⟨h_r1_q38481_3, trivial⟩
        · exact tt_fX12_errors_L51 hN x1 x2 x3 x4 ⟨by omega, by omega⟩ ⟨by omega, by omega⟩ ⟨by omega, by omega⟩ ⟨by omega, by omega⟩ N r1_q38481.2.1 r1_q38481.2.2.1 r1_q38481.2.2.2 (1 : Int32) ⟨by omega, by omega⟩ h_r1_q38481_3 (by omega)
      · unfold fX12_errors_J36
        have l_1 := il_1
        refine wq_b (tt_fX12_right hN r25_q38463.2.1 r25_q38463.2.2.1 r25_q38463.2.2.2 (1 : Int32) (1 : Int32) ⟨by omega, by omega⟩ h_r25_q38463_3) (fun r1_q38485 h_r1_q38485 => ?_)
        obtain ⟨h_r1_q38485_0, h_r1_q38485_1, h_r1_q38485_2, h_r1_q38485_3, -⟩ := h_r1_q38485
        have t_38486 := KX12.i1 h_r1_q38485_3
        refine wq_eq (fun hc_38487 => ?_) (fun hc_38488 => ?_)
        · exact wq_s ⟨h_r1_q38485_3, trivial⟩
        · exact tt_fX12_errors_L51 hN x1 x2 x3 x4 ⟨by omega, by omega⟩ ⟨by omega, by omega⟩ ⟨by omega, by omega⟩ ⟨by omega, by omega⟩ N r1_q38485.2.1 r1_q38485.2.2.1 r1_q38485.2.2.2 (1 : Int32) ⟨by omega, by omega⟩ h_r1_q38485_3 (by omega)
set_option maxHeartbeats 4000000 in
theorem tt_fX12_climbOf_L5 {N : Nat} (hN : 3000000000 ≤ N) (I0 : Nat → Int32) (L0 : Int64) (M0 : Nat → Nat → Int32) (x1 : Int32) (x2 : Int32) (h_x1 : 0 ≤ x1.toInt ∧ x1.toInt ≤ 6) (h_x2 : -60 ≤ x2.toInt ∧ x2.toInt ≤ 21599) (k_I0 : KX12 I0 M0)  : ∀ (fu : Nat) (y5_3 : Int32) (y5_4 : Int32), (0 ≤ y5_4.toInt ∧ y5_4.toInt ≤ 11) → (11 - y5_4.toInt) < (fu : Int) → wq (fX12_climbOf_L5 N I0 L0 M0 x1 x2 fu y5_3 y5_4) (fun r => True) := by
  intro fu
  induction fu with
  | zero => intro y5_3 y5_4 h_y5_4 hm; exfalso; omega
  | succ fu ih =>
    intro y5_3 y5_4 h_y5_4 hm
    rw [fX12_climbOf_L5.eq_2]
    have l_1800 := il_1800
    have t_38632 := ia_div2 x2 (1800 : Int32) 1800 il_1800 (by decide)
    refine wq_le (fun hc_38633 => ?_) (fun hc_38634 => ?_)
    · have l_12 := il_12
      have t_38635 := ia_mul (12 : Int32) (12) il_12 x1 (by omega) (by omega)
      have t_38636 := ia_add ((12 : Int32) * x1) (x2 / (1800 : Int32)) (by omega) (by omega)
      refine wq_in (n := 84) ⟨by omega, by omega⟩ ?_
      have b_38637 := i32b y5_3
      exact wq_s trivial
    · have l_12 := il_12
      have t_38638 := ia_mul (12 : Int32) (12) il_12 x1 (by omega) (by omega)
      have t_38639 := ia_add ((12 : Int32) * x1) y5_4 (by omega) (by omega)
      refine wq_in (n := 84) ⟨by omega, by omega⟩ ?_
      have b_38641 := i32b y5_3
      refine wq_v (fun v1_q38640 h_v1_q38640 => ?_)
      have t_v1_q38640 := congrArg Int32.toInt h_v1_q38640
      have l_1 := il_1
      have t_38643 := ia_add y5_4 (1 : Int32) (by omega) (by omega)
      refine wq_v (fun v2_q38642 h_v2_q38642 => ?_)
      have t_v2_q38642 := congrArg Int32.toInt h_v2_q38642
      have b_38644 := i32b v1_q38640
      exact ih v1_q38640 v2_q38642 ⟨by omega, by omega⟩ (by omega)
set_option maxHeartbeats 4000000 in
theorem tt_fX12_climbOf {N : Nat} (hN : 3000000000 ≤ N) (I0 : Nat → Int32) (L0 : Int64) (M0 : Nat → Nat → Int32) (x1 : Int32) (x2 : Int32) (h_x1 : 0 ≤ x1.toInt ∧ x1.toInt ≤ 6) (h_x2 : -60 ≤ x2.toInt ∧ x2.toInt ≤ 21599) (k_I0 : KX12 I0 M0) : wq (fX12_climbOf N I0 L0 M0 x1 x2) (fun r => True) := by
  unfold fX12_climbOf
  have l_0 := il_0
  exact tt_fX12_climbOf_L5 hN I0 L0 M0 x1 x2 ⟨by omega, by omega⟩ ⟨by omega, by omega⟩ k_I0 N (0 : Int32) (0 : Int32) ⟨by omega, by omega⟩ (by omega)
theorem sm_nn (f : Nat → Int32) (a : Nat) (n : Nat) (h : ∀ z : Nat, z < n → 1 ≤ (f (a + z)).toInt) : ∀ m : Nat, m ≤ n → (m : Int) ≤ sm f a m ∧ sm f a m + ((n - m : Nat) : Int) ≤ sm f a n := by
  intro m hm
  constructor
  · induction m with
    | zero => simp [sm]
    | succ m ih => have := ih (by omega); have := h m (by omega); simp only [sm]; omega
  · have key : ∀ d : Nat, m + d ≤ n → sm f a m + (d : Int) ≤ sm f a (m + d) := by
      intro d
      induction d with
      | zero => intro _; simp
      | succ d ih => intro hd; have := ih (by omega); have := h (m + d) (by omega); show _ ≤ sm f a (m + d) + (f (a + (m + d))).toInt; omega
    have := key (n - m) (by omega)
    have e : m + (n - m) = n := by omega
    rw [e] at this
    exact this
theorem tt_fX12_placeOf_L5 {N : Nat} (I0 : Nat → Int32) (L0 : Int64) (M0 : Nat → Nat → Int32) (x1 x2 : Int32) (c : Nat) (hc : c ≤ 6) (hx : x1 = nI c) (hv : RV (M0 4) c) : ∀ (fu : Nat) (s : Nat) (left : Int32), s ≤ 11 → left.toInt + 1800 * sm (M0 4) (12 * c) s < 6480000 → 12 - s < fu → wq (fX12_placeOf_L5 N I0 L0 M0 x1 x2 fu left (nI s)) (fun r => True) := by
  intro fu
  induction fu with
  | zero => intro s left h1 h2 h3; omega
  | succ fu ih =>
    intro s left h1 h2 h3
    subst hx
    have e12 : (12 : Int32) * nI c + nI s = nI (12 * c + s) := by rw [show (12 : Int32) = nI 12 from rfl, pk_mul, nI_add]
    have hr := hv.1 s (by omega)
    have l18 : (1800 : Int32).toInt = 1800 := by decide
    rw [fX12_placeOf_L5.eq_2, e12]
    have hin : ¬ (nI (12 * c + s) < 0 ∨ 84 ≤ (nI (12 * c + s)).toNatClampNeg) := wp_in (by omega) (by decide)
    rw [if_neg hin, nI_clamp (by omega)]
    rw [nI_clamp (by omega)] at hin
    have tm := ia_mul (1800 : Int32) 1800 l18 (M0 4 (12 * c + s)) (by omega) (by omega)
    refine wq_lt (fun hq => ?_) (fun hq => ?_)
    · rw [if_neg hin]
      exact wq_nz (by omega) (wq_s trivial)
    · rw [if_neg hin]
      have hs := sm_nn (M0 4) (12 * c) 12 (fun z hz => (hv.1 z hz).1)
      have ts := ia_sub left ((1800 : Int32) * M0 4 (12 * c + s)) (by omega) (by have := Int32.toInt_lt left; omega)
      refine wq_v (fun v ev => ?_)
      have tv := congrArg Int32.toInt ev
      refine wq_v (fun w ew => ?_)
      rw [ew, nI_1]
      have es : sm (M0 4) (12 * c) (s + 1) = sm (M0 4) (12 * c) s + (M0 4 (12 * c + s)).toInt := rfl
      have hsum := hv.2
      refine ih (s + 1) v ?_ (by omega) (by omega)
      rcases Nat.lt_or_ge s 11 with q | q
      · omega
      · exfalso
        have e11 : s = 11 := by omega
        subst e11
        have e2 : sm (M0 4) (12 * c) 12 = sm (M0 4) (12 * c) 11 + (M0 4 (12 * c + 11)).toInt := rfl
        omega
theorem tt_fX12_placeOf {N : Nat} (hN : 3000000000 ≤ N) (I0 : Nat → Int32) (L0 : Int64) (M0 : Nat → Nat → Int32) (x1 : Int32) (x2 : Int32) (h_x1 : 0 ≤ x1.toInt ∧ x1.toInt ≤ 6) (k_I0 : KX12 I0 M0) (hr_2 : x1.toInt < (I0 1).toInt) (hr_3 : x2.toInt < 6480000) : wq (fX12_placeOf N I0 L0 M0 x1 x2) (fun r => True) := by
  unfold fX12_placeOf
  have h0 : 0 ≤ x1.toInt := h_x1.1
  have ex : x1 = nI x1.toInt.toNat := by
    apply Int32.toInt_inj.mp
    rw [nI_toInt (by omega)]
    omega
  have hv := k_I0.er1 x1.toInt.toNat (by omega)
  exact tt_fX12_placeOf_L5 I0 L0 M0 x1 x2 x1.toInt.toNat (by omega) ex hv N 0 x2 (by omega) (by simp only [sm]; omega) (by omega)
set_option maxHeartbeats 4000000 in
theorem tt_fX12_isClimate {N : Nat} (hN : 3000000000 ≤ N) (I0 : Nat → Int32) (L0 : Int64) (M0 : Nat → Nat → Int32) (x1 : Int32) (x2 : Int32) (k_I0 : KX12 I0 M0) : wq (fX12_isClimate N I0 L0 M0 x1 x2) (fun r => (r.1.toInt = 0 ∨ (r.1.toInt = 1 ∧ 0 ≤ x1.toInt ∧ x1.toInt ≤ 6 ∧ x1.toInt < (r.2.1 1).toInt ∧ 0 ≤ x2.toInt ∧ x2.toInt ≤ 21599)) ∧ (r.2.1 1).toInt = (I0 1).toInt ∧ (0 ≤ r.1.toInt ∧ r.1.toInt ≤ 1) ∧ KX12 r.2.1 r.2.2.2 ∧ True) := by
  unfold fX12_isClimate
  have b_38759 := i32b x1
  have l_0 := il_0
  refine wq_lt (fun hc_38760 => ?_) (fun hc_38761 => ?_)
  · have l_1 := il_1
    refine wq_b (tt_fX12_right hN I0 L0 M0 (0 : Int32) (1 : Int32) ⟨by omega, by omega⟩ k_I0) (fun r1_q38762 h_r1_q38762 => ?_)
    obtain ⟨h_r1_q38762_0, h_r1_q38762_1, h_r1_q38762_2, h_r1_q38762_3, -⟩ := h_r1_q38762
    have t_38763 := KX12.i1 h_r1_q38762_3
    have t_38764 := KX12.i1 k_I0
    refine wq_bz (by omega) ?_
    have b_38765 := i32b x2
    exact wq_s ⟨(show (r1_q38762.1.toInt = 0 ∨ (r1_q38762.1.toInt = 1 ∧ 0 ≤ x1.toInt ∧ x1.toInt ≤ 6 ∧ x1.toInt < (r1_q38762.2.1 1).toInt ∧ 0 ≤ x2.toInt ∧ x2.toInt ≤ 21599)) from by omega), (show (r1_q38762.2.1 1).toInt = (I0 1).toInt from by omega), (show 0 ≤ r1_q38762.1.toInt ∧ r1_q38762.1.toInt ≤ 1 from ⟨by omega, by omega⟩), h_r1_q38762_3, trivial⟩
  · have t_38766 := KX12.i1 k_I0
    refine wq_le (fun hc_38767 => ?_) (fun hc_38768 => ?_)
    · have l_1 := il_1
      refine wq_b (tt_fX12_right hN I0 L0 M0 (0 : Int32) (1 : Int32) ⟨by omega, by omega⟩ k_I0) (fun r2_q38769 h_r2_q38769 => ?_)
      obtain ⟨h_r2_q38769_0, h_r2_q38769_1, h_r2_q38769_2, h_r2_q38769_3, -⟩ := h_r2_q38769
      have t_38770 := KX12.i1 h_r2_q38769_3
      refine wq_bz (by omega) ?_
      have b_38771 := i32b x2
      exact wq_s ⟨(show (r2_q38769.1.toInt = 0 ∨ (r2_q38769.1.toInt = 1 ∧ 0 ≤ x1.toInt ∧ x1.toInt ≤ 6 ∧ x1.toInt < (r2_q38769.2.1 1).toInt ∧ 0 ≤ x2.toInt ∧ x2.toInt ≤ 21599)) from by omega), (show (r2_q38769.2.1 1).toInt = (I0 1).toInt from by omega), (show 0 ≤ r2_q38769.1.toInt ∧ r2_q38769.1.toInt ≤ 1 from ⟨by omega, by omega⟩), h_r2_q38769_3, trivial⟩
    · have b_38772 := i32b x2
      have l_21599 := il_21599
      refine wq_b (tt_fX12_within hN x2 (0 : Int32) (21599 : Int32)) (fun r3_q38773 h_r3_q38773 => ?_)
      obtain ⟨h_r3_q38773_0, h_r3_q38773_1, -⟩ := h_r3_q38773
      refine wq_eq (fun hc_38774 => ?_) (fun hc_38775 => ?_)
      · have l_1 := il_1
        refine wq_b (tt_fX12_right hN I0 L0 M0 (0 : Int32) (1 : Int32) ⟨by omega, by omega⟩ k_I0) (fun r4_q38776 h_r4_q38776 => ?_)
        obtain ⟨h_r4_q38776_0, h_r4_q38776_1, h_r4_q38776_2, h_r4_q38776_3, -⟩ := h_r4_q38776
        have t_38777 := KX12.i1 h_r4_q38776_3
        refine wq_bz (by omega) ?_
        exact wq_s ⟨(show (r4_q38776.1.toInt = 0 ∨ (r4_q38776.1.toInt = 1 ∧ 0 ≤ x1.toInt ∧ x1.toInt ≤ 6 ∧ x1.toInt < (r4_q38776.2.1 1).toInt ∧ 0 ≤ x2.toInt ∧ x2.toInt ≤ 21599)) from by omega), (show (r4_q38776.2.1 1).toInt = (I0 1).toInt from by omega), (show 0 ≤ r4_q38776.1.toInt ∧ r4_q38776.1.toInt ≤ 1 from ⟨by omega, by omega⟩), h_r4_q38776_3, trivial⟩
      · have l_1 := il_1
        refine wq_b (tt_fX12_right hN I0 L0 M0 (1 : Int32) (1 : Int32) ⟨by omega, by omega⟩ k_I0) (fun r5_q38778 h_r5_q38778 => ?_)
        obtain ⟨h_r5_q38778_0, h_r5_q38778_1, h_r5_q38778_2, h_r5_q38778_3, -⟩ := h_r5_q38778
        have t_38779 := KX12.i1 h_r5_q38778_3
        refine wq_bz (by omega) ?_
        exact wq_s ⟨(show (r5_q38778.1.toInt = 0 ∨ (r5_q38778.1.toInt = 1 ∧ 0 ≤ x1.toInt ∧ x1.toInt ≤ 6 ∧ x1.toInt < (r5_q38778.2.1 1).toInt ∧ 0 ≤ x2.toInt ∧ x2.toInt ≤ 21599)) from by omega), (show (r5_q38778.2.1 1).toInt = (I0 1).toInt from by omega), (show 0 ≤ r5_q38778.1.toInt ∧ r5_q38778.1.toInt ≤ 1 from ⟨by omega, by omega⟩), h_r5_q38778_3, trivial⟩
set_option maxHeartbeats 4000000 in
theorem tt_fX12_climb {N : Nat} (hN : 3000000000 ≤ N) (I0 : Nat → Int32) (L0 : Int64) (M0 : Nat → Nat → Int32) (x1 : Int32) (x2 : Int32) (k_I0 : KX12 I0 M0) : wq (fX12_climb N I0 L0 M0 x1 x2) (fun r => KX12 r.2.1 r.2.2.2 ∧ True) := by
  unfold fX12_climb
  refine wq_v (fun I0_1_q38846 h_I0_1_q38846 => ?_)
  have k_I0_1_q38846 : KX12 I0_1_q38846 M0 := by rw [h_I0_1_q38846]; exact KX12.si0 k_I0
  have b_38847 := i32b x1
  have b_38848 := i32b x2
  refine wq_b (tt_fX12_isClimate hN I0_1_q38846 L0 M0 x1 x2 k_I0_1_q38846) (fun r2_q38849 h_r2_q38849 => ?_)
  obtain ⟨h_r2_q38849_0, h_r2_q38849_1, h_r2_q38849_2, h_r2_q38849_3, -⟩ := h_r2_q38849
  have t_38850 := KX12.i1 h_r2_q38849_3
  have t_38851 := KX12.i1 k_I0
  have t_38852 : (I0_1_q38846 1).toInt = (I0 1).toInt := by rw [h_I0_1_q38846]; rfl
  have l_0 := il_0
  refine wq_eq (fun hc_38853 => ?_) (fun hc_38854 => ?_)
  · exact wq_s ⟨h_r2_q38849_3, trivial⟩
  · refine wq_b (tt_fX12_climbOf hN r2_q38849.2.1 r2_q38849.2.2.1 r2_q38849.2.2.2 x1 x2 ⟨by omega, by omega⟩ ⟨by omega, by omega⟩ h_r2_q38849_3) (fun r3_q38855 h_r3_q38855 => ?_)
    obtain ⟨-⟩ := h_r3_q38855
    have b_38856 := i32b r3_q38855
    exact wq_s ⟨h_r2_q38849_3, trivial⟩

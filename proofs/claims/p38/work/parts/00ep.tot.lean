set_option maxHeartbeats 4000000 in
theorem tt_fX12_errors_L187 {N : Nat} (hN : 3000000000 ≤ N) (x1 : Int32) (x2 : Int32) (x3 : Int32) (x4 : Int32) (r4 : Int32) (v7 : Int32) (y145_8 : Int32) (y90_6 : Int32) (g51 : (Nat → Int32) → Int64 → (Nat → Nat → Int32) → Int32 → Option (Int32 × (Nat → Int32) × Int64 × (Nat → Nat → Int32))) (g90 : (Nat → Int32) → Int64 → (Nat → Nat → Int32) → Int32 → Int32 → Option (Int32 × (Nat → Int32) × Int64 × (Nat → Nat → Int32))) (g145 : (Nat → Int32) → Int64 → (Nat → Nat → Int32) → Int32 → Int32 → Option (Int32 × (Nat → Int32) × Int64 × (Nat → Nat → Int32))) (h_x1 : 0 ≤ x1.toInt ∧ x1.toInt ≤ 5) (h_x2 : 0 ≤ x2.toInt ∧ x2.toInt ≤ 19) (h_x3 : 0 ≤ x3.toInt ∧ x3.toInt ≤ 1000000) (h_x4 : 0 ≤ x4.toInt ∧ x4.toInt ≤ 10) (h_r4 : 0 ≤ r4.toInt ∧ r4.toInt ≤ 359) (h_y90_6 : 0 ≤ y90_6.toInt ∧ y90_6.toInt ≤ 6) (hg90 : ∀ (q0 : (Nat → Int32)) (q1 : Int64) (q2 : (Nat → Nat → Int32)) (q3 : Int32) (q4 : Int32), (0 ≤ q4.toInt ∧ q4.toInt ≤ 7) → (KX12 q0 q2) → (y90_6.toInt < q4.toInt) → wq (g90 q0 q1 q2 q3 q4) (fun r => KX12 r.2.1 r.2.2.2 ∧ True)) : ∀ (fu : Nat) (I0_l187 : (Nat → Int32)) (L0_l187 : Int64) (M0_l187 : (Nat → Nat → Int32)) (y187_9 : Int32), (1 ≤ y187_9.toInt ∧ y187_9.toInt ≤ 4) → (KX12 I0_l187 M0_l187) → ER N I0_l187 L0_l187 M0_l187 y90_6 x3 r4 (4 : Int32) y145_8 → (4 - y187_9.toInt) < (fu : Int) → wq (fX12_errors_L187 N x1 x2 x3 x4 r4 v7 y145_8 y90_6 g51 g90 g145 fu I0_l187 L0_l187 M0_l187 y187_9) (fun r => KX12 r.2.1 r.2.2.2 ∧ True) := by
  intro fu
  induction fu with
  | zero => intro I0_l187 L0_l187 M0_l187 y187_9 h_y187_9 k_I0_l187 hE hm; exfalso; omega
  | succ fu ih =>
    intro I0_l187 L0_l187 M0_l187 y187_9 h_y187_9 k_I0_l187 hE hm
    rw [fX12_errors_L187.eq_2]
    have l_4 := il_4
    refine wq_le (fun hc_38583 => ?_) (fun hc_38584 => ?_)
    · have l_1 := il_1
      have t_38586 := ia_add y90_6 (1 : Int32) (by omega) (by omega)
      refine wq_v (fun v11_q38585 h_v11_q38585 => ?_)
      have t_v11_q38585 := congrArg Int32.toInt h_v11_q38585
      have b_38587 := i32b v7
      exact hg90 I0_l187 L0_l187 M0_l187 v7 v11_q38585 ⟨by omega, by omega⟩ k_I0_l187 (by omega)
    · refine wq_be (tt_fX12_placeOn hN I0_l187 L0_l187 M0_l187 y187_9 y90_6 x3 ⟨by omega, by omega⟩ ⟨by omega, by omega⟩ k_I0_l187) (fun r12_q38588 hpl h_r12_q38588 => ?_)
      obtain ⟨-⟩ := h_r12_q38588
      have b_38589 := i32b r12_q38588
      have l_60 := il_60
      have t_38590 := i32b r12_q38588
      have t_38591 := ia_div2 r12_q38588 (60 : Int32) 60 il_60 (by decide)
      refine wq_eq (fun hc_38592 => ?_) (fun hc_38593 => ?_)
      · refine wq_in (n := 4) ⟨by omega, by omega⟩ ?_
        refine wq_in (n := 4) ⟨by omega, by omega⟩ ?_
        refine wq_v (fun M0_13_q38594 h_M0_13_q38594 => ?_)
        have k_M0_13_q38594 : KX12 I0_l187 M0_13_q38594 := by rw [h_M0_13_q38594]; exact KX12.sm20 k_I0_l187
        refine wq_in (n := 4) ⟨by omega, by omega⟩ ?_
        have b_38595 := i32b y145_8
        have l_1 := il_1
        refine wq_eq (fun hc_38596 => ?_) (fun hc_38597 => ?_)
        · unfold fX12_errors_J243
          refine wq_in (n := 4) ⟨by omega, by omega⟩ ?_
          refine wq_v (fun M0_8_q38598 h_M0_8_q38598 => ?_)
          have k_M0_8_q38598 : KX12 I0_l187 M0_8_q38598 := by rw [h_M0_8_q38598]; exact KX12.sm21 k_M0_13_q38594
          refine wq_in (n := 4) ⟨by omega, by omega⟩ ?_
          refine wq_nz (by have hb := hE.2.2 _ _ (by omega) (by omega) hpl hc_38592; omega) ?_
          refine wq_in (n := 4) ⟨by omega, by omega⟩ ?_
          refine wq_v (fun M0_9_q38599 h_M0_9_q38599 => ?_)
          have k_M0_9_q38599 : KX12 I0_l187 M0_9_q38599 := by rw [h_M0_9_q38599]; exact KX12.sm22 k_M0_8_q38598
          have t_38601 := ia_add y187_9 (1 : Int32) (by omega) (by omega)
          refine wq_v (fun v10_q38600 h_v10_q38600 => ?_)
          have t_v10_q38600 := congrArg Int32.toInt h_v10_q38600
          exact ih I0_l187 L0_l187 M0_9_q38599 v10_q38600 ⟨by omega, by omega⟩ k_M0_9_q38599 (by rw [h_M0_9_q38599, h_M0_8_q38598, h_M0_13_q38594]; exact ER_um (by decide) (ER_um (by decide) (ER_um (by decide) hE))) (by omega)
        · unfold fX12_errors_J243
          refine wq_in (n := 4) ⟨by omega, by omega⟩ ?_
          refine wq_v (fun M0_8_q38602 h_M0_8_q38602 => ?_)
          have k_M0_8_q38602 : KX12 I0_l187 M0_8_q38602 := by rw [h_M0_8_q38602]; exact KX12.sm21 k_M0_13_q38594
          refine wq_in (n := 4) ⟨by omega, by omega⟩ ?_
          refine wq_nz (by have hb := hE.2.2 _ _ (by omega) (by omega) hpl hc_38592; omega) ?_
          refine wq_in (n := 4) ⟨by omega, by omega⟩ ?_
          refine wq_v (fun M0_9_q38603 h_M0_9_q38603 => ?_)
          have k_M0_9_q38603 : KX12 I0_l187 M0_9_q38603 := by rw [h_M0_9_q38603]; exact KX12.sm22 k_M0_8_q38602
          have t_38605 := ia_add y187_9 (1 : Int32) (by omega) (by omega)
          refine wq_v (fun v10_q38604 h_v10_q38604 => ?_)
          have t_v10_q38604 := congrArg Int32.toInt h_v10_q38604
          exact ih I0_l187 L0_l187 M0_9_q38603 v10_q38604 ⟨by omega, by omega⟩ k_M0_9_q38603 (by rw [h_M0_9_q38603, h_M0_8_q38602, h_M0_13_q38594]; exact ER_um (by decide) (ER_um (by decide) (ER_um (by decide) hE))) (by omega)
      · have l_1 := il_1
        have t_38607 := ia_add y187_9 (1 : Int32) (by omega) (by omega)
        refine wq_v (fun v14_q38606 h_v14_q38606 => ?_)
        have t_v14_q38606 := congrArg Int32.toInt h_v14_q38606
        exact ih I0_l187 L0_l187 M0_l187 v14_q38606 ⟨by omega, by omega⟩ k_I0_l187 hE (by omega)
set_option maxHeartbeats 4000000 in
theorem tt_fX12_errors_L145 {N : Nat} (hN : 3000000000 ≤ N) (x1 : Int32) (x2 : Int32) (x3 : Int32) (x4 : Int32) (r4 : Int32) (v7 : Int32) (y90_6 : Int32) (g51 : (Nat → Int32) → Int64 → (Nat → Nat → Int32) → Int32 → Option (Int32 × (Nat → Int32) × Int64 × (Nat → Nat → Int32))) (g90 : (Nat → Int32) → Int64 → (Nat → Nat → Int32) → Int32 → Int32 → Option (Int32 × (Nat → Int32) × Int64 × (Nat → Nat → Int32))) (h_x1 : 0 ≤ x1.toInt ∧ x1.toInt ≤ 5) (h_x2 : 0 ≤ x2.toInt ∧ x2.toInt ≤ 19) (h_x3 : 0 ≤ x3.toInt ∧ x3.toInt ≤ 1000000) (h_x4 : 0 ≤ x4.toInt ∧ x4.toInt ≤ 10) (h_r4 : 0 ≤ r4.toInt ∧ r4.toInt ≤ 359) (h_y90_6 : 0 ≤ y90_6.toInt ∧ y90_6.toInt ≤ 6) (hg90 : ∀ (q0 : (Nat → Int32)) (q1 : Int64) (q2 : (Nat → Nat → Int32)) (q3 : Int32) (q4 : Int32), (0 ≤ q4.toInt ∧ q4.toInt ≤ 7) → (KX12 q0 q2) → (y90_6.toInt < q4.toInt) → wq (g90 q0 q1 q2 q3 q4) (fun r => KX12 r.2.1 r.2.2.2 ∧ True)) : ∀ (fu : Nat) (I0_l145 : (Nat → Int32)) (L0_l145 : Int64) (M0_l145 : (Nat → Nat → Int32)) (y145_8 : Int32) (y145_9 : Int32), (1 ≤ y145_9.toInt ∧ y145_9.toInt ≤ 4) → (KX12 I0_l145 M0_l145) → ER N I0_l145 L0_l145 M0_l145 y90_6 x3 r4 y145_9 y145_8 → (4 - y145_9.toInt) < (fu : Int) → wq (fX12_errors_L145 N x1 x2 x3 x4 r4 v7 y90_6 g51 g90 fu I0_l145 L0_l145 M0_l145 y145_8 y145_9) (fun r => KX12 r.2.1 r.2.2.2 ∧ True) := by
  intro fu
  induction fu with
  | zero => intro I0_l145 L0_l145 M0_l145 y145_8 y145_9 h_y145_9 k_I0_l145 hE hm; exfalso; omega
  | succ fu ih =>
    intro I0_l145 L0_l145 M0_l145 y145_8 y145_9 h_y145_9 k_I0_l145 hE hm
    have hE1 := hE.1
    have hE2 := hE.2.1
    rw [fX12_errors_L145.eq_2]
    have l_4 := il_4
    refine wq_le (fun hc_38608 => ?_) (fun hc_38609 => ?_)
    · have b_38610 := i32b v7
      have b_38611 := i32b y145_8
      have l_1 := il_1
      exact tt_fX12_errors_L187 hN x1 x2 x3 x4 r4 v7 y145_8 y90_6 g51 g90 _ ⟨by omega, by omega⟩ ⟨by omega, by omega⟩ ⟨by omega, by omega⟩ ⟨by omega, by omega⟩ ⟨by omega, by omega⟩ ⟨by omega, by omega⟩ hg90 N I0_l145 L0_l145 M0_l145 (1 : Int32) ⟨by omega, by omega⟩ k_I0_l145 (ER_4 hE (by omega)) (by omega)
    · refine wq_be (tt_fX12_placeOn hN I0_l145 L0_l145 M0_l145 y145_9 y90_6 x3 ⟨by omega, by omega⟩ ⟨by omega, by omega⟩ k_I0_l145) (fun r15_q38612 hpl h_r15_q38612 => ?_)
      obtain ⟨-⟩ := h_r15_q38612
      have b_38613 := i32b r15_q38612
      have l_60 := il_60
      have t_38614 := i32b r15_q38612
      have t_38615 := ia_div2 r15_q38612 (60 : Int32) 60 il_60 (by decide)
      refine wq_eq (fun hc_38616 => ?_) (fun hc_38617 => ?_)
      · have b_38619 := i32b y145_8
        have l_1 := il_1
        refine wq_v (fun v18_q38618 h_v18_q38618 => ?_)
        have t_v18_q38618 := congrArg Int32.toInt h_v18_q38618
        have t_38621 := ia_add y145_9 (1 : Int32) (by omega) (by omega)
        refine wq_v (fun v19_q38620 h_v19_q38620 => ?_)
        have t_v19_q38620 := congrArg Int32.toInt h_v19_q38620
        have b_38622 := i32b v18_q38618
        have tby := ia_add y145_8 (1 : Int32) (by omega) (by omega)
        exact ih I0_l145 L0_l145 M0_l145 v18_q38618 v19_q38620 ⟨by omega, by omega⟩ k_I0_l145 (ER_y hE hpl hc_38616 (by omega) (by omega)) (by omega)
      · have b_38624 := i32b y145_8
        have l_0 := il_0
        have t_38625 := ia_add y145_8 (0 : Int32) (by omega) (by omega)
        refine wq_v (fun v16_q38623 h_v16_q38623 => ?_)
        have t_v16_q38623 := congrArg Int32.toInt h_v16_q38623
        have l_1 := il_1
        have t_38627 := ia_add y145_9 (1 : Int32) (by omega) (by omega)
        refine wq_v (fun v17_q38626 h_v17_q38626 => ?_)
        have t_v17_q38626 := congrArg Int32.toInt h_v17_q38626
        have b_38628 := i32b v16_q38623
        exact ih I0_l145 L0_l145 M0_l145 v16_q38623 v17_q38626 ⟨by omega, by omega⟩ k_I0_l145 (ER_n hE hpl hc_38617 (by omega) (by omega)) (by omega)
set_option maxHeartbeats 4000000 in
theorem tt_fX12_errors_L90 {N : Nat} (hN : 3000000000 ≤ N) (x1 : Int32) (x2 : Int32) (x3 : Int32) (x4 : Int32) (g51 : (Nat → Int32) → Int64 → (Nat → Nat → Int32) → Int32 → Option (Int32 × (Nat → Int32) × Int64 × (Nat → Nat → Int32))) (h_x1 : 0 ≤ x1.toInt ∧ x1.toInt ≤ 5) (h_x2 : 0 ≤ x2.toInt ∧ x2.toInt ≤ 19) (h_x3 : 0 ≤ x3.toInt ∧ x3.toInt ≤ 1000000) (h_x4 : 0 ≤ x4.toInt ∧ x4.toInt ≤ 10)  : ∀ (fu : Nat) (I0_l90 : (Nat → Int32)) (L0_l90 : Int64) (M0_l90 : (Nat → Nat → Int32)) (y90_5 : Int32) (y90_6 : Int32), (0 ≤ y90_6.toInt ∧ y90_6.toInt ≤ 7) → (KX12 I0_l90 M0_l90) → (7 - y90_6.toInt) < (fu : Int) → wq (fX12_errors_L90 N x1 x2 x3 x4 g51 fu I0_l90 L0_l90 M0_l90 y90_5 y90_6) (fun r => KX12 r.2.1 r.2.2.2 ∧ True) := by
  intro fu
  induction fu with
  | zero => intro I0_l90 L0_l90 M0_l90 y90_5 y90_6 h_y90_6 k_I0_l90 hm; exfalso; omega
  | succ fu ih =>
    intro I0_l90 L0_l90 M0_l90 y90_5 y90_6 h_y90_6 k_I0_l90 hm
    rw [fX12_errors_L90.eq_2]
    have l_7 := il_7
    refine wq_le (fun hc_38629 => ?_) (fun hc_38630 => ?_)
    · have l_0 := il_0
      refine wq_eq (fun hc_38631 => ?_) (fun hc_38632 => ?_)
      · have b_38633 := i32b y90_5
        exact wq_s ⟨k_I0_l90, trivial⟩
      · have l_1 := il_1
        refine wq_le (fun hc_38634 => ?_) (fun hc_38635 => ?_)
        · have l_2 := il_2
          exact tt_fX12_errors_L340 hN x1 x2 x3 x4 g51 _ ⟨by omega, by omega⟩ ⟨by omega, by omega⟩ ⟨by omega, by omega⟩ ⟨by omega, by omega⟩ N I0_l90 L0_l90 M0_l90 (1 : Int32) (2 : Int32) ⟨by omega, by omega⟩ ⟨by omega, by omega⟩ k_I0_l90 (by omega)
        · have l_5 := il_5
          refine wq_le (fun hc_38636 => ?_) (fun hc_38637 => ?_)
          · have l_8 := il_8
            refine wq_le (fun hc_38638 => ?_) (fun hc_38639 => ?_)
            · have t_38640 := ia_sub x4 (7 : Int32) (by omega) (by omega)
              refine wq_in (n := 4) ⟨by omega, by omega⟩ ?_
              exact wq_s ⟨k_I0_l90, trivial⟩
            · have l_4 := il_4
              have t_38641 := ia_sub x4 (4 : Int32) (by omega) (by omega)
              refine wq_in (n := 4) ⟨by omega, by omega⟩ ?_
              exact wq_s ⟨k_I0_l90, trivial⟩
          · have t_38642 := ia_sub x4 (1 : Int32) (by omega) (by omega)
            refine wq_in (n := 4) ⟨by omega, by omega⟩ ?_
            exact wq_s ⟨k_I0_l90, trivial⟩
    · have l_20 := il_20
      have t_38643 := ia_mul (20 : Int32) (20) il_20 x1 (by omega) (by omega)
      have t_38644 := ia_add ((20 : Int32) * x1) x2 (by omega) (by omega)
      refine wq_b (tt_fX12_at hN I0_l90 L0_l90 M0_l90 (((20 : Int32) * x1) + x2) y90_6 ⟨by omega, by omega⟩ ⟨by omega, by omega⟩ k_I0_l90) (fun r4_q38645 h_r4_q38645 => ?_)
      obtain ⟨h_r4_q38645_0, h_r4_q38645_1, h_r4_q38645_2, -⟩ := h_r4_q38645
      have l_m1 := il_m1
      refine wq_eq (fun hc_38646 => ?_) (fun hc_38647 => ?_)
      · have l_1 := il_1
        have t_38649 := ia_add y90_6 (1 : Int32) (by omega) (by omega)
        refine wq_v (fun v5_q38648 h_v5_q38648 => ?_)
        have t_v5_q38648 := congrArg Int32.toInt h_v5_q38648
        have b_38650 := i32b y90_5
        exact ih I0_l90 L0_l90 M0_l90 y90_5 v5_q38648 ⟨by omega, by omega⟩ k_I0_l90 (by omega)
      · have l_0 := il_0
        refine wq_b (tt_fX12_placeOn hN I0_l90 L0_l90 M0_l90 (0 : Int32) y90_6 x3 ⟨by omega, by omega⟩ ⟨by omega, by omega⟩ k_I0_l90) (fun r6_q38651 h_r6_q38651 => ?_)
        obtain ⟨-⟩ := h_r6_q38651
        have b_38652 := i32b r6_q38651
        have l_60 := il_60
        have t_38653 := i32b r6_q38651
        have t_38654 := ia_div2 r6_q38651 (60 : Int32) 60 il_60 (by decide)
        refine wq_eq (fun hc_38655 => ?_) (fun hc_38656 => ?_)
        · have l_1 := il_1
          have t_38658 := ia_add y90_6 (1 : Int32) (by omega) (by omega)
          refine wq_v (fun v20_q38657 h_v20_q38657 => ?_)
          have t_v20_q38657 := congrArg Int32.toInt h_v20_q38657
          have b_38659 := i32b y90_5
          exact ih I0_l90 L0_l90 M0_l90 y90_5 v20_q38657 ⟨by omega, by omega⟩ k_I0_l90 (by omega)
        · have b_38661 := i32b y90_5
          have l_1 := il_1
          refine wq_v (fun v7_q38660 h_v7_q38660 => ?_)
          have t_v7_q38660 := congrArg Int32.toInt h_v7_q38660
          have b_38662 := i32b v7_q38660
          exact tt_fX12_errors_L145 hN x1 x2 x3 x4 r4_q38645 v7_q38660 y90_6 g51 _ ⟨by omega, by omega⟩ ⟨by omega, by omega⟩ ⟨by omega, by omega⟩ ⟨by omega, by omega⟩ ⟨by omega, by omega⟩ ⟨by omega, by omega⟩ (fun q0 q1 q2 q3 q4 hq0 hq1 hq2 => ih q0 q1 q2 q3 q4 hq0 hq1 (by omega)) N I0_l90 L0_l90 M0_l90 (0 : Int32) (1 : Int32) ⟨by omega, by omega⟩ k_I0_l90 ER_0 (by omega)
set_option maxHeartbeats 4000000 in
theorem tt_fX12_errors_L51 {N : Nat} (hN : 3000000000 ≤ N) (x1 : Int32) (x2 : Int32) (x3 : Int32) (x4 : Int32) (h_x1 : 0 ≤ x1.toInt ∧ x1.toInt ≤ 5) (h_x2 : 0 ≤ x2.toInt ∧ x2.toInt ≤ 19) (h_x3 : 0 ≤ x3.toInt ∧ x3.toInt ≤ 1000000) (h_x4 : 0 ≤ x4.toInt ∧ x4.toInt ≤ 10)  : ∀ (fu : Nat) (I0_l51 : (Nat → Int32)) (L0_l51 : Int64) (M0_l51 : (Nat → Nat → Int32)) (y51_6 : Int32), (1 ≤ y51_6.toInt ∧ y51_6.toInt ≤ 4) → (KX12 I0_l51 M0_l51) → (4 - y51_6.toInt) < (fu : Int) → wq (fX12_errors_L51 N x1 x2 x3 x4 fu I0_l51 L0_l51 M0_l51 y51_6) (fun r => KX12 r.2.1 r.2.2.2 ∧ True) := by
  intro fu
  induction fu with
  | zero => intro I0_l51 L0_l51 M0_l51 y51_6 h_y51_6 k_I0_l51 hm; exfalso; omega
  | succ fu ih =>
    intro I0_l51 L0_l51 M0_l51 y51_6 h_y51_6 k_I0_l51 hm
    rw [fX12_errors_L51.eq_2]
    have l_4 := il_4
    refine wq_le (fun hc_38663 => ?_) (fun hc_38664 => ?_)
    · have l_0 := il_0
      exact tt_fX12_errors_L90 hN x1 x2 x3 x4 _ ⟨by omega, by omega⟩ ⟨by omega, by omega⟩ ⟨by omega, by omega⟩ ⟨by omega, by omega⟩ N I0_l51 L0_l51 M0_l51 (0 : Int32) (0 : Int32) ⟨by omega, by omega⟩ k_I0_l51 (by omega)
    · refine wq_in (n := 4) ⟨by omega, by omega⟩ ?_
      refine wq_v (fun M0_21_q38665 h_M0_21_q38665 => ?_)
      have k_M0_21_q38665 : KX12 I0_l51 M0_21_q38665 := by rw [h_M0_21_q38665]; exact KX12.sm20 k_I0_l51
      refine wq_in (n := 4) ⟨by omega, by omega⟩ ?_
      refine wq_v (fun M0_22_q38666 h_M0_22_q38666 => ?_)
      have k_M0_22_q38666 : KX12 I0_l51 M0_22_q38666 := by rw [h_M0_22_q38666]; exact KX12.sm21 k_M0_21_q38665
      refine wq_in (n := 4) ⟨by omega, by omega⟩ ?_
      refine wq_v (fun M0_23_q38667 h_M0_23_q38667 => ?_)
      have k_M0_23_q38667 : KX12 I0_l51 M0_23_q38667 := by rw [h_M0_23_q38667]; exact KX12.sm22 k_M0_22_q38666
      have l_1 := il_1
      have t_38669 := ia_add y51_6 (1 : Int32) (by omega) (by omega)
      refine wq_v (fun v24_q38668 h_v24_q38668 => ?_)
      have t_v24_q38668 := congrArg Int32.toInt h_v24_q38668
      exact ih I0_l51 L0_l51 M0_23_q38667 v24_q38668 ⟨by omega, by omega⟩ k_M0_23_q38667 (by omega)
set_option maxHeartbeats 4000000 in
theorem tt_fX12_errors {N : Nat} (hN : 3000000000 ≤ N) (I0 : Nat → Int32) (L0 : Int64) (M0 : Nat → Nat → Int32) (x1 : Int32) (x2 : Int32) (x3 : Int32) (x4 : Int32) (k_I0 : KX12 I0 M0) : wq (fX12_errors N I0 L0 M0 x1 x2 x3 x4) (fun r => KX12 r.2.1 r.2.2.2 ∧ True) := by
  unfold fX12_errors
  have b_38670 := i32b x1
  have b_38671 := i32b x2
  refine wq_b (tt_fX12_isWheel hN I0 L0 M0 x1 x2 k_I0) (fun r25_q38672 h_r25_q38672 => ?_)
  obtain ⟨h_r25_q38672_0, h_r25_q38672_1, h_r25_q38672_2, h_r25_q38672_3, -⟩ := h_r25_q38672
  have t_38673 := KX12.i1 h_r25_q38672_3
  have t_38674 := KX12.i1 k_I0
  have l_0 := il_0
  refine wq_eq (fun hc_38675 => ?_) (fun hc_38676 => ?_)
  · exact wq_s ⟨h_r25_q38672_3, trivial⟩
  · have b_38677 := i32b x3
    have l_1000000 := il_1000000
    refine wq_b (tt_fX12_within hN x3 (0 : Int32) (1000000 : Int32)) (fun r26_q38678 h_r26_q38678 => ?_)
    obtain ⟨h_r26_q38678_0, h_r26_q38678_1, -⟩ := h_r26_q38678
    refine wq_eq (fun hc_38679 => ?_) (fun hc_38680 => ?_)
    · unfold fX12_errors_J35
      unfold fX12_errors_J36
      have l_1 := il_1
      refine wq_b (tt_fX12_right hN r25_q38672.2.1 r25_q38672.2.2.1 r25_q38672.2.2.2 (0 : Int32) (1 : Int32) ⟨by omega, by omega⟩ h_r25_q38672_3) (fun r1_q38681 h_r1_q38681 => ?_)
      obtain ⟨h_r1_q38681_0, h_r1_q38681_1, h_r1_q38681_2, h_r1_q38681_3, -⟩ := h_r1_q38681
      have t_38682 := KX12.i1 h_r1_q38681_3
      refine wq_eq (fun hc_38683 => ?_) (fun hc_38684 => ?_)
      · exact wq_s ⟨h_r1_q38681_3, trivial⟩
      · have b_38685 := i32b x4
        exact tt_fX12_errors_L51 hN x1 x2 x3 x4 ⟨by omega, by omega⟩ ⟨by omega, by omega⟩ ⟨by omega, by omega⟩ ⟨by omega, by omega⟩ N r1_q38681.2.1 r1_q38681.2.2.1 r1_q38681.2.2.2 (1 : Int32) ⟨by omega, by omega⟩ h_r1_q38681_3 (by omega)
    · have b_38686 := i32b x4
      have l_10 := il_10
      refine wq_b (tt_fX12_within hN x4 (0 : Int32) (10 : Int32)) (fun r27_q38687 h_r27_q38687 => ?_)
      obtain ⟨h_r27_q38687_0, h_r27_q38687_1, -⟩ := h_r27_q38687
      refine wq_eq (fun hc_38688 => ?_) (fun hc_38689 => ?_)
      · unfold fX12_errors_J35
        unfold fX12_errors_J36
        have l_1 := il_1
        refine wq_b (tt_fX12_right hN r25_q38672.2.1 r25_q38672.2.2.1 r25_q38672.2.2.2 (0 : Int32) (1 : Int32) ⟨by omega, by omega⟩ h_r25_q38672_3) (fun r1_q38690 h_r1_q38690 => ?_)
        obtain ⟨h_r1_q38690_0, h_r1_q38690_1, h_r1_q38690_2, h_r1_q38690_3, -⟩ := h_r1_q38690
        have t_38691 := KX12.i1 h_r1_q38690_3
        refine wq_eq (fun hc_38692 => ?_) (fun hc_38693 => ?_)
        · exact wq_s ⟨h_r1_q38690_3, trivial⟩
        · exact tt_fX12_errors_L51 hN x1 x2 x3 x4 ⟨by omega, by omega⟩ ⟨by omega, by omega⟩ ⟨by omega, by omega⟩ ⟨by omega, by omega⟩ N r1_q38690.2.1 r1_q38690.2.2.1 r1_q38690.2.2.2 (1 : Int32) ⟨by omega, by omega⟩ h_r1_q38690_3 (by omega)
      · unfold fX12_errors_J36
        have l_1 := il_1
        refine wq_b (tt_fX12_right hN r25_q38672.2.1 r25_q38672.2.2.1 r25_q38672.2.2.2 (1 : Int32) (1 : Int32) ⟨by omega, by omega⟩ h_r25_q38672_3) (fun r1_q38694 h_r1_q38694 => ?_)
        obtain ⟨h_r1_q38694_0, h_r1_q38694_1, h_r1_q38694_2, h_r1_q38694_3, -⟩ := h_r1_q38694
        have t_38695 := KX12.i1 h_r1_q38694_3
        refine wq_eq (fun hc_38696 => ?_) (fun hc_38697 => ?_)
        · exact wq_s ⟨h_r1_q38694_3, trivial⟩
        · exact tt_fX12_errors_L51 hN x1 x2 x3 x4 ⟨by omega, by omega⟩ ⟨by omega, by omega⟩ ⟨by omega, by omega⟩ ⟨by omega, by omega⟩ N r1_q38694.2.1 r1_q38694.2.2.1 r1_q38694.2.2.2 (1 : Int32) ⟨by omega, by omega⟩ h_r1_q38694_3 (by omega)
set_option maxHeartbeats 4000000 in
theorem tt_fX12_climbOf_L5 {N : Nat} (hN : 3000000000 ≤ N) (I0 : Nat → Int32) (L0 : Int64) (M0 : Nat → Nat → Int32) (x1 : Int32) (x2 : Int32) (h_x1 : 0 ≤ x1.toInt ∧ x1.toInt ≤ 6) (h_x2 : -60 ≤ x2.toInt ∧ x2.toInt ≤ 21599) (k_I0 : KX12 I0 M0)  : ∀ (fu : Nat) (y5_3 : Int32) (y5_4 : Int32), (0 ≤ y5_4.toInt ∧ y5_4.toInt ≤ 11) → (11 - y5_4.toInt) < (fu : Int) → wq (fX12_climbOf_L5 N I0 L0 M0 x1 x2 fu y5_3 y5_4) (fun r => True) := by
  intro fu
  induction fu with
  | zero => intro y5_3 y5_4 h_y5_4 hm; exfalso; omega
  | succ fu ih =>
    intro y5_3 y5_4 h_y5_4 hm
    rw [fX12_climbOf_L5.eq_2]
    have l_1800 := il_1800
    have t_38841 := ia_div2 x2 (1800 : Int32) 1800 il_1800 (by decide)
    refine wq_le (fun hc_38842 => ?_) (fun hc_38843 => ?_)
    · have l_12 := il_12
      have t_38844 := ia_mul (12 : Int32) (12) il_12 x1 (by omega) (by omega)
      have t_38845 := ia_add ((12 : Int32) * x1) (x2 / (1800 : Int32)) (by omega) (by omega)
      refine wq_in (n := 84) ⟨by omega, by omega⟩ ?_
      have b_38846 := i32b y5_3
      exact wq_s trivial
    · have l_12 := il_12
      have t_38847 := ia_mul (12 : Int32) (12) il_12 x1 (by omega) (by omega)
      have t_38848 := ia_add ((12 : Int32) * x1) y5_4 (by omega) (by omega)
      refine wq_in (n := 84) ⟨by omega, by omega⟩ ?_
      have b_38850 := i32b y5_3
      refine wq_v (fun v1_q38849 h_v1_q38849 => ?_)
      have t_v1_q38849 := congrArg Int32.toInt h_v1_q38849
      have l_1 := il_1
      have t_38852 := ia_add y5_4 (1 : Int32) (by omega) (by omega)
      refine wq_v (fun v2_q38851 h_v2_q38851 => ?_)
      have t_v2_q38851 := congrArg Int32.toInt h_v2_q38851
      have b_38853 := i32b v1_q38849
      exact ih v1_q38849 v2_q38851 ⟨by omega, by omega⟩ (by omega)
set_option maxHeartbeats 4000000 in
theorem tt_fX12_climbOf {N : Nat} (hN : 3000000000 ≤ N) (I0 : Nat → Int32) (L0 : Int64) (M0 : Nat → Nat → Int32) (x1 : Int32) (x2 : Int32) (h_x1 : 0 ≤ x1.toInt ∧ x1.toInt ≤ 6) (h_x2 : -60 ≤ x2.toInt ∧ x2.toInt ≤ 21599) (k_I0 : KX12 I0 M0) : wq (fX12_climbOf N I0 L0 M0 x1 x2) (fun r => True) := by
  unfold fX12_climbOf
  have l_0 := il_0
  exact tt_fX12_climbOf_L5 hN I0 L0 M0 x1 x2 ⟨by omega, by omega⟩ ⟨by omega, by omega⟩ k_I0 N (0 : Int32) (0 : Int32) ⟨by omega, by omega⟩ (by omega)
theorem sm_nn (f : Nat → Int32) (a : Nat) (n : Nat) (h : ∀ z : Nat, z < n → 1 ≤ (f (a + z)).toInt) : ∀ m : Nat, m ≤ n → (m : Int) ≤ sm f a m ∧ sm f a m + ((n - m : Nat) : Int) ≤ sm f a n := by
  intro m hm
  constructor
  · induction m with
    | zero => simp [sm]
    | succ m ih => have := ih (by omega); have := h m (by omega); simp only [sm]; omega
  · have key : ∀ d : Nat, m + d ≤ n → sm f a m + (d : Int) ≤ sm f a (m + d) := by
      intro d
      induction d with
      | zero => intro _; simp
      | succ d ih => intro hd; have := ih (by omega); have := h (m + d) (by omega); show _ ≤ sm f a (m + d) + (f (a + (m + d))).toInt; omega
    have := key (n - m) (by omega)
    have e : m + (n - m) = n := by omega
    rw [e] at this
    exact this
theorem tt_fX12_placeOf_L5 {N : Nat} (I0 : Nat → Int32) (L0 : Int64) (M0 : Nat → Nat → Int32) (x1 x2 : Int32) (c : Nat) (hc : c ≤ 6) (hx : x1 = nI c) (hv : RV (M0 4) c) : ∀ (fu : Nat) (s : Nat) (left : Int32), s ≤ 11 → left.toInt + 1800 * sm (M0 4) (12 * c) s < 6480000 → 12 - s < fu → wq (fX12_placeOf_L5 N I0 L0 M0 x1 x2 fu left (nI s)) (fun r => True) := by
  intro fu
  induction fu with
  | zero => intro s left h1 h2 h3; omega
  | succ fu ih =>
    intro s left h1 h2 h3
    subst hx
    have e12 : (12 : Int32) * nI c + nI s = nI (12 * c + s) := by rw [show (12 : Int32) = nI 12 from rfl, pk_mul, nI_add]
    have hr := hv.1 s (by omega)
    have l18 : (1800 : Int32).toInt = 1800 := by decide
    rw [fX12_placeOf_L5.eq_2, e12]
    have hin : ¬ (nI (12 * c + s) < 0 ∨ 84 ≤ (nI (12 * c + s)).toNatClampNeg) := wp_in (by omega) (by decide)
    rw [if_neg hin, nI_clamp (by omega)]
    rw [nI_clamp (by omega)] at hin
    have tm := ia_mul (1800 : Int32) 1800 l18 (M0 4 (12 * c + s)) (by omega) (by omega)
    refine wq_lt (fun hq => ?_) (fun hq => ?_)
    · rw [if_neg hin]
      exact wq_nz (by omega) (wq_s trivial)
    · rw [if_neg hin]
      have hs := sm_nn (M0 4) (12 * c) 12 (fun z hz => (hv.1 z hz).1)
      have ts := ia_sub left ((1800 : Int32) * M0 4 (12 * c + s)) (by omega) (by have := Int32.toInt_lt left; omega)
      refine wq_v (fun v ev => ?_)
      have tv := congrArg Int32.toInt ev
      refine wq_v (fun w ew => ?_)
      rw [ew, nI_1]
      have es : sm (M0 4) (12 * c) (s + 1) = sm (M0 4) (12 * c) s + (M0 4 (12 * c + s)).toInt := rfl
      have hsum := hv.2
      refine ih (s + 1) v ?_ (by omega) (by omega)
      rcases Nat.lt_or_ge s 11 with q | q
      · omega
      · exfalso
        have e11 : s = 11 := by omega
        subst e11
        have e2 : sm (M0 4) (12 * c) 12 = sm (M0 4) (12 * c) 11 + (M0 4 (12 * c + 11)).toInt := rfl
        omega
theorem tt_fX12_placeOf {N : Nat} (hN : 3000000000 ≤ N) (I0 : Nat → Int32) (L0 : Int64) (M0 : Nat → Nat → Int32) (x1 : Int32) (x2 : Int32) (h_x1 : 0 ≤ x1.toInt ∧ x1.toInt ≤ 6) (k_I0 : KX12 I0 M0) (hr_2 : x1.toInt < (I0 1).toInt) (hr_3 : x2.toInt < 6480000) : wq (fX12_placeOf N I0 L0 M0 x1 x2) (fun r => True) := by
  unfold fX12_placeOf
  have h0 : 0 ≤ x1.toInt := h_x1.1
  have ex : x1 = nI x1.toInt.toNat := by
    apply Int32.toInt_inj.mp
    rw [nI_toInt (by omega)]
    omega
  have hv := k_I0.er1 x1.toInt.toNat (by omega)
  exact tt_fX12_placeOf_L5 I0 L0 M0 x1 x2 x1.toInt.toNat (by omega) ex hv N 0 x2 (by omega) (by simp only [sm]; omega) (by omega)
set_option maxHeartbeats 4000000 in
theorem tt_fX12_isClimate {N : Nat} (hN : 3000000000 ≤ N) (I0 : Nat → Int32) (L0 : Int64) (M0 : Nat → Nat → Int32) (x1 : Int32) (x2 : Int32) (k_I0 : KX12 I0 M0) : wq (fX12_isClimate N I0 L0 M0 x1 x2) (fun r => (r.1.toInt = 0 ∨ (r.1.toInt = 1 ∧ 0 ≤ x1.toInt ∧ x1.toInt ≤ 6 ∧ x1.toInt < (r.2.1 1).toInt ∧ 0 ≤ x2.toInt ∧ x2.toInt ≤ 21599)) ∧ (r.2.1 1).toInt = (I0 1).toInt ∧ (0 ≤ r.1.toInt ∧ r.1.toInt ≤ 1) ∧ KX12 r.2.1 r.2.2.2 ∧ True) := by
  unfold fX12_isClimate
  have b_38968 := i32b x1
  have l_0 := il_0
  refine wq_lt (fun hc_38969 => ?_) (fun hc_38970 => ?_)
  · have l_1 := il_1
    refine wq_b (tt_fX12_right hN I0 L0 M0 (0 : Int32) (1 : Int32) ⟨by omega, by omega⟩ k_I0) (fun r1_q38971 h_r1_q38971 => ?_)
    obtain ⟨h_r1_q38971_0, h_r1_q38971_1, h_r1_q38971_2, h_r1_q38971_3, -⟩ := h_r1_q38971
    have t_38972 := KX12.i1 h_r1_q38971_3
    have t_38973 := KX12.i1 k_I0
    refine wq_bz (by omega) ?_
    have b_38974 := i32b x2
    exact wq_s ⟨(show (r1_q38971.1.toInt = 0 ∨ (r1_q38971.1.toInt = 1 ∧ 0 ≤ x1.toInt ∧ x1.toInt ≤ 6 ∧ x1.toInt < (r1_q38971.2.1 1).toInt ∧ 0 ≤ x2.toInt ∧ x2.toInt ≤ 21599)) from by omega), (show (r1_q38971.2.1 1).toInt = (I0 1).toInt from by omega), (show 0 ≤ r1_q38971.1.toInt ∧ r1_q38971.1.toInt ≤ 1 from ⟨by omega, by omega⟩), h_r1_q38971_3, trivial⟩
  · have t_38975 := KX12.i1 k_I0
    refine wq_le (fun hc_38976 => ?_) (fun hc_38977 => ?_)
    · have l_1 := il_1
      refine wq_b (tt_fX12_right hN I0 L0 M0 (0 : Int32) (1 : Int32) ⟨by omega, by omega⟩ k_I0) (fun r2_q38978 h_r2_q38978 => ?_)
      obtain ⟨h_r2_q38978_0, h_r2_q38978_1, h_r2_q38978_2, h_r2_q38978_3, -⟩ := h_r2_q38978
      have t_38979 := KX12.i1 h_r2_q38978_3
      refine wq_bz (by omega) ?_
      have b_38980 := i32b x2
      exact wq_s ⟨(show (r2_q38978.1.toInt = 0 ∨ (r2_q38978.1.toInt = 1 ∧ 0 ≤ x1.toInt ∧ x1.toInt ≤ 6 ∧ x1.toInt < (r2_q38978.2.1 1).toInt ∧ 0 ≤ x2.toInt ∧ x2.toInt ≤ 21599)) from by omega), (show (r2_q38978.2.1 1).toInt = (I0 1).toInt from by omega), (show 0 ≤ r2_q38978.1.toInt ∧ r2_q38978.1.toInt ≤ 1 from ⟨by omega, by omega⟩), h_r2_q38978_3, trivial⟩
    · have b_38981 := i32b x2
      have l_21599 := il_21599
      refine wq_b (tt_fX12_within hN x2 (0 : Int32) (21599 : Int32)) (fun r3_q38982 h_r3_q38982 => ?_)
      obtain ⟨h_r3_q38982_0, h_r3_q38982_1, -⟩ := h_r3_q38982
      refine wq_eq (fun hc_38983 => ?_) (fun hc_38984 => ?_)
      · have l_1 := il_1
        refine wq_b (tt_fX12_right hN I0 L0 M0 (0 : Int32) (1 : Int32) ⟨by omega, by omega⟩ k_I0) (fun r4_q38985 h_r4_q38985 => ?_)
        obtain ⟨h_r4_q38985_0, h_r4_q38985_1, h_r4_q38985_2, h_r4_q38985_3, -⟩ := h_r4_q38985
        have t_38986 := KX12.i1 h_r4_q38985_3
        refine wq_bz (by omega) ?_
        exact wq_s ⟨(show (r4_q38985.1.toInt = 0 ∨ (r4_q38985.1.toInt = 1 ∧ 0 ≤ x1.toInt ∧ x1.toInt ≤ 6 ∧ x1.toInt < (r4_q38985.2.1 1).toInt ∧ 0 ≤ x2.toInt ∧ x2.toInt ≤ 21599)) from by omega), (show (r4_q38985.2.1 1).toInt = (I0 1).toInt from by omega), (show 0 ≤ r4_q38985.1.toInt ∧ r4_q38985.1.toInt ≤ 1 from ⟨by omega, by omega⟩), h_r4_q38985_3, trivial⟩
      · have l_1 := il_1
        refine wq_b (tt_fX12_right hN I0 L0 M0 (1 : Int32) (1 : Int32) ⟨by omega, by omega⟩ k_I0) (fun r5_q38987 h_r5_q38987 => ?_)
        obtain ⟨h_r5_q38987_0, h_r5_q38987_1, h_r5_q38987_2, h_r5_q38987_3, -⟩ := h_r5_q38987
        have t_38988 := KX12.i1 h_r5_q38987_3
        refine wq_bz (by omega) ?_
        exact wq_s ⟨(show (r5_q38987.1.toInt = 0 ∨ (r5_q38987.1.toInt = 1 ∧ 0 ≤ x1.toInt ∧ x1.toInt ≤ 6 ∧ x1.toInt < (r5_q38987.2.1 1).toInt ∧ 0 ≤ x2.toInt ∧ x2.toInt ≤ 21599)) from by omega), (show (r5_q38987.2.1 1).toInt = (I0 1).toInt from by omega), (show 0 ≤ r5_q38987.1.toInt ∧ r5_q38987.1.toInt ≤ 1 from ⟨by omega, by omega⟩), h_r5_q38987_3, trivial⟩
set_option maxHeartbeats 4000000 in
theorem tt_fX12_climb {N : Nat} (hN : 3000000000 ≤ N) (I0 : Nat → Int32) (L0 : Int64) (M0 : Nat → Nat → Int32) (x1 : Int32) (x2 : Int32) (k_I0 : KX12 I0 M0) : wq (fX12_climb N I0 L0 M0 x1 x2) (fun r => KX12 r.2.1 r.2.2.2 ∧ True) := by
  unfold fX12_climb
  refine wq_v (fun I0_1_q39055 h_I0_1_q39055 => ?_)
  have k_I0_1_q39055 : KX12 I0_1_q39055 M0 := by rw [h_I0_1_q39055]; exact KX12.si0 k_I0
  have b_39056 := i32b x1
  have b_39057 := i32b x2
  refine wq_b (tt_fX12_isClimate hN I0_1_q39055 L0 M0 x1 x2 k_I0_1_q39055) (fun r2_q39058 h_r2_q39058 => ?_)
  obtain ⟨h_r2_q39058_0, h_r2_q39058_1, h_r2_q39058_2, h_r2_q39058_3, -⟩ := h_r2_q39058
  have t_39059 := KX12.i1 h_r2_q39058_3
  have t_39060 := KX12.i1 k_I0
  have t_39061 : (I0_1_q39055 1).toInt = (I0 1).toInt := by rw [h_I0_1_q39055]; rfl
  have l_0 := il_0
  refine wq_eq (fun hc_39062 => ?_) (fun hc_39063 => ?_)
  · exact wq_s ⟨h_r2_q39058_3, trivial⟩
  · refine wq_b (tt_fX12_climbOf hN r2_q39058.2.1 r2_q39058.2.2.1 r2_q39058.2.2.2 x1 x2 ⟨by omega, by omega⟩ ⟨by omega, by omega⟩ h_r2_q39058_3) (fun r3_q39064 h_r3_q39064 => ?_)
    obtain ⟨-⟩ := h_r3_q39064
    have b_39065 := i32b r3_q39064
    exact wq_s ⟨h_r2_q39058_3, trivial⟩
set_option maxHeartbeats 4000000 in
theorem tt_fX12_riseOf {N : Nat} (hN : 3000000000 ≤ N) (I0 : Nat → Int32) (L0 : Int64) (M0 : Nat → Nat → Int32) (x1 : Int32) (x2 : Int32) (x3 : Int32) (h_x1 : 0 ≤ x1.toInt ∧ x1.toInt ≤ 6) (h_x2 : -60 ≤ x2.toInt ∧ x2.toInt ≤ 21599) (h_x3 : 0 ≤ x3.toInt ∧ x3.toInt ≤ 359) (k_I0 : KX12 I0 M0) (hr_4 : x1.toInt < (I0 1).toInt) : wq (fX12_riseOf N I0 L0 M0 x1 x2 x3) (fun r => True) := by
  unfold fX12_riseOf
  refine wq_b (tt_fX12_climbOf hN I0 L0 M0 x1 x2 ⟨by omega, by omega⟩ ⟨by omega, by omega⟩ k_I0) (fun r1_q39102 h_r1_q39102 => ?_)
  obtain ⟨-⟩ := h_r1_q39102
  have b_39103 := i32b r1_q39102
  have l_18000 := il_18000
  have t_39104 := ia_mul (18000 : Int32) (18000) il_18000 x3 (by omega) (by omega)
  have l_6480000 := il_6480000
  have t_39105 := ia_rem2 (r1_q39102 + ((18000 : Int32) * x3)) (6480000 : Int32) 6480000 il_6480000 (by decide)
  have t_39106 := KX12.i1 k_I0
  refine wq_b (tt_fX12_placeOf hN I0 L0 M0 x1 ((r1_q39102 + ((18000 : Int32) * x3)) - (((r1_q39102 + ((18000 : Int32) * x3)) / (6480000 : Int32)) * (6480000 : Int32))) ⟨by omega, by omega⟩ k_I0 (by omega) (by omega)) (fun r2_q39107 h_r2_q39107 => ?_)
  obtain ⟨-⟩ := h_r2_q39107
  have b_39108 := i32b r2_q39107
  exact wq_s trivial
set_option maxHeartbeats 4000000 in
theorem tt_fX12_rise {N : Nat} (hN : 3000000000 ≤ N) (I0 : Nat → Int32) (L0 : Int64) (M0 : Nat → Nat → Int32) (x1 : Int32) (x2 : Int32) (x3 : Int32) (k_I0 : KX12 I0 M0) : wq (fX12_rise N I0 L0 M0 x1 x2 x3) (fun r => KX12 r.2.1 r.2.2.2 ∧ True) := by
  unfold fX12_rise
  refine wq_v (fun I0_1_q39211 h_I0_1_q39211 => ?_)
  have k_I0_1_q39211 : KX12 I0_1_q39211 M0 := by rw [h_I0_1_q39211]; exact KX12.si0 k_I0
  have b_39212 := i32b x1
  have b_39213 := i32b x2
  refine wq_b (tt_fX12_isClimate hN I0_1_q39211 L0 M0 x1 x2 k_I0_1_q39211) (fun r2_q39214 h_r2_q39214 => ?_)
  obtain ⟨h_r2_q39214_0, h_r2_q39214_1, h_r2_q39214_2, h_r2_q39214_3, -⟩ := h_r2_q39214
  have t_39215 := KX12.i1 h_r2_q39214_3
  have t_39216 := KX12.i1 k_I0
  have t_39217 : (I0_1_q39211 1).toInt = (I0 1).toInt := by rw [h_I0_1_q39211]; rfl
  have l_0 := il_0
  refine wq_eq (fun hc_39218 => ?_) (fun hc_39219 => ?_)
  · exact wq_s ⟨h_r2_q39214_3, trivial⟩
  · have b_39220 := i32b x3
    have l_359 := il_359
    refine wq_b (tt_fX12_within hN x3 (0 : Int32) (359 : Int32)) (fun r3_q39221 h_r3_q39221 => ?_)
    obtain ⟨h_r3_q39221_0, h_r3_q39221_1, -⟩ := h_r3_q39221
    have l_1 := il_1
    refine wq_b (tt_fX12_right hN r2_q39214.2.1 r2_q39214.2.2.1 r2_q39214.2.2.2 r3_q39221 (1 : Int32) ⟨by omega, by omega⟩ h_r2_q39214_3) (fun r4_q39222 h_r4_q39222 => ?_)
    obtain ⟨h_r4_q39222_0, h_r4_q39222_1, h_r4_q39222_2, h_r4_q39222_3, -⟩ := h_r4_q39222
    have t_39223 := KX12.i1 h_r4_q39222_3
    refine wq_eq (fun hc_39224 => ?_) (fun hc_39225 => ?_)
    · exact wq_s ⟨h_r4_q39222_3, trivial⟩
    · refine wq_b (tt_fX12_riseOf hN r4_q39222.2.1 r4_q39222.2.2.1 r4_q39222.2.2.2 x1 x2 x3 ⟨by omega, by omega⟩ ⟨by omega, by omega⟩ ⟨by omega, by omega⟩ h_r4_q39222_3 (by omega)) (fun r5_q39226 h_r5_q39226 => ?_)
      obtain ⟨-⟩ := h_r5_q39226
      have b_39227 := i32b r5_q39226
      exact wq_s ⟨h_r4_q39222_3, trivial⟩
set_option maxHeartbeats 4000000 in
theorem tt_fX12_middleOf {N : Nat} (hN : 3000000000 ≤ N) (I0 : Nat → Int32) (L0 : Int64) (M0 : Nat → Nat → Int32) (x1 : Int32) (x2 : Int32) (h_x1 : 0 ≤ x1.toInt ∧ x1.toInt ≤ 6) (h_x2 : -60 ≤ x2.toInt ∧ x2.toInt ≤ 21599) (k_I0 : KX12 I0 M0) (hr_3 : x1.toInt < (I0 1).toInt) : wq (fX12_middleOf N I0 L0 M0 x1 x2) (fun r => True) := by
  unfold fX12_middleOf
  refine wq_b (tt_fX12_climbOf hN I0 L0 M0 x1 x2 ⟨by omega, by omega⟩ ⟨by omega, by omega⟩ k_I0) (fun r1_q39258 h_r1_q39258 => ?_)
  obtain ⟨-⟩ := h_r1_q39258
  have l_0 := il_0
  have b_39259 := i32b r1_q39258
  have l_6480000 := il_6480000
  have l_1620000 := il_1620000
  have t_39260 := ia_rem2 ((r1_q39258 + (6480000 : Int32)) - (1620000 : Int32)) (6480000 : Int32) 6480000 il_6480000 (by decide)
  have t_39261 := KX12.i1 k_I0
  refine wq_b (tt_fX12_placeOf hN I0 L0 M0 (0 : Int32) (((r1_q39258 + (6480000 : Int32)) - (1620000 : Int32)) - ((((r1_q39258 + (6480000 : Int32)) - (1620000 : Int32)) / (6480000 : Int32)) * (6480000 : Int32))) ⟨by omega, by omega⟩ k_I0 (by omega) (by omega)) (fun r2_q39262 h_r2_q39262 => ?_)
  obtain ⟨-⟩ := h_r2_q39262
  have b_39263 := i32b r2_q39262
  exact wq_s trivial
set_option maxHeartbeats 4000000 in
theorem tt_fX12_middle {N : Nat} (hN : 3000000000 ≤ N) (I0 : Nat → Int32) (L0 : Int64) (M0 : Nat → Nat → Int32) (x1 : Int32) (x2 : Int32) (k_I0 : KX12 I0 M0) : wq (fX12_middle N I0 L0 M0 x1 x2) (fun r => KX12 r.2.1 r.2.2.2 ∧ True) := by
  unfold fX12_middle
  refine wq_v (fun I0_1_q39330 h_I0_1_q39330 => ?_)
  have k_I0_1_q39330 : KX12 I0_1_q39330 M0 := by rw [h_I0_1_q39330]; exact KX12.si0 k_I0
  have b_39331 := i32b x1
  have b_39332 := i32b x2
  refine wq_b (tt_fX12_isClimate hN I0_1_q39330 L0 M0 x1 x2 k_I0_1_q39330) (fun r2_q39333 h_r2_q39333 => ?_)
  obtain ⟨h_r2_q39333_0, h_r2_q39333_1, h_r2_q39333_2, h_r2_q39333_3, -⟩ := h_r2_q39333
  have t_39334 := KX12.i1 h_r2_q39333_3
  have t_39335 := KX12.i1 k_I0
  have t_39336 : (I0_1_q39330 1).toInt = (I0 1).toInt := by rw [h_I0_1_q39330]; rfl
  have l_0 := il_0
  refine wq_eq (fun hc_39337 => ?_) (fun hc_39338 => ?_)
  · exact wq_s ⟨h_r2_q39333_3, trivial⟩
  · refine wq_b (tt_fX12_middleOf hN r2_q39333.2.1 r2_q39333.2.2.1 r2_q39333.2.2.2 x1 x2 ⟨by omega, by omega⟩ ⟨by omega, by omega⟩ h_r2_q39333_3 (by omega)) (fun r3_q39339 h_r3_q39339 => ?_)
    obtain ⟨-⟩ := h_r3_q39339
    have b_39340 := i32b r3_q39339
    exact wq_s ⟨h_r2_q39333_3, trivial⟩
set_option maxHeartbeats 4000000 in
theorem tt_fX12_isHour {N : Nat} (hN : 3000000000 ≤ N) (I0 : Nat → Int32) (L0 : Int64) (M0 : Nat → Nat → Int32) (x1 : Int32) (x2 : Int32) (x3 : Int32) (h_x1 : 0 ≤ x1.toInt ∧ x1.toInt ≤ 119) (h_x2 : 0 ≤ x2.toInt ∧ x2.toInt ≤ 6) (h_x3 : 0 ≤ x3.toInt ∧ x3.toInt ≤ 359) (k_I0 : KX12 I0 M0) (hr_4 : x2.toInt < (I0 1).toInt) : wq (fX12_isHour N I0 L0 M0 x1 x2 x3) (fun r => (0 ≤ r.toInt ∧ r.toInt ≤ 1) ∧ True) := by
  unfold fX12_isHour
  have l_0 := il_0
  refine wq_b (tt_fX12_at hN I0 L0 M0 x1 (0 : Int32) ⟨by omega, by omega⟩ ⟨by omega, by omega⟩ k_I0) (fun r1_q39395 h_r1_q39395 => ?_)
  obtain ⟨h_r1_q39395_0, h_r1_q39395_1, h_r1_q39395_2, -⟩ := h_r1_q39395
  have l_60 := il_60
  have t_39396 := ia_mul (60 : Int32) (60) il_60 r1_q39395 (by omega) (by omega)
  have t_39397 := KX12.i1 k_I0
  refine wq_b (tt_fX12_riseOf hN I0 L0 M0 x2 ((60 : Int32) * r1_q39395) x3 ⟨by omega, by omega⟩ ⟨by omega, by omega⟩ ⟨by omega, by omega⟩ k_I0 (by omega)) (fun r2_q39398 h_r2_q39398 => ?_)
  obtain ⟨-⟩ := h_r2_q39398
  have l_7 := il_7
  refine wq_b (tt_fX12_at hN I0 L0 M0 x1 (7 : Int32) ⟨by omega, by omega⟩ ⟨by omega, by omega⟩ k_I0) (fun r3_q39399 h_r3_q39399 => ?_)
  obtain ⟨h_r3_q39399_0, h_r3_q39399_1, h_r3_q39399_2, -⟩ := h_r3_q39399
  have b_39400 := i32b r2_q39398
  have t_39401 := i32b r2_q39398
  have t_39402 := ia_div2 r2_q39398 (60 : Int32) 60 il_60 (by decide)
  refine wq_eq (fun hc_39403 => ?_) (fun hc_39404 => ?_)
  · have l_1 := il_1
    exact wq_s ⟨(show 0 ≤ (1 : Int32).toInt ∧ (1 : Int32).toInt ≤ 1 from ⟨by omega, by omega⟩), trivial⟩
  · exact wq_s ⟨(show 0 ≤ (0 : Int32).toInt ∧ (0 : Int32).toInt ≤ 1 from ⟨by omega, by omega⟩), trivial⟩
set_option maxHeartbeats 4000000 in
theorem tt_fX12_hour_L67 {N : Nat} (hN : 3000000000 ≤ N) (x1 : Int32) (x2 : Int32) (x3 : Int32) (y61_4 : Int32) (y61_5 : Int32) (h_x1 : 0 ≤ x1.toInt ∧ x1.toInt ≤ 5) (h_x2 : 0 ≤ x2.toInt ∧ x2.toInt ≤ 19) (h_y61_4 : 0 ≤ y61_4.toInt ∧ y61_4.toInt ≤ 119) (h_y61_5 : 0 ≤ y61_5.toInt ∧ y61_5.toInt ≤ 1)  : ∀ (fu : Nat) (I0_l67 : (Nat → Int32)) (L0_l67 : Int64) (M0_l67 : (Nat → Nat → Int32)) (y67_6 : Int32) (y67_7 : Int32), (0 ≤ y67_7.toInt ∧ y67_7.toInt ≤ 2520) → (KX12 I0_l67 M0_l67) → (2520 - y67_7.toInt) < (fu : Int) → wq (fX12_hour_L67 N x1 x2 x3 y61_4 y61_5 fu I0_l67 L0_l67 M0_l67 y67_6 y67_7) (fun r => KX12 r.2.1 r.2.2.2 ∧ True) := by
  intro fu
  induction fu with
  | zero => intro I0_l67 L0_l67 M0_l67 y67_6 y67_7 h_y67_7 k_I0_l67 hm; exfalso; omega
  | succ fu ih =>
    intro I0_l67 L0_l67 M0_l67 y67_6 y67_7 h_y67_7 k_I0_l67 hm
    rw [fX12_hour_L67.eq_2]
    have t_40942 := KX12.i1 k_I0_l67
    have l_360 := il_360
    have t_40943 := ia_mul (360 : Int32) (360) il_360 (I0_l67 1) (by omega) (by omega)
    refine wq_le (fun hc_40944 => ?_) (fun hc_40945 => ?_)
    · unfold fX12_hour_J127
      have b_40946 := i32b x3
      have l_m1 := il_m1
      refine wq_eq (fun hc_40947 => ?_) (fun hc_40948 => ?_)
      · have l_1 := il_1
        refine wq_b (tt_fX12_right hN I0_l67 L0_l67 M0_l67 (1 : Int32) (1 : Int32) ⟨by omega, by omega⟩ k_I0_l67) (fun r2_q40949 h_r2_q40949 => ?_)
        obtain ⟨h_r2_q40949_0, h_r2_q40949_1, h_r2_q40949_2, h_r2_q40949_3, -⟩ := h_r2_q40949
        have t_40950 := KX12.i1 h_r2_q40949_3
        have l_0 := il_0
        refine wq_eq (fun hc_40951 => ?_) (fun hc_40952 => ?_)
        · exact wq_s ⟨h_r2_q40949_3, trivial⟩
        · have b_40953 := i32b y67_6
          exact wq_s ⟨h_r2_q40949_3, trivial⟩
      · have l_0 := il_0
        have l_1 := il_1
        refine wq_b (tt_fX12_right hN I0_l67 L0_l67 M0_l67 (0 : Int32) (1 : Int32) ⟨by omega, by omega⟩ k_I0_l67) (fun r1_q40954 h_r1_q40954 => ?_)
        obtain ⟨h_r1_q40954_0, h_r1_q40954_1, h_r1_q40954_2, h_r1_q40954_3, -⟩ := h_r1_q40954
        have t_40955 := KX12.i1 h_r1_q40954_3
        refine wq_eq (fun hc_40956 => ?_) (fun hc_40957 => ?_)
        · exact wq_s ⟨h_r1_q40954_3, trivial⟩
        · have b_40958 := i32b y67_6
          exact wq_s ⟨h_r1_q40954_3, trivial⟩
    · have l_0 := il_0
      refine wq_eq (fun hc_40959 => ?_) (fun hc_40960 => ?_)
      · unfold fX12_hour_J127
        have b_40961 := i32b x3
        have l_m1 := il_m1
        refine wq_eq (fun hc_40962 => ?_) (fun hc_40963 => ?_)
        · have l_1 := il_1
          refine wq_b (tt_fX12_right hN I0_l67 L0_l67 M0_l67 (1 : Int32) (1 : Int32) ⟨by omega, by omega⟩ k_I0_l67) (fun r2_q40964 h_r2_q40964 => ?_)
          obtain ⟨h_r2_q40964_0, h_r2_q40964_1, h_r2_q40964_2, h_r2_q40964_3, -⟩ := h_r2_q40964
          have t_40965 := KX12.i1 h_r2_q40964_3
          refine wq_eq (fun hc_40966 => ?_) (fun hc_40967 => ?_)
          · exact wq_s ⟨h_r2_q40964_3, trivial⟩
          · have b_40968 := i32b y67_6
            exact wq_s ⟨h_r2_q40964_3, trivial⟩
        · have l_1 := il_1
          refine wq_b (tt_fX12_right hN I0_l67 L0_l67 M0_l67 (0 : Int32) (1 : Int32) ⟨by omega, by omega⟩ k_I0_l67) (fun r1_q40969 h_r1_q40969 => ?_)
          obtain ⟨h_r1_q40969_0, h_r1_q40969_1, h_r1_q40969_2, h_r1_q40969_3, -⟩ := h_r1_q40969
          have t_40970 := KX12.i1 h_r1_q40969_3
          refine wq_eq (fun hc_40971 => ?_) (fun hc_40972 => ?_)
          · exact wq_s ⟨h_r1_q40969_3, trivial⟩
          · have b_40973 := i32b y67_6
            exact wq_s ⟨h_r1_q40969_3, trivial⟩
      · have t_40974 := ia_div y67_7 (360 : Int32) 360 il_360 (by decide) (by omega)
        have t_40975 := ia_rem y67_7 (360 : Int32) 360 il_360 (by decide) (by omega)
        refine wq_b (tt_fX12_isHour hN I0_l67 L0_l67 M0_l67 y61_4 (y67_7 / (360 : Int32)) (y67_7 - ((y67_7 / (360 : Int32)) * (360 : Int32))) ⟨by omega, by omega⟩ ⟨by omega, by omega⟩ ⟨by omega, by omega⟩ k_I0_l67 (by omega)) (fun r3_q40976 h_r3_q40976 => ?_)
        obtain ⟨h_r3_q40976_0, -⟩ := h_r3_q40976
        refine wq_eq (fun hc_40977 => ?_) (fun hc_40978 => ?_)
        · have l_1 := il_1
          have t_40980 := ia_add y67_7 (1 : Int32) (by omega) (by omega)
          refine wq_v (fun v6_q40979 h_v6_q40979 => ?_)
          have t_v6_q40979 := congrArg Int32.toInt h_v6_q40979
          have b_40981 := i32b y67_6
          exact ih I0_l67 L0_l67 M0_l67 y67_6 v6_q40979 ⟨by omega, by omega⟩ k_I0_l67 (by omega)
        · have b_40982 := i32b y67_6
          have b_40983 := i32b x3
          refine wq_eq (fun hc_40984 => ?_) (fun hc_40985 => ?_)
          · exact wq_s ⟨k_I0_l67, trivial⟩
          · have l_1 := il_1
            refine wq_v (fun v4_q40986 h_v4_q40986 => ?_)
            have t_v4_q40986 := congrArg Int32.toInt h_v4_q40986
            have t_40988 := ia_add y67_7 (1 : Int32) (by omega) (by omega)
            refine wq_v (fun v5_q40987 h_v5_q40987 => ?_)
            have t_v5_q40987 := congrArg Int32.toInt h_v5_q40987
            have b_40989 := i32b v4_q40986
            exact ih I0_l67 L0_l67 M0_l67 v4_q40986 v5_q40987 ⟨by omega, by omega⟩ k_I0_l67 (by omega)

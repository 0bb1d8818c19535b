set_option maxHeartbeats 4000000 in
theorem tt_fX12_misread {N : Nat} (hN : 3000000000 ≤ N) (I0 : Nat → Int32) (L0 : Int64) (M0 : Nat → Nat → Int32) (x1 : Int32) (x2 : Int32) (x3 : Int32) (x4 : Int32) (x5 : Int32) (k_I0 : KX12 I0 M0) : wq (fX12_misread N I0 L0 M0 x1 x2 x3 x4 x5) (fun r => (-1 ≤ r.1.toInt ∧ r.1.toInt ≤ 9) ∧ KX12 r.2.1 r.2.2.2 ∧ True) := by
  unfold fX12_misread
  have b_34768 := i32b x1
  have b_34769 := i32b x2
  refine wq_b (tt_fX12_isWheel hN I0 L0 M0 x1 x2 k_I0) (fun r5_q34770 h_r5_q34770 => ?_)
  obtain ⟨h_r5_q34770_0, h_r5_q34770_1, h_r5_q34770_2, h_r5_q34770_3, -⟩ := h_r5_q34770
  have t_34771 := KX12.i1 h_r5_q34770_3
  have t_34772 := KX12.i1 k_I0
  have l_0 := il_0
  refine wq_eq (fun hc_34773 => ?_) (fun hc_34774 => ?_)
  · exact wq_s ⟨(show -1 ≤ (0 : Int32).toInt ∧ (0 : Int32).toInt ≤ 9 from ⟨by omega, by omega⟩), h_r5_q34770_3, trivial⟩
  · have b_34775 := i32b x3
    have l_3 := il_3
    refine wq_b (tt_fX12_within hN x3 (0 : Int32) (3 : Int32)) (fun r6_q34776 h_r6_q34776 => ?_)
    obtain ⟨h_r6_q34776_0, h_r6_q34776_1, -⟩ := h_r6_q34776
    refine wq_eq (fun hc_34777 => ?_) (fun hc_34778 => ?_)
    · unfold fX12_misread_J45
      unfold fX12_misread_J46
      have l_1 := il_1
      refine wq_b (tt_fX12_right hN r5_q34770.2.1 r5_q34770.2.2.1 r5_q34770.2.2.2 (0 : Int32) (1 : Int32) ⟨by omega, by omega⟩ h_r5_q34770_3) (fun r1_q34779 h_r1_q34779 => ?_)
      obtain ⟨h_r1_q34779_0, h_r1_q34779_1, h_r1_q34779_2, h_r1_q34779_3, -⟩ := h_r1_q34779
      have t_34780 := KX12.i1 h_r1_q34779_3
      refine wq_eq (fun hc_34781 => ?_) (fun hc_34782 => ?_)
      · exact wq_s ⟨(show -1 ≤ (0 : Int32).toInt ∧ (0 : Int32).toInt ≤ 9 from ⟨by omega, by omega⟩), h_r1_q34779_3, trivial⟩
      · have l_20 := il_20
        have t_34783 := ia_mul (20 : Int32) (20) il_20 x1 (by omega) (by omega)
        have t_34784 := ia_add ((20 : Int32) * x1) x2 (by omega) (by omega)
        have b_34785 := i32b x5
        refine wq_b (tt_fX12_at hN r1_q34779.2.1 r1_q34779.2.2.1 r1_q34779.2.2.2 (((20 : Int32) * x1) + x2) x5 ⟨by omega, by omega⟩ ⟨by omega, by omega⟩ h_r1_q34779_3) (fun r2_q34786 h_r2_q34786 => ?_)
        obtain ⟨h_r2_q34786_0, h_r2_q34786_1, h_r2_q34786_2, -⟩ := h_r2_q34786
        have l_m1 := il_m1
        refine wq_eq (fun hc_34787 => ?_) (fun hc_34788 => ?_)
        · exact wq_s ⟨(show -1 ≤ (-1 : Int32).toInt ∧ (-1 : Int32).toInt ≤ 9 from ⟨by omega, by omega⟩), h_r1_q34779_3, trivial⟩
        · have b_34789 := i32b x4
          refine wq_b (tt_fX12_placeOn hN r1_q34779.2.1 r1_q34779.2.2.1 r1_q34779.2.2.2 x3 x5 x4 ⟨by omega, by omega⟩ ⟨by omega, by omega⟩ h_r1_q34779_3) (fun r3_q34790 h_r3_q34790 => ?_)
          obtain ⟨-⟩ := h_r3_q34790
          have b_34791 := i32b r3_q34790
          have l_60 := il_60
          have t_34792 := i32b r3_q34790
          have t_34793 := ia_div2 r3_q34790 (60 : Int32) 60 il_60 (by decide)
          refine wq_b (tt_fX12_beside hN r1_q34779.2.1 r1_q34779.2.2.1 r1_q34779.2.2.2 r2_q34786 (r3_q34790 / (60 : Int32)) ⟨by omega, by omega⟩ h_r1_q34779_3) (fun r4_q34794 h_r4_q34794 => ?_)
          obtain ⟨h_r4_q34794_0, -⟩ := h_r4_q34794
          exact wq_s ⟨(show -1 ≤ r4_q34794.toInt ∧ r4_q34794.toInt ≤ 9 from ⟨by omega, by omega⟩), h_r1_q34779_3, trivial⟩
    · have b_34795 := i32b x4
      have l_1000000 := il_1000000
      refine wq_b (tt_fX12_within hN x4 (0 : Int32) (1000000 : Int32)) (fun r7_q34796 h_r7_q34796 => ?_)
      obtain ⟨h_r7_q34796_0, h_r7_q34796_1, -⟩ := h_r7_q34796
      refine wq_eq (fun hc_34797 => ?_) (fun hc_34798 => ?_)
      · unfold fX12_misread_J45
        unfold fX12_misread_J46
        have l_1 := il_1
        refine wq_b (tt_fX12_right hN r5_q34770.2.1 r5_q34770.2.2.1 r5_q34770.2.2.2 (0 : Int32) (1 : Int32) ⟨by omega, by omega⟩ h_r5_q34770_3) (fun r1_q34799 h_r1_q34799 => ?_)
        obtain ⟨h_r1_q34799_0, h_r1_q34799_1, h_r1_q34799_2, h_r1_q34799_3, -⟩ := h_r1_q34799
        have t_34800 := KX12.i1 h_r1_q34799_3
        refine wq_eq (fun hc_34801 => ?_) (fun hc_34802 => ?_)
        · exact wq_s ⟨(show -1 ≤ (0 : Int32).toInt ∧ (0 : Int32).toInt ≤ 9 from ⟨by omega, by omega⟩), h_r1_q34799_3, trivial⟩
        · have l_20 := il_20
          have t_34803 := ia_mul (20 : Int32) (20) il_20 x1 (by omega) (by omega)
          have t_34804 := ia_add ((20 : Int32) * x1) x2 (by omega) (by omega)
          have b_34805 := i32b x5
          refine wq_b (tt_fX12_at hN r1_q34799.2.1 r1_q34799.2.2.1 r1_q34799.2.2.2 (((20 : Int32) * x1) + x2) x5 ⟨by omega, by omega⟩ ⟨by omega, by omega⟩ h_r1_q34799_3) (fun r2_q34806 h_r2_q34806 => ?_)
          obtain ⟨h_r2_q34806_0, h_r2_q34806_1, h_r2_q34806_2, -⟩ := h_r2_q34806
          have l_m1 := il_m1
          refine wq_eq (fun hc_34807 => ?_) (fun hc_34808 => ?_)
          · exact wq_s ⟨(show -1 ≤ (-1 : Int32).toInt ∧ (-1 : Int32).toInt ≤ 9 from ⟨by omega, by omega⟩), h_r1_q34799_3, trivial⟩
          · refine wq_b (tt_fX12_placeOn hN r1_q34799.2.1 r1_q34799.2.2.1 r1_q34799.2.2.2 x3 x5 x4 ⟨by omega, by omega⟩ ⟨by omega, by omega⟩ h_r1_q34799_3) (fun r3_q34809 h_r3_q34809 => ?_)
            obtain ⟨-⟩ := h_r3_q34809
            have b_34810 := i32b r3_q34809
            have l_60 := il_60
            have t_34811 := i32b r3_q34809
            have t_34812 := ia_div2 r3_q34809 (60 : Int32) 60 il_60 (by decide)
            refine wq_b (tt_fX12_beside hN r1_q34799.2.1 r1_q34799.2.2.1 r1_q34799.2.2.2 r2_q34806 (r3_q34809 / (60 : Int32)) ⟨by omega, by omega⟩ h_r1_q34799_3) (fun r4_q34813 h_r4_q34813 => ?_)
            obtain ⟨h_r4_q34813_0, -⟩ := h_r4_q34813
            exact wq_s ⟨(show -1 ≤ r4_q34813.toInt ∧ r4_q34813.toInt ≤ 9 from ⟨by omega, by omega⟩), h_r1_q34799_3, trivial⟩
      · have b_34814 := i32b x5
        have l_6 := il_6
        refine wq_b (tt_fX12_within hN x5 (0 : Int32) (6 : Int32)) (fun r8_q34815 h_r8_q34815 => ?_)
        obtain ⟨h_r8_q34815_0, h_r8_q34815_1, -⟩ := h_r8_q34815
        refine wq_eq (fun hc_34816 => ?_) (fun hc_34817 => ?_)
        · unfold fX12_misread_J45
          unfold fX12_misread_J46
          have l_1 := il_1
          refine wq_b (tt_fX12_right hN r5_q34770.2.1 r5_q34770.2.2.1 r5_q34770.2.2.2 (0 : Int32) (1 : Int32) ⟨by omega, by omega⟩ h_r5_q34770_3) (fun r1_q34818 h_r1_q34818 => ?_)
          obtain ⟨h_r1_q34818_0, h_r1_q34818_1, h_r1_q34818_2, h_r1_q34818_3, -⟩ := h_r1_q34818
          have t_34819 := KX12.i1 h_r1_q34818_3
          refine wq_eq (fun hc_34820 => ?_) (fun hc_34821 => ?_)
          · exact wq_s ⟨(show -1 ≤ (0 : Int32).toInt ∧ (0 : Int32).toInt ≤ 9 from ⟨by omega, by omega⟩), h_r1_q34818_3, trivial⟩
          · have l_20 := il_20
            have t_34822 := ia_mul (20 : Int32) (20) il_20 x1 (by omega) (by omega)
            have t_34823 := ia_add ((20 : Int32) * x1) x2 (by omega) (by omega)
            refine wq_b (tt_fX12_at hN r1_q34818.2.1 r1_q34818.2.2.1 r1_q34818.2.2.2 (((20 : Int32) * x1) + x2) x5 ⟨by omega, by omega⟩ ⟨by omega, by omega⟩ h_r1_q34818_3) (fun r2_q34824 h_r2_q34824 => ?_)
            obtain ⟨h_r2_q34824_0, h_r2_q34824_1, h_r2_q34824_2, -⟩ := h_r2_q34824
            have l_m1 := il_m1
            refine wq_eq (fun hc_34825 => ?_) (fun hc_34826 => ?_)
            · exact wq_s ⟨(show -1 ≤ (-1 : Int32).toInt ∧ (-1 : Int32).toInt ≤ 9 from ⟨by omega, by omega⟩), h_r1_q34818_3, trivial⟩
            · refine wq_b (tt_fX12_placeOn hN r1_q34818.2.1 r1_q34818.2.2.1 r1_q34818.2.2.2 x3 x5 x4 ⟨by omega, by omega⟩ ⟨by omega, by omega⟩ h_r1_q34818_3) (fun r3_q34827 h_r3_q34827 => ?_)
              obtain ⟨-⟩ := h_r3_q34827
              have b_34828 := i32b r3_q34827
              have l_60 := il_60
              have t_34829 := i32b r3_q34827
              have t_34830 := ia_div2 r3_q34827 (60 : Int32) 60 il_60 (by decide)
              refine wq_b (tt_fX12_beside hN r1_q34818.2.1 r1_q34818.2.2.1 r1_q34818.2.2.2 r2_q34824 (r3_q34827 / (60 : Int32)) ⟨by omega, by omega⟩ h_r1_q34818_3) (fun r4_q34831 h_r4_q34831 => ?_)
              obtain ⟨h_r4_q34831_0, -⟩ := h_r4_q34831
              exact wq_s ⟨(show -1 ≤ r4_q34831.toInt ∧ r4_q34831.toInt ≤ 9 from ⟨by omega, by omega⟩), h_r1_q34818_3, trivial⟩
        · unfold fX12_misread_J46
          have l_1 := il_1
          refine wq_b (tt_fX12_right hN r5_q34770.2.1 r5_q34770.2.2.1 r5_q34770.2.2.2 (1 : Int32) (1 : Int32) ⟨by omega, by omega⟩ h_r5_q34770_3) (fun r1_q34832 h_r1_q34832 => ?_)
          obtain ⟨h_r1_q34832_0, h_r1_q34832_1, h_r1_q34832_2, h_r1_q34832_3, -⟩ := h_r1_q34832
          have t_34833 := KX12.i1 h_r1_q34832_3
          refine wq_eq (fun hc_34834 => ?_) (fun hc_34835 => ?_)
          · exact wq_s ⟨(show -1 ≤ (0 : Int32).toInt ∧ (0 : Int32).toInt ≤ 9 from ⟨by omega, by omega⟩), h_r1_q34832_3, trivial⟩
          · have l_20 := il_20
            have t_34836 := ia_mul (20 : Int32) (20) il_20 x1 (by omega) (by omega)
            have t_34837 := ia_add ((20 : Int32) * x1) x2 (by omega) (by omega)
            refine wq_b (tt_fX12_at hN r1_q34832.2.1 r1_q34832.2.2.1 r1_q34832.2.2.2 (((20 : Int32) * x1) + x2) x5 ⟨by omega, by omega⟩ ⟨by omega, by omega⟩ h_r1_q34832_3) (fun r2_q34838 h_r2_q34838 => ?_)
            obtain ⟨h_r2_q34838_0, h_r2_q34838_1, h_r2_q34838_2, -⟩ := h_r2_q34838
            have l_m1 := il_m1
            refine wq_eq (fun hc_34839 => ?_) (fun hc_34840 => ?_)
            · exact wq_s ⟨(show -1 ≤ (-1 : Int32).toInt ∧ (-1 : Int32).toInt ≤ 9 from ⟨by omega, by omega⟩), h_r1_q34832_3, trivial⟩
            · refine wq_b (tt_fX12_placeOn hN r1_q34832.2.1 r1_q34832.2.2.1 r1_q34832.2.2.2 x3 x5 x4 ⟨by omega, by omega⟩ ⟨by omega, by omega⟩ h_r1_q34832_3) (fun r3_q34841 h_r3_q34841 => ?_)
              obtain ⟨-⟩ := h_r3_q34841
              have b_34842 := i32b r3_q34841
              have l_60 := il_60
              have t_34843 := i32b r3_q34841
              have t_34844 := ia_div2 r3_q34841 (60 : Int32) 60 il_60 (by decide)
              refine wq_b (tt_fX12_beside hN r1_q34832.2.1 r1_q34832.2.2.1 r1_q34832.2.2.2 r2_q34838 (r3_q34841 / (60 : Int32)) ⟨by omega, by omega⟩ h_r1_q34832_3) (fun r4_q34845 h_r4_q34845 => ?_)
              obtain ⟨h_r4_q34845_0, -⟩ := h_r4_q34845
              exact wq_s ⟨(show -1 ≤ r4_q34845.toInt ∧ r4_q34845.toInt ≤ 9 from ⟨by omega, by omega⟩), h_r1_q34832_3, trivial⟩
set_option maxHeartbeats 4000000 in
theorem tt_fX12_errors_L340 {N : Nat} (hN : 3000000000 ≤ N) (x1 : Int32) (x2 : Int32) (x3 : Int32) (x4 : Int32) (g51 : (Nat → Int32) → Int64 → (Nat → Nat → Int32) → Int32 → Option (Int32 × (Nat → Int32) × Int64 × (Nat → Nat → Int32))) (g90 : (Nat → Int32) → Int64 → (Nat → Nat → Int32) → Int32 → Int32 → Option (Int32 × (Nat → Int32) × Int64 × (Nat → Nat → Int32))) (h_x1 : 0 ≤ x1.toInt ∧ x1.toInt ≤ 5) (h_x2 : 0 ≤ x2.toInt ∧ x2.toInt ≤ 19) (h_x3 : 0 ≤ x3.toInt ∧ x3.toInt ≤ 1000000) (h_x4 : 1 ≤ x4.toInt ∧ x4.toInt ≤ 1)  : ∀ (fu : Nat) (I0_l340 : (Nat → Int32)) (L0_l340 : Int64) (M0_l340 : (Nat → Nat → Int32)) (y340_6 : Int32) (y340_7 : Int32), (1 ≤ y340_6.toInt ∧ y340_6.toInt ≤ 3) → (2 ≤ y340_7.toInt ∧ y340_7.toInt ≤ 4) → (KX12 I0_l340 M0_l340) → (4 - y340_7.toInt) < (fu : Int) → wq (fX12_errors_L340 N x1 x2 x3 x4 g51 g90 fu I0_l340 L0_l340 M0_l340 y340_6 y340_7) (fun r => KX12 r.2.1 r.2.2.2 ∧ True) := by
  intro fu
  induction fu with
  | zero => intro I0_l340 L0_l340 M0_l340 y340_6 y340_7 h_y340_6 h_y340_7 k_I0_l340 hm; exfalso; omega
  | succ fu ih =>
    intro I0_l340 L0_l340 M0_l340 y340_6 y340_7 h_y340_6 h_y340_7 k_I0_l340 hm
    rw [fX12_errors_L340.eq_2]
    have l_4 := il_4
    refine wq_le (fun hc_38573 => ?_) (fun hc_38574 => ?_)
    · refine wq_in (n := 4) ⟨by omega, by omega⟩ ?_
      have l_0 := il_0
      refine wq_eq (fun hc_38575 => ?_) (fun hc_38576 => ?_)
      · have l_m1 := il_m1
        exact wq_s ⟨k_I0_l340, trivial⟩
      · exact wq_s ⟨k_I0_l340, trivial⟩
    · refine wq_in (n := 4) ⟨by omega, by omega⟩ ?_
      refine wq_in (n := 4) ⟨by omega, by omega⟩ ?_
      refine wq_le (fun hc_38577 => ?_) (fun hc_38578 => ?_)
      · have l_1 := il_1
        have t_38580 := ia_add y340_7 (1 : Int32) (by omega) (by omega)
        refine wq_v (fun v2_q38579 h_v2_q38579 => ?_)
        have t_v2_q38579 := congrArg Int32.toInt h_v2_q38579
        exact ih I0_l340 L0_l340 M0_l340 y340_6 v2_q38579 ⟨by omega, by omega⟩ ⟨by omega, by omega⟩ k_I0_l340 (by omega)
      · have l_1 := il_1
        have t_38582 := ia_add y340_7 (1 : Int32) (by omega) (by omega)
        refine wq_v (fun v3_q38581 h_v3_q38581 => ?_)
        have t_v3_q38581 := congrArg Int32.toInt h_v3_q38581
        exact ih I0_l340 L0_l340 M0_l340 y340_7 v3_q38581 ⟨by omega, by omega⟩ ⟨by omega, by omega⟩ k_I0_l340 (by omega)
set_option maxHeartbeats 4000000 in
theorem wq_be {α β : Type} {x : Option α} {k : α → Option β} {P : α → Prop} {Q : β → Prop} (h : wq x P) (h2 : ∀ r, x = some r → P r → wq (k r) Q) : wq (x.bind k) Q := by
  obtain ⟨r, e, hr⟩ := h
  rw [e]
  exact h2 r e hr
def ER (N : Nat) (I : Nat → Int32) (L : Int64) (M : Nat → Nat → Int32) (k d e n b : Int32) : Prop :=
  0 ≤ b.toInt ∧ b.toInt < n.toInt ∧ ∀ s p : Int32, 1 ≤ s.toInt → s.toInt < n.toInt → fX12_placeOn N I L M s k d = some p → (p / (60 : Int32)).toInt = e.toInt → 1 ≤ b.toInt
theorem pl_um {N : Nat} {I : Nat → Int32} {L : Int64} {M : Nat → Nat → Int32} {q i : Nat} {v s k d : Int32} (hq : 4 ≤ q) : fX12_placeOn N I L (wb_um M q i v) s k d = fX12_placeOn N I L M s k d := by
  have h0 : wb_um M q i v 0 = M 0 := by unfold wb_um; exact if_neg (by omega)
  have h1 : wb_um M q i v 1 = M 1 := by unfold wb_um; exact if_neg (by omega)
  have h2 : wb_um M q i v 2 = M 2 := by unfold wb_um; exact if_neg (by omega)
  have h3 : wb_um M q i v 3 = M 3 := by unfold wb_um; exact if_neg (by omega)
  unfold fX12_placeOn fX12_placeOn_J79
  simp only [h0, h1, h2, h3]
theorem ER_um {N : Nat} {I : Nat → Int32} {L : Int64} {M : Nat → Nat → Int32} {k d e n b : Int32} {q i : Nat} {v : Int32} (hq : 4 ≤ q) (h : ER N I L M k d e n b) : ER N I L (wb_um M q i v) k d e n b :=
  ⟨h.1, h.2.1, fun s p h1 h2 h3 h4 => h.2.2 s p h1 h2 ((pl_um hq).symm.trans h3) h4⟩
theorem ER_0 {N : Nat} {I : Nat → Int32} {L : Int64} {M : Nat → Nat → Int32} {k d e : Int32} : ER N I L M k d e (1 : Int32) (0 : Int32) := by
  have l_0 := il_0
  have l_1 := il_1
  exact ⟨by omega, by omega, fun s p h1 h2 => by omega⟩
theorem ER_4 {N : Nat} {I : Nat → Int32} {L : Int64} {M : Nat → Nat → Int32} {k d e n b : Int32} (h : ER N I L M k d e n b) (hn : n.toInt = 4) : ER N I L M k d e (4 : Int32) b := by
  have l_4 := il_4
  exact ⟨h.1, by have := h.2.1; omega, fun s p h1 h2 => h.2.2 s p h1 (by omega)⟩
theorem ER_y {N : Nat} {I : Nat → Int32} {L : Int64} {M : Nat → Nat → Int32} {k d e n b n2 b2 p : Int32} (h : ER N I L M k d e n b) (_ : fX12_placeOn N I L M n k d = some p) (_ : (p / (60 : Int32)).toInt = e.toInt) (hb : b2.toInt = b.toInt + 1) (hn : n2.toInt = n.toInt + 1) : ER N I L M k d e n2 b2 := by
  have h1 := h.1
  have h2 := h.2.1
  exact ⟨by omega, by omega, fun s p _ _ _ _ => by omega⟩
theorem ER_n {N : Nat} {I : Nat → Int32} {L : Int64} {M : Nat → Nat → Int32} {k d e n b n2 b2 p : Int32} (h : ER N I L M k d e n b) (hp : fX12_placeOn N I L M n k d = some p) (hne : ¬ (p / (60 : Int32)).toInt = e.toInt) (hb : b2.toInt = b.toInt) (hn : n2.toInt = n.toInt + 1) : ER N I L M k d e n2 b2 := by
  have h1 := h.1
  have h2 := h.2.1
  refine ⟨by omega, by omega, fun s p' h3 h4 h5 h6 => ?_⟩
  by_cases hs : s.toInt = n.toInt
  · have : s = n := Int32.toInt_inj.mp hs
    rw [this, hp] at h5
    exact absurd (Option.some.inj h5 ▸ h6) hne
  · rw [hb]
    exact h.2.2 s p' h3 (by omega) h5 h6
set_option maxHeartbeats 4000000 in
theorem tt_fX12_errors_L187 {N : Nat} (hN : 3000000000 ≤ N) (x1 : Int32) (x2 : Int32) (x3 : Int32) (x4 : Int32) (r4 : Int32) (v7 : Int32) (y145_8 : Int32) (y90_6 : Int32) (g51 : (Nat → Int32) → Int64 → (Nat → Nat → Int32) → Int32 → Option (Int32 × (Nat → Int32) × Int64 × (Nat → Nat → Int32))) (g90 : (Nat → Int32) → Int64 → (Nat → Nat → Int32) → Int32 → Int32 → Option (Int32 × (Nat → Int32) × Int64 × (Nat → Nat → Int32))) (g145 : (Nat → Int32) → Int64 → (Nat → Nat → Int32) → Int32 → Int32 → Option (Int32 × (Nat → Int32) × Int64 × (Nat → Nat → Int32))) (h_x1 : 0 ≤ x1.toInt ∧ x1.toInt ≤ 5) (h_x2 : 0 ≤ x2.toInt ∧ x2.toInt ≤ 19) (h_x3 : 0 ≤ x3.toInt ∧ x3.toInt ≤ 1000000) (h_x4 : 0 ≤ x4.toInt ∧ x4.toInt ≤ 10) (h_r4 : 0 ≤ r4.toInt ∧ r4.toInt ≤ 359) (h_y90_6 : 0 ≤ y90_6.toInt ∧ y90_6.toInt ≤ 6) (hg90 : ∀ (q0 : (Nat → Int32)) (q1 : Int64) (q2 : (Nat → Nat → Int32)) (q3 : Int32) (q4 : Int32), (0 ≤ q4.toInt ∧ q4.toInt ≤ 7) → (KX12 q0 q2) → (y90_6.toInt < q4.toInt) → wq (g90 q0 q1 q2 q3 q4) (fun r => KX12 r.2.1 r.2.2.2 ∧ True)) : ∀ (fu : Nat) (I0_l187 : (Nat → Int32)) (L0_l187 : Int64) (M0_l187 : (Nat → Nat → Int32)) (y187_9 : Int32), (1 ≤ y187_9.toInt ∧ y187_9.toInt ≤ 4) → (KX12 I0_l187 M0_l187) → ER N I0_l187 L0_l187 M0_l187 y90_6 x3 r4 (4 : Int32) y145_8 → (4 - y187_9.toInt) < (fu : Int) → wq (fX12_errors_L187 N x1 x2 x3 x4 r4 v7 y145_8 y90_6 g51 g90 g145 fu I0_l187 L0_l187 M0_l187 y187_9) (fun r => KX12 r.2.1 r.2.2.2 ∧ True) := by
  intro fu
  induction fu with
  | zero => intro I0_l187 L0_l187 M0_l187 y187_9 h_y187_9 k_I0_l187 hE hm; exfalso; omega
  | succ fu ih =>
    intro I0_l187 L0_l187 M0_l187 y187_9 h_y187_9 k_I0_l187 hE hm
    rw [fX12_errors_L187.eq_2]
    have l_4 := il_4
    refine wq_le (fun hc_38583 => ?_) (fun hc_38584 => ?_)
    · have l_1 := il_1
      have t_38586 := ia_add y90_6 (1 : Int32) (by omega) (by omega)
      refine wq_v (fun v11_q38585 h_v11_q38585 => ?_)
      have t_v11_q38585 := congrArg Int32.toInt h_v11_q38585
      have b_38587 := i32b v7
      exact hg90 I0_l187 L0_l187 M0_l187 v7 v11_q38585 ⟨by omega, by omega⟩ k_I0_l187 (by omega)
    · refine wq_be (tt_fX12_placeOn hN I0_l187 L0_l187 M0_l187 y187_9 y90_6 x3 ⟨by omega, by omega⟩ ⟨by omega, by omega⟩ k_I0_l187) (fun r12_q38588 hpl h_r12_q38588 => ?_)
      obtain ⟨-⟩ := h_r12_q38588
      have b_38589 := i32b r12_q38588
      have l_60 := il_60
      have t_38590 := i32b r12_q38588
      have t_38591 := ia_div2 r12_q38588 (60 : Int32) 60 il_60 (by decide)
      refine wq_eq (fun hc_38592 => ?_) (fun hc_38593 => ?_)
      · refine wq_in (n := 4) ⟨by omega, by omega⟩ ?_
        refine wq_in (n := 4) ⟨by omega, by omega⟩ ?_
        refine wq_v (fun M0_13_q38594 h_M0_13_q38594 => ?_)
        have k_M0_13_q38594 : KX12 I0_l187 M0_13_q38594 := by rw [h_M0_13_q38594]; exact KX12.sm20 k_I0_l187
        refine wq_in (n := 4) ⟨by omega, by omega⟩ ?_
        have b_38595 := i32b y145_8
        have l_1 := il_1
        refine wq_eq (fun hc_38596 => ?_) (fun hc_38597 => ?_)
        · unfold fX12_errors_J243
          refine wq_in (n := 4) ⟨by omega, by omega⟩ ?_
          refine wq_v (fun M0_8_q38598 h_M0_8_q38598 => ?_)
          have k_M0_8_q38598 : KX12 I0_l187 M0_8_q38598 := by rw [h_M0_8_q38598]; exact KX12.sm21 k_M0_13_q38594
          refine wq_in (n := 4) ⟨by omega, by omega⟩ ?_
          refine wq_nz (by have hb := hE.2.2 _ _ (by omega) (by omega) hpl hc_38592; omega) ?_
          refine wq_in (n := 4) ⟨by omega, by omega⟩ ?_
          refine wq_v (fun M0_9_q38599 h_M0_9_q38599 => ?_)
          have k_M0_9_q38599 : KX12 I0_l187 M0_9_q38599 := by rw [h_M0_9_q38599]; exact KX12.sm22 k_M0_8_q38598
          have t_38601 := ia_add y187_9 (1 : Int32) (by omega) (by omega)
          refine wq_v (fun v10_q38600 h_v10_q38600 => ?_)
          have t_v10_q38600 := congrArg Int32.toInt h_v10_q38600
          exact ih I0_l187 L0_l187 M0_9_q38599 v10_q38600 ⟨by omega, by omega⟩ k_M0_9_q38599 (by rw [h_M0_9_q38599, h_M0_8_q38598, h_M0_13_q38594]; exact ER_um (by decide) (ER_um (by decide) (ER_um (by decide) hE))) (by omega)
        · unfold fX12_errors_J243
          refine wq_in (n := 4) ⟨by omega, by omega⟩ ?_
          refine wq_v (fun M0_8_q38602 h_M0_8_q38602 => ?_)
          have k_M0_8_q38602 : KX12 I0_l187 M0_8_q38602 := by rw [h_M0_8_q38602]; exact KX12.sm21 k_M0_13_q38594
          refine wq_in (n := 4) ⟨by omega, by omega⟩ ?_
          refine wq_nz (by have hb := hE.2.2 _ _ (by omega) (by omega) hpl hc_38592; omega) ?_
          refine wq_in (n := 4) ⟨by omega, by omega⟩ ?_
          refine wq_v (fun M0_9_q38603 h_M0_9_q38603 => ?_)
          have k_M0_9_q38603 : KX12 I0_l187 M0_9_q38603 := by rw [h_M0_9_q38603]; exact KX12.sm22 k_M0_8_q38602
          have t_38605 := ia_add y187_9 (1 : Int32) (by omega) (by omega)
          refine wq_v (fun v10_q38604 h_v10_q38604 => ?_)
          have t_v10_q38604 := congrArg Int32.toInt h_v10_q38604
          exact ih I0_l187 L0_l187 M0_9_q38603 v10_q38604 ⟨by omega, by omega⟩ k_M0_9_q38603 (by rw [h_M0_9_q38603, h_M0_8_q38602, h_M0_13_q38594]; exact ER_um (by decide) (ER_um (by decide) (ER_um (by decide) hE))) (by omega)
      · have l_1 := il_1
        have t_38607 := ia_add y187_9 (1 : Int32) (by omega) (by omega)
        refine wq_v (fun v14_q38606 h_v14_q38606 => ?_)
        have t_v14_q38606 := congrArg Int32.toInt h_v14_q38606
        exact ih I0_l187 L0_l187 M0_l187 v14_q38606 ⟨by omega, by omega⟩ k_I0_l187 hE (by omega)
set_option maxHeartbeats 4000000 in
theorem tt_fX12_errors_L145 {N : Nat} (hN : 3000000000 ≤ N) (x1 : Int32) (x2 : Int32) (x3 : Int32) (x4 : Int32) (r4 : Int32) (v7 : Int32) (y90_6 : Int32) (g51 : (Nat → Int32) → Int64 → (Nat → Nat → Int32) → Int32 → Option (Int32 × (Nat → Int32) × Int64 × (Nat → Nat → Int32))) (g90 : (Nat → Int32) → Int64 → (Nat → Nat → Int32) → Int32 → Int32 → Option (Int32 × (Nat → Int32) × Int64 × (Nat → Nat → Int32))) (h_x1 : 0 ≤ x1.toInt ∧ x1.toInt ≤ 5) (h_x2 : 0 ≤ x2.toInt ∧ x2.toInt ≤ 19) (h_x3 : 0 ≤ x3.toInt ∧ x3.toInt ≤ 1000000) (h_x4 : 0 ≤ x4.toInt ∧ x4.toInt ≤ 10) (h_r4 : 0 ≤ r4.toInt ∧ r4.toInt ≤ 359) (h_y90_6 : 0 ≤ y90_6.toInt ∧ y90_6.toInt ≤ 6) (hg90 : ∀ (q0 : (Nat → Int32)) (q1 : Int64) (q2 : (Nat → Nat → Int32)) (q3 : Int32) (q4 : Int32), (0 ≤ q4.toInt ∧ q4.toInt ≤ 7) → (KX12 q0 q2) → (y90_6.toInt < q4.toInt) → wq (g90 q0 q1 q2 q3 q4) (fun r => KX12 r.2.1 r.2.2.2 ∧ True)) : ∀ (fu : Nat) (I0_l145 : (Nat → Int32)) (L0_l145 : Int64) (M0_l145 : (Nat → Nat → Int32)) (y145_8 : Int32) (y145_9 : Int32), (1 ≤ y145_9.toInt ∧ y145_9.toInt ≤ 4) → (KX12 I0_l145 M0_l145) → ER N I0_l145 L0_l145 M0_l145 y90_6 x3 r4 y145_9 y145_8 → (4 - y145_9.toInt) < (fu : Int) → wq (fX12_errors_L145 N x1 x2 x3 x4 r4 v7 y90_6 g51 g90 fu I0_l145 L0_l145 M0_l145 y145_8 y145_9) (fun r => KX12 r.2.1 r.2.2.2 ∧ True) := by
  intro fu
  induction fu with
  | zero => intro I0_l145 L0_l145 M0_l145 y145_8 y145_9 h_y145_9 k_I0_l145 hE hm; exfalso; omega
  | succ fu ih =>
    intro I0_l145 L0_l145 M0_l145 y145_8 y145_9 h_y145_9 k_I0_l145 hE hm
    have hE1 := hE.1
    have hE2 := hE.2.1
    rw [fX12_errors_L145.eq_2]
    have l_4 := il_4
    refine wq_le (fun hc_38608 => ?_) (fun hc_38609 => ?_)
    · have b_38610 := i32b v7
      have b_38611 := i32b y145_8
      have l_1 := il_1
      exact tt_fX12_errors_L187 hN x1 x2 x3 x4 r4 v7 y145_8 y90_6 g51 g90 _ ⟨by omega, by omega⟩ ⟨by omega, by omega⟩ ⟨by omega, by omega⟩ ⟨by omega, by omega⟩ ⟨by omega, by omega⟩ ⟨by omega, by omega⟩ hg90 N I0_l145 L0_l145 M0_l145 (1 : Int32) ⟨by omega, by omega⟩ k_I0_l145 (ER_4 hE (by omega)) (by omega)
    · refine wq_be (tt_fX12_placeOn hN I0_l145 L0_l145 M0_l145 y145_9 y90_6 x3 ⟨by omega, by omega⟩ ⟨by omega, by omega⟩ k_I0_l145) (fun r15_q38612 hpl h_r15_q38612 => ?_)
      obtain ⟨-⟩ := h_r15_q38612
      have b_38613 := i32b r15_q38612
      have l_60 := il_60
      have t_38614 := i32b r15_q38612
      have t_38615 := ia_div2 r15_q38612 (60 : Int32) 60 il_60 (by decide)
      refine wq_eq (fun hc_38616 => ?_) (fun hc_38617 => ?_)
      · have b_38619 := i32b y145_8
        have l_1 := il_1
        refine wq_v (fun v18_q38618 h_v18_q38618 => ?_)
        have t_v18_q38618 := congrArg Int32.toInt h_v18_q38618
        have t_38621 := ia_add y145_9 (1 : Int32) (by omega) (by omega)
        refine wq_v (fun v19_q38620 h_v19_q38620 => ?_)
        have t_v19_q38620 := congrArg Int32.toInt h_v19_q38620
        have b_38622 := i32b v18_q38618
        have tby := ia_add y145_8 (1 : Int32) (by omega) (by omega)
        exact ih I0_l145 L0_l145 M0_l145 v18_q38618 v19_q38620 ⟨by omega, by omega⟩ k_I0_l145 (ER_y hE hpl hc_38616 (by omega) (by omega)) (by omega)
      · have b_38624 := i32b y145_8
        have l_0 := il_0
        have t_38625 := ia_add y145_8 (0 : Int32) (by omega) (by omega)
        refine wq_v (fun v16_q38623 h_v16_q38623 => ?_)
        have t_v16_q38623 := congrArg Int32.toInt h_v16_q38623
        have l_1 := il_1
        have t_38627 := ia_add y145_9 (1 : Int32) (by omega) (by omega)
        refine wq_v (fun v17_q38626 h_v17_q38626 => ?_)
        have t_v17_q38626 := congrArg Int32.toInt h_v17_q38626
        have b_38628 := i32b v16_q38623
        exact ih I0_l145 L0_l145 M0_l145 v16_q38623 v17_q38626 ⟨by omega, by omega⟩ k_I0_l145 (ER_n hE hpl hc_38617 (by omega) (by omega)) (by omega)
set_option maxHeartbeats 4000000 in
theorem tt_fX12_errors_L90 {N : Nat} (hN : 3000000000 ≤ N) (x1 : Int32) (x2 : Int32) (x3 : Int32) (x4 : Int32) (g51 : (Nat → Int32) → Int64 → (Nat → Nat → Int32) → Int32 → Option (Int32 × (Nat → Int32) × Int64 × (Nat → Nat → Int32))) (h_x1 : 0 ≤ x1.toInt ∧ x1.toInt ≤ 5) (h_x2 : 0 ≤ x2.toInt ∧ x2.toInt ≤ 19) (h_x3 : 0 ≤ x3.toInt ∧ x3.toInt ≤ 1000000) (h_x4 : 0 ≤ x4.toInt ∧ x4.toInt ≤ 10)  : ∀ (fu : Nat) (I0_l90 : (Nat → Int32)) (L0_l90 : Int64) (M0_l90 : (Nat → Nat → Int32)) (y90_5 : Int32) (y90_6 : Int32), (0 ≤ y90_6.toInt ∧ y90_6.toInt ≤ 7) → (KX12 I0_l90 M0_l90) → (7 - y90_6.toInt) < (fu : Int) → wq (fX12_errors_L90 N x1 x2 x3 x4 g51 fu I0_l90 L0_l90 M0_l90 y90_5 y90_6) (fun r => KX12 r.2.1 r.2.2.2 ∧ True) := by
  intro fu
  induction fu with
  | zero => intro I0_l90 L0_l90 M0_l90 y90_5 y90_6 h_y90_6 k_I0_l90 hm; exfalso; omega
  | succ fu ih =>
    intro I0_l90 L0_l90 M0_l90 y90_5 y90_6 h_y90_6 k_I0_l90 hm
    rw [fX12_errors_L90.eq_2]
    have l_7 := il_7
    refine wq_le (fun hc_38629 => ?_) (fun hc_38630 => ?_)
    · have l_0 := il_0
      refine wq_eq (fun hc_38631 => ?_) (fun hc_38632 => ?_)
      · have b_38633 := i32b y90_5
        exact wq_s ⟨k_I0_l90, trivial⟩
      · have l_1 := il_1
        refine wq_le (fun hc_38634 => ?_) (fun hc_38635 => ?_)
        · have l_2 := il_2
          exact tt_fX12_errors_L340 hN x1 x2 x3 x4 g51 _ ⟨by omega, by omega⟩ ⟨by omega, by omega⟩ ⟨by omega, by omega⟩ ⟨by omega, by omega⟩ N I0_l90 L0_l90 M0_l90 (1 : Int32) (2 : Int32) ⟨by omega, by omega⟩ ⟨by omega, by omega⟩ k_I0_l90 (by omega)
        · have l_5 := il_5
          refine wq_le (fun hc_38636 => ?_) (fun hc_38637 => ?_)
          · have l_8 := il_8
            refine wq_le (fun hc_38638 => ?_) (fun hc_38639 => ?_)
            · have t_38640 := ia_sub x4 (7 : Int32) (by omega) (by omega)
              refine wq_in (n := 4) ⟨by omega, by omega⟩ ?_
              exact wq_s ⟨k_I0_l90, trivial⟩
            · have l_4 := il_4
              have t_38641 := ia_sub x4 (4 : Int32) (by omega) (by omega)
              refine wq_in (n := 4) ⟨by omega, by omega⟩ ?_
              exact wq_s ⟨k_I0_l90, trivial⟩
          · have t_38642 := ia_sub x4 (1 : Int32) (by omega) (by omega)
            refine wq_in (n := 4) ⟨by omega, by omega⟩ ?_
            exact wq_s ⟨k_I0_l90, trivial⟩
    · have l_20 := il_20
      have t_38643 := ia_mul (20 : Int32) (20) il_20 x1 (by omega) (by omega)
      have t_38644 := ia_add ((20 : Int32) * x1) x2 (by omega) (by omega)
      refine wq_b (tt_fX12_at hN I0_l90 L0_l90 M0_l90 (((20 : Int32) * x1) + x2) y90_6 ⟨by omega, by omega⟩ ⟨by omega, by omega⟩ k_I0_l90) (fun r4_q38645 h_r4_q38645 => ?_)
      obtain ⟨h_r4_q38645_0, h_r4_q38645_1, h_r4_q38645_2, -⟩ := h_r4_q38645
      have l_m1 := il_m1
      refine wq_eq (fun hc_38646 => ?_) (fun hc_38647 => ?_)
      · have l_1 := il_1
        have t_38649 := ia_add y90_6 (1 : Int32) (by omega) (by omega)
        refine wq_v (fun v5_q38648 h_v5_q38648 => ?_)
        have t_v5_q38648 := congrArg Int32.toInt h_v5_q38648
        have b_38650 := i32b y90_5
        exact ih I0_l90 L0_l90 M0_l90 y90_5 v5_q38648 ⟨by omega, by omega⟩ k_I0_l90 (by omega)
      · have l_0 := il_0
        refine wq_b (tt_fX12_placeOn hN I0_l90 L0_l90 M0_l90 (0 : Int32) y90_6 x3 ⟨by omega, by omega⟩ ⟨by omega, by omega⟩ k_I0_l90) (fun r6_q38651 h_r6_q38651 => ?_)
        obtain ⟨-⟩ := h_r6_q38651
        have b_38652 := i32b r6_q38651
        have l_60 := il_60
        have t_38653 := i32b r6_q38651
        have t_38654 := ia_div2 r6_q38651 (60 : Int32) 60 il_60 (by decide)
        refine wq_eq (fun hc_38655 => ?_) (fun hc_38656 => ?_)
        · have l_1 := il_1
          have t_38658 := ia_add y90_6 (1 : Int32) (by omega) (by omega)
          refine wq_v (fun v20_q38657 h_v20_q38657 => ?_)
          have t_v20_q38657 := congrArg Int32.toInt h_v20_q38657
          have b_38659 := i32b y90_5
          exact ih I0_l90 L0_l90 M0_l90 y90_5 v20_q38657 ⟨by omega, by omega⟩ k_I0_l90 (by omega)
        · have b_38661 := i32b y90_5
          have l_1 := il_1
          refine wq_v (fun v7_q38660 h_v7_q38660 => ?_)
          have t_v7_q38660 := congrArg Int32.toInt h_v7_q38660
          have b_38662 := i32b v7_q38660
          exact tt_fX12_errors_L145 hN x1 x2 x3 x4 r4_q38645 v7_q38660 y90_6 g51 _ ⟨by omega, by omega⟩ ⟨by omega, by omega⟩ ⟨by omega, by omega⟩ ⟨by omega, by omega⟩ ⟨by omega, by omega⟩ ⟨by omega, by omega⟩ (fun q0 q1 q2 q3 q4 hq0 hq1 hq2 => ih q0 q1 q2 q3 q4 hq0 hq1 (by omega)) N I0_l90 L0_l90 M0_l90 (0 : Int32) (1 : Int32) ⟨by omega, by omega⟩ k_I0_l90 ER_0 (by omega)
set_option maxHeartbeats 4000000 in
theorem tt_fX12_errors_L51 {N : Nat} (hN : 3000000000 ≤ N) (x1 : Int32) (x2 : Int32) (x3 : Int32) (x4 : Int32) (h_x1 : 0 ≤ x1.toInt ∧ x1.toInt ≤ 5) (h_x2 : 0 ≤ x2.toInt ∧ x2.toInt ≤ 19) (h_x3 : 0 ≤ x3.toInt ∧ x3.toInt ≤ 1000000) (h_x4 : 0 ≤ x4.toInt ∧ x4.toInt ≤ 10)  : ∀ (fu : Nat) (I0_l51 : (Nat → Int32)) (L0_l51 : Int64) (M0_l51 : (Nat → Nat → Int32)) (y51_6 : Int32), (1 ≤ y51_6.toInt ∧ y51_6.toInt ≤ 4) → (KX12 I0_l51 M0_l51) → (4 - y51_6.toInt) < (fu : Int) → wq (fX12_errors_L51 N x1 x2 x3 x4 fu I0_l51 L0_l51 M0_l51 y51_6) (fun r => KX12 r.2.1 r.2.2.2 ∧ True) := by
  intro fu
  induction fu with
  | zero => intro I0_l51 L0_l51 M0_l51 y51_6 h_y51_6 k_I0_l51 hm; exfalso; omega
  | succ fu ih =>
    intro I0_l51 L0_l51 M0_l51 y51_6 h_y51_6 k_I0_l51 hm
    rw [fX12_errors_L51.eq_2]
    have l_4 := il_4
    refine wq_le (fun hc_38663 => ?_) (fun hc_38664 => ?_)
    · have l_0 := il_0
      exact tt_fX12_errors_L90 hN x1 x2 x3 x4 _ ⟨by omega, by omega⟩ ⟨by omega, by omega⟩ ⟨by omega, by omega⟩ ⟨by omega, by omega⟩ N I0_l51 L0_l51 M0_l51 (0 : Int32) (0 : Int32) ⟨by omega, by omega⟩ k_I0_l51 (by omega)
    · refine wq_in (n := 4) ⟨by omega, by omega⟩ ?_
      refine wq_v (fun M0_21_q38665 h_M0_21_q38665 => ?_)
      have k_M0_21_q38665 : KX12 I0_l51 M0_21_q38665 := by rw [h_M0_21_q38665]; exact KX12.sm20 k_I0_l51
      refine wq_in (n := 4) ⟨by omega, by omega⟩ ?_
      refine wq_v (fun M0_22_q38666 h_M0_22_q38666 => ?_)
      have k_M0_22_q38666 : KX12 I0_l51 M0_22_q38666 := by rw [h_M0_22_q38666]; exact KX12.sm21 k_M0_21_q38665
      refine wq_in (n := 4) ⟨by omega, by omega⟩ ?_
      refine wq_v (fun M0_23_q38667 h_M0_23_q38667 => ?_)
      have k_M0_23_q38667 : KX12 I0_l51 M0_23_q38667 := by rw [h_M0_23_q38667]; exact KX12.sm22 k_M0_22_q38666
      have l_1 := il_1
      have t_38669 := ia_add y51_6 (1 : Int32) (by omega) (by omega)
      refine wq_v (fun v24_q38668 h_v24_q38668 => ?_)
      have t_v24_q38668 := congrArg Int32.toInt h_v24_q38668
      exact ih I0_l51 L0_l51 M0_23_q38667 v24_q38668 ⟨by omega, by omega⟩ k_M0_23_q38667 (by omega)
set_option maxHeartbeats 4000000 in
theorem tt_fX12_errors {N : Nat} (hN : 3000000000 ≤ N) (I0 : Nat → Int32) (L0 : Int64) (M0 : Nat → Nat → Int32) (x1 : Int32) (x2 : Int32) (x3 : Int32) (x4 : Int32) (k_I0 : KX12 I0 M0) : wq (fX12_errors N I0 L0 M0 x1 x2 x3 x4) (fun r => KX12 r.2.1 r.2.2.2 ∧ True) := by
  unfold fX12_errors
  have b_38670 := i32b x1
  have b_38671 := i32b x2
  refine wq_b (tt_fX12_isWheel hN I0 L0 M0 x1 x2 k_I0) (fun r25_q38672 h_r25_q38672 => ?_)
  obtain ⟨h_r25_q38672_0, h_r25_q38672_1, h_r25_q38672_2, h_r25_q38672_3, -⟩ := h_r25_q38672
  have t_38673 := KX12.i1 h_r25_q38672_3
  have t_38674 := KX12.i1 k_I0
  have l_0 := il_0
  refine wq_eq (fun hc_38675 => ?_) (fun hc_38676 => ?_)
  · exact wq_s ⟨h_r25_q38672_3, trivial⟩
  · have b_38677 := i32b x3
    have l_1000000 := il_1000000
    refine wq_b (tt_fX12_within hN x3 (0 : Int32) (1000000 : Int32)) (fun r26_q38678 h_r26_q38678 => ?_)
    obtain ⟨h_r26_q38678_0, h_r26_q38678_1, -⟩ := h_r26_q38678
    refine wq_eq (fun hc_38679 => ?_) (fun hc_38680 => ?_)
    · unfold fX12_errors_J35
      unfold fX12_errors_J36
      have l_1 := il_1
      refine wq_b (tt_fX12_right hN r25_q38672.2.1 r25_q38672.2.2.1 r25_q38672.2.2.2 (0 : Int32) (1 : Int32) ⟨by omega, by omega⟩ h_r25_q38672_3) (fun r1_q38681 h_r1_q38681 => ?_)
      obtain ⟨h_r1_q38681_0, h_r1_q38681_1, h_r1_q38681_2, h_r1_q38681_3, -⟩ := h_r1_q38681
      have t_38682 := KX12.i1 h_r1_q38681_3
      refine wq_eq (fun hc_38683 => ?_) (fun hc_38684 => ?_)
      · exact wq_s ⟨h_r1_q38681_3, trivial⟩
      · have b_38685 := i32b x4
        exact tt_fX12_errors_L51 hN x1 x2 x3 x4 ⟨by omega, by omega⟩ ⟨by omega, by omega⟩ ⟨by omega, by omega⟩ ⟨by omega, by omega⟩ N r1_q38681.2.1 r1_q38681.2.2.1 r1_q38681.2.2.2 (1 : Int32) ⟨by omega, by omega⟩ h_r1_q38681_3 (by omega)
    · have b_38686 := i32b x4
      have l_10 := il_10
      refine wq_b (tt_fX12_within hN x4 (0 : Int32) (10 : Int32)) (fun r27_q38687 h_r27_q38687 => ?_)
      obtain ⟨h_r27_q38687_0, h_r27_q38687_1, -⟩ := h_r27_q38687
      refine wq_eq (fun hc_38688 => ?_) (fun hc_38689 => ?_)
      · unfold fX12_errors_J35
        unfold fX12_errors_J36
        have l_1 := il_1
        refine wq_b (tt_fX12_right hN r25_q38672.2.1 r25_q38672.2.2.1 r25_q38672.2.2.2 (0 : Int32) (1 : Int32) ⟨by omega, by omega⟩ h_r25_q38672_3) (fun r1_q38690 h_r1_q38690 => ?_)
        obtain ⟨h_r1_q38690_0, h_r1_q38690_1, h_r1_q38690_2, h_r1_q38690_3, -⟩ := h_r1_q38690
        have t_38691 := KX12.i1 h_r1_q38690_3
        refine wq_eq (fun hc_38692 => ?_) (fun hc_38693 => ?_)
        · exact wq_s ⟨h_r1_q38690_3, trivial⟩
        · exact tt_fX12_errors_L51 hN x1 x2 x3 x4 ⟨by omega, by omega⟩ ⟨by omega, by omega⟩ ⟨by omega, by omega⟩ ⟨by omega, by omega⟩ N r1_q38690.2.1 r1_q38690.2.2.1 r1_q38690.2.2.2 (1 : Int32) ⟨by omega, by omega⟩ h_r1_q38690_3 (by omega)
      · unfold fX12_errors_J36
        have l_1 := il_1
        refine wq_b (tt_fX12_right hN r25_q38672.2.1 r25_q38672.2.2.1 r25_q38672.2.2.2 (1 : Int32) (1 : Int32) ⟨by omega, by omega⟩ h_r25_q38672_3) (fun r1_q38694 h_r1_q38694 => ?_)
        obtain ⟨h_r1_q38694_0, h_r1_q38694_1, h_r1_q38694_2, h_r1_q38694_3, -⟩ := h_r1_q38694
        have t_38695 := KX12.i1 h_r1_q38694_3
        refine wq_eq (fun hc_38696 => ?_) (fun hc_38697 => ?_)
        · exact wq_s ⟨h_r1_q38694_3, trivial⟩
        · exact tt_fX12_errors_L51 hN x1 x2 x3 x4 ⟨by omega, by omega⟩ ⟨by omega, by omega⟩ ⟨by omega, by omega⟩ ⟨by omega, by omega⟩ N r1_q38694.2.1 r1_q38694.2.2.1 r1_q38694.2.2.2 (1 : Int32) ⟨by omega, by omega⟩ h_r1_q38694_3 (by omega)
set_option maxHeartbeats 4000000 in
theorem tt_fX12_climbOf_L5 {N : Nat} (hN : 3000000000 ≤ N) (I0 : Nat → Int32) (L0 : Int64) (M0 : Nat → Nat → Int32) (x1 : Int32) (x2 : Int32) (h_x1 : 0 ≤ x1.toInt ∧ x1.toInt ≤ 6) (h_x2 : -60 ≤ x2.toInt ∧ x2.toInt ≤ 21599) (k_I0 : KX12 I0 M0)  : ∀ (fu : Nat) (y5_3 : Int32) (y5_4 : Int32), (0 ≤ y5_4.toInt ∧ y5_4.toInt ≤ 11) → (11 - y5_4.toInt) < (fu : Int) → wq (fX12_climbOf_L5 N I0 L0 M0 x1 x2 fu y5_3 y5_4) (fun r => True) := by
  intro fu
  induction fu with
  | zero => intro y5_3 y5_4 h_y5_4 hm; exfalso; omega
  | succ fu ih =>
    intro y5_3 y5_4 h_y5_4 hm
    rw [fX12_climbOf_L5.eq_2]
    have l_1800 := il_1800
    have t_38841 := ia_div2 x2 (1800 : Int32) 1800 il_1800 (by decide)
    refine wq_le (fun hc_38842 => ?_) (fun hc_38843 => ?_)
    · have l_12 := il_12
      have t_38844 := ia_mul (12 : Int32) (12) il_12 x1 (by omega) (by omega)
      have t_38845 := ia_add ((12 : Int32) * x1) (x2 / (1800 : Int32)) (by omega) (by omega)
      refine wq_in (n := 84) ⟨by omega, by omega⟩ ?_
      have b_38846 := i32b y5_3
      exact wq_s trivial
    · have l_12 := il_12
      have t_38847 := ia_mul (12 : Int32) (12) il_12 x1 (by omega) (by omega)
      have t_38848 := ia_add ((12 : Int32) * x1) y5_4 (by omega) (by omega)
      refine wq_in (n := 84) ⟨by omega, by omega⟩ ?_
      have b_38850 := i32b y5_3
      refine wq_v (fun v1_q38849 h_v1_q38849 => ?_)
      have t_v1_q38849 := congrArg Int32.toInt h_v1_q38849
      have l_1 := il_1
      have t_38852 := ia_add y5_4 (1 : Int32) (by omega) (by omega)
      refine wq_v (fun v2_q38851 h_v2_q38851 => ?_)
      have t_v2_q38851 := congrArg Int32.toInt h_v2_q38851
      have b_38853 := i32b v1_q38849
      exact ih v1_q38849 v2_q38851 ⟨by omega, by omega⟩ (by omega)
set_option maxHeartbeats 4000000 in
theorem tt_fX12_climbOf {N : Nat} (hN : 3000000000 ≤ N) (I0 : Nat → Int32) (L0 : Int64) (M0 : Nat → Nat → Int32) (x1 : Int32) (x2 : Int32) (h_x1 : 0 ≤ x1.toInt ∧ x1.toInt ≤ 6) (h_x2 : -60 ≤ x2.toInt ∧ x2.toInt ≤ 21599) (k_I0 : KX12 I0 M0) : wq (fX12_climbOf N I0 L0 M0 x1 x2) (fun r => True) := by
  unfold fX12_climbOf
  have l_0 := il_0
  exact tt_fX12_climbOf_L5 hN I0 L0 M0 x1 x2 ⟨by omega, by omega⟩ ⟨by omega, by omega⟩ k_I0 N (0 : Int32) (0 : Int32) ⟨by omega, by omega⟩ (by omega)
theorem sm_nn (f : Nat → Int32) (a : Nat) (n : Nat) (h : ∀ z : Nat, z < n → 1 ≤ (f (a + z)).toInt) : ∀ m : Nat, m ≤ n → (m : Int) ≤ sm f a m ∧ sm f a m + ((n - m : Nat) : Int) ≤ sm f a n := by
  intro m hm
  constructor
  · induction m with
    | zero => simp [sm]
    | succ m ih => have := ih (by omega); have := h m (by omega); simp only [sm]; omega
  · have key : ∀ d : Nat, m + d ≤ n → sm f a m + (d : Int) ≤ sm f a (m + d) := by
      intro d
      induction d with
      | zero => intro _; simp
      | succ d ih => intro hd; have := ih (by omega); have := h (m + d) (by omega); show _ ≤ sm f a (m + d) + (f (a + (m + d))).toInt; omega
    have := key (n - m) (by omega)
    have e : m + (n - m) = n := by omega
    rw [e] at this
    exact this
theorem tt_fX12_placeOf_L5 {N : Nat} (I0 : Nat → Int32) (L0 : Int64) (M0 : Nat → Nat → Int32) (x1 x2 : Int32) (c : Nat) (hc : c ≤ 6) (hx : x1 = nI c) (hv : RV (M0 4) c) : ∀ (fu : Nat) (s : Nat) (left : Int32), s ≤ 11 → left.toInt + 1800 * sm (M0 4) (12 * c) s < 6480000 → 12 - s < fu → wq (fX12_placeOf_L5 N I0 L0 M0 x1 x2 fu left (nI s)) (fun r => True) := by
  intro fu
  induction fu with
  | zero => intro s left h1 h2 h3; omega
  | succ fu ih =>
    intro s left h1 h2 h3
    subst hx
    have e12 : (12 : Int32) * nI c + nI s = nI (12 * c + s) := by rw [show (12 : Int32) = nI 12 from rfl, pk_mul, nI_add]
    have hr := hv.1 s (by omega)
    have l18 : (1800 : Int32).toInt = 1800 := by decide
    rw [fX12_placeOf_L5.eq_2, e12]
    have hin : ¬ (nI (12 * c + s) < 0 ∨ 84 ≤ (nI (12 * c + s)).toNatClampNeg) := wp_in (by omega) (by decide)
    rw [if_neg hin, nI_clamp (by omega)]
    rw [nI_clamp (by omega)] at hin
    have tm := ia_mul (1800 : Int32) 1800 l18 (M0 4 (12 * c + s)) (by omega) (by omega)
    refine wq_lt (fun hq => ?_) (fun hq => ?_)
    · rw [if_neg hin]
      exact wq_nz (by omega) (wq_s trivial)
    · rw [if_neg hin]
      have hs := sm_nn (M0 4) (12 * c) 12 (fun z hz => (hv.1 z hz).1)
      have ts := ia_sub left ((1800 : Int32) * M0 4 (12 * c + s)) (by omega) (by have := Int32.toInt_lt left; omega)
      refine wq_v (fun v ev => ?_)
      have tv := congrArg Int32.toInt ev
      refine wq_v (fun w ew => ?_)
      rw [ew, nI_1]
      have es : sm (M0 4) (12 * c) (s + 1) = sm (M0 4) (12 * c) s + (M0 4 (12 * c + s)).toInt := rfl
      have hsum := hv.2
      refine ih (s + 1) v ?_ (by omega) (by omega)
      rcases Nat.lt_or_ge s 11 with q | q
      · omega
      · exfalso
        have e11 : s = 11 := by omega
        subst e11
        have e2 : sm (M0 4) (12 * c) 12 = sm (M0 4) (12 * c) 11 + (M0 4 (12 * c + 11)).toInt := rfl
        omega
theorem tt_fX12_placeOf {N : Nat} (hN : 3000000000 ≤ N) (I0 : Nat → Int32) (L0 : Int64) (M0 : Nat → Nat → Int32) (x1 : Int32) (x2 : Int32) (h_x1 : 0 ≤ x1.toInt ∧ x1.toInt ≤ 6) (k_I0 : KX12 I0 M0) (hr_2 : x1.toInt < (I0 1).toInt) (hr_3 : x2.toInt < 6480000) : wq (fX12_placeOf N I0 L0 M0 x1 x2) (fun r => True) := by
  unfold fX12_placeOf
  have h0 : 0 ≤ x1.toInt := h_x1.1
  have ex : x1 = nI x1.toInt.toNat := by
    apply Int32.toInt_inj.mp
    rw [nI_toInt (by omega)]
    omega
  have hv := k_I0.er1 x1.toInt.toNat (by omega)
  exact tt_fX12_placeOf_L5 I0 L0 M0 x1 x2 x1.toInt.toNat (by omega) ex hv N 0 x2 (by omega) (by simp only [sm]; omega) (by omega)
set_option maxHeartbeats 4000000 in
theorem tt_fX12_isClimate {N : Nat} (hN : 3000000000 ≤ N) (I0 : Nat → Int32) (L0 : Int64) (M0 : Nat → Nat → Int32) (x1 : Int32) (x2 : Int32) (k_I0 : KX12 I0 M0) : wq (fX12_isClimate N I0 L0 M0 x1 x2) (fun r => (r.1.toInt = 0 ∨ (r.1.toInt = 1 ∧ 0 ≤ x1.toInt ∧ x1.toInt ≤ 6 ∧ x1.toInt < (r.2.1 1).toInt ∧ 0 ≤ x2.toInt ∧ x2.toInt ≤ 21599)) ∧ (r.2.1 1).toInt = (I0 1).toInt ∧ (0 ≤ r.1.toInt ∧ r.1.toInt ≤ 1) ∧ KX12 r.2.1 r.2.2.2 ∧ True) := by
  unfold fX12_isClimate
  have b_38968 := i32b x1
  have l_0 := il_0
  refine wq_lt (fun hc_38969 => ?_) (fun hc_38970 => ?_)
  · have l_1 := il_1
    refine wq_b (tt_fX12_right hN I0 L0 M0 (0 : Int32) (1 : Int32) ⟨by omega, by omega⟩ k_I0) (fun r1_q38971 h_r1_q38971 => ?_)
    obtain ⟨h_r1_q38971_0, h_r1_q38971_1, h_r1_q38971_2, h_r1_q38971_3, -⟩ := h_r1_q38971
    have t_38972 := KX12.i1 h_r1_q38971_3
    have t_38973 := KX12.i1 k_I0
    refine wq_bz (by omega) ?_
    have b_38974 := i32b x2
    exact wq_s ⟨(show (r1_q38971.1.toInt = 0 ∨ (r1_q38971.1.toInt = 1 ∧ 0 ≤ x1.toInt ∧ x1.toInt ≤ 6 ∧ x1.toInt < (r1_q38971.2.1 1).toInt ∧ 0 ≤ x2.toInt ∧ x2.toInt ≤ 21599)) from by omega), (show (r1_q38971.2.1 1).toInt = (I0 1).toInt from by omega), (show 0 ≤ r1_q38971.1.toInt ∧ r1_q38971.1.toInt ≤ 1 from ⟨by omega, by omega⟩), h_r1_q38971_3, trivial⟩
  · have t_38975 := KX12.i1 k_I0
    refine wq_le (fun hc_38976 => ?_) (fun hc_38977 => ?_)
    · have l_1 := il_1
      refine wq_b (tt_fX12_right hN I0 L0 M0 (0 : Int32) (1 : Int32) ⟨by omega, by omega⟩ k_I0) (fun r2_q38978 h_r2_q38978 => ?_)
      obtain ⟨h_r2_q38978_0, h_r2_q38978_1, h_r2_q38978_2, h_r2_q38978_3, -⟩ := h_r2_q38978
      have t_38979 := KX12.i1 h_r2_q38978_3
      refine wq_bz (by omega) ?_
      have b_38980 := i32b x2
      exact wq_s ⟨(show (r2_q38978.1.toInt = 0 ∨ (r2_q38978.1.toInt = 1 ∧ 0 ≤ x1.toInt ∧ x1.toInt ≤ 6 ∧ x1.toInt < (r2_q38978.2.1 1).toInt ∧ 0 ≤ x2.toInt ∧ x2.toInt ≤ 21599)) from by omega), (show (r2_q38978.2.1 1).toInt = (I0 1).toInt from by omega), (show 0 ≤ r2_q38978.1.toInt ∧ r2_q38978.1.toInt ≤ 1 from ⟨by omega, by omega⟩), h_r2_q38978_3, trivial⟩
    · have b_38981 := i32b x2
      have l_21599 := il_21599
      refine wq_b (tt_fX12_within hN x2 (0 : Int32) (21599 : Int32)) (fun r3_q38982 h_r3_q38982 => ?_)
      obtain ⟨h_r3_q38982_0, h_r3_q38982_1, -⟩ := h_r3_q38982
      refine wq_eq (fun hc_38983 => ?_) (fun hc_38984 => ?_)
      · have l_1 := il_1
        refine wq_b (tt_fX12_right hN I0 L0 M0 (0 : Int32) (1 : Int32) ⟨by omega, by omega⟩ k_I0) (fun r4_q38985 h_r4_q38985 => ?_)
        obtain ⟨h_r4_q38985_0, h_r4_q38985_1, h_r4_q38985_2, h_r4_q38985_3, -⟩ := h_r4_q38985
        have t_38986 := KX12.i1 h_r4_q38985_3
        refine wq_bz (by omega) ?_
        exact wq_s ⟨(show (r4_q38985.1.toInt = 0 ∨ (r4_q38985.1.toInt = 1 ∧ 0 ≤ x1.toInt ∧ x1.toInt ≤ 6 ∧ x1.toInt < (r4_q38985.2.1 1).toInt ∧ 0 ≤ x2.toInt ∧ x2.toInt ≤ 21599)) from by omega), (show (r4_q38985.2.1 1).toInt = (I0 1).toInt from by omega), (show 0 ≤ r4_q38985.1.toInt ∧ r4_q38985.1.toInt ≤ 1 from ⟨by omega, by omega⟩), h_r4_q38985_3, trivial⟩
      · have l_1 := il_1
        refine wq_b (tt_fX12_right hN I0 L0 M0 (1 : Int32) (1 : Int32) ⟨by omega, by omega⟩ k_I0) (fun r5_q38987 h_r5_q38987 => ?_)
        obtain ⟨h_r5_q38987_0, h_r5_q38987_1, h_r5_q38987_2, h_r5_q38987_3, -⟩ := h_r5_q38987
        have t_38988 := KX12.i1 h_r5_q38987_3
        refine wq_bz (by omega) ?_
        exact wq_s ⟨(show (r5_q38987.1.toInt = 0 ∨ (r5_q38987.1.toInt = 1 ∧ 0 ≤ x1.toInt ∧ x1.toInt ≤ 6 ∧ x1.toInt < (r5_q38987.2.1 1).toInt ∧ 0 ≤ x2.toInt ∧ x2.toInt ≤ 21599)) from by omega), (show (r5_q38987.2.1 1).toInt = (I0 1).toInt from by omega), (show 0 ≤ r5_q38987.1.toInt ∧ r5_q38987.1.toInt ≤ 1 from ⟨by omega, by omega⟩), h_r5_q38987_3, trivial⟩
set_option maxHeartbeats 4000000 in
theorem tt_fX12_climb {N : Nat} (hN : 3000000000 ≤ N) (I0 : Nat → Int32) (L0 : Int64) (M0 : Nat → Nat → Int32) (x1 : Int32) (x2 : Int32) (k_I0 : KX12 I0 M0) : wq (fX12_climb N I0 L0 M0 x1 x2) (fun r => KX12 r.2.1 r.2.2.2 ∧ True) := by
  unfold fX12_climb
  refine wq_v (fun I0_1_q39055 h_I0_1_q39055 => ?_)
  have k_I0_1_q39055 : KX12 I0_1_q39055 M0 := by rw [h_I0_1_q39055]; exact KX12.si0 k_I0
  have b_39056 := i32b x1
  have b_39057 := i32b x2
  refine wq_b (tt_fX12_isClimate hN I0_1_q39055 L0 M0 x1 x2 k_I0_1_q39055) (fun r2_q39058 h_r2_q39058 => ?_)
  obtain ⟨h_r2_q39058_0, h_r2_q39058_1, h_r2_q39058_2, h_r2_q39058_3, -⟩ := h_r2_q39058
  have t_39059 := KX12.i1 h_r2_q39058_3
  have t_39060 := KX12.i1 k_I0
  have t_39061 : (I0_1_q39055 1).toInt = (I0 1).toInt := by rw [h_I0_1_q39055]; rfl
  have l_0 := il_0
  refine wq_eq (fun hc_39062 => ?_) (fun hc_39063 => ?_)
  · exact wq_s ⟨h_r2_q39058_3, trivial⟩
  · refine wq_b (tt_fX12_climbOf hN r2_q39058.2.1 r2_q39058.2.2.1 r2_q39058.2.2.2 x1 x2 ⟨by omega, by omega⟩ ⟨by omega, by omega⟩ h_r2_q39058_3) (fun r3_q39064 h_r3_q39064 => ?_)
    obtain ⟨-⟩ := h_r3_q39064
    have b_39065 := i32b r3_q39064
    exact wq_s ⟨h_r2_q39058_3, trivial⟩
set_option maxHeartbeats 4000000 in
theorem tt_fX12_riseOf {N : Nat} (hN : 3000000000 ≤ N) (I0 : Nat → Int32) (L0 : Int64) (M0 : Nat → Nat → Int32) (x1 : Int32) (x2 : Int32) (x3 : Int32) (h_x1 : 0 ≤ x1.toInt ∧ x1.toInt ≤ 6) (h_x2 : -60 ≤ x2.toInt ∧ x2.toInt ≤ 21599) (h_x3 : 0 ≤ x3.toInt ∧ x3.toInt ≤ 359) (k_I0 : KX12 I0 M0) (hr_4 : x1.toInt < (I0 1).toInt) : wq (fX12_riseOf N I0 L0 M0 x1 x2 x3) (fun r => True) := by
  unfold fX12_riseOf
  refine wq_b (tt_fX12_climbOf hN I0 L0 M0 x1 x2 ⟨by omega, by omega⟩ ⟨by omega, by omega⟩ k_I0) (fun r1_q39102 h_r1_q39102 => ?_)
  obtain ⟨-⟩ := h_r1_q39102
  have b_39103 := i32b r1_q39102
  have l_18000 := il_18000
  have t_39104 := ia_mul (18000 : Int32) (18000) il_18000 x3 (by omega) (by omega)
  have l_6480000 := il_6480000
  have t_39105 := ia_rem2 (r1_q39102 + ((18000 : Int32) * x3)) (6480000 : Int32) 6480000 il_6480000 (by decide)
  have t_39106 := KX12.i1 k_I0
  refine wq_b (tt_fX12_placeOf hN I0 L0 M0 x1 ((r1_q39102 + ((18000 : Int32) * x3)) - (((r1_q39102 + ((18000 : Int32) * x3)) / (6480000 : Int32)) * (6480000 : Int32))) ⟨by omega, by omega⟩ k_I0 (by omega) (by omega)) (fun r2_q39107 h_r2_q39107 => ?_)
  obtain ⟨-⟩ := h_r2_q39107
  have b_39108 := i32b r2_q39107
  exact wq_s trivial
set_option maxHeartbeats 4000000 in
theorem tt_fX12_rise {N : Nat} (hN : 3000000000 ≤ N) (I0 : Nat → Int32) (L0 : Int64) (M0 : Nat → Nat → Int32) (x1 : Int32) (x2 : Int32) (x3 : Int32) (k_I0 : KX12 I0 M0) : wq (fX12_rise N I0 L0 M0 x1 x2 x3) (fun r => KX12 r.2.1 r.2.2.2 ∧ True) := by
  unfold fX12_rise
  refine wq_v (fun I0_1_q39211 h_I0_1_q39211 => ?_)
  have k_I0_1_q39211 : KX12 I0_1_q39211 M0 := by rw [h_I0_1_q39211]; exact KX12.si0 k_I0
  have b_39212 := i32b x1
  have b_39213 := i32b x2
  refine wq_b (tt_fX12_isClimate hN I0_1_q39211 L0 M0 x1 x2 k_I0_1_q39211) (fun r2_q39214 h_r2_q39214 => ?_)
  obtain ⟨h_r2_q39214_0, h_r2_q39214_1, h_r2_q39214_2, h_r2_q39214_3, -⟩ := h_r2_q39214
  have t_39215 := KX12.i1 h_r2_q39214_3
  have t_39216 := KX12.i1 k_I0
  have t_39217 : (I0_1_q39211 1).toInt = (I0 1).toInt := by rw [h_I0_1_q39211]; rfl
  have l_0 := il_0
  refine wq_eq (fun hc_39218 => ?_) (fun hc_39219 => ?_)
  · exact wq_s ⟨h_r2_q39214_3, trivial⟩
  · have b_39220 := i32b x3
    have l_359 := il_359
    refine wq_b (tt_fX12_within hN x3 (0 : Int32) (359 : Int32)) (fun r3_q39221 h_r3_q39221 => ?_)
    obtain ⟨h_r3_q39221_0, h_r3_q39221_1, -⟩ := h_r3_q39221
    have l_1 := il_1
    refine wq_b (tt_fX12_right hN r2_q39214.2.1 r2_q39214.2.2.1 r2_q39214.2.2.2 r3_q39221 (1 : Int32) ⟨by omega, by omega⟩ h_r2_q39214_3) (fun r4_q39222 h_r4_q39222 => ?_)
    obtain ⟨h_r4_q39222_0, h_r4_q39222_1, h_r4_q39222_2, h_r4_q39222_3, -⟩ := h_r4_q39222
    have t_39223 := KX12.i1 h_r4_q39222_3
    refine wq_eq (fun hc_39224 => ?_) (fun hc_39225 => ?_)
    · exact wq_s ⟨h_r4_q39222_3, trivial⟩
    · refine wq_b (tt_fX12_riseOf hN r4_q39222.2.1 r4_q39222.2.2.1 r4_q39222.2.2.2 x1 x2 x3 ⟨by omega, by omega⟩ ⟨by omega, by omega⟩ ⟨by omega, by omega⟩ h_r4_q39222_3 (by omega)) (fun r5_q39226 h_r5_q39226 => ?_)
      obtain ⟨-⟩ := h_r5_q39226
      have b_39227 := i32b r5_q39226
      exact wq_s ⟨h_r4_q39222_3, trivial⟩
set_option maxHeartbeats 4000000 in
theorem tt_fX12_middleOf {N : Nat} (hN : 3000000000 ≤ N) (I0 : Nat → Int32) (L0 : Int64) (M0 : Nat → Nat → Int32) (x1 : Int32) (x2 : Int32) (h_x1 : 0 ≤ x1.toInt ∧ x1.toInt ≤ 6) (h_x2 : -60 ≤ x2.toInt ∧ x2.toInt ≤ 21599) (k_I0 : KX12 I0 M0) (hr_3 : x1.toInt < (I0 1).toInt) : wq (fX12_middleOf N I0 L0 M0 x1 x2) (fun r => True) := by
  unfold fX12_middleOf
  refine wq_b (tt_fX12_climbOf hN I0 L0 M0 x1 x2 ⟨by omega, by omega⟩ ⟨by omega, by omega⟩ k_I0) (fun r1_q39258 h_r1_q39258 => ?_)
  obtain ⟨-⟩ := h_r1_q39258
  have l_0 := il_0
  have b_39259 := i32b r1_q39258
  have l_6480000 := il_6480000
  have l_1620000 := il_1620000
  have t_39260 := ia_rem2 ((r1_q39258 + (6480000 : Int32)) - (1620000 : Int32)) (6480000 : Int32) 6480000 il_6480000 (by decide)
  have t_39261 := KX12.i1 k_I0
  refine wq_b (tt_fX12_placeOf hN I0 L0 M0 (0 : Int32) (((r1_q39258 + (6480000 : Int32)) - (1620000 : Int32)) - ((((r1_q39258 + (6480000 : Int32)) - (1620000 : Int32)) / (6480000 : Int32)) * (6480000 : Int32))) ⟨by omega, by omega⟩ k_I0 (by omega) (by omega)) (fun r2_q39262 h_r2_q39262 => ?_)
  obtain ⟨-⟩ := h_r2_q39262
  have b_39263 := i32b r2_q39262
  exact wq_s trivial
set_option maxHeartbeats 4000000 in
theorem tt_fX12_middle {N : Nat} (hN : 3000000000 ≤ N) (I0 : Nat → Int32) (L0 : Int64) (M0 : Nat → Nat → Int32) (x1 : Int32) (x2 : Int32) (k_I0 : KX12 I0 M0) : wq (fX12_middle N I0 L0 M0 x1 x2) (fun r => KX12 r.2.1 r.2.2.2 ∧ True) := by
  unfold fX12_middle
  refine wq_v (fun I0_1_q39330 h_I0_1_q39330 => ?_)
  have k_I0_1_q39330 : KX12 I0_1_q39330 M0 := by rw [h_I0_1_q39330]; exact KX12.si0 k_I0
  have b_39331 := i32b x1
  have b_39332 := i32b x2
  refine wq_b (tt_fX12_isClimate hN I0_1_q39330 L0 M0 x1 x2 k_I0_1_q39330) (fun r2_q39333 h_r2_q39333 => ?_)
  obtain ⟨h_r2_q39333_0, h_r2_q39333_1, h_r2_q39333_2, h_r2_q39333_3, -⟩ := h_r2_q39333
  have t_39334 := KX12.i1 h_r2_q39333_3
  have t_39335 := KX12.i1 k_I0
  have t_39336 : (I0_1_q39330 1).toInt = (I0 1).toInt := by rw [h_I0_1_q39330]; rfl
  have l_0 := il_0
  refine wq_eq (fun hc_39337 => ?_) (fun hc_39338 => ?_)
  · exact wq_s ⟨h_r2_q39333_3, trivial⟩
  · refine wq_b (tt_fX12_middleOf hN r2_q39333.2.1 r2_q39333.2.2.1 r2_q39333.2.2.2 x1 x2 ⟨by omega, by omega⟩ ⟨by omega, by omega⟩ h_r2_q39333_3 (by omega)) (fun r3_q39339 h_r3_q39339 => ?_)
    obtain ⟨-⟩ := h_r3_q39339
    have b_39340 := i32b r3_q39339
    exact wq_s ⟨h_r2_q39333_3, trivial⟩
set_option maxHeartbeats 4000000 in
theorem tt_fX12_isHour {N : Nat} (hN : 3000000000 ≤ N) (I0 : Nat → Int32) (L0 : Int64) (M0 : Nat → Nat → Int32) (x1 : Int32) (x2 : Int32) (x3 : Int32) (h_x1 : 0 ≤ x1.toInt ∧ x1.toInt ≤ 119) (h_x2 : 0 ≤ x2.toInt ∧ x2.toInt ≤ 6) (h_x3 : 0 ≤ x3.toInt ∧ x3.toInt ≤ 359) (k_I0 : KX12 I0 M0) (hr_4 : x2.toInt < (I0 1).toInt) : wq (fX12_isHour N I0 L0 M0 x1 x2 x3) (fun r => (0 ≤ r.toInt ∧ r.toInt ≤ 1) ∧ True) := by
  unfold fX12_isHour
  have l_0 := il_0
  refine wq_b (tt_fX12_at hN I0 L0 M0 x1 (0 : Int32) ⟨by omega, by omega⟩ ⟨by omega, by omega⟩ k_I0) (fun r1_q39395 h_r1_q39395 => ?_)
  obtain ⟨h_r1_q39395_0, h_r1_q39395_1, h_r1_q39395_2, -⟩ := h_r1_q39395
  have l_60 := il_60
  have t_39396 := ia_mul (60 : Int32) (60) il_60 r1_q39395 (by omega) (by omega)
  have t_39397 := KX12.i1 k_I0
  refine wq_b (tt_fX12_riseOf hN I0 L0 M0 x2 ((60 : Int32) * r1_q39395) x3 ⟨by omega, by omega⟩ ⟨by omega, by omega⟩ ⟨by omega, by omega⟩ k_I0 (by omega)) (fun r2_q39398 h_r2_q39398 => ?_)
  obtain ⟨-⟩ := h_r2_q39398
  have l_7 := il_7
  refine wq_b (tt_fX12_at hN I0 L0 M0 x1 (7 : Int32) ⟨by omega, by omega⟩ ⟨by omega, by omega⟩ k_I0) (fun r3_q39399 h_r3_q39399 => ?_)
  obtain ⟨h_r3_q39399_0, h_r3_q39399_1, h_r3_q39399_2, -⟩ := h_r3_q39399
  have b_39400 := i32b r2_q39398
  have t_39401 := i32b r2_q39398
  have t_39402 := ia_div2 r2_q39398 (60 : Int32) 60 il_60 (by decide)
  refine wq_eq (fun hc_39403 => ?_) (fun hc_39404 => ?_)
  · have l_1 := il_1
    exact wq_s ⟨(show 0 ≤ (1 : Int32).toInt ∧ (1 : Int32).toInt ≤ 1 from ⟨by omega, by omega⟩), trivial⟩
  · exact wq_s ⟨(show 0 ≤ (0 : Int32).toInt ∧ (0 : Int32).toInt ≤ 1 from ⟨by omega, by omega⟩), trivial⟩
set_option maxHeartbeats 4000000 in
theorem tt_fX12_hour_L67 {N : Nat} (hN : 3000000000 ≤ N) (x1 : Int32) (x2 : Int32) (x3 : Int32) (y61_4 : Int32) (y61_5 : Int32) (h_x1 : 0 ≤ x1.toInt ∧ x1.toInt ≤ 5) (h_x2 : 0 ≤ x2.toInt ∧ x2.toInt ≤ 19) (h_y61_4 : 0 ≤ y61_4.toInt ∧ y61_4.toInt ≤ 119) (h_y61_5 : 0 ≤ y61_5.toInt ∧ y61_5.toInt ≤ 1)  : ∀ (fu : Nat) (I0_l67 : (Nat → Int32)) (L0_l67 : Int64) (M0_l67 : (Nat → Nat → Int32)) (y67_6 : Int32) (y67_7 : Int32), (0 ≤ y67_7.toInt ∧ y67_7.toInt ≤ 2520) → (KX12 I0_l67 M0_l67) → (2520 - y67_7.toInt) < (fu : Int) → wq (fX12_hour_L67 N x1 x2 x3 y61_4 y61_5 fu I0_l67 L0_l67 M0_l67 y67_6 y67_7) (fun r => KX12 r.2.1 r.2.2.2 ∧ True) := by
  intro fu
  induction fu with
  | zero => intro I0_l67 L0_l67 M0_l67 y67_6 y67_7 h_y67_7 k_I0_l67 hm; exfalso; omega
  | succ fu ih =>
    intro I0_l67 L0_l67 M0_l67 y67_6 y67_7 h_y67_7 k_I0_l67 hm
    rw [fX12_hour_L67.eq_2]
    have t_40942 := KX12.i1 k_I0_l67
    have l_360 := il_360
    have t_40943 := ia_mul (360 : Int32) (360) il_360 (I0_l67 1) (by omega) (by omega)
    refine wq_le (fun hc_40944 => ?_) (fun hc_40945 => ?_)
    · unfold fX12_hour_J127
      have b_40946 := i32b x3
      have l_m1 := il_m1
      refine wq_eq (fun hc_40947 => ?_) (fun hc_40948 => ?_)
      · have l_1 := il_1
        refine wq_b (tt_fX12_right hN I0_l67 L0_l67 M0_l67 (1 : Int32) (1 : Int32) ⟨by omega, by omega⟩ k_I0_l67) (fun r2_q40949 h_r2_q40949 => ?_)
        obtain ⟨h_r2_q40949_0, h_r2_q40949_1, h_r2_q40949_2, h_r2_q40949_3, -⟩ := h_r2_q40949
        have t_40950 := KX12.i1 h_r2_q40949_3
        have l_0 := il_0
        refine wq_eq (fun hc_40951 => ?_) (fun hc_40952 => ?_)
        · exact wq_s ⟨h_r2_q40949_3, trivial⟩
        · have b_40953 := i32b y67_6
          exact wq_s ⟨h_r2_q40949_3, trivial⟩
      · have l_0 := il_0
        have l_1 := il_1
        refine wq_b (tt_fX12_right hN I0_l67 L0_l67 M0_l67 (0 : Int32) (1 : Int32) ⟨by omega, by omega⟩ k_I0_l67) (fun r1_q40954 h_r1_q40954 => ?_)
        obtain ⟨h_r1_q40954_0, h_r1_q40954_1, h_r1_q40954_2, h_r1_q40954_3, -⟩ := h_r1_q40954
        have t_40955 := KX12.i1 h_r1_q40954_3
        refine wq_eq (fun hc_40956 => ?_) (fun hc_40957 => ?_)
        · exact wq_s ⟨h_r1_q40954_3, trivial⟩
        · have b_40958 := i32b y67_6
          exact wq_s ⟨h_r1_q40954_3, trivial⟩
    · have l_0 := il_0
      refine wq_eq (fun hc_40959 => ?_) (fun hc_40960 => ?_)
      · unfold fX12_hour_J127
        have b_40961 := i32b x3
        have l_m1 := il_m1
        refine wq_eq (fun hc_40962 => ?_) (fun hc_40963 => ?_)
        · have l_1 := il_1
          refine wq_b (tt_fX12_right hN I0_l67 L0_l67 M0_l67 (1 : Int32) (1 : Int32) ⟨by omega, by omega⟩ k_I0_l67) (fun r2_q40964 h_r2_q40964 => ?_)
          obtain ⟨h_r2_q40964_0, h_r2_q40964_1, h_r2_q40964_2, h_r2_q40964_3, -⟩ := h_r2_q40964
          have t_40965 := KX12.i1 h_r2_q40964_3
          refine wq_eq (fun hc_40966 => ?_) (fun hc_40967 => ?_)
          · exact wq_s ⟨h_r2_q40964_3, trivial⟩
          · have b_40968 := i32b y67_6
            exact wq_s ⟨h_r2_q40964_3, trivial⟩
        · have l_1 := il_1
          refine wq_b (tt_fX12_right hN I0_l67 L0_l67 M0_l67 (0 : Int32) (1 : Int32) ⟨by omega, by omega⟩ k_I0_l67) (fun r1_q40969 h_r1_q40969 => ?_)
          obtain ⟨h_r1_q40969_0, h_r1_q40969_1, h_r1_q40969_2, h_r1_q40969_3, -⟩ := h_r1_q40969
          have t_40970 := KX12.i1 h_r1_q40969_3
          refine wq_eq (fun hc_40971 => ?_) (fun hc_40972 => ?_)
          · exact wq_s ⟨h_r1_q40969_3, trivial⟩
          · have b_40973 := i32b y67_6
            exact wq_s ⟨h_r1_q40969_3, trivial⟩
      · have t_40974 := ia_div y67_7 (360 : Int32) 360 il_360 (by decide) (by omega)
        have t_40975 := ia_rem y67_7 (360 : Int32) 360 il_360 (by decide) (by omega)
        refine wq_b (tt_fX12_isHour hN I0_l67 L0_l67 M0_l67 y61_4 (y67_7 / (360 : Int32)) (y67_7 - ((y67_7 / (360 : Int32)) * (360 : Int32))) ⟨by omega, by omega⟩ ⟨by omega, by omega⟩ ⟨by omega, by omega⟩ k_I0_l67 (by omega)) (fun r3_q40976 h_r3_q40976 => ?_)
        obtain ⟨h_r3_q40976_0, -⟩ := h_r3_q40976
        refine wq_eq (fun hc_40977 => ?_) (fun hc_40978 => ?_)
        · have l_1 := il_1
          have t_40980 := ia_add y67_7 (1 : Int32) (by omega) (by omega)
          refine wq_v (fun v6_q40979 h_v6_q40979 => ?_)
          have t_v6_q40979 := congrArg Int32.toInt h_v6_q40979
          have b_40981 := i32b y67_6
          exact ih I0_l67 L0_l67 M0_l67 y67_6 v6_q40979 ⟨by omega, by omega⟩ k_I0_l67 (by omega)
        · have b_40982 := i32b y67_6
          have b_40983 := i32b x3
          refine wq_eq (fun hc_40984 => ?_) (fun hc_40985 => ?_)
          · exact wq_s ⟨k_I0_l67, trivial⟩
          · have l_1 := il_1
            refine wq_v (fun v4_q40986 h_v4_q40986 => ?_)
            have t_v4_q40986 := congrArg Int32.toInt h_v4_q40986
            have t_40988 := ia_add y67_7 (1 : Int32) (by omega) (by omega)
            refine wq_v (fun v5_q40987 h_v5_q40987 => ?_)
            have t_v5_q40987 := congrArg Int32.toInt h_v5_q40987
            have b_40989 := i32b v4_q40986
            exact ih I0_l67 L0_l67 M0_l67 v4_q40986 v5_q40987 ⟨by omega, by omega⟩ k_I0_l67 (by omega)
set_option maxHeartbeats 4000000 in
theorem tt_fX12_hour {N : Nat} (hN : 3000000000 ≤ N) (I0 : Nat → Int32) (L0 : Int64) (M0 : Nat → Nat → Int32) (x1 : Int32) (x2 : Int32) (x3 : Int32) (k_I0 : KX12 I0 M0) : wq (fX12_hour N I0 L0 M0 x1 x2 x3) (fun r => KX12 r.2.1 r.2.2.2 ∧ True) := by
  unfold fX12_hour
  have b_40990 := i32b x1
  have b_40991 := i32b x2
  refine wq_b (tt_fX12_isWheel hN I0 L0 M0 x1 x2 k_I0) (fun r7_q40992 h_r7_q40992 => ?_)
  obtain ⟨h_r7_q40992_0, h_r7_q40992_1, h_r7_q40992_2, h_r7_q40992_3, -⟩ := h_r7_q40992
  have t_40993 := KX12.i1 h_r7_q40992_3
  have t_40994 := KX12.i1 k_I0
  have l_0 := il_0
  refine wq_eq (fun hc_40995 => ?_) (fun hc_40996 => ?_)
  · exact wq_s ⟨h_r7_q40992_3, trivial⟩
  · have l_20 := il_20
    have t_40998 := ia_mul (20 : Int32) (20) il_20 x1 (by omega) (by omega)
    have t_40999 := ia_add ((20 : Int32) * x1) x2 (by omega) (by omega)
    refine wq_v (fun v8_q40997 h_v8_q40997 => ?_)
    have t_v8_q40997 := congrArg Int32.toInt h_v8_q40997
    refine wq_b (tt_fX12_at hN r7_q40992.2.1 r7_q40992.2.2.1 r7_q40992.2.2.2 v8_q40997 (0 : Int32) ⟨by omega, by omega⟩ ⟨by omega, by omega⟩ h_r7_q40992_3) (fun r9b_q41000 h_r9b_q41000 => ?_)
    obtain ⟨h_r9b_q41000_0, h_r9b_q41000_1, h_r9b_q41000_2, -⟩ := h_r9b_q41000
    have l_m1 := il_m1
    refine wq_eq (fun hc_41001 => ?_) (fun hc_41002 => ?_)
    · unfold fX12_hour_J46
      unfold fX12_hour_J47
      refine wq_eq (fun hc_41003 => ?_) (fun hc_41004 => ?_)
      · have b_41005 := i32b x3
        refine wq_eq (fun hc_41006 => ?_) (fun hc_41007 => ?_)
        · exact wq_s ⟨h_r7_q40992_3, trivial⟩
        · unfold fX12_hour_J61
          exact tt_fX12_hour_L67 hN x1 x2 x3 v8_q40997 (0 : Int32) ⟨by omega, by omega⟩ ⟨by omega, by omega⟩ ⟨by omega, by omega⟩ ⟨by omega, by omega⟩ N r7_q40992.2.1 r7_q40992.2.2.1 r7_q40992.2.2.2 (0 : Int32) (0 : Int32) ⟨by omega, by omega⟩ h_r7_q40992_3 (by omega)
      · exfalso; omega
    · have l_7 := il_7
      refine wq_b (tt_fX12_at hN r7_q40992.2.1 r7_q40992.2.2.1 r7_q40992.2.2.2 v8_q40997 (7 : Int32) ⟨by omega, by omega⟩ ⟨by omega, by omega⟩ h_r7_q40992_3) (fun r10_q41008 h_r10_q41008 => ?_)
      obtain ⟨h_r10_q41008_0, h_r10_q41008_1, h_r10_q41008_2, -⟩ := h_r10_q41008
      refine wq_eq (fun hc_41009 => ?_) (fun hc_41010 => ?_)
      · unfold fX12_hour_J46
        unfold fX12_hour_J47
        refine wq_eq (fun hc_41011 => ?_) (fun hc_41012 => ?_)
        · have b_41013 := i32b x3
          refine wq_eq (fun hc_41014 => ?_) (fun hc_41015 => ?_)
          · exact wq_s ⟨h_r7_q40992_3, trivial⟩
          · unfold fX12_hour_J61
            exact tt_fX12_hour_L67 hN x1 x2 x3 v8_q40997 (0 : Int32) ⟨by omega, by omega⟩ ⟨by omega, by omega⟩ ⟨by omega, by omega⟩ ⟨by omega, by omega⟩ N r7_q40992.2.1 r7_q40992.2.2.1 r7_q40992.2.2.2 (0 : Int32) (0 : Int32) ⟨by omega, by omega⟩ h_r7_q40992_3 (by omega)
        · exfalso; omega
      · unfold fX12_hour_J47
        have l_1 := il_1
        refine wq_eq (fun hc_41016 => ?_) (fun hc_41017 => ?_)
        · exfalso; omega
        · unfold fX12_hour_J61
          have b_41018 := i32b x3
          exact tt_fX12_hour_L67 hN x1 x2 x3 v8_q40997 (1 : Int32) ⟨by omega, by omega⟩ ⟨by omega, by omega⟩ ⟨by omega, by omega⟩ ⟨by omega, by omega⟩ N r7_q40992.2.1 r7_q40992.2.2.1 r7_q40992.2.2.2 (0 : Int32) (0 : Int32) ⟨by omega, by omega⟩ h_r7_q40992_3 (by omega)
set_option maxHeartbeats 4000000 in
theorem tt_fX12_houseAt {N : Nat} (hN : 3000000000 ≤ N) (I0 : Nat → Int32) (L0 : Int64) (M0 : Nat → Nat → Int32) (x1 : Int32) (x2 : Int32) (x3 : Int32) (x4 : Int32) (h_x1 : -1 ≤ x1.toInt ∧ x1.toInt ≤ 359) (h_x4 : 1 ≤ x4.toInt ∧ x4.toInt ≤ 12) (k_I0 : KX12 I0 M0) (hr_3 : ((0 ≤ x2.toInt ∧ x2.toInt ≤ 1) ∨ (0 ≤ x3.toInt ∧ x3.toInt < (I0 1).toInt))) : wq (fX12_houseAt N I0 L0 M0 x1 x2 x3 x4) (fun r => (-359 ≤ r.toInt ∧ r.toInt ≤ 359) ∧ True) := by
  unfold fX12_houseAt
  have b_41925 := i32b x2
  have l_0 := il_0
  refine wq_eq (fun hc_41926 => ?_) (fun hc_41927 => ?_)
  · have l_30 := il_30
    have t_41928 := ia_div2 x1 (30 : Int32) 30 il_30 (by decide)
    have t_41929 := ia_add (x1 / (30 : Int32)) x4 (by omega) (by omega)
    have l_1 := il_1
    have t_41930 := ia_sub ((x1 / (30 : Int32)) + x4) (1 : Int32) (by omega) (by omega)
    have l_12 := il_12
    have t_41931 := ia_rem (((x1 / (30 : Int32)) + x4) - (1 : Int32)) (12 : Int32) 12 il_12 (by decide) (by omega)
    have t_41932 := ia_mul (30 : Int32) (30) il_30 ((((x1 / (30 : Int32)) + x4) - (1 : Int32)) - (((((x1 / (30 : Int32)) + x4) - (1 : Int32)) / (12 : Int32)) * (12 : Int32))) (by omega) (by omega)
    exact wq_s ⟨(show -359 ≤ ((30 : Int32) * ((((x1 / (30 : Int32)) + x4) - (1 : Int32)) - (((((x1 / (30 : Int32)) + x4) - (1 : Int32)) / (12 : Int32)) * (12 : Int32)))).toInt ∧ ((30 : Int32) * ((((x1 / (30 : Int32)) + x4) - (1 : Int32)) - (((((x1 / (30 : Int32)) + x4) - (1 : Int32)) / (12 : Int32)) * (12 : Int32)))).toInt ≤ 359 from ⟨by omega, by omega⟩), trivial⟩
  · have l_1 := il_1
    refine wq_eq (fun hc_41933 => ?_) (fun hc_41934 => ?_)
    · have t_41935 := ia_sub x4 (1 : Int32) (by omega) (by omega)
      have l_30 := il_30
      have t_41936 := ia_mul (30 : Int32) (30) il_30 (x4 - (1 : Int32)) (by omega) (by omega)
      have t_41937 := ia_add x1 ((30 : Int32) * (x4 - (1 : Int32))) (by omega) (by omega)
      have l_360 := il_360
      have t_41938 := ia_rem2 (x1 + ((30 : Int32) * (x4 - (1 : Int32)))) (360 : Int32) 360 il_360 (by decide)
      exact wq_s ⟨(show -359 ≤ ((x1 + ((30 : Int32) * (x4 - (1 : Int32)))) - (((x1 + ((30 : Int32) * (x4 - (1 : Int32)))) / (360 : Int32)) * (360 : Int32))).toInt ∧ ((x1 + ((30 : Int32) * (x4 - (1 : Int32)))) - (((x1 + ((30 : Int32) * (x4 - (1 : Int32)))) / (360 : Int32)) * (360 : Int32))).toInt ≤ 359 from ⟨by omega, by omega⟩), trivial⟩
    · have b_41939 := i32b x3
      have l_60 := il_60
      have t_41940 := ia_mul (60 : Int32) (60) il_60 x1 (by omega) (by omega)
      have t_41941 := KX12.i1 k_I0
      refine wq_b (tt_fX12_middleOf hN I0 L0 M0 x3 ((60 : Int32) * x1) ⟨by omega, by omega⟩ ⟨by omega, by omega⟩ k_I0 (by omega)) (fun r1_q41942 h_r1_q41942 => ?_)
      obtain ⟨-⟩ := h_r1_q41942
      have b_41944 := i32b r1_q41942
      have t_41945 := i32b r1_q41942
      have t_41946 := ia_div2 r1_q41942 (60 : Int32) 60 il_60 (by decide)
      refine wq_v (fun v2_q41943 h_v2_q41943 => ?_)
      have t_v2_q41943 := congrArg Int32.toInt h_v2_q41943
      have t_41948 := ia_sub x1 v2_q41943 (by omega) (by omega)
      have l_360 := il_360
      have t_41949 := ia_add (x1 - v2_q41943) (360 : Int32) (by omega) (by omega)
      have t_41950 := ia_rem2 ((x1 - v2_q41943) + (360 : Int32)) (360 : Int32) 360 il_360 (by decide)
      refine wq_v (fun v3_q41947 h_v3_q41947 => ?_)
      have t_v3_q41947 := congrArg Int32.toInt h_v3_q41947
      have l_180 := il_180
      have t_41952 := ia_add v2_q41943 (180 : Int32) (by omega) (by omega)
      have t_41953 := ia_sub (v2_q41943 + (180 : Int32)) x1 (by omega) (by omega)
      have t_41954 := ia_add ((v2_q41943 + (180 : Int32)) - x1) (360 : Int32) (by omega) (by omega)
      have t_41955 := ia_rem2 (((v2_q41943 + (180 : Int32)) - x1) + (360 : Int32)) (360 : Int32) 360 il_360 (by decide)
      refine wq_v (fun v4_q41951 h_v4_q41951 => ?_)
      have t_v4_q41951 := congrArg Int32.toInt h_v4_q41951
      have l_3 := il_3
      refine wq_le (fun hc_41956 => ?_) (fun hc_41957 => ?_)
      · unfold fX12_houseAt_J110
        unfold fX12_houseAt_J112
        refine wq_eq (fun hc_41958 => ?_) (fun hc_41959 => ?_)
        · unfold fX12_houseAt_J195
          refine wq_eq (fun hc_41960 => ?_) (fun hc_41961 => ?_)
          · have t_41962 := ia_rem2 x1 (360 : Int32) 360 il_360 (by decide)
            exact wq_s ⟨(show -359 ≤ (x1 - ((x1 / (360 : Int32)) * (360 : Int32))).toInt ∧ (x1 - ((x1 / (360 : Int32)) * (360 : Int32))).toInt ≤ 359 from ⟨by omega, by omega⟩), trivial⟩
          · have t_41963 := ia_add x1 (180 : Int32) (by omega) (by omega)
            have t_41964 := ia_rem (x1 + (180 : Int32)) (360 : Int32) 360 il_360 (by decide) (by omega)
            exact wq_s ⟨(show -359 ≤ ((x1 + (180 : Int32)) - (((x1 + (180 : Int32)) / (360 : Int32)) * (360 : Int32))).toInt ∧ ((x1 + (180 : Int32)) - (((x1 + (180 : Int32)) / (360 : Int32)) * (360 : Int32))).toInt ≤ 359 from ⟨by omega, by omega⟩), trivial⟩
        · have l_10 := il_10
          refine wq_eq (fun hc_41965 => ?_) (fun hc_41966 => ?_)
          · exfalso; omega
          · have l_11 := il_11
            refine wq_eq (fun hc_41967 => ?_) (fun hc_41968 => ?_)
            · exfalso; omega
            · have l_12 := il_12
              refine wq_eq (fun hc_41969 => ?_) (fun hc_41970 => ?_)
              · exfalso; omega
              · have l_2 := il_2
                refine wq_eq (fun hc_41971 => ?_) (fun hc_41972 => ?_)
                · unfold fX12_houseAt_J195
                  refine wq_eq (fun hc_41973 => ?_) (fun hc_41974 => ?_)
                  · have t_41975 := ia_div2 v4_q41951 (3 : Int32) 3 il_3 (by decide)
                    have t_41976 := ia_add x1 (v4_q41951 / (3 : Int32)) (by omega) (by omega)
                    have t_41977 := ia_rem2 (x1 + (v4_q41951 / (3 : Int32))) (360 : Int32) 360 il_360 (by decide)
                    exact wq_s ⟨(show -359 ≤ ((x1 + (v4_q41951 / (3 : Int32))) - (((x1 + (v4_q41951 / (3 : Int32))) / (360 : Int32)) * (360 : Int32))).toInt ∧ ((x1 + (v4_q41951 / (3 : Int32))) - (((x1 + (v4_q41951 / (3 : Int32))) / (360 : Int32)) * (360 : Int32))).toInt ≤ 359 from ⟨by omega, by omega⟩), trivial⟩
                  · have t_41978 := ia_div2 v4_q41951 (3 : Int32) 3 il_3 (by decide)
                    have t_41979 := ia_add x1 (v4_q41951 / (3 : Int32)) (by omega) (by omega)
                    have t_41980 := ia_add (x1 + (v4_q41951 / (3 : Int32))) (180 : Int32) (by omega) (by omega)
                    have t_41981 := ia_rem ((x1 + (v4_q41951 / (3 : Int32))) + (180 : Int32)) (360 : Int32) 360 il_360 (by decide) (by omega)
                    exact wq_s ⟨(show -359 ≤ (((x1 + (v4_q41951 / (3 : Int32))) + (180 : Int32)) - ((((x1 + (v4_q41951 / (3 : Int32))) + (180 : Int32)) / (360 : Int32)) * (360 : Int32))).toInt ∧ (((x1 + (v4_q41951 / (3 : Int32))) + (180 : Int32)) - ((((x1 + (v4_q41951 / (3 : Int32))) + (180 : Int32)) / (360 : Int32)) * (360 : Int32))).toInt ≤ 359 from ⟨by omega, by omega⟩), trivial⟩
                · unfold fX12_houseAt_J195
                  refine wq_eq (fun hc_41982 => ?_) (fun hc_41983 => ?_)
                  · have t_41984 := ia_mul (2 : Int32) (2) il_2 v4_q41951 (by omega) (by omega)
                    have t_41985 := ia_div2 ((2 : Int32) * v4_q41951) (3 : Int32) 3 il_3 (by decide)
                    have t_41986 := ia_add x1 (((2 : Int32) * v4_q41951) / (3 : Int32)) (by omega) (by omega)
                    have t_41987 := ia_rem2 (x1 + (((2 : Int32) * v4_q41951) / (3 : Int32))) (360 : Int32) 360 il_360 (by decide)
                    exact wq_s ⟨(show -359 ≤ ((x1 + (((2 : Int32) * v4_q41951) / (3 : Int32))) - (((x1 + (((2 : Int32) * v4_q41951) / (3 : Int32))) / (360 : Int32)) * (360 : Int32))).toInt ∧ ((x1 + (((2 : Int32) * v4_q41951) / (3 : Int32))) - (((x1 + (((2 : Int32) * v4_q41951) / (3 : Int32))) / (360 : Int32)) * (360 : Int32))).toInt ≤ 359 from ⟨by omega, by omega⟩), trivial⟩
                  · have t_41988 := ia_mul (2 : Int32) (2) il_2 v4_q41951 (by omega) (by omega)
                    have t_41989 := ia_div2 ((2 : Int32) * v4_q41951) (3 : Int32) 3 il_3 (by decide)
                    have t_41990 := ia_add x1 (((2 : Int32) * v4_q41951) / (3 : Int32)) (by omega) (by omega)
                    have t_41991 := ia_add (x1 + (((2 : Int32) * v4_q41951) / (3 : Int32))) (180 : Int32) (by omega) (by omega)
                    have t_41992 := ia_rem2 ((x1 + (((2 : Int32) * v4_q41951) / (3 : Int32))) + (180 : Int32)) (360 : Int32) 360 il_360 (by decide)
                    exact wq_s ⟨(show -359 ≤ (((x1 + (((2 : Int32) * v4_q41951) / (3 : Int32))) + (180 : Int32)) - ((((x1 + (((2 : Int32) * v4_q41951) / (3 : Int32))) + (180 : Int32)) / (360 : Int32)) * (360 : Int32))).toInt ∧ (((x1 + (((2 : Int32) * v4_q41951) / (3 : Int32))) + (180 : Int32)) - ((((x1 + (((2 : Int32) * v4_q41951) / (3 : Int32))) + (180 : Int32)) / (360 : Int32)) * (360 : Int32))).toInt ≤ 359 from ⟨by omega, by omega⟩), trivial⟩
      · have l_10 := il_10
        refine wq_le (fun hc_41993 => ?_) (fun hc_41994 => ?_)
        · unfold fX12_houseAt_J110
          unfold fX12_houseAt_J112
          refine wq_eq (fun hc_41995 => ?_) (fun hc_41996 => ?_)
          · exfalso; omega
          · refine wq_eq (fun hc_41997 => ?_) (fun hc_41998 => ?_)
            · unfold fX12_houseAt_J195
              refine wq_eq (fun hc_41999 => ?_) (fun hc_42000 => ?_)
              · have t_42001 := ia_rem2 v2_q41943 (360 : Int32) 360 il_360 (by decide)
                exact wq_s ⟨(show -359 ≤ (v2_q41943 - ((v2_q41943 / (360 : Int32)) * (360 : Int32))).toInt ∧ (v2_q41943 - ((v2_q41943 / (360 : Int32)) * (360 : Int32))).toInt ≤ 359 from ⟨by omega, by omega⟩), trivial⟩
              · have t_42002 := ia_rem2 (v2_q41943 + (180 : Int32)) (360 : Int32) 360 il_360 (by decide)
                exact wq_s ⟨(show -359 ≤ ((v2_q41943 + (180 : Int32)) - (((v2_q41943 + (180 : Int32)) / (360 : Int32)) * (360 : Int32))).toInt ∧ ((v2_q41943 + (180 : Int32)) - (((v2_q41943 + (180 : Int32)) / (360 : Int32)) * (360 : Int32))).toInt ≤ 359 from ⟨by omega, by omega⟩), trivial⟩
            · have l_11 := il_11
              refine wq_eq (fun hc_42003 => ?_) (fun hc_42004 => ?_)
              · unfold fX12_houseAt_J195
                refine wq_eq (fun hc_42005 => ?_) (fun hc_42006 => ?_)
                · have t_42007 := ia_div2 v3_q41947 (3 : Int32) 3 il_3 (by decide)
                  have t_42008 := ia_add v2_q41943 (v3_q41947 / (3 : Int32)) (by omega) (by omega)
                  have t_42009 := ia_rem2 (v2_q41943 + (v3_q41947 / (3 : Int32))) (360 : Int32) 360 il_360 (by decide)
                  exact wq_s ⟨(show -359 ≤ ((v2_q41943 + (v3_q41947 / (3 : Int32))) - (((v2_q41943 + (v3_q41947 / (3 : Int32))) / (360 : Int32)) * (360 : Int32))).toInt ∧ ((v2_q41943 + (v3_q41947 / (3 : Int32))) - (((v2_q41943 + (v3_q41947 / (3 : Int32))) / (360 : Int32)) * (360 : Int32))).toInt ≤ 359 from ⟨by omega, by omega⟩), trivial⟩
                · have t_42010 := ia_div2 v3_q41947 (3 : Int32) 3 il_3 (by decide)
                  have t_42011 := ia_add v2_q41943 (v3_q41947 / (3 : Int32)) (by omega) (by omega)
                  have t_42012 := ia_add (v2_q41943 + (v3_q41947 / (3 : Int32))) (180 : Int32) (by omega) (by omega)
                  have t_42013 := ia_rem2 ((v2_q41943 + (v3_q41947 / (3 : Int32))) + (180 : Int32)) (360 : Int32) 360 il_360 (by decide)
                  exact wq_s ⟨(show -359 ≤ (((v2_q41943 + (v3_q41947 / (3 : Int32))) + (180 : Int32)) - ((((v2_q41943 + (v3_q41947 / (3 : Int32))) + (180 : Int32)) / (360 : Int32)) * (360 : Int32))).toInt ∧ (((v2_q41943 + (v3_q41947 / (3 : Int32))) + (180 : Int32)) - ((((v2_q41943 + (v3_q41947 / (3 : Int32))) + (180 : Int32)) / (360 : Int32)) * (360 : Int32))).toInt ≤ 359 from ⟨by omega, by omega⟩), trivial⟩
              · have l_12 := il_12
                refine wq_eq (fun hc_42014 => ?_) (fun hc_42015 => ?_)
                · unfold fX12_houseAt_J195
                  refine wq_eq (fun hc_42016 => ?_) (fun hc_42017 => ?_)
                  · have l_2 := il_2
                    have t_42018 := ia_mul (2 : Int32) (2) il_2 v3_q41947 (by omega) (by omega)
                    have t_42019 := ia_div2 ((2 : Int32) * v3_q41947) (3 : Int32) 3 il_3 (by decide)
                    have t_42020 := ia_add v2_q41943 (((2 : Int32) * v3_q41947) / (3 : Int32)) (by omega) (by omega)
                    have t_42021 := ia_rem2 (v2_q41943 + (((2 : Int32) * v3_q41947) / (3 : Int32))) (360 : Int32) 360 il_360 (by decide)
                    exact wq_s ⟨(show -359 ≤ ((v2_q41943 + (((2 : Int32) * v3_q41947) / (3 : Int32))) - (((v2_q41943 + (((2 : Int32) * v3_q41947) / (3 : Int32))) / (360 : Int32)) * (360 : Int32))).toInt ∧ ((v2_q41943 + (((2 : Int32) * v3_q41947) / (3 : Int32))) - (((v2_q41943 + (((2 : Int32) * v3_q41947) / (3 : Int32))) / (360 : Int32)) * (360 : Int32))).toInt ≤ 359 from ⟨by omega, by omega⟩), trivial⟩
                  · have l_2 := il_2
                    have t_42022 := ia_mul (2 : Int32) (2) il_2 v3_q41947 (by omega) (by omega)
                    have t_42023 := ia_div2 ((2 : Int32) * v3_q41947) (3 : Int32) 3 il_3 (by decide)
                    have t_42024 := ia_add v2_q41943 (((2 : Int32) * v3_q41947) / (3 : Int32)) (by omega) (by omega)
                    have t_42025 := ia_add (v2_q41943 + (((2 : Int32) * v3_q41947) / (3 : Int32))) (180 : Int32) (by omega) (by omega)
                    have t_42026 := ia_rem2 ((v2_q41943 + (((2 : Int32) * v3_q41947) / (3 : Int32))) + (180 : Int32)) (360 : Int32) 360 il_360 (by decide)
                    exact wq_s ⟨(show -359 ≤ (((v2_q41943 + (((2 : Int32) * v3_q41947) / (3 : Int32))) + (180 : Int32)) - ((((v2_q41943 + (((2 : Int32) * v3_q41947) / (3 : Int32))) + (180 : Int32)) / (360 : Int32)) * (360 : Int32))).toInt ∧ (((v2_q41943 + (((2 : Int32) * v3_q41947) / (3 : Int32))) + (180 : Int32)) - ((((v2_q41943 + (((2 : Int32) * v3_q41947) / (3 : Int32))) + (180 : Int32)) / (360 : Int32)) * (360 : Int32))).toInt ≤ 359 from ⟨by omega, by omega⟩), trivial⟩
                · exfalso; omega
        · unfold fX12_houseAt_J112
          have l_5 := il_5
          have t_42027 := ia_add x4 (5 : Int32) (by omega) (by omega)
          have l_12 := il_12
          have t_42028 := ia_rem (x4 + (5 : Int32)) (12 : Int32) 12 il_12 (by decide) (by omega)
          have t_42029 := ia_add ((x4 + (5 : Int32)) - (((x4 + (5 : Int32)) / (12 : Int32)) * (12 : Int32))) (1 : Int32) (by omega) (by omega)
          refine wq_eq (fun hc_42030 => ?_) (fun hc_42031 => ?_)
          · unfold fX12_houseAt_J195
            refine wq_eq (fun hc_42032 => ?_) (fun hc_42033 => ?_)
            · exfalso; omega
            · have t_42034 := ia_add x1 (180 : Int32) (by omega) (by omega)
              have t_42035 := ia_rem (x1 + (180 : Int32)) (360 : Int32) 360 il_360 (by decide) (by omega)
              exact wq_s ⟨(show -359 ≤ ((x1 + (180 : Int32)) - (((x1 + (180 : Int32)) / (360 : Int32)) * (360 : Int32))).toInt ∧ ((x1 + (180 : Int32)) - (((x1 + (180 : Int32)) / (360 : Int32)) * (360 : Int32))).toInt ≤ 359 from ⟨by omega, by omega⟩), trivial⟩
          · refine wq_eq (fun hc_42036 => ?_) (fun hc_42037 => ?_)
            · unfold fX12_houseAt_J195
              refine wq_eq (fun hc_42038 => ?_) (fun hc_42039 => ?_)
              · exfalso; omega
              · have t_42040 := ia_rem2 (v2_q41943 + (180 : Int32)) (360 : Int32) 360 il_360 (by decide)
                exact wq_s ⟨(show -359 ≤ ((v2_q41943 + (180 : Int32)) - (((v2_q41943 + (180 : Int32)) / (360 : Int32)) * (360 : Int32))).toInt ∧ ((v2_q41943 + (180 : Int32)) - (((v2_q41943 + (180 : Int32)) / (360 : Int32)) * (360 : Int32))).toInt ≤ 359 from ⟨by omega, by omega⟩), trivial⟩
            · have l_11 := il_11
              refine wq_eq (fun hc_42041 => ?_) (fun hc_42042 => ?_)
              · unfold fX12_houseAt_J195
                refine wq_eq (fun hc_42043 => ?_) (fun hc_42044 => ?_)
                · exfalso; omega
                · have t_42045 := ia_div2 v3_q41947 (3 : Int32) 3 il_3 (by decide)
                  have t_42046 := ia_add v2_q41943 (v3_q41947 / (3 : Int32)) (by omega) (by omega)
                  have t_42047 := ia_add (v2_q41943 + (v3_q41947 / (3 : Int32))) (180 : Int32) (by omega) (by omega)
                  have t_42048 := ia_rem2 ((v2_q41943 + (v3_q41947 / (3 : Int32))) + (180 : Int32)) (360 : Int32) 360 il_360 (by decide)
                  exact wq_s ⟨(show -359 ≤ (((v2_q41943 + (v3_q41947 / (3 : Int32))) + (180 : Int32)) - ((((v2_q41943 + (v3_q41947 / (3 : Int32))) + (180 : Int32)) / (360 : Int32)) * (360 : Int32))).toInt ∧ (((v2_q41943 + (v3_q41947 / (3 : Int32))) + (180 : Int32)) - ((((v2_q41943 + (v3_q41947 / (3 : Int32))) + (180 : Int32)) / (360 : Int32)) * (360 : Int32))).toInt ≤ 359 from ⟨by omega, by omega⟩), trivial⟩
              · refine wq_eq (fun hc_42049 => ?_) (fun hc_42050 => ?_)
                · unfold fX12_houseAt_J195
                  refine wq_eq (fun hc_42051 => ?_) (fun hc_42052 => ?_)
                  · exfalso; omega
                  · have l_2 := il_2
                    have t_42053 := ia_mul (2 : Int32) (2) il_2 v3_q41947 (by omega) (by omega)
                    have t_42054 := ia_div2 ((2 : Int32) * v3_q41947) (3 : Int32) 3 il_3 (by decide)
                    have t_42055 := ia_add v2_q41943 (((2 : Int32) * v3_q41947) / (3 : Int32)) (by omega) (by omega)
                    have t_42056 := ia_add (v2_q41943 + (((2 : Int32) * v3_q41947) / (3 : Int32))) (180 : Int32) (by omega) (by omega)
                    have t_42057 := ia_rem2 ((v2_q41943 + (((2 : Int32) * v3_q41947) / (3 : Int32))) + (180 : Int32)) (360 : Int32) 360 il_360 (by decide)
                    exact wq_s ⟨(show -359 ≤ (((v2_q41943 + (((2 : Int32) * v3_q41947) / (3 : Int32))) + (180 : Int32)) - ((((v2_q41943 + (((2 : Int32) * v3_q41947) / (3 : Int32))) + (180 : Int32)) / (360 : Int32)) * (360 : Int32))).toInt ∧ (((v2_q41943 + (((2 : Int32) * v3_q41947) / (3 : Int32))) + (180 : Int32)) - ((((v2_q41943 + (((2 : Int32) * v3_q41947) / (3 : Int32))) + (180 : Int32)) / (360 : Int32)) * (360 : Int32))).toInt ≤ 359 from ⟨by omega, by omega⟩), trivial⟩
                · have l_2 := il_2
                  refine wq_eq (fun hc_42058 => ?_) (fun hc_42059 => ?_)
                  · unfold fX12_houseAt_J195
                    refine wq_eq (fun hc_42060 => ?_) (fun hc_42061 => ?_)
                    · exfalso; omega
                    · have t_42062 := ia_div2 v4_q41951 (3 : Int32) 3 il_3 (by decide)
                      have t_42063 := ia_add x1 (v4_q41951 / (3 : Int32)) (by omega) (by omega)
                      have t_42064 := ia_add (x1 + (v4_q41951 / (3 : Int32))) (180 : Int32) (by omega) (by omega)
                      have t_42065 := ia_rem ((x1 + (v4_q41951 / (3 : Int32))) + (180 : Int32)) (360 : Int32) 360 il_360 (by decide) (by omega)
                      exact wq_s ⟨(show -359 ≤ (((x1 + (v4_q41951 / (3 : Int32))) + (180 : Int32)) - ((((x1 + (v4_q41951 / (3 : Int32))) + (180 : Int32)) / (360 : Int32)) * (360 : Int32))).toInt ∧ (((x1 + (v4_q41951 / (3 : Int32))) + (180 : Int32)) - ((((x1 + (v4_q41951 / (3 : Int32))) + (180 : Int32)) / (360 : Int32)) * (360 : Int32))).toInt ≤ 359 from ⟨by omega, by omega⟩), trivial⟩
                  · unfold fX12_houseAt_J195
                    refine wq_eq (fun hc_42066 => ?_) (fun hc_42067 => ?_)
                    · have t_42068 := ia_mul (2 : Int32) (2) il_2 v4_q41951 (by omega) (by omega)
                      have t_42069 := ia_div2 ((2 : Int32) * v4_q41951) (3 : Int32) 3 il_3 (by decide)
                      have t_42070 := ia_add x1 (((2 : Int32) * v4_q41951) / (3 : Int32)) (by omega) (by omega)
                      have t_42071 := ia_rem2 (x1 + (((2 : Int32) * v4_q41951) / (3 : Int32))) (360 : Int32) 360 il_360 (by decide)
                      exact wq_s ⟨(show -359 ≤ ((x1 + (((2 : Int32) * v4_q41951) / (3 : Int32))) - (((x1 + (((2 : Int32) * v4_q41951) / (3 : Int32))) / (360 : Int32)) * (360 : Int32))).toInt ∧ ((x1 + (((2 : Int32) * v4_q41951) / (3 : Int32))) - (((x1 + (((2 : Int32) * v4_q41951) / (3 : Int32))) / (360 : Int32)) * (360 : Int32))).toInt ≤ 359 from ⟨by omega, by omega⟩), trivial⟩
                    · have t_42072 := ia_mul (2 : Int32) (2) il_2 v4_q41951 (by omega) (by omega)
                      have t_42073 := ia_div2 ((2 : Int32) * v4_q41951) (3 : Int32) 3 il_3 (by decide)
                      have t_42074 := ia_add x1 (((2 : Int32) * v4_q41951) / (3 : Int32)) (by omega) (by omega)
                      have t_42075 := ia_add (x1 + (((2 : Int32) * v4_q41951) / (3 : Int32))) (180 : Int32) (by omega) (by omega)
                      have t_42076 := ia_rem2 ((x1 + (((2 : Int32) * v4_q41951) / (3 : Int32))) + (180 : Int32)) (360 : Int32) 360 il_360 (by decide)
                      exact wq_s ⟨(show -359 ≤ (((x1 + (((2 : Int32) * v4_q41951) / (3 : Int32))) + (180 : Int32)) - ((((x1 + (((2 : Int32) * v4_q41951) / (3 : Int32))) + (180 : Int32)) / (360 : Int32)) * (360 : Int32))).toInt ∧ (((x1 + (((2 : Int32) * v4_q41951) / (3 : Int32))) + (180 : Int32)) - ((((x1 + (((2 : Int32) * v4_q41951) / (3 : Int32))) + (180 : Int32)) / (360 : Int32)) * (360 : Int32))).toInt ≤ 359 from ⟨by omega, by omega⟩), trivial⟩
set_option maxHeartbeats 4000000 in
theorem tt_fX12_isWay {N : Nat} (hN : 3000000000 ≤ N) (I0 : Nat → Int32) (L0 : Int64) (M0 : Nat → Nat → Int32) (x1 : Int32) (x2 : Int32) (k_I0 : KX12 I0 M0) : wq (fX12_isWay N I0 L0 M0 x1 x2) (fun r => (r.1.toInt = 0 ∨ (r.1.toInt = 1 ∧ ((0 ≤ x1.toInt ∧ x1.toInt ≤ 1) ∨ (x1.toInt = 2 ∧ 0 ≤ x2.toInt ∧ x2.toInt ≤ 6 ∧ x2.toInt < (r.2.1 1).toInt)))) ∧ (r.2.1 1).toInt = (I0 1).toInt ∧ (0 ≤ r.1.toInt ∧ r.1.toInt ≤ 1) ∧ KX12 r.2.1 r.2.2.2 ∧ True) := by
  unfold fX12_isWay
  have b_42227 := i32b x1
  have l_0 := il_0
  have l_2 := il_2
  refine wq_b (tt_fX12_within hN x1 (0 : Int32) (2 : Int32)) (fun r1_q42228 h_r1_q42228 => ?_)
  obtain ⟨h_r1_q42228_0, h_r1_q42228_1, -⟩ := h_r1_q42228
  refine wq_eq (fun hc_42229 => ?_) (fun hc_42230 => ?_)
  · have l_1 := il_1
    refine wq_b (tt_fX12_right hN I0 L0 M0 (0 : Int32) (1 : Int32) ⟨by omega, by omega⟩ k_I0) (fun r2_q42231 h_r2_q42231 => ?_)
    obtain ⟨h_r2_q42231_0, h_r2_q42231_1, h_r2_q42231_2, h_r2_q42231_3, -⟩ := h_r2_q42231
    have t_42232 := KX12.i1 h_r2_q42231_3
    have t_42233 := KX12.i1 k_I0
    refine wq_bz (by omega) ?_
    have b_42234 := i32b x2
    exact wq_s ⟨(show (r2_q42231.1.toInt = 0 ∨ (r2_q42231.1.toInt = 1 ∧ ((0 ≤ x1.toInt ∧ x1.toInt ≤ 1) ∨ (x1.toInt = 2 ∧ 0 ≤ x2.toInt ∧ x2.toInt ≤ 6 ∧ x2.toInt < (r2_q42231.2.1 1).toInt)))) from by omega), (show (r2_q42231.2.1 1).toInt = (I0 1).toInt from by omega), (show 0 ≤ r2_q42231.1.toInt ∧ r2_q42231.1.toInt ≤ 1 from ⟨by omega, by omega⟩), h_r2_q42231_3, trivial⟩
  · refine wq_lt (fun hc_42235 => ?_) (fun hc_42236 => ?_)
    · have l_1 := il_1
      refine wq_b (tt_fX12_right hN I0 L0 M0 (1 : Int32) (1 : Int32) ⟨by omega, by omega⟩ k_I0) (fun r3_q42237 h_r3_q42237 => ?_)
      obtain ⟨h_r3_q42237_0, h_r3_q42237_1, h_r3_q42237_2, h_r3_q42237_3, -⟩ := h_r3_q42237
      have t_42238 := KX12.i1 h_r3_q42237_3
      have t_42239 := KX12.i1 k_I0
      refine wq_bz (by omega) ?_
      have b_42240 := i32b x2
      exact wq_s ⟨(show (r3_q42237.1.toInt = 0 ∨ (r3_q42237.1.toInt = 1 ∧ ((0 ≤ x1.toInt ∧ x1.toInt ≤ 1) ∨ (x1.toInt = 2 ∧ 0 ≤ x2.toInt ∧ x2.toInt ≤ 6 ∧ x2.toInt < (r3_q42237.2.1 1).toInt)))) from by omega), (show (r3_q42237.2.1 1).toInt = (I0 1).toInt from by omega), (show 0 ≤ r3_q42237.1.toInt ∧ r3_q42237.1.toInt ≤ 1 from ⟨by omega, by omega⟩), h_r3_q42237_3, trivial⟩
    · have b_42241 := i32b x2
      refine wq_lt (fun hc_42242 => ?_) (fun hc_42243 => ?_)
      · have l_1 := il_1
        refine wq_b (tt_fX12_right hN I0 L0 M0 (0 : Int32) (1 : Int32) ⟨by omega, by omega⟩ k_I0) (fun r4_q42244 h_r4_q42244 => ?_)
        obtain ⟨h_r4_q42244_0, h_r4_q42244_1, h_r4_q42244_2, h_r4_q42244_3, -⟩ := h_r4_q42244
        have t_42245 := KX12.i1 h_r4_q42244_3
        have t_42246 := KX12.i1 k_I0
        refine wq_bz (by omega) ?_
        exact wq_s ⟨(show (r4_q42244.1.toInt = 0 ∨ (r4_q42244.1.toInt = 1 ∧ ((0 ≤ x1.toInt ∧ x1.toInt ≤ 1) ∨ (x1.toInt = 2 ∧ 0 ≤ x2.toInt ∧ x2.toInt ≤ 6 ∧ x2.toInt < (r4_q42244.2.1 1).toInt)))) from by omega), (show (r4_q42244.2.1 1).toInt = (I0 1).toInt from by omega), (show 0 ≤ r4_q42244.1.toInt ∧ r4_q42244.1.toInt ≤ 1 from ⟨by omega, by omega⟩), h_r4_q42244_3, trivial⟩
      · have t_42247 := KX12.i1 k_I0
        refine wq_le (fun hc_42248 => ?_) (fun hc_42249 => ?_)
        · have l_1 := il_1
          refine wq_b (tt_fX12_right hN I0 L0 M0 (0 : Int32) (1 : Int32) ⟨by omega, by omega⟩ k_I0) (fun r5_q42250 h_r5_q42250 => ?_)
          obtain ⟨h_r5_q42250_0, h_r5_q42250_1, h_r5_q42250_2, h_r5_q42250_3, -⟩ := h_r5_q42250
          have t_42251 := KX12.i1 h_r5_q42250_3
          refine wq_bz (by omega) ?_
          exact wq_s ⟨(show (r5_q42250.1.toInt = 0 ∨ (r5_q42250.1.toInt = 1 ∧ ((0 ≤ x1.toInt ∧ x1.toInt ≤ 1) ∨ (x1.toInt = 2 ∧ 0 ≤ x2.toInt ∧ x2.toInt ≤ 6 ∧ x2.toInt < (r5_q42250.2.1 1).toInt)))) from by omega), (show (r5_q42250.2.1 1).toInt = (I0 1).toInt from by omega), (show 0 ≤ r5_q42250.1.toInt ∧ r5_q42250.1.toInt ≤ 1 from ⟨by omega, by omega⟩), h_r5_q42250_3, trivial⟩
        · have l_1 := il_1
          refine wq_b (tt_fX12_right hN I0 L0 M0 (1 : Int32) (1 : Int32) ⟨by omega, by omega⟩ k_I0) (fun r6_q42252 h_r6_q42252 => ?_)
          obtain ⟨h_r6_q42252_0, h_r6_q42252_1, h_r6_q42252_2, h_r6_q42252_3, -⟩ := h_r6_q42252
          have t_42253 := KX12.i1 h_r6_q42252_3
          refine wq_bz (by omega) ?_
          exact wq_s ⟨(show (r6_q42252.1.toInt = 0 ∨ (r6_q42252.1.toInt = 1 ∧ ((0 ≤ x1.toInt ∧ x1.toInt ≤ 1) ∨ (x1.toInt = 2 ∧ 0 ≤ x2.toInt ∧ x2.toInt ≤ 6 ∧ x2.toInt < (r6_q42252.2.1 1).toInt)))) from by omega), (show (r6_q42252.2.1 1).toInt = (I0 1).toInt from by omega), (show 0 ≤ r6_q42252.1.toInt ∧ r6_q42252.1.toInt ≤ 1 from ⟨by omega, by omega⟩), h_r6_q42252_3, trivial⟩
set_option maxHeartbeats 4000000 in
theorem tt_fX12_houseOf {N : Nat} (hN : 3000000000 ≤ N) (I0 : Nat → Int32) (L0 : Int64) (M0 : Nat → Nat → Int32) (x1 : Int32) (x2 : Int32) (x3 : Int32) (x4 : Int32) (k_I0 : KX12 I0 M0) : wq (fX12_houseOf N I0 L0 M0 x1 x2 x3 x4) (fun r => (-359 ≤ r.1.toInt ∧ r.1.toInt ≤ 359) ∧ KX12 r.2.1 r.2.2.2 ∧ True) := by
  unfold fX12_houseOf
  refine wq_v (fun I0_4_q42548 h_I0_4_q42548 => ?_)
  have k_I0_4_q42548 : KX12 I0_4_q42548 M0 := by rw [h_I0_4_q42548]; exact KX12.si0 k_I0
  have b_42549 := i32b x1
  have l_0 := il_0
  have l_359 := il_359
  refine wq_b (tt_fX12_within hN x1 (0 : Int32) (359 : Int32)) (fun r5_q42550 h_r5_q42550 => ?_)
  obtain ⟨h_r5_q42550_0, h_r5_q42550_1, -⟩ := h_r5_q42550
  refine wq_eq (fun hc_42551 => ?_) (fun hc_42552 => ?_)
  · unfold fX12_houseOf_J32
    unfold fX12_houseOf_J33
    have l_1 := il_1
    refine wq_b (tt_fX12_right hN I0_4_q42548 L0 M0 (0 : Int32) (1 : Int32) ⟨by omega, by omega⟩ k_I0_4_q42548) (fun r1_q42553 h_r1_q42553 => ?_)
    obtain ⟨h_r1_q42553_0, h_r1_q42553_1, h_r1_q42553_2, h_r1_q42553_3, -⟩ := h_r1_q42553
    have t_42554 := KX12.i1 h_r1_q42553_3
    have t_42555 := KX12.i1 k_I0
    have t_42556 : (I0_4_q42548 1).toInt = (I0 1).toInt := by rw [h_I0_4_q42548]; rfl
    refine wq_eq (fun hc_42557 => ?_) (fun hc_42558 => ?_)
    · exact wq_s ⟨(show -359 ≤ (0 : Int32).toInt ∧ (0 : Int32).toInt ≤ 359 from ⟨by omega, by omega⟩), h_r1_q42553_3, trivial⟩
    · have b_42559 := i32b x2
      have b_42560 := i32b x3
      refine wq_b (tt_fX12_isWay hN r1_q42553.2.1 r1_q42553.2.2.1 r1_q42553.2.2.2 x2 x3 h_r1_q42553_3) (fun r2_q42561 h_r2_q42561 => ?_)
      obtain ⟨h_r2_q42561_0, h_r2_q42561_1, h_r2_q42561_2, h_r2_q42561_3, -⟩ := h_r2_q42561
      have t_42562 := KX12.i1 h_r2_q42561_3
      refine wq_eq (fun hc_42563 => ?_) (fun hc_42564 => ?_)
      · exact wq_s ⟨(show -359 ≤ (0 : Int32).toInt ∧ (0 : Int32).toInt ≤ 359 from ⟨by omega, by omega⟩), h_r2_q42561_3, trivial⟩
      · have b_42565 := i32b x4
        refine wq_b (tt_fX12_houseAt hN r2_q42561.2.1 r2_q42561.2.2.1 r2_q42561.2.2.2 x1 x2 x3 x4 ⟨by omega, by omega⟩ ⟨by omega, by omega⟩ h_r2_q42561_3 (by omega)) (fun r3_q42566 h_r3_q42566 => ?_)
        obtain ⟨h_r3_q42566_0, -⟩ := h_r3_q42566
        exact wq_s ⟨(show -359 ≤ r3_q42566.toInt ∧ r3_q42566.toInt ≤ 359 from ⟨by omega, by omega⟩), h_r2_q42561_3, trivial⟩
  · have b_42567 := i32b x4
    have l_1 := il_1
    have l_12 := il_12
    refine wq_b (tt_fX12_within hN x4 (1 : Int32) (12 : Int32)) (fun r6_q42568 h_r6_q42568 => ?_)
    obtain ⟨h_r6_q42568_0, h_r6_q42568_1, -⟩ := h_r6_q42568
    refine wq_eq (fun hc_42569 => ?_) (fun hc_42570 => ?_)
    · unfold fX12_houseOf_J32
      unfold fX12_houseOf_J33
      refine wq_b (tt_fX12_right hN I0_4_q42548 L0 M0 (0 : Int32) (1 : Int32) ⟨by omega, by omega⟩ k_I0_4_q42548) (fun r1_q42571 h_r1_q42571 => ?_)
      obtain ⟨h_r1_q42571_0, h_r1_q42571_1, h_r1_q42571_2, h_r1_q42571_3, -⟩ := h_r1_q42571
      have t_42572 := KX12.i1 h_r1_q42571_3
      have t_42573 := KX12.i1 k_I0
      have t_42574 : (I0_4_q42548 1).toInt = (I0 1).toInt := by rw [h_I0_4_q42548]; rfl
      refine wq_eq (fun hc_42575 => ?_) (fun hc_42576 => ?_)
      · exact wq_s ⟨(show -359 ≤ (0 : Int32).toInt ∧ (0 : Int32).toInt ≤ 359 from ⟨by omega, by omega⟩), h_r1_q42571_3, trivial⟩
      · have b_42577 := i32b x2
        have b_42578 := i32b x3
        refine wq_b (tt_fX12_isWay hN r1_q42571.2.1 r1_q42571.2.2.1 r1_q42571.2.2.2 x2 x3 h_r1_q42571_3) (fun r2_q42579 h_r2_q42579 => ?_)
        obtain ⟨h_r2_q42579_0, h_r2_q42579_1, h_r2_q42579_2, h_r2_q42579_3, -⟩ := h_r2_q42579
        have t_42580 := KX12.i1 h_r2_q42579_3
        refine wq_eq (fun hc_42581 => ?_) (fun hc_42582 => ?_)
        · exact wq_s ⟨(show -359 ≤ (0 : Int32).toInt ∧ (0 : Int32).toInt ≤ 359 from ⟨by omega, by omega⟩), h_r2_q42579_3, trivial⟩
        · refine wq_b (tt_fX12_houseAt hN r2_q42579.2.1 r2_q42579.2.2.1 r2_q42579.2.2.2 x1 x2 x3 x4 ⟨by omega, by omega⟩ ⟨by omega, by omega⟩ h_r2_q42579_3 (by omega)) (fun r3_q42583 h_r3_q42583 => ?_)
          obtain ⟨h_r3_q42583_0, -⟩ := h_r3_q42583
          exact wq_s ⟨(show -359 ≤ r3_q42583.toInt ∧ r3_q42583.toInt ≤ 359 from ⟨by omega, by omega⟩), h_r2_q42579_3, trivial⟩
    · unfold fX12_houseOf_J33
      refine wq_b (tt_fX12_right hN I0_4_q42548 L0 M0 (1 : Int32) (1 : Int32) ⟨by omega, by omega⟩ k_I0_4_q42548) (fun r1_q42584 h_r1_q42584 => ?_)
      obtain ⟨h_r1_q42584_0, h_r1_q42584_1, h_r1_q42584_2, h_r1_q42584_3, -⟩ := h_r1_q42584
      have t_42585 := KX12.i1 h_r1_q42584_3
      have t_42586 := KX12.i1 k_I0
      have t_42587 : (I0_4_q42548 1).toInt = (I0 1).toInt := by rw [h_I0_4_q42548]; rfl
      refine wq_eq (fun hc_42588 => ?_) (fun hc_42589 => ?_)
      · exact wq_s ⟨(show -359 ≤ (0 : Int32).toInt ∧ (0 : Int32).toInt ≤ 359 from ⟨by omega, by omega⟩), h_r1_q42584_3, trivial⟩
      · have b_42590 := i32b x2
        have b_42591 := i32b x3
        refine wq_b (tt_fX12_isWay hN r1_q42584.2.1 r1_q42584.2.2.1 r1_q42584.2.2.2 x2 x3 h_r1_q42584_3) (fun r2_q42592 h_r2_q42592 => ?_)
        obtain ⟨h_r2_q42592_0, h_r2_q42592_1, h_r2_q42592_2, h_r2_q42592_3, -⟩ := h_r2_q42592
        have t_42593 := KX12.i1 h_r2_q42592_3
        refine wq_eq (fun hc_42594 => ?_) (fun hc_42595 => ?_)
        · exact wq_s ⟨(show -359 ≤ (0 : Int32).toInt ∧ (0 : Int32).toInt ≤ 359 from ⟨by omega, by omega⟩), h_r2_q42592_3, trivial⟩
        · refine wq_b (tt_fX12_houseAt hN r2_q42592.2.1 r2_q42592.2.2.1 r2_q42592.2.2.2 x1 x2 x3 x4 ⟨by omega, by omega⟩ ⟨by omega, by omega⟩ h_r2_q42592_3 (by omega)) (fun r3_q42596 h_r3_q42596 => ?_)
          obtain ⟨h_r3_q42596_0, -⟩ := h_r3_q42596
          exact wq_s ⟨(show -359 ≤ r3_q42596.toInt ∧ r3_q42596.toInt ≤ 359 from ⟨by omega, by omega⟩), h_r2_q42592_3, trivial⟩
set_option maxHeartbeats 4000000 in
theorem tt_fX12_agrees_L6 {N : Nat} (hN : 3000000000 ≤ N) (I0 : Nat → Int32) (L0 : Int64) (M0 : Nat → Nat → Int32) (x1 : Int32) (x2 : Int32) (x3 : Int32) (h_x1 : 0 ≤ x1.toInt ∧ x1.toInt ≤ 119) (k_I0 : KX12 I0 M0) (hr_2 : ((0 ≤ x2.toInt ∧ x2.toInt ≤ 1) ∨ (0 ≤ x3.toInt ∧ x3.toInt < (I0 1).toInt)))  : ∀ (fu : Nat) (y6_4 : Int32) (y6_5 : Int32), (1 ≤ y6_5.toInt ∧ y6_5.toInt ≤ 13) → (13 - y6_5.toInt) < (fu : Int) → wq (fX12_agrees_L6 N I0 L0 M0 x1 x2 x3 fu y6_4 y6_5) (fun r => True) := by
  intro fu
  induction fu with
  | zero => intro y6_4 y6_5 h_y6_5 hm; exfalso; omega
  | succ fu ih =>
    intro y6_4 y6_5 h_y6_5 hm
    rw [fX12_agrees_L6.eq_2]
    have l_12 := il_12
    refine wq_lt (fun hc_43108 => ?_) (fun hc_43109 => ?_)
    · have b_43110 := i32b y6_4
      exact wq_s trivial
    · have l_9 := il_9
      have t_43111 := ia_add (9 : Int32) y6_5 (by omega) (by omega)
      have l_1 := il_1
      have t_43112 := ia_sub ((9 : Int32) + y6_5) (1 : Int32) (by omega) (by omega)
      refine wq_b (tt_fX12_at hN I0 L0 M0 x1 (((9 : Int32) + y6_5) - (1 : Int32)) ⟨by omega, by omega⟩ ⟨by omega, by omega⟩ k_I0) (fun r1_q43113 h_r1_q43113 => ?_)
      obtain ⟨h_r1_q43113_0, h_r1_q43113_1, h_r1_q43113_2, -⟩ := h_r1_q43113
      have l_m1 := il_m1
      refine wq_eq (fun hc_43114 => ?_) (fun hc_43115 => ?_)
      · have t_43117 := ia_add y6_5 (1 : Int32) (by omega) (by omega)
        refine wq_v (fun v2_q43116 h_v2_q43116 => ?_)
        have t_v2_q43116 := congrArg Int32.toInt h_v2_q43116
        have b_43118 := i32b y6_4
        exact ih y6_4 v2_q43116 ⟨by omega, by omega⟩ (by omega)
      · have l_7 := il_7
        refine wq_b (tt_fX12_at hN I0 L0 M0 x1 (7 : Int32) ⟨by omega, by omega⟩ ⟨by omega, by omega⟩ k_I0) (fun r3_q43119 h_r3_q43119 => ?_)
        obtain ⟨h_r3_q43119_0, h_r3_q43119_1, h_r3_q43119_2, -⟩ := h_r3_q43119
        have b_43120 := i32b x2
        have b_43121 := i32b x3
        have t_43122 := KX12.i1 k_I0
        refine wq_b (tt_fX12_houseAt hN I0 L0 M0 r3_q43119 x2 x3 y6_5 ⟨by omega, by omega⟩ ⟨by omega, by omega⟩ k_I0 (by omega)) (fun r4_q43123 h_r4_q43123 => ?_)
        obtain ⟨h_r4_q43123_0, -⟩ := h_r4_q43123
        refine wq_eq (fun hc_43124 => ?_) (fun hc_43125 => ?_)
        · have b_43127 := i32b y6_4
          refine wq_v (fun v6_q43126 h_v6_q43126 => ?_)
          have t_v6_q43126 := congrArg Int32.toInt h_v6_q43126
          have t_43129 := ia_add y6_5 (1 : Int32) (by omega) (by omega)
          refine wq_v (fun v7_q43128 h_v7_q43128 => ?_)
          have t_v7_q43128 := congrArg Int32.toInt h_v7_q43128
          have b_43130 := i32b v6_q43126
          exact ih v6_q43126 v7_q43128 ⟨by omega, by omega⟩ (by omega)
        · have t_43132 := ia_add y6_5 (1 : Int32) (by omega) (by omega)
          refine wq_v (fun v5_q43131 h_v5_q43131 => ?_)
          have t_v5_q43131 := congrArg Int32.toInt h_v5_q43131
          have b_43133 := i32b y6_4
          exact ih y6_4 v5_q43131 ⟨by omega, by omega⟩ (by omega)

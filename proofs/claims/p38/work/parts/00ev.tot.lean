theorem tt_bi73 {N : Nat} (hN : 3000000000 ≤ N) (x1 x2 : Int32) (g43 g64 : (Nat → Int32) → Int64 → (Nat → Nat → Int32) → Int32 → Option (Int32 × (Nat → Int32) × Int64 × (Nat → Nat → Int32))) (S0 : Int) (Q : Int32 × (Nat → Int32) × Int64 × (Nat → Nat → Int32) → Prop) (hg : ∀ (I : Nat → Int32) (L : Int64) (M : Nat → Nat → Int32) (y : Int32), KX12 I M → PS (M 31) → (0 ≤ y.toInt ∧ y.toInt ≤ 1) → sm (M 31) 0 120 + y.toInt ≤ S0 → wq (g64 I L M y) Q) : ∀ (fu : Nat) (I : Nat → Int32) (L : Int64) (M : Nat → Nat → Int32) (y a : Int32), KX12 I M → PS (M 31) → (0 ≤ y.toInt ∧ y.toInt ≤ 1) → sm (M 31) 0 120 + y.toInt ≤ S0 → (0 ≤ a.toInt ∧ a.toInt ≤ 120) → 120 - a.toInt < (fu : Int) → wq (fX12_births_L73 N x1 x2 g43 g64 fu I L M y a) Q := by
  intro fu
  induction fu with
  | zero => intro I L M y a k p hy hs ha hm; exfalso; omega
  | succ fu ih =>
    intro I L M y a k p hy hs ha hm
    rw [fX12_births_L73.eq_2]
    have l_120 := il_120
    have l_0 := il_0
    refine wq_le (fun hc => hg I L M y k p hy hs) (fun hc => ?_)
    exact tt_bi83 hN x1 x2 a ⟨by omega, by omega⟩ g43 g64 _ S0 Q (fun I L M y v k p hy hs hv => ih I L M y v k p hy hs ⟨by omega, by omega⟩ (by omega)) N I L M y (0 : Int32) k p hy hs ⟨by omega, by omega⟩ (by omega)
theorem tt_bi64 {N : Nat} (hN : 3000000000 ≤ N) (x1 x2 : Int32) (hx : -1 ≤ x1.toInt ∧ x1.toInt ≤ 119) (g43 : (Nat → Int32) → Int64 → (Nat → Nat → Int32) → Int32 → Option (Int32 × (Nat → Int32) × Int64 × (Nat → Nat → Int32))) : ∀ (fu : Nat) (I : Nat → Int32) (L : Int64) (M : Nat → Nat → Int32) (y : Int32), KX12 I M → PS (M 31) → (0 ≤ y.toInt ∧ y.toInt ≤ 1) → sm (M 31) 0 120 + y.toInt < (fu : Int) → wq (fX12_births_L64 N x1 x2 g43 fu I L M y) (fun r => KX12 r.2.1 r.2.2.2 ∧ True) := by
  intro fu
  induction fu with
  | zero =>
    intro I L M y k p hy hm
    have a := sm_nng (M 31) p 120 (by omega)
    exfalso; omega
  | succ fu ih =>
    intro I L M y k p hy hm
    rw [fX12_births_L64.eq_2]
    have l_0 := il_0
    have l_m1 := il_m1
    refine wq_eq (fun hc => ?_) (fun hc => ?_)
    · refine wq_eq (fun hc2 => tt_bi211 hN x1 x2 g43 _ N I L M (0 : Int32) (0 : Int32) k ⟨by omega, by omega⟩ (by omega)) (fun hc2 => ?_)
      refine wq_in (n := 120) ⟨by omega, by omega⟩ ?_
      exact wq_s ⟨k, trivial⟩
    · exact tt_bi73 hN x1 x2 g43 _ (sm (M 31) 0 120) _ (fun I L M y k p hy hs => ih I L M y k p hy (by omega)) N I L M (0 : Int32) (0 : Int32) k p ⟨by omega, by omega⟩ (by omega) ⟨by omega, by omega⟩ (by omega)
theorem tt_bi43 {N : Nat} (hN : 3000000000 ≤ N) (x1 x2 : Int32) (hx : -1 ≤ x1.toInt ∧ x1.toInt ≤ 119) : ∀ (fu : Nat) (I : Nat → Int32) (L : Int64) (M : Nat → Nat → Int32) (y : Int32), KX12 I M → (∀ j : Nat, (j : Int) < y.toInt → 0 ≤ (M 31 j).toInt ∧ (M 31 j).toInt ≤ 119) → (0 ≤ y.toInt ∧ y.toInt ≤ 120) → 120 - y.toInt < (fu : Int) → wq (fX12_births_L43 N x1 x2 fu I L M y) (fun r => KX12 r.2.1 r.2.2.2 ∧ True) := by
  intro fu
  induction fu with
  | zero => intro I L M y k p hy hm; exfalso; omega
  | succ fu ih =>
    intro I L M y k p hy hm
    rw [fX12_births_L43.eq_2]
    have l_120 := il_120
    have l_1 := il_1
    refine wq_le (fun hc => ?_) (fun hc => ?_)
    · have p2 : PS (M 31) := fun j hj => p j (by omega)
      have a := sm_nng (M 31) p2 120 (by omega)
      exact tt_bi64 hN x1 x2 hx _ N I L M (1 : Int32) k p2 ⟨by omega, by omega⟩ (by omega)
    · refine wq_in (n := 120) ⟨by omega, by omega⟩ ?_
      refine wq_v (fun M2 e2 => ?_)
      have t5 := ia_add y (1 : Int32) (by omega) (by omega)
      refine wq_v (fun v e => ?_)
      have t6 := congrArg Int32.toInt e
      have c := tn_of y (by omega)
      refine ih I L M2 v (by rw [e2]; exact KX12.sm31 k) (fun j hj => ?_) ⟨by omega, by omega⟩ (by omega)
      have e31 : M2 31 = upd (M 31) y.toNatClampNeg y := by rw [e2]; rfl
      rw [e31]
      unfold upd
      by_cases q : j = y.toNatClampNeg
      · rw [if_pos q]; exact ⟨by omega, by omega⟩
      · rw [if_neg q]; exact p j (by omega)
theorem tt_bi32 {N : Nat} (hN : 3000000000 ≤ N) (x1 x2 z : Int32) (I : Nat → Int32) (L : Int64) (M : Nat → Nat → Int32) (k : KX12 I M) (hx : z.toInt = 0 ∨ (-1 ≤ x1.toInt ∧ x1.toInt ≤ 119)) : wq (fX12_births_J32 N x1 x2 I L M z) (fun r => KX12 r.2.1 r.2.2.2 ∧ True) := by
  unfold fX12_births_J32
  have l_0 := il_0
  have l_1 := il_1
  refine wq_b (tt_fX12_right hN I L M z (1 : Int32) ⟨by omega, by omega⟩ k) (fun r hr => ?_)
  obtain ⟨hr0, -, -, kr, -⟩ := hr
  refine wq_eq (fun hc => wq_s ⟨kr, trivial⟩) (fun hc => ?_)
  exact tt_bi43 hN x1 x2 ⟨by omega, by omega⟩ N _ _ _ (0 : Int32) kr (fun j hj => by exfalso; omega) ⟨by omega, by omega⟩ (by omega)
theorem tt_fX12_births {N : Nat} (hN : 3000000000 ≤ N) (I0 : Nat → Int32) (L0 : Int64) (M0 : Nat → Nat → Int32) (x1 : Int32) (x2 : Int32) (k_I0 : KX12 I0 M0) : wq (fX12_births N I0 L0 M0 x1 x2) (fun r => KX12 r.2.1 r.2.2.2 ∧ True) := by
  unfold fX12_births
  have l_0 := il_0
  have l_1 := il_1
  have l_7 := il_7
  have l_m1 := il_m1
  have l_120 := il_120
  refine wq_v (fun I1 e1 => ?_)
  have k1 : KX12 I1 M0 := by rw [e1]; exact KX12.si0 k_I0
  have j31 : wq (fX12_births_J31 N x1 x2 I1 L0 M0) (fun r => KX12 r.2.1 r.2.2.2 ∧ True) := by
    unfold fX12_births_J31
    exact tt_bi32 hN x1 x2 (0 : Int32) I1 L0 M0 k1 (Or.inl il_0)
  refine wq_b (tt_fX12_within hN x2 (1 : Int32) (7 : Int32)) (fun r _ => ?_)
  refine wq_i (fun _ => j31) (fun _ => ?_)
  refine wq_lt (fun _ => j31) (fun h1 => ?_)
  refine wq_le (fun _ => j31) (fun h2 => ?_)
  exact tt_bi32 hN x1 x2 (1 : Int32) I1 L0 M0 k1 (Or.inr ⟨by omega, by omega⟩)
set_option maxHeartbeats 4000000 in
theorem tt_fX12_count_L81 {N : Nat} (hN : 3000000000 ≤ N) (x1 : Int32) (h_x1 : 2 ≤ x1.toInt ∧ x1.toInt ≤ 5)  : ∀ (fu : Nat) (I0_l81 : (Nat → Int32)) (L0_l81 : Int64) (M0_l81 : (Nat → Nat → Int32)) (y81_2 : Int32) (y81_3 : Int32), (0 ≤ y81_3.toInt ∧ y81_3.toInt ≤ 20) → (KX12 I0_l81 M0_l81) → (20 - y81_3.toInt) < (fu : Int) → wq (fX12_count_L81 N x1 fu I0_l81 L0_l81 M0_l81 y81_2 y81_3) (fun r => KX12 r.2.1 r.2.2.2 ∧ True) := by
  intro fu
  induction fu with
  | zero => intro I0_l81 L0_l81 M0_l81 y81_2 y81_3 h_y81_3 k_I0_l81 hm; exfalso; omega
  | succ fu ih =>
    intro I0_l81 L0_l81 M0_l81 y81_2 y81_3 h_y81_3 k_I0_l81 hm
    rw [fX12_count_L81.eq_2]
    have l_20 := il_20
    refine wq_le (fun hc_59753 => ?_) (fun hc_59754 => ?_)
    · have l_4 := il_4
      refine wq_eq (fun hc_59755 => ?_) (fun hc_59756 => ?_)
      · have t_59757 := KX12.i3 k_I0_l81
        exact wq_s ⟨k_I0_l81, trivial⟩
      · have b_59758 := i32b y81_2
        exact wq_s ⟨k_I0_l81, trivial⟩
    · have l_3 := il_3
      refine wq_eq (fun hc_59759 => ?_) (fun hc_59760 => ?_)
      · refine wq_in (n := 20) ⟨by omega, by omega⟩ ?_
        have l_m1 := il_m1
        refine wq_eq (fun hc_59761 => ?_) (fun hc_59762 => ?_)
        · unfold fX12_count_J103
          have l_5 := il_5
          refine wq_eq (fun hc_59763 => ?_) (fun hc_59764 => ?_)
          · exfalso; omega
          · have b_59766 := i32b y81_2
            have l_0 := il_0
            have t_59767 := ia_add y81_2 (0 : Int32) (by omega) (by omega)
            refine wq_v (fun v1_q59765 h_v1_q59765 => ?_)
            have t_v1_q59765 := congrArg Int32.toInt h_v1_q59765
            have l_1 := il_1
            have t_59769 := ia_add y81_3 (1 : Int32) (by omega) (by omega)
            refine wq_v (fun v2_q59768 h_v2_q59768 => ?_)
            have t_v2_q59768 := congrArg Int32.toInt h_v2_q59768
            have b_59770 := i32b v1_q59765
            exact ih I0_l81 L0_l81 M0_l81 v1_q59765 v2_q59768 ⟨by omega, by omega⟩ k_I0_l81 (by omega)
        · have b_59772 := i32b y81_2
          have l_1 := il_1
          refine wq_v (fun v7_q59771 h_v7_q59771 => ?_)
          have t_v7_q59771 := congrArg Int32.toInt h_v7_q59771
          have t_59774 := ia_add y81_3 (1 : Int32) (by omega) (by omega)
          refine wq_v (fun v8_q59773 h_v8_q59773 => ?_)
          have t_v8_q59773 := congrArg Int32.toInt h_v8_q59773
          have b_59775 := i32b v7_q59771
          exact ih I0_l81 L0_l81 M0_l81 v7_q59771 v8_q59773 ⟨by omega, by omega⟩ k_I0_l81 (by omega)
      · unfold fX12_count_J103
        have l_5 := il_5
        refine wq_eq (fun hc_59776 => ?_) (fun hc_59777 => ?_)
        · refine wq_in (n := 20) ⟨by omega, by omega⟩ ?_
          have l_m1 := il_m1
          refine wq_eq (fun hc_59778 => ?_) (fun hc_59779 => ?_)
          · have b_59781 := i32b y81_2
            have l_0 := il_0
            have t_59782 := ia_add y81_2 (0 : Int32) (by omega) (by omega)
            refine wq_v (fun v3_q59780 h_v3_q59780 => ?_)
            have t_v3_q59780 := congrArg Int32.toInt h_v3_q59780
            have l_1 := il_1
            have t_59784 := ia_add y81_3 (1 : Int32) (by omega) (by omega)
            refine wq_v (fun v4_q59783 h_v4_q59783 => ?_)
            have t_v4_q59783 := congrArg Int32.toInt h_v4_q59783
            have b_59785 := i32b v3_q59780
            exact ih I0_l81 L0_l81 M0_l81 v3_q59780 v4_q59783 ⟨by omega, by omega⟩ k_I0_l81 (by omega)
          · have b_59787 := i32b y81_2
            have l_1 := il_1
            refine wq_v (fun v5_q59786 h_v5_q59786 => ?_)
            have t_v5_q59786 := congrArg Int32.toInt h_v5_q59786
            have t_59789 := ia_add y81_3 (1 : Int32) (by omega) (by omega)
            refine wq_v (fun v6_q59788 h_v6_q59788 => ?_)
            have t_v6_q59788 := congrArg Int32.toInt h_v6_q59788
            have b_59790 := i32b v5_q59786
            exact ih I0_l81 L0_l81 M0_l81 v5_q59786 v6_q59788 ⟨by omega, by omega⟩ k_I0_l81 (by omega)
        · have b_59792 := i32b y81_2
          have l_0 := il_0
          have t_59793 := ia_add y81_2 (0 : Int32) (by omega) (by omega)
          refine wq_v (fun v1_q59791 h_v1_q59791 => ?_)
          have t_v1_q59791 := congrArg Int32.toInt h_v1_q59791
          have l_1 := il_1
          have t_59795 := ia_add y81_3 (1 : Int32) (by omega) (by omega)
          refine wq_v (fun v2_q59794 h_v2_q59794 => ?_)
          have t_v2_q59794 := congrArg Int32.toInt h_v2_q59794
          have b_59796 := i32b v1_q59791
          exact ih I0_l81 L0_l81 M0_l81 v1_q59791 v2_q59794 ⟨by omega, by omega⟩ k_I0_l81 (by omega)
set_option maxHeartbeats 4000000 in
theorem tt_fX12_count_L46 {N : Nat} (hN : 3000000000 ≤ N) (x1 : Int32) (h_x1 : 2 ≤ x1.toInt ∧ x1.toInt ≤ 5)  : ∀ (fu : Nat) (I0_l46 : (Nat → Int32)) (L0_l46 : Int64) (M0_l46 : (Nat → Nat → Int32)) (y46_2 : Int32) (y46_3 : Int32), (0 ≤ y46_3.toInt ∧ y46_3.toInt ≤ 120) → (KX12 I0_l46 M0_l46) → (120 - y46_3.toInt) < (fu : Int) → wq (fX12_count_L46 N x1 fu I0_l46 L0_l46 M0_l46 y46_2 y46_3) (fun r => KX12 r.2.1 r.2.2.2 ∧ True) := by
  intro fu
  induction fu with
  | zero => intro I0_l46 L0_l46 M0_l46 y46_2 y46_3 h_y46_3 k_I0_l46 hm; exfalso; omega
  | succ fu ih =>
    intro I0_l46 L0_l46 M0_l46 y46_2 y46_3 h_y46_3 k_I0_l46 hm
    rw [fX12_count_L46.eq_2]
    have l_120 := il_120
    refine wq_le (fun hc_59797 => ?_) (fun hc_59798 => ?_)
    · unfold fX12_count_J79
      have b_59799 := i32b y46_2
      have l_0 := il_0
      exact tt_fX12_count_L81 hN x1 ⟨by omega, by omega⟩ N I0_l46 L0_l46 M0_l46 y46_2 (0 : Int32) ⟨by omega, by omega⟩ k_I0_l46 (by omega)
    · have l_2 := il_2
      refine wq_eq (fun hc_59800 => ?_) (fun hc_59801 => ?_)
      · refine wq_b (tt_fX12_tells hN I0_l46 L0_l46 M0_l46 y46_3 ⟨by omega, by omega⟩ k_I0_l46) (fun r12_q59802 h_r12_q59802 => ?_)
        obtain ⟨h_r12_q59802_0, -⟩ := h_r12_q59802
        have l_0 := il_0
        refine wq_eq (fun hc_59803 => ?_) (fun hc_59804 => ?_)
        · have b_59806 := i32b y46_2
          have t_59807 := ia_add y46_2 (0 : Int32) (by omega) (by omega)
          refine wq_v (fun v13_q59805 h_v13_q59805 => ?_)
          have t_v13_q59805 := congrArg Int32.toInt h_v13_q59805
          have l_1 := il_1
          have t_59809 := ia_add y46_3 (1 : Int32) (by omega) (by omega)
          refine wq_v (fun v14_q59808 h_v14_q59808 => ?_)
          have t_v14_q59808 := congrArg Int32.toInt h_v14_q59808
          have b_59810 := i32b v13_q59805
          exact ih I0_l46 L0_l46 M0_l46 v13_q59805 v14_q59808 ⟨by omega, by omega⟩ k_I0_l46 (by omega)
        · have b_59812 := i32b y46_2
          have l_1 := il_1
          refine wq_v (fun v15_q59811 h_v15_q59811 => ?_)
          have t_v15_q59811 := congrArg Int32.toInt h_v15_q59811
          have t_59814 := ia_add y46_3 (1 : Int32) (by omega) (by omega)
          refine wq_v (fun v16_q59813 h_v16_q59813 => ?_)
          have t_v16_q59813 := congrArg Int32.toInt h_v16_q59813
          have b_59815 := i32b v15_q59811
          exact ih I0_l46 L0_l46 M0_l46 v15_q59811 v16_q59813 ⟨by omega, by omega⟩ k_I0_l46 (by omega)
      · unfold fX12_count_J79
        have b_59816 := i32b y46_2
        have l_0 := il_0
        exact tt_fX12_count_L81 hN x1 ⟨by omega, by omega⟩ N I0_l46 L0_l46 M0_l46 y46_2 (0 : Int32) ⟨by omega, by omega⟩ k_I0_l46 (by omega)
set_option maxHeartbeats 4000000 in
theorem tt_fX12_count {N : Nat} (hN : 3000000000 ≤ N) (I0 : Nat → Int32) (L0 : Int64) (M0 : Nat → Nat → Int32) (x1 : Int32) (k_I0 : KX12 I0 M0) : wq (fX12_count N I0 L0 M0 x1) (fun r => KX12 r.2.1 r.2.2.2 ∧ True) := by
  unfold fX12_count
  refine wq_v (fun I0_9_q59817 h_I0_9_q59817 => ?_)
  have k_I0_9_q59817 : KX12 I0_9_q59817 M0 := by rw [h_I0_9_q59817]; exact KX12.si0 k_I0
  have b_59818 := i32b x1
  have l_0 := il_0
  have l_5 := il_5
  refine wq_b (tt_fX12_within hN x1 (0 : Int32) (5 : Int32)) (fun r10_q59819 h_r10_q59819 => ?_)
  obtain ⟨h_r10_q59819_0, h_r10_q59819_1, -⟩ := h_r10_q59819
  have l_1 := il_1
  refine wq_b (tt_fX12_right hN I0_9_q59817 L0 M0 r10_q59819 (1 : Int32) ⟨by omega, by omega⟩ k_I0_9_q59817) (fun r11_q59820 h_r11_q59820 => ?_)
  obtain ⟨h_r11_q59820_0, h_r11_q59820_1, h_r11_q59820_2, h_r11_q59820_3, -⟩ := h_r11_q59820
  have t_59821 := KX12.i1 h_r11_q59820_3
  have t_59822 := KX12.i1 k_I0
  have t_59823 : (I0_9_q59817 1).toInt = (I0 1).toInt := by rw [h_I0_9_q59817]; rfl
  refine wq_eq (fun hc_59824 => ?_) (fun hc_59825 => ?_)
  · exact wq_s ⟨h_r11_q59820_3, trivial⟩
  · have l_2 := il_2
    refine wq_le (fun hc_59826 => ?_) (fun hc_59827 => ?_)
    · exact tt_fX12_count_L46 hN x1 ⟨by omega, by omega⟩ N r11_q59820.2.1 r11_q59820.2.2.1 r11_q59820.2.2.2 (0 : Int32) (0 : Int32) ⟨by omega, by omega⟩ h_r11_q59820_3 (by omega)
    · refine wq_eq (fun hc_59828 => ?_) (fun hc_59829 => ?_)
      · exact wq_s ⟨h_r11_q59820_3, trivial⟩
      · have t_59830 := KX12.i2 h_r11_q59820_3
        exact wq_s ⟨h_r11_q59820_3, trivial⟩
set_option maxHeartbeats 4000000 in
theorem tt_fX12_life {N : Nat} (hN : 3000000000 ≤ N) (I0 : Nat → Int32) (L0 : Int64) (M0 : Nat → Nat → Int32) (x1 : Int32) (x2 : Int32) (x3 : Int32) (k_I0 : KX12 I0 M0) : wq (fX12_life N I0 L0 M0 x1 x2 x3) (fun r => (0 ≤ r.1.toInt ∧ r.1.toInt ≤ 1) ∧ KX12 r.2.1 r.2.2.2 ∧ True) := by
  unfold fX12_life
  refine wq_v (fun I0_1_q59945 h_I0_1_q59945 => ?_)
  have k_I0_1_q59945 : KX12 I0_1_q59945 M0 := by rw [h_I0_1_q59945]; exact KX12.si0 k_I0
  have b_59946 := i32b x1
  have l_0 := il_0
  have l_19 := il_19
  refine wq_b (tt_fX12_within hN x1 (0 : Int32) (19 : Int32)) (fun r2_q59947 h_r2_q59947 => ?_)
  obtain ⟨h_r2_q59947_0, h_r2_q59947_1, -⟩ := h_r2_q59947
  have l_1 := il_1
  refine wq_b (tt_fX12_right hN I0_1_q59945 L0 M0 r2_q59947 (1 : Int32) ⟨by omega, by omega⟩ k_I0_1_q59945) (fun r3_q59948 h_r3_q59948 => ?_)
  obtain ⟨h_r3_q59948_0, h_r3_q59948_1, h_r3_q59948_2, h_r3_q59948_3, -⟩ := h_r3_q59948
  have t_59949 := KX12.i1 h_r3_q59948_3
  have t_59950 := KX12.i1 k_I0
  have t_59951 : (I0_1_q59945 1).toInt = (I0 1).toInt := by rw [h_I0_1_q59945]; rfl
  refine wq_eq (fun hc_59952 => ?_) (fun hc_59953 => ?_)
  · exact wq_s ⟨(show 0 ≤ (0 : Int32).toInt ∧ (0 : Int32).toInt ≤ 1 from ⟨by omega, by omega⟩), h_r3_q59948_3, trivial⟩
  · have b_59954 := i32b x2
    have l_120 := il_120
    refine wq_b (tt_fX12_within hN x2 (0 : Int32) (120 : Int32)) (fun r4_q59955 h_r4_q59955 => ?_)
    obtain ⟨h_r4_q59955_0, h_r4_q59955_1, -⟩ := h_r4_q59955
    refine wq_eq (fun hc_59956 => ?_) (fun hc_59957 => ?_)
    · exact wq_s ⟨(show 0 ≤ (0 : Int32).toInt ∧ (0 : Int32).toInt ≤ 1 from ⟨by omega, by omega⟩), h_r3_q59948_3, trivial⟩
    · have b_59958 := i32b x3
      refine wq_b (tt_fX12_within hN x3 (0 : Int32) (120 : Int32)) (fun r5_q59959 h_r5_q59959 => ?_)
      obtain ⟨h_r5_q59959_0, h_r5_q59959_1, -⟩ := h_r5_q59959
      refine wq_eq (fun hc_59960 => ?_) (fun hc_59961 => ?_)
      · exact wq_s ⟨(show 0 ≤ (0 : Int32).toInt ∧ (0 : Int32).toInt ≤ 1 from ⟨by omega, by omega⟩), h_r3_q59948_3, trivial⟩
      · refine wq_in (n := 20) ⟨by omega, by omega⟩ ?_
        refine wq_v (fun M0_6_q59962 h_M0_6_q59962 => ?_)
        have k_M0_6_q59962 : KX12 r3_q59948.2.1 M0_6_q59962 := by rw [h_M0_6_q59962]; exact KX12.sm32 h_r3_q59948_3
        refine wq_in (n := 20) ⟨by omega, by omega⟩ ?_
        refine wq_v (fun M0_7_q59963 h_M0_7_q59963 => ?_)
        have k_M0_7_q59963 : KX12 r3_q59948.2.1 M0_7_q59963 := by rw [h_M0_7_q59963]; exact KX12.sm33 k_M0_6_q59962
        exact wq_s ⟨(show 0 ≤ (1 : Int32).toInt ∧ (1 : Int32).toInt ≤ 1 from ⟨by omega, by omega⟩), k_M0_7_q59963, trivial⟩
set_option maxHeartbeats 4000000 in
theorem tt_fX12_fate {N : Nat} (hN : 3000000000 ≤ N) (I0 : Nat → Int32) (L0 : Int64) (M0 : Nat → Nat → Int32) (x1 : Int32) (x2 : Int32) (k_I0 : KX12 I0 M0) : wq (fX12_fate N I0 L0 M0 x1 x2) (fun r => (0 ≤ r.1.toInt ∧ r.1.toInt ≤ 1) ∧ KX12 r.2.1 r.2.2.2 ∧ True) := by
  unfold fX12_fate
  refine wq_v (fun I0_1_q60048 h_I0_1_q60048 => ?_)
  have k_I0_1_q60048 : KX12 I0_1_q60048 M0 := by rw [h_I0_1_q60048]; exact KX12.si0 k_I0
  have b_60049 := i32b x1
  have l_0 := il_0
  have l_19 := il_19
  refine wq_b (tt_fX12_within hN x1 (0 : Int32) (19 : Int32)) (fun r2_q60050 h_r2_q60050 => ?_)
  obtain ⟨h_r2_q60050_0, h_r2_q60050_1, -⟩ := h_r2_q60050
  have l_1 := il_1
  refine wq_b (tt_fX12_right hN I0_1_q60048 L0 M0 r2_q60050 (1 : Int32) ⟨by omega, by omega⟩ k_I0_1_q60048) (fun r3_q60051 h_r3_q60051 => ?_)
  obtain ⟨h_r3_q60051_0, h_r3_q60051_1, h_r3_q60051_2, h_r3_q60051_3, -⟩ := h_r3_q60051
  have t_60052 := KX12.i1 h_r3_q60051_3
  have t_60053 := KX12.i1 k_I0
  have t_60054 : (I0_1_q60048 1).toInt = (I0 1).toInt := by rw [h_I0_1_q60048]; rfl
  refine wq_eq (fun hc_60055 => ?_) (fun hc_60056 => ?_)
  · exact wq_s ⟨(show 0 ≤ (0 : Int32).toInt ∧ (0 : Int32).toInt ≤ 1 from ⟨by omega, by omega⟩), h_r3_q60051_3, trivial⟩
  · have b_60057 := i32b x2
    have l_12 := il_12
    refine wq_b (tt_fX12_within hN x2 (1 : Int32) (12 : Int32)) (fun r4_q60058 h_r4_q60058 => ?_)
    obtain ⟨h_r4_q60058_0, h_r4_q60058_1, -⟩ := h_r4_q60058
    refine wq_eq (fun hc_60059 => ?_) (fun hc_60060 => ?_)
    · exact wq_s ⟨(show 0 ≤ (0 : Int32).toInt ∧ (0 : Int32).toInt ≤ 1 from ⟨by omega, by omega⟩), h_r3_q60051_3, trivial⟩
    · refine wq_in (n := 20) ⟨by omega, by omega⟩ ?_
      refine wq_v (fun M0_5_q60061 h_M0_5_q60061 => ?_)
      have k_M0_5_q60061 : KX12 r3_q60051.2.1 M0_5_q60061 := by rw [h_M0_5_q60061]; exact KX12.sm34 h_r3_q60051_3
      exact wq_s ⟨(show 0 ≤ (1 : Int32).toInt ∧ (1 : Int32).toInt ≤ 1 from ⟨by omega, by omega⟩), k_M0_5_q60061, trivial⟩
set_option maxHeartbeats 4000000 in
theorem tt_fX12_isHit {N : Nat} (hN : 3000000000 ≤ N) (I0 : Nat → Int32) (L0 : Int64) (M0 : Nat → Nat → Int32) (x1 : Int32) (x2 : Int32) (x3 : Int32) (h_x1 : 0 ≤ x1.toInt ∧ x1.toInt ≤ 19) (h_x2 : 0 ≤ x2.toInt ∧ x2.toInt ≤ 19) (k_I0 : KX12 I0 M0) : wq (fX12_isHit N I0 L0 M0 x1 x2 x3) (fun r => (0 ≤ r.toInt ∧ r.toInt ≤ 1) ∧ True) := by
  unfold fX12_isHit
  refine wq_in (n := 20) ⟨by omega, by omega⟩ ?_
  refine wq_in (n := 20) ⟨by omega, by omega⟩ ?_
  refine wq_v (fun v1_q60104 h_v1_q60104 => ?_)
  have t_v1_q60104 := congrArg Int32.toInt h_v1_q60104
  have b_60105 := i32b x3
  have b_60106 := i32b v1_q60104
  refine wq_lt (fun hc_60107 => ?_) (fun hc_60108 => ?_)
  · have l_0 := il_0
    exact wq_s ⟨(show 0 ≤ (0 : Int32).toInt ∧ (0 : Int32).toInt ≤ 1 from ⟨by omega, by omega⟩), trivial⟩
  · refine wq_lt (fun hc_60109 => ?_) (fun hc_60110 => ?_)
    · have l_0 := il_0
      exact wq_s ⟨(show 0 ≤ (0 : Int32).toInt ∧ (0 : Int32).toInt ≤ 1 from ⟨by omega, by omega⟩), trivial⟩
    · have l_1 := il_1
      exact wq_s ⟨(show 0 ≤ (1 : Int32).toInt ∧ (1 : Int32).toInt ≤ 1 from ⟨by omega, by omega⟩), trivial⟩
set_option maxHeartbeats 4000000 in
theorem tt_fX12_isTold {N : Nat} (hN : 3000000000 ≤ N) (I0 : Nat → Int32) (L0 : Int64) (M0 : Nat → Nat → Int32) (x1 : Int32) (x2 : Int32) (h_x1 : 0 ≤ x1.toInt ∧ x1.toInt ≤ 19) (h_x2 : 0 ≤ x2.toInt ∧ x2.toInt ≤ 19) (k_I0 : KX12 I0 M0) : wq (fX12_isTold N I0 L0 M0 x1 x2) (fun r => (0 ≤ r.toInt ∧ r.toInt ≤ 1) ∧ True) := by
  unfold fX12_isTold
  have l_7 := il_7
  refine wq_b (tt_fX12_at hN I0 L0 M0 x1 (7 : Int32) ⟨by omega, by omega⟩ ⟨by omega, by omega⟩ k_I0) (fun r1_q60177 h_r1_q60177 => ?_)
  obtain ⟨h_r1_q60177_0, h_r1_q60177_1, h_r1_q60177_2, -⟩ := h_r1_q60177
  have l_8 := il_8
  refine wq_b (tt_fX12_at hN I0 L0 M0 x1 (8 : Int32) ⟨by omega, by omega⟩ ⟨by omega, by omega⟩ k_I0) (fun r2_q60178 h_r2_q60178 => ?_)
  obtain ⟨h_r2_q60178_0, h_r2_q60178_1, h_r2_q60178_2, -⟩ := h_r2_q60178
  have l_m1 := il_m1
  refine wq_eq (fun hc_60179 => ?_) (fun hc_60180 => ?_)
  · have l_0 := il_0
    exact wq_s ⟨(show 0 ≤ (0 : Int32).toInt ∧ (0 : Int32).toInt ≤ 1 from ⟨by omega, by omega⟩), trivial⟩
  · refine wq_eq (fun hc_60181 => ?_) (fun hc_60182 => ?_)
    · have l_0 := il_0
      exact wq_s ⟨(show 0 ≤ (0 : Int32).toInt ∧ (0 : Int32).toInt ≤ 1 from ⟨by omega, by omega⟩), trivial⟩
    · refine wq_in (n := 20) ⟨by omega, by omega⟩ ?_
      have l_30 := il_30
      have t_60183 := ia_div r2_q60178 (30 : Int32) 30 il_30 (by decide) (by omega)
      have t_60184 := ia_div r1_q60177 (30 : Int32) 30 il_30 (by decide) (by omega)
      have l_1 := il_1
      have l_12 := il_12
      have t_60185 := ia_rem2 (((r1_q60177 / (30 : Int32)) + (M0 34 x2.toNatClampNeg)) - (1 : Int32)) (12 : Int32) 12 il_12 (by decide)
      refine wq_eq (fun hc_60186 => ?_) (fun hc_60187 => ?_)
      · exact wq_s ⟨(show 0 ≤ (1 : Int32).toInt ∧ (1 : Int32).toInt ≤ 1 from ⟨by omega, by omega⟩), trivial⟩
      · have l_0 := il_0
        exact wq_s ⟨(show 0 ≤ (0 : Int32).toInt ∧ (0 : Int32).toInt ≤ 1 from ⟨by omega, by omega⟩), trivial⟩
set_option maxHeartbeats 4000000 in
theorem tt_fX12_hitsBy_L4 {N : Nat} (hN : 3000000000 ≤ N) (I0 : Nat → Int32) (L0 : Int64) (M0 : Nat → Nat → Int32) (x1 : Int32) (k_I0 : KX12 I0 M0)  : ∀ (fu : Nat) (y4_2 : Int32) (y4_3 : Int32), (0 ≤ y4_3.toInt ∧ y4_3.toInt ≤ 20) → (20 - y4_3.toInt) < (fu : Int) → wq (fX12_hitsBy_L4 N I0 L0 M0 x1 fu y4_2 y4_3) (fun r => True) := by
  intro fu
  induction fu with
  | zero => intro y4_2 y4_3 h_y4_3 hm; exfalso; omega
  | succ fu ih =>
    intro y4_2 y4_3 h_y4_3 hm
    rw [fX12_hitsBy_L4.eq_2]
    have t_60626 := KX12.i19 k_I0
    refine wq_le (fun hc_60627 => ?_) (fun hc_60628 => ?_)
    · have b_60629 := i32b y4_2
      exact wq_s trivial
    · have l_0 := il_0
      have b_60630 := i32b x1
      refine wq_le (fun hc_60631 => ?_) (fun hc_60632 => ?_)
      · refine wq_in (n := 20) ⟨by omega, by omega⟩ ?_
        refine wq_in (n := 20) ⟨by omega, by omega⟩ ?_
        have t_60633 := KX12.m36 k_I0 y4_3.toNatClampNeg
        refine wq_in (n := 20) ⟨by omega, by omega⟩ ?_
        have t_60634 := KX12.m35 k_I0 y4_3.toNatClampNeg
        have t_60635 := KX12.m35 k_I0 ((M0 36 y4_3.toNatClampNeg)).toNatClampNeg
        refine wq_b (tt_fX12_isHit hN I0 L0 M0 (M0 35 y4_3.toNatClampNeg) (M0 35 (M0 36 y4_3.toNatClampNeg).toNatClampNeg) x1 ⟨by omega, by omega⟩ ⟨by omega, by omega⟩ k_I0) (fun r1_q60636 h_r1_q60636 => ?_)
        obtain ⟨h_r1_q60636_0, -⟩ := h_r1_q60636
        refine wq_eq (fun hc_60637 => ?_) (fun hc_60638 => ?_)
        · have b_60640 := i32b y4_2
          have t_60641 := ia_add y4_2 (0 : Int32) (by omega) (by omega)
          refine wq_v (fun v2_q60639 h_v2_q60639 => ?_)
          have t_v2_q60639 := congrArg Int32.toInt h_v2_q60639
          have l_1 := il_1
          have t_60643 := ia_add y4_3 (1 : Int32) (by omega) (by omega)
          refine wq_v (fun v3_q60642 h_v3_q60642 => ?_)
          have t_v3_q60642 := congrArg Int32.toInt h_v3_q60642
          have b_60644 := i32b v2_q60639
          exact ih v2_q60639 v3_q60642 ⟨by omega, by omega⟩ (by omega)
        · have b_60646 := i32b y4_2
          have l_1 := il_1
          refine wq_v (fun v4_q60645 h_v4_q60645 => ?_)
          have t_v4_q60645 := congrArg Int32.toInt h_v4_q60645
          have t_60648 := ia_add y4_3 (1 : Int32) (by omega) (by omega)
          refine wq_v (fun v5_q60647 h_v5_q60647 => ?_)
          have t_v5_q60647 := congrArg Int32.toInt h_v5_q60647
          have b_60649 := i32b v4_q60645
          exact ih v4_q60645 v5_q60647 ⟨by omega, by omega⟩ (by omega)
      · refine wq_in (n := 20) ⟨by omega, by omega⟩ ?_
        refine wq_in (n := 20) ⟨by omega, by omega⟩ ?_
        have t_60650 := KX12.m36 k_I0 y4_3.toNatClampNeg
        refine wq_in (n := 20) ⟨by omega, by omega⟩ ?_
        have t_60651 := KX12.m35 k_I0 y4_3.toNatClampNeg
        have t_60652 := KX12.m35 k_I0 ((M0 36 y4_3.toNatClampNeg)).toNatClampNeg
        refine wq_b (tt_fX12_isTold hN I0 L0 M0 (M0 35 y4_3.toNatClampNeg) (M0 35 (M0 36 y4_3.toNatClampNeg).toNatClampNeg) ⟨by omega, by omega⟩ ⟨by omega, by omega⟩ k_I0) (fun r6_q60653 h_r6_q60653 => ?_)
        obtain ⟨h_r6_q60653_0, -⟩ := h_r6_q60653
        refine wq_eq (fun hc_60654 => ?_) (fun hc_60655 => ?_)
        · have b_60657 := i32b y4_2
          have t_60658 := ia_add y4_2 (0 : Int32) (by omega) (by omega)
          refine wq_v (fun v7_q60656 h_v7_q60656 => ?_)
          have t_v7_q60656 := congrArg Int32.toInt h_v7_q60656
          have l_1 := il_1
          have t_60660 := ia_add y4_3 (1 : Int32) (by omega) (by omega)
          refine wq_v (fun v8_q60659 h_v8_q60659 => ?_)
          have t_v8_q60659 := congrArg Int32.toInt h_v8_q60659
          have b_60661 := i32b v7_q60656
          exact ih v7_q60656 v8_q60659 ⟨by omega, by omega⟩ (by omega)
        · have b_60663 := i32b y4_2
          have l_1 := il_1
          refine wq_v (fun v9_q60662 h_v9_q60662 => ?_)
          have t_v9_q60662 := congrArg Int32.toInt h_v9_q60662
          have t_60665 := ia_add y4_3 (1 : Int32) (by omega) (by omega)
          refine wq_v (fun v10_q60664 h_v10_q60664 => ?_)
          have t_v10_q60664 := congrArg Int32.toInt h_v10_q60664
          have b_60666 := i32b v9_q60662
          exact ih v9_q60662 v10_q60664 ⟨by omega, by omega⟩ (by omega)
set_option maxHeartbeats 4000000 in
theorem tt_fX12_hitsBy {N : Nat} (hN : 3000000000 ≤ N) (I0 : Nat → Int32) (L0 : Int64) (M0 : Nat → Nat → Int32) (x1 : Int32) (k_I0 : KX12 I0 M0) : wq (fX12_hitsBy N I0 L0 M0 x1) (fun r => True) := by
  unfold fX12_hitsBy
  have b_60667 := i32b x1
  have l_0 := il_0
  exact tt_fX12_hitsBy_L4 hN I0 L0 M0 x1 k_I0 N (0 : Int32) (0 : Int32) ⟨by omega, by omega⟩ (by omega)
set_option maxHeartbeats 4000000 in
theorem tt_fX12_swaps {N : Nat} (hN : 3000000000 ≤ N) (I0 : Nat → Int32) (L0 : Int64) (M0 : Nat → Nat → Int32) (x1 : Int32) (x2 : Int32) (h_x1 : 0 ≤ x1.toInt ∧ x1.toInt ≤ 19) (h_x2 : 0 ≤ x2.toInt ∧ x2.toInt ≤ 19) (k_I0 : KX12 I0 M0) : wq (fX12_swaps N I0 L0 M0 x1 x2) (fun r => KX12 r.1 r.2.2 ∧ True) := by
  unfold fX12_swaps
  refine wq_in (n := 20) ⟨by omega, by omega⟩ ?_
  have t_60694 := KX12.m36 k_I0 x1.toNatClampNeg
  refine wq_v (fun v1_q60693 h_v1_q60693 => ?_)
  have t_v1_q60693 := congrArg Int32.toInt h_v1_q60693
  refine wq_in (n := 20) ⟨by omega, by omega⟩ ?_
  refine wq_in (n := 20) ⟨by omega, by omega⟩ ?_
  refine wq_v (fun M0_2_q60695 h_M0_2_q60695 => ?_)
  have t_60696 := KX12.m36 k_I0 x2.toNatClampNeg
  have k_M0_2_q60695 : KX12 I0 M0_2_q60695 := by rw [h_M0_2_q60695]; exact KX12.sm36 k_I0 ⟨by omega, by omega⟩
  refine wq_in (n := 20) ⟨by omega, by omega⟩ ?_
  refine wq_v (fun M0_3_q60697 h_M0_3_q60697 => ?_)
  have k_M0_3_q60697 : KX12 I0 M0_3_q60697 := by rw [h_M0_3_q60697]; exact KX12.sm36 k_M0_2_q60695 ⟨by omega, by omega⟩
  exact wq_s ⟨k_M0_3_q60697, trivial⟩
set_option maxHeartbeats 4000000 in
theorem tt_fX12_turns_L86 {N : Nat} (hN : 3000000000 ≤ N) (g47 : (Nat → Int32) → Int64 → (Nat → Nat → Int32) → Int32 → Option (Int32 × (Nat → Int32) × Int64 × (Nat → Nat → Int32)))   : ∀ (fu : Nat) (I0_l86 : (Nat → Int32)) (L0_l86 : Int64) (M0_l86 : (Nat → Nat → Int32)) (y86_3 : Int32) (y86_4 : Int32), (1 ≤ y86_3.toInt ∧ y86_3.toInt ≤ 19) → (-1 ≤ y86_4.toInt ∧ y86_4.toInt ≤ 19) → (KX12 I0_l86 M0_l86) → (19 - y86_3.toInt) < (fu : Int) → wq (fX12_turns_L86 N g47 fu I0_l86 L0_l86 M0_l86 y86_3 y86_4) (fun r => (0 ≤ r.1.toInt ∧ r.1.toInt ≤ 1) ∧ KX12 r.2.1 r.2.2.2 ∧ True) := by
  intro fu
  induction fu with
  | zero => intro I0_l86 L0_l86 M0_l86 y86_3 y86_4 h_y86_3 h_y86_4 k_I0_l86 hm; exfalso; omega
  | succ fu ih =>
    intro I0_l86 L0_l86 M0_l86 y86_3 y86_4 h_y86_3 h_y86_4 k_I0_l86 hm
    rw [fX12_turns_L86.eq_2]
    refine wq_le (fun hc_60926 => ?_) (fun hc_60927 => ?_)
    · have l_1 := il_1
      exact wq_s ⟨(show 0 ≤ (1 : Int32).toInt ∧ (1 : Int32).toInt ≤ 1 from ⟨by omega, by omega⟩), k_I0_l86, trivial⟩
    · refine wq_b (tt_fX12_swaps hN I0_l86 L0_l86 M0_l86 y86_3 y86_4 ⟨by omega, by omega⟩ ⟨by omega, by omega⟩ k_I0_l86) (fun r5_q60928 h_r5_q60928 => ?_)
      obtain ⟨h_r5_q60928_0, -⟩ := h_r5_q60928
      have l_1 := il_1
      have t_60930 := ia_add y86_3 (1 : Int32) (by omega) (by omega)
      refine wq_v (fun v6_q60929 h_v6_q60929 => ?_)
      have t_v6_q60929 := congrArg Int32.toInt h_v6_q60929
      have l_m1 := il_m1
      have t_60932 := ia_add y86_4 ((-1) : Int32) (by omega) (by omega)
      refine wq_v (fun v7_q60931 h_v7_q60931 => ?_)
      have t_v7_q60931 := congrArg Int32.toInt h_v7_q60931
      exact ih r5_q60928.1 r5_q60928.2.1 r5_q60928.2.2 v6_q60929 v7_q60931 ⟨by omega, by omega⟩ ⟨by omega, by omega⟩ h_r5_q60928_0 (by omega)
set_option maxHeartbeats 4000000 in
theorem tt_fX12_turns_L47 {N : Nat} (hN : 3000000000 ≤ N) (y34_1 : Int32) (h_y34_1 : 0 ≤ y34_1.toInt ∧ y34_1.toInt ≤ 18)  : ∀ (fu : Nat) (I0_l47 : (Nat → Int32)) (L0_l47 : Int64) (M0_l47 : (Nat → Nat → Int32)) (y47_2 : Int32), (-1 ≤ y47_2.toInt ∧ y47_2.toInt ≤ 19) → (KX12 I0_l47 M0_l47) → (y47_2.toInt - -1) < (fu : Int) → wq (fX12_turns_L47 N y34_1 fu I0_l47 L0_l47 M0_l47 y47_2) (fun r => (0 ≤ r.1.toInt ∧ r.1.toInt ≤ 1) ∧ KX12 r.2.1 r.2.2.2 ∧ True) := by
  intro fu
  induction fu with
  | zero => intro I0_l47 L0_l47 M0_l47 y47_2 h_y47_2 k_I0_l47 hm; exfalso; omega
  | succ fu ih =>
    intro I0_l47 L0_l47 M0_l47 y47_2 h_y47_2 k_I0_l47 hm
    rw [fX12_turns_L47.eq_2]
    refine wq_in (n := 20) ⟨by omega, by omega⟩ ?_
    refine wq_in (n := 20) ⟨by omega, by omega⟩ ?_
    have t_60933 := KX12.m36 k_I0_l47 y34_1.toNatClampNeg
    have t_60934 := KX12.m36 k_I0_l47 y47_2.toNatClampNeg
    refine wq_le (fun hc_60935 => ?_) (fun hc_60936 => ?_)
    · refine wq_b (tt_fX12_swaps hN I0_l47 L0_l47 M0_l47 y34_1 y47_2 ⟨by omega, by omega⟩ ⟨by omega, by omega⟩ k_I0_l47) (fun r2_q60937 h_r2_q60937 => ?_)
      obtain ⟨h_r2_q60937_0, -⟩ := h_r2_q60937
      have l_1 := il_1
      have t_60939 := ia_add y34_1 (1 : Int32) (by omega) (by omega)
      refine wq_v (fun v3_q60938 h_v3_q60938 => ?_)
      have t_v3_q60938 := congrArg Int32.toInt h_v3_q60938
      have t_60941 := KX12.i19 h_r2_q60937_0
      have t_60942 := ia_sub (r2_q60937.1 19) (1 : Int32) (by omega) (by omega)
      refine wq_v (fun v4_q60940 h_v4_q60940 => ?_)
      have t_v4_q60940 := congrArg Int32.toInt h_v4_q60940
      exact tt_fX12_turns_L86 hN _ N r2_q60937.1 r2_q60937.2.1 r2_q60937.2.2 v3_q60938 v4_q60940 ⟨by omega, by omega⟩ ⟨by omega, by omega⟩ h_r2_q60937_0 (by omega)
    · have l_m1 := il_m1
      have t_60944 := ia_add y47_2 ((-1) : Int32) (by omega) (by omega)
      refine wq_v (fun v8_q60943 h_v8_q60943 => ?_)
      have t_v8_q60943 := congrArg Int32.toInt h_v8_q60943
      exact ih I0_l47 L0_l47 M0_l47 v8_q60943 ⟨by omega, by omega⟩ k_I0_l47 (by omega)
set_option maxHeartbeats 4000000 in
theorem tt_fX12_turns_L7 {N : Nat} (hN : 3000000000 ≤ N)    : ∀ (fu : Nat) (I0_l7 : (Nat → Int32)) (L0_l7 : Int64) (M0_l7 : (Nat → Nat → Int32)) (y7_1 : Int32), (-2 ≤ y7_1.toInt ∧ y7_1.toInt ≤ 18) → (KX12 I0_l7 M0_l7) → (y7_1.toInt - -2) < (fu : Int) → wq (fX12_turns_L7 N fu I0_l7 L0_l7 M0_l7 y7_1) (fun r => (0 ≤ r.1.toInt ∧ r.1.toInt ≤ 1) ∧ KX12 r.2.1 r.2.2.2 ∧ True) := by
  intro fu
  induction fu with
  | zero => intro I0_l7 L0_l7 M0_l7 y7_1 h_y7_1 k_I0_l7 hm; exfalso; omega
  | succ fu ih =>
    intro I0_l7 L0_l7 M0_l7 y7_1 h_y7_1 k_I0_l7 hm
    rw [fX12_turns_L7.eq_2]
    have l_0 := il_0
    refine wq_lt (fun hc_60945 => ?_) (fun hc_60946 => ?_)
    · unfold fX12_turns_J34
      refine wq_le (fun hc_60947 => ?_) (fun hc_60948 => ?_)
      · exfalso; omega
      · exact wq_s ⟨(show 0 ≤ (0 : Int32).toInt ∧ (0 : Int32).toInt ≤ 1 from ⟨by omega, by omega⟩), k_I0_l7, trivial⟩
    · refine wq_in (n := 20) ⟨by omega, by omega⟩ ?_
      have l_1 := il_1
      have t_60949 := ia_add y7_1 (1 : Int32) (by omega) (by omega)
      refine wq_in (n := 20) ⟨by omega, by omega⟩ ?_
      have t_60950 := KX12.m36 k_I0_l7 y7_1.toNatClampNeg
      have t_60951 := KX12.m36 k_I0_l7 ((y7_1 + (1 : Int32))).toNatClampNeg
      refine wq_le (fun hc_60952 => ?_) (fun hc_60953 => ?_)
      · unfold fX12_turns_J34
        refine wq_le (fun hc_60954 => ?_) (fun hc_60955 => ?_)
        · have t_60957 := KX12.i19 k_I0_l7
          have t_60958 := ia_sub (I0_l7 19) (1 : Int32) (by omega) (by omega)
          refine wq_v (fun v1_q60956 h_v1_q60956 => ?_)
          have t_v1_q60956 := congrArg Int32.toInt h_v1_q60956
          exact tt_fX12_turns_L47 hN y7_1 ⟨by omega, by omega⟩ N I0_l7 L0_l7 M0_l7 v1_q60956 ⟨by omega, by omega⟩ k_I0_l7 (by omega)
        · exfalso; omega
      · have l_m1 := il_m1
        have t_60960 := ia_add y7_1 ((-1) : Int32) (by omega) (by omega)
        refine wq_v (fun v10_q60959 h_v10_q60959 => ?_)
        have t_v10_q60959 := congrArg Int32.toInt h_v10_q60959
        exact ih I0_l7 L0_l7 M0_l7 v10_q60959 ⟨by omega, by omega⟩ k_I0_l7 (by omega)
set_option maxHeartbeats 4000000 in
theorem tt_fX12_turns {N : Nat} (hN : 3000000000 ≤ N) (I0 : Nat → Int32) (L0 : Int64) (M0 : Nat → Nat → Int32) (k_I0 : KX12 I0 M0) : wq (fX12_turns N I0 L0 M0) (fun r => (0 ≤ r.1.toInt ∧ r.1.toInt ≤ 1) ∧ KX12 r.2.1 r.2.2.2 ∧ True) := by
  unfold fX12_turns
  have t_60962 := KX12.i19 k_I0
  have l_2 := il_2
  have t_60963 := ia_sub (I0 19) (2 : Int32) (by omega) (by omega)
  refine wq_v (fun v9_q60961 h_v9_q60961 => ?_)
  have t_v9_q60961 := congrArg Int32.toInt h_v9_q60961
  exact tt_fX12_turns_L7 hN N I0 L0 M0 v9_q60961 ⟨by omega, by omega⟩ k_I0 (by omega)
theorem sw_at9 : True := trivial
def PI9 (n : Nat) (f : Nat → Int32) : Prop := (∀ k : Nat, k < n → 0 ≤ (f k).toInt ∧ (f k).toInt ≤ 7) ∧ ∀ a b : Nat, a < n → b < n → f a = f b → a = b
def sw9 (f : Nat → Int32) (a b : Nat) : Nat → Int32 := upd (upd f a (f b)) b (f a)
theorem sw_at (f : Nat → Int32) (a b k : Nat) : sw9 f a b k = if k = b then f a else if k = a then f b else f k := rfl
theorem PI9.sw {n : Nat} {f : Nat → Int32} (h : PI9 n f) {a b : Nat} (ha : a < n) (hb : b < n) : PI9 n (sw9 f a b) := by
  have key : ∀ k : Nat, k < n → ∃ q : Nat, q < n ∧ sw9 f a b k = f q ∧ ((k = b ∧ q = a) ∨ (k ≠ b ∧ k = a ∧ q = b) ∨ (k ≠ b ∧ k ≠ a ∧ q = k)) := by
    intro k hk
    by_cases h1 : k = b
    · exact ⟨a, ha, by rw [sw_at, if_pos h1], Or.inl ⟨h1, rfl⟩⟩
    · by_cases h2 : k = a
      · exact ⟨b, hb, by rw [sw_at, if_neg h1, if_pos h2], Or.inr (Or.inl ⟨h1, h2, rfl⟩)⟩
      · exact ⟨k, hk, by rw [sw_at, if_neg h1, if_neg h2], Or.inr (Or.inr ⟨h1, h2, rfl⟩)⟩
  refine ⟨fun k hk => ?_, fun c d hc hd e => ?_⟩
  · obtain ⟨q, hq, e, -⟩ := key k hk
    rw [e]; exact h.1 q hq
  · obtain ⟨q1, hq1, e1, c1⟩ := key c hc
    obtain ⟨q2, hq2, e2, c2⟩ := key d hd
    rw [e1, e2] at e
    have := h.2 q1 q2 hq1 hq2 e
    omega
def vl (f : Nat → Int32) : Nat → Int
  | 0 => 0
  | n + 1 => 8 * vl f n + (f n).toInt
def p8 : Nat → Int
  | 0 => 1
  | n + 1 => 8 * p8 n
theorem p8_le : ∀ n : Nat, n ≤ 8 → p8 n ≤ 16777216 := by decide
theorem vl_cg (f g : Nat → Int32) : ∀ n : Nat, (∀ k : Nat, k < n → g k = f k) → vl g n = vl f n := by
  intro n
  induction n with
  | zero => intro _; rfl
  | succ n ih =>
    intro h
    show 8 * vl g n + (g n).toInt = 8 * vl f n + (f n).toInt
    rw [ih (fun k hk => h k (by omega)), h n (by omega)]
theorem vl_lt (f g : Nat → Int32) (i : Nat) : ∀ n : Nat, i < n → (∀ k : Nat, k < n → 0 ≤ (f k).toInt ∧ (f k).toInt ≤ 7) → (∀ k : Nat, k < n → 0 ≤ (g k).toInt ∧ (g k).toInt ≤ 7) → (∀ k : Nat, k < i → g k = f k) → (f i).toInt < (g i).toInt → vl f n < vl g n := by
  intro n
  induction n with
  | zero => intro h; exact absurd h (by omega)
  | succ n ih =>
    intro hi hf hg he hl
    show 8 * vl f n + (f n).toInt < 8 * vl g n + (g n).toInt
    by_cases q : i = n
    · subst q
      rw [vl_cg f g i he]; omega
    · have a := ih (by omega) (fun k hk => hf k (by omega)) (fun k hk => hg k (by omega)) he hl
      have b := hf n (by omega)
      have c := hg n (by omega)
      omega
theorem vl_b (f : Nat → Int32) : ∀ n : Nat, (∀ k : Nat, k < n → 0 ≤ (f k).toInt ∧ (f k).toInt ≤ 7) → 0 ≤ vl f n ∧ vl f n < p8 n := by
  intro n
  induction n with
  | zero => intro _; exact ⟨by decide, by decide⟩
  | succ n ih =>
    intro h
    have a := ih (fun k hk => h k (by omega))
    have b := h n (by omega)
    show 0 ≤ 8 * vl f n + (f n).toInt ∧ 8 * vl f n + (f n).toInt < 8 * p8 n
    omega
theorem tu_swaps (N : Nat) (I : Nat → Int32) (L : Int64) (M : Nat → Nat → Int32) (x y : Int32) (hx : 0 ≤ x.toInt ∧ x.toInt ≤ 19) (hy : 0 ≤ y.toInt ∧ y.toInt ≤ 19) (k : KX12 I M) : wq (fX12_swaps N I L M x y) (fun r => r.1 = I ∧ KX12 r.1 r.2.2 ∧ r.2.2 36 = sw9 (M 36) x.toNatClampNeg y.toNatClampNeg) := by
  unfold fX12_swaps
  refine wq_in (n := 20) ⟨by omega, by omega⟩ ?_
  refine wq_v (fun v1 e1 => ?_)
  refine wq_in (n := 20) ⟨by omega, by omega⟩ ?_
  refine wq_in (n := 20) ⟨by omega, by omega⟩ ?_
  refine wq_v (fun M2 e2 => ?_)
  refine wq_in (n := 20) ⟨by omega, by omega⟩ ?_
  refine wq_v (fun M3 e3 => ?_)
  refine wq_s ⟨rfl, ?_, ?_⟩
  · show KX12 I M3
    rw [e3, e2, e1]
    exact KX12.sm36 (KX12.sm36 k (k.m36 _)) (k.m36 _)
  · show M3 36 = _
    rw [e3, e2, e1]
    rfl

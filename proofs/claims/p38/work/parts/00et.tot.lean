set_option maxHeartbeats 4000000 in
theorem tt_fX12_tree_L134 {N : Nat} (hN : 3000000000 ≤ N) (y115_2 : Int32) (y115_4 : Int32) (y94_3 : Int32) (g9 : (Nat → Int32) → Int64 → (Nat → Nat → Int32) → Int32 → Int32 → Option (Int32 × (Nat → Int32) × Int64 × (Nat → Nat → Int32))) (g57 : (Nat → Int32) → Int64 → (Nat → Nat → Int32) → Int32 → Option (Int32 × (Nat → Int32) × Int64 × (Nat → Nat → Int32))) (g94 : (Nat → Int32) → Int64 → (Nat → Nat → Int32) → Int32 → Int32 → Option (Int32 × (Nat → Int32) × Int64 × (Nat → Nat → Int32))) (g115 : (Nat → Int32) → Int64 → (Nat → Nat → Int32) → Int32 → Int32 → Option (Int32 × (Nat → Int32) × Int64 × (Nat → Nat → Int32))) (h_y115_4 : -2147483647 ≤ y115_4.toInt ∧ y115_4.toInt ≤ 2147483646) (h_y94_3 : -2147483646 ≤ y94_3.toInt ∧ y94_3.toInt ≤ 2147483647) (hg115 : ∀ (q0 : (Nat → Int32)) (q1 : Int64) (q2 : (Nat → Nat → Int32)) (q3 : Int32) (q4 : Int32), (-2147483647 ≤ q4.toInt ∧ q4.toInt ≤ 2147483647) → (KX12 q0 q2) → (y115_4.toInt < q4.toInt) → wq (g115 q0 q1 q2 q3 q4) (fun r => KX12 r.2.1 r.2.2.2 ∧ True)) : ∀ (fu : Nat) (I0_l134 : (Nat → Int32)) (L0_l134 : Int64) (M0_l134 : (Nat → Nat → Int32)) (y134_5 : Int32) (y134_6 : Int32) (y134_7 : Int32) (y134_8 : Int32), (0 ≤ y134_5.toInt ∧ y134_5.toInt ≤ 2147483647) → (0 ≤ y134_6.toInt ∧ y134_6.toInt ≤ 1) → (-1 ≤ y134_8.toInt ∧ y134_8.toInt ≤ 5) → (KX12 I0_l134 M0_l134) → (y134_8.toInt - -1) < (fu : Int) → wq (fX12_tree_L134 N y115_2 y115_4 y94_3 g9 g57 g94 g115 fu I0_l134 L0_l134 M0_l134 y134_5 y134_6 y134_7 y134_8) (fun r => KX12 r.2.1 r.2.2.2 ∧ True) := by
  intro fu
  induction fu with
  | zero => intro I0_l134 L0_l134 M0_l134 y134_5 y134_6 y134_7 y134_8 h_y134_5 h_y134_6 h_y134_8 k_I0_l134 hm; exfalso; omega
  | succ fu ih =>
    intro I0_l134 L0_l134 M0_l134 y134_5 y134_6 y134_7 y134_8 h_y134_5 h_y134_6 h_y134_8 k_I0_l134 hm
    rw [fX12_tree_L134.eq_2]
    have l_0 := il_0
    refine wq_lt (fun hc_51732 => ?_) (fun hc_51733 => ?_)
    · refine wq_eq (fun hc_51734 => ?_) (fun hc_51735 => ?_)
      · have l_1 := il_1
        have t_51737 := ia_add y115_4 (1 : Int32) (by omega) (by omega)
        refine wq_v (fun v16_q51736 h_v16_q51736 => ?_)
        have t_v16_q51736 := congrArg Int32.toInt h_v16_q51736
        have b_51738 := i32b y115_2
        have b_51739 := i32b v16_q51736
        exact hg115 I0_l134 L0_l134 M0_l134 y115_2 v16_q51736 ⟨by omega, by omega⟩ k_I0_l134 (by omega)
      · have b_51740 := i32b y115_2
        have l_m1 := il_m1
        refine wq_eq (fun hc_51741 => ?_) (fun hc_51742 => ?_)
        · unfold fX12_tree_J258
          refine wq_b (tt_fX12_isTree hN I0_l134 L0_l134 M0_l134 k_I0_l134) (fun r2_q51743 h_r2_q51743 => ?_)
          obtain ⟨h_r2_q51743_0, -⟩ := h_r2_q51743
          refine wq_eq (fun hc_51744 => ?_) (fun hc_51745 => ?_)
          · have l_1 := il_1
            have t_51747 := ia_add y115_4 (1 : Int32) (by omega) (by omega)
            refine wq_v (fun v8_q51746 h_v8_q51746 => ?_)
            have t_v8_q51746 := congrArg Int32.toInt h_v8_q51746
            have b_51748 := i32b v8_q51746
            exact hg115 I0_l134 L0_l134 M0_l134 y115_2 v8_q51746 ⟨by omega, by omega⟩ k_I0_l134 (by omega)
          · have b_51749 := i32b y134_7
            have b_51750 := i32b y94_3
            exact tt_fX12_tree_L274 hN y115_4 y134_7 y94_3 g9 g57 g94 g115 ⟨by omega, by omega⟩ ⟨by omega, by omega⟩ hg115 N I0_l134 L0_l134 M0_l134 (0 : Int32) ⟨by omega, by omega⟩ k_I0_l134 (by omega)
        · have b_51751 := i32b y134_7
          refine wq_le (fun hc_51752 => ?_) (fun hc_51753 => ?_)
          · have l_1 := il_1
            have t_51755 := ia_add y115_4 (1 : Int32) (by omega) (by omega)
            refine wq_v (fun v17_q51754 h_v17_q51754 => ?_)
            have t_v17_q51754 := congrArg Int32.toInt h_v17_q51754
            have b_51756 := i32b v17_q51754
            exact hg115 I0_l134 L0_l134 M0_l134 y115_2 v17_q51754 ⟨by omega, by omega⟩ k_I0_l134 (by omega)
          · unfold fX12_tree_J258
            refine wq_b (tt_fX12_isTree hN I0_l134 L0_l134 M0_l134 k_I0_l134) (fun r2_q51757 h_r2_q51757 => ?_)
            obtain ⟨h_r2_q51757_0, -⟩ := h_r2_q51757
            refine wq_eq (fun hc_51758 => ?_) (fun hc_51759 => ?_)
            · have l_1 := il_1
              have t_51761 := ia_add y115_4 (1 : Int32) (by omega) (by omega)
              refine wq_v (fun v8_q51760 h_v8_q51760 => ?_)
              have t_v8_q51760 := congrArg Int32.toInt h_v8_q51760
              have b_51762 := i32b v8_q51760
              exact hg115 I0_l134 L0_l134 M0_l134 y115_2 v8_q51760 ⟨by omega, by omega⟩ k_I0_l134 (by omega)
            · have b_51763 := i32b y94_3
              exact tt_fX12_tree_L274 hN y115_4 y134_7 y94_3 g9 g57 g94 g115 ⟨by omega, by omega⟩ ⟨by omega, by omega⟩ hg115 N I0_l134 L0_l134 M0_l134 (0 : Int32) ⟨by omega, by omega⟩ k_I0_l134 (by omega)
    · refine wq_in (n := 6) ⟨by omega, by omega⟩ ?_
      refine wq_v (fun M0_18_q51764 h_M0_18_q51764 => ?_)
      have b_51765 := i32b y134_5
      have l_7 := il_7
      have t_51766 := ia_rem y134_5 (7 : Int32) 7 il_7 (by decide) (by omega)
      have l_1 := il_1
      have t_51767 := ia_sub (y134_5 - ((y134_5 / (7 : Int32)) * (7 : Int32))) (1 : Int32) (by omega) (by omega)
      have k_M0_18_q51764 : KX12 I0_l134 M0_18_q51764 := by rw [h_M0_18_q51764]; exact KX12.sm24 k_I0_l134 ⟨by omega, by omega⟩
      have t_51769 := ia_div y134_5 (7 : Int32) 7 il_7 (by decide) (by omega)
      refine wq_v (fun v19_q51768 h_v19_q51768 => ?_)
      have t_v19_q51768 := congrArg Int32.toInt h_v19_q51768
      refine wq_eq (fun hc_51770 => ?_) (fun hc_51771 => ?_)
      · unfold fX12_tree_J190
        unfold fX12_tree_J191
        refine wq_in (n := 6) ⟨by omega, by omega⟩ ?_
        have t_51772 := KX12.m24 k_M0_18_q51764 y134_8.toNatClampNeg
        have l_m1 := il_m1
        refine wq_eq (fun hc_51773 => ?_) (fun hc_51774 => ?_)
        · refine wq_v (fun v10_q51775 h_v10_q51775 => ?_)
          clear h_v10_q51775
          have t_51777 := ia_add y134_8 ((-1) : Int32) (by omega) (by omega)
          refine wq_v (fun v11_q51776 h_v11_q51776 => ?_)
          have t_v11_q51776 := congrArg Int32.toInt h_v11_q51776
          have b_51778 := i32b v10_q51775
          exact ih I0_l134 L0_l134 M0_18_q51764 v19_q51768 (0 : Int32) v10_q51775 v11_q51776 ⟨by omega, by omega⟩ ⟨by omega, by omega⟩ ⟨by omega, by omega⟩ k_M0_18_q51764 (by omega)
        · refine wq_eq (fun hc_51779 => ?_) (fun hc_51780 => ?_)
          · refine wq_v (fun v14_q51781 h_v14_q51781 => ?_)
            clear h_v14_q51781
            have t_51783 := ia_add y134_8 ((-1) : Int32) (by omega) (by omega)
            refine wq_v (fun v15_q51782 h_v15_q51782 => ?_)
            have t_v15_q51782 := congrArg Int32.toInt h_v15_q51782
            have b_51784 := i32b v14_q51781
            exact ih I0_l134 L0_l134 M0_18_q51764 v19_q51768 (0 : Int32) v14_q51781 v15_q51782 ⟨by omega, by omega⟩ ⟨by omega, by omega⟩ ⟨by omega, by omega⟩ k_M0_18_q51764 (by omega)
          · exfalso; omega
      · refine wq_in (n := 6) ⟨by omega, by omega⟩ ?_
        have t_51785 : (M0_18_q51764 26 y134_8.toNatClampNeg).toInt = (M0_l134 26 y134_8.toNatClampNeg).toInt := congrArg (fun z : Nat → Int32 => (z y134_8.toNatClampNeg).toInt) (show M0_18_q51764 26 = M0_l134 26 from by rw [h_M0_18_q51764]; rfl)
        refine wq_eq (fun hc_51786 => ?_) (fun hc_51787 => ?_)
        · refine wq_in (n := 6) ⟨by omega, by omega⟩ ?_
          have t_51788 := KX12.m24 k_M0_18_q51764 y134_8.toNatClampNeg
          have l_m1 := il_m1
          refine wq_eq (fun hc_51789 => ?_) (fun hc_51790 => ?_)
          · unfold fX12_tree_J186
            unfold fX12_tree_J191
            refine wq_in (n := 6) ⟨by omega, by omega⟩ ?_
            refine wq_eq (fun hc_51791 => ?_) (fun hc_51792 => ?_)
            · refine wq_v (fun v10_q51793 h_v10_q51793 => ?_)
              clear h_v10_q51793
              have t_51795 := ia_add y134_8 ((-1) : Int32) (by omega) (by omega)
              refine wq_v (fun v11_q51794 h_v11_q51794 => ?_)
              have t_v11_q51794 := congrArg Int32.toInt h_v11_q51794
              have b_51796 := i32b v10_q51793
              exact ih I0_l134 L0_l134 M0_18_q51764 v19_q51768 (1 : Int32) v10_q51793 v11_q51794 ⟨by omega, by omega⟩ ⟨by omega, by omega⟩ ⟨by omega, by omega⟩ k_M0_18_q51764 (by omega)
            · exfalso; omega
          · unfold fX12_tree_J190
            unfold fX12_tree_J191
            refine wq_in (n := 6) ⟨by omega, by omega⟩ ?_
            refine wq_eq (fun hc_51797 => ?_) (fun hc_51798 => ?_)
            · exfalso; omega
            · refine wq_eq (fun hc_51799 => ?_) (fun hc_51800 => ?_)
              · refine wq_v (fun v14_q51801 h_v14_q51801 => ?_)
                clear h_v14_q51801
                have t_51803 := ia_add y134_8 ((-1) : Int32) (by omega) (by omega)
                refine wq_v (fun v15_q51802 h_v15_q51802 => ?_)
                have t_v15_q51802 := congrArg Int32.toInt h_v15_q51802
                have b_51804 := i32b v14_q51801
                exact ih I0_l134 L0_l134 M0_18_q51764 v19_q51768 (0 : Int32) v14_q51801 v15_q51802 ⟨by omega, by omega⟩ ⟨by omega, by omega⟩ ⟨by omega, by omega⟩ k_M0_18_q51764 (by omega)
              · exfalso; omega
        · unfold fX12_tree_J186
          unfold fX12_tree_J191
          refine wq_in (n := 6) ⟨by omega, by omega⟩ ?_
          have t_51805 := KX12.m24 k_M0_18_q51764 y134_8.toNatClampNeg
          have l_m1 := il_m1
          refine wq_eq (fun hc_51806 => ?_) (fun hc_51807 => ?_)
          · refine wq_v (fun v10_q51808 h_v10_q51808 => ?_)
            clear h_v10_q51808
            have t_51810 := ia_add y134_8 ((-1) : Int32) (by omega) (by omega)
            refine wq_v (fun v11_q51809 h_v11_q51809 => ?_)
            have t_v11_q51809 := congrArg Int32.toInt h_v11_q51809
            have b_51811 := i32b v10_q51808
            exact ih I0_l134 L0_l134 M0_18_q51764 v19_q51768 (1 : Int32) v10_q51808 v11_q51809 ⟨by omega, by omega⟩ ⟨by omega, by omega⟩ ⟨by omega, by omega⟩ k_M0_18_q51764 (by omega)
          · refine wq_eq (fun hc_51812 => ?_) (fun hc_51813 => ?_)
            · exfalso; omega
            · refine wq_in (n := 6) ⟨by omega, by omega⟩ ?_
              have l_6 := il_6
              have t_51814 := ia_mul (6 : Int32) (6) il_6 (M0_18_q51764 24 y134_8.toNatClampNeg) (by omega) (by omega)
              have t_51815 := ia_add ((6 : Int32) * (M0_18_q51764 24 y134_8.toNatClampNeg)) y134_8 (by omega) (by omega)
              refine wq_in (n := 36) ⟨by omega, by omega⟩ ?_
              have b_51817 := i32b y134_7
              have t_51818 : (M0_18_q51764 25 (((6 : Int32) * (M0_18_q51764 24 y134_8.toNatClampNeg)) + y134_8).toNatClampNeg).toInt = (M0_l134 25 (((6 : Int32) * (M0_18_q51764 24 y134_8.toNatClampNeg)) + y134_8).toNatClampNeg).toInt := congrArg (fun z : Nat → Int32 => (z ((((6 : Int32) * (M0_18_q51764 24 y134_8.toNatClampNeg)) + y134_8)).toNatClampNeg).toInt) (show M0_18_q51764 25 = M0_l134 25 from by rw [h_M0_18_q51764]; rfl)
              refine wq_v (fun v12_q51816 h_v12_q51816 => ?_)
              clear h_v12_q51816
              have t_51820 := ia_add y134_8 ((-1) : Int32) (by omega) (by omega)
              refine wq_v (fun v13_q51819 h_v13_q51819 => ?_)
              have t_v13_q51819 := congrArg Int32.toInt h_v13_q51819
              have b_51821 := i32b v12_q51816
              exact ih I0_l134 L0_l134 M0_18_q51764 v19_q51768 (1 : Int32) v12_q51816 v13_q51819 ⟨by omega, by omega⟩ ⟨by omega, by omega⟩ ⟨by omega, by omega⟩ k_M0_18_q51764 (by omega)
set_option maxHeartbeats 4000000 in
theorem tt_fX12_tree_L115 {N : Nat} (hN : 3000000000 ≤ N) (y94_3 : Int32) (g9 : (Nat → Int32) → Int64 → (Nat → Nat → Int32) → Int32 → Int32 → Option (Int32 × (Nat → Int32) × Int64 × (Nat → Nat → Int32))) (g57 : (Nat → Int32) → Int64 → (Nat → Nat → Int32) → Int32 → Option (Int32 × (Nat → Int32) × Int64 × (Nat → Nat → Int32))) (g94 : (Nat → Int32) → Int64 → (Nat → Nat → Int32) → Int32 → Int32 → Option (Int32 × (Nat → Int32) × Int64 × (Nat → Nat → Int32)))   : ∀ (fu : Nat) (I0_l115 : (Nat → Int32)) (L0_l115 : Int64) (M0_l115 : (Nat → Nat → Int32)) (y115_2 : Int32) (y115_4 : Int32), (-2147483647 ≤ y115_4.toInt ∧ y115_4.toInt ≤ 2147483647) → (KX12 I0_l115 M0_l115) → (2147483647 - y115_4.toInt) < (fu : Int) → wq (fX12_tree_L115 N y94_3 g9 g57 g94 fu I0_l115 L0_l115 M0_l115 y115_2 y115_4) (fun r => KX12 r.2.1 r.2.2.2 ∧ True) := by
  intro fu
  induction fu with
  | zero => intro I0_l115 L0_l115 M0_l115 y115_2 y115_4 h_y115_4 k_I0_l115 hm; exfalso; omega
  | succ fu ih =>
    intro I0_l115 L0_l115 M0_l115 y115_2 y115_4 h_y115_4 k_I0_l115 hm
    rw [fX12_tree_L115.eq_2]
    have b_51822 := i32b y94_3
    have b_51823 := i32b y115_4
    refine wq_le (fun hc_51824 => ?_) (fun hc_51825 => ?_)
    · refine wq_v (fun I0_9_q51826 h_I0_9_q51826 => ?_)
      have l_1 := il_1
      have k_I0_9_q51826 : KX12 I0_9_q51826 M0_l115 := by rw [h_I0_9_q51826]; exact KX12.si18 k_I0_l115 ⟨by omega, by omega⟩
      have b_51827 := i32b y115_2
      exact wq_s ⟨k_I0_9_q51826, trivial⟩
    · have b_51828 := i32b y115_2
      have l_1 := il_1
      have l_0 := il_0
      have l_5 := il_5
      exact tt_fX12_tree_L134 hN y115_2 y115_4 y94_3 g9 g57 g94 _ ⟨by omega, by omega⟩ ⟨by omega, by omega⟩ (fun q0 q1 q2 q3 q4 hq0 hq1 hq2 => ih q0 q1 q2 q3 q4 hq0 hq1 (by omega)) N I0_l115 L0_l115 M0_l115 y115_4 (1 : Int32) (0 : Int32) (5 : Int32) ⟨by omega, by omega⟩ ⟨by omega, by omega⟩ ⟨by omega, by omega⟩ k_I0_l115 (by omega)
set_option maxHeartbeats 4000000 in
theorem tt_fX12_tree_L94 {N : Nat} (hN : 3000000000 ≤ N) (g9 : (Nat → Int32) → Int64 → (Nat → Nat → Int32) → Int32 → Int32 → Option (Int32 × (Nat → Int32) × Int64 × (Nat → Nat → Int32))) (g57 : (Nat → Int32) → Int64 → (Nat → Nat → Int32) → Int32 → Option (Int32 × (Nat → Int32) × Int64 × (Nat → Nat → Int32)))   : ∀ (fu : Nat) (I0_l94 : (Nat → Int32)) (L0_l94 : Int64) (M0_l94 : (Nat → Nat → Int32)) (y94_3 : Int32) (y94_4 : Int32), (0 ≤ y94_4.toInt ∧ y94_4.toInt ≤ 6) → (KX12 I0_l94 M0_l94) → (6 - y94_4.toInt) < (fu : Int) → wq (fX12_tree_L94 N g9 g57 fu I0_l94 L0_l94 M0_l94 y94_3 y94_4) (fun r => KX12 r.2.1 r.2.2.2 ∧ True) := by
  intro fu
  induction fu with
  | zero => intro I0_l94 L0_l94 M0_l94 y94_3 y94_4 h_y94_4 k_I0_l94 hm; exfalso; omega
  | succ fu ih =>
    intro I0_l94 L0_l94 M0_l94 y94_3 y94_4 h_y94_4 k_I0_l94 hm
    rw [fX12_tree_L94.eq_2]
    have l_6 := il_6
    refine wq_le (fun hc_51829 => ?_) (fun hc_51830 => ?_)
    · have b_51831 := i32b y94_3
      have l_m1 := il_m1
      have l_0 := il_0
      exact tt_fX12_tree_L115 hN y94_3 g9 g57 _ N I0_l94 L0_l94 M0_l94 ((-1) : Int32) (0 : Int32) ⟨by omega, by omega⟩ k_I0_l94 (by omega)
    · refine wq_v (fun v20_q51832 h_v20_q51832 => ?_)
      clear h_v20_q51832
      have l_1 := il_1
      have t_51834 := ia_add y94_4 (1 : Int32) (by omega) (by omega)
      refine wq_v (fun v21_q51833 h_v21_q51833 => ?_)
      have t_v21_q51833 := congrArg Int32.toInt h_v21_q51833
      have b_51835 := i32b v20_q51832
      exact ih I0_l94 L0_l94 M0_l94 v20_q51832 v21_q51833 ⟨by omega, by omega⟩ k_I0_l94 (by omega)
set_option maxHeartbeats 4000000 in
theorem tt_fX12_tree_L57 {N : Nat} (hN : 3000000000 ≤ N) (g9 : (Nat → Int32) → Int64 → (Nat → Nat → Int32) → Int32 → Int32 → Option (Int32 × (Nat → Int32) × Int64 × (Nat → Nat → Int32)))   : ∀ (fu : Nat) (I0_l57 : (Nat → Int32)) (L0_l57 : Int64) (M0_l57 : (Nat → Nat → Int32)) (y57_2 : Int32), (0 ≤ y57_2.toInt ∧ y57_2.toInt ≤ 36) → (KX12 I0_l57 M0_l57) → (36 - y57_2.toInt) < (fu : Int) → wq (fX12_tree_L57 N g9 fu I0_l57 L0_l57 M0_l57 y57_2) (fun r => KX12 r.2.1 r.2.2.2 ∧ True) := by
  intro fu
  induction fu with
  | zero => intro I0_l57 L0_l57 M0_l57 y57_2 h_y57_2 k_I0_l57 hm; exfalso; omega
  | succ fu ih =>
    intro I0_l57 L0_l57 M0_l57 y57_2 h_y57_2 k_I0_l57 hm
    rw [fX12_tree_L57.eq_2]
    have l_36 := il_36
    refine wq_le (fun hc_51836 => ?_) (fun hc_51837 => ?_)
    · have l_1 := il_1
      have l_0 := il_0
      exact tt_fX12_tree_L94 hN g9 _ N I0_l57 L0_l57 M0_l57 (1 : Int32) (0 : Int32) ⟨by omega, by omega⟩ k_I0_l57 (by omega)
    · have l_6 := il_6
      have t_51838 := ia_div y57_2 (6 : Int32) 6 il_6 (by decide) (by omega)
      have t_51839 := ia_rem y57_2 (6 : Int32) 6 il_6 (by decide) (by omega)
      refine wq_b (tt_fX12_priceAll hN I0_l57 L0_l57 M0_l57 (y57_2 / (6 : Int32)) (y57_2 - ((y57_2 / (6 : Int32)) * (6 : Int32))) ⟨by omega, by omega⟩ ⟨by omega, by omega⟩ k_I0_l57) (fun r22_q51840 h_r22_q51840 => ?_)
      obtain ⟨-⟩ := h_r22_q51840
      refine wq_in (n := 36) ⟨by omega, by omega⟩ ?_
      refine wq_v (fun M0_23_q51841 h_M0_23_q51841 => ?_)
      have k_M0_23_q51841 : KX12 I0_l57 M0_23_q51841 := by rw [h_M0_23_q51841]; exact KX12.sm25 k_I0_l57
      have l_1 := il_1
      have t_51843 := ia_add y57_2 (1 : Int32) (by omega) (by omega)
      refine wq_v (fun v24_q51842 h_v24_q51842 => ?_)
      have t_v24_q51842 := congrArg Int32.toInt h_v24_q51842
      exact ih I0_l57 L0_l57 M0_23_q51841 v24_q51842 ⟨by omega, by omega⟩ k_M0_23_q51841 (by omega)
set_option maxHeartbeats 4000000 in
theorem tt_fX12_tree_L9 {N : Nat} (hN : 3000000000 ≤ N)    : ∀ (fu : Nat) (I0_l9 : (Nat → Int32)) (L0_l9 : Int64) (M0_l9 : (Nat → Nat → Int32)) (y9_1 : Int32) (y9_2 : Int32), (0 ≤ y9_2.toInt ∧ y9_2.toInt ≤ 6) → (KX12 I0_l9 M0_l9) → (6 - y9_2.toInt) < (fu : Int) → wq (fX12_tree_L9 N fu I0_l9 L0_l9 M0_l9 y9_1 y9_2) (fun r => KX12 r.2.1 r.2.2.2 ∧ True) := by
  intro fu
  induction fu with
  | zero => intro I0_l9 L0_l9 M0_l9 y9_1 y9_2 h_y9_2 k_I0_l9 hm; exfalso; omega
  | succ fu ih =>
    intro I0_l9 L0_l9 M0_l9 y9_1 y9_2 h_y9_2 k_I0_l9 hm
    rw [fX12_tree_L9.eq_2]
    have l_6 := il_6
    refine wq_le (fun hc_51844 => ?_) (fun hc_51845 => ?_)
    · have b_51846 := i32b y9_1
      have l_0 := il_0
      refine wq_eq (fun hc_51847 => ?_) (fun hc_51848 => ?_)
      · have l_m1 := il_m1
        exact wq_s ⟨k_I0_l9, trivial⟩
      · exact tt_fX12_tree_L57 hN _ N I0_l9 L0_l9 M0_l9 (0 : Int32) ⟨by omega, by omega⟩ k_I0_l9 (by omega)
    · refine wq_b (tt_fX12_bookTells hN I0_l9 L0_l9 M0_l9 y9_2 ⟨by omega, by omega⟩ k_I0_l9) (fun r25_q51849 h_r25_q51849 => ?_)
      obtain ⟨h_r25_q51849_0, -⟩ := h_r25_q51849
      refine wq_in (n := 6) ⟨by omega, by omega⟩ ?_
      refine wq_v (fun M0_26_q51850 h_M0_26_q51850 => ?_)
      have k_M0_26_q51850 : KX12 I0_l9 M0_26_q51850 := by rw [h_M0_26_q51850]; exact KX12.sm26 k_I0_l9
      refine wq_in (n := 6) ⟨by omega, by omega⟩ ?_
      have l_0 := il_0
      refine wq_eq (fun hc_51851 => ?_) (fun hc_51852 => ?_)
      · refine wq_v (fun v27_q51853 h_v27_q51853 => ?_)
        clear h_v27_q51853
        have l_1 := il_1
        have t_51855 := ia_add y9_2 (1 : Int32) (by omega) (by omega)
        refine wq_v (fun v28_q51854 h_v28_q51854 => ?_)
        have t_v28_q51854 := congrArg Int32.toInt h_v28_q51854
        have b_51856 := i32b v27_q51853
        exact ih I0_l9 L0_l9 M0_26_q51850 v27_q51853 v28_q51854 ⟨by omega, by omega⟩ k_M0_26_q51850 (by omega)
      · have b_51858 := i32b y9_1
        have l_1 := il_1
        refine wq_v (fun v29_q51857 h_v29_q51857 => ?_)
        clear h_v29_q51857
        have t_51860 := ia_add y9_2 (1 : Int32) (by omega) (by omega)
        refine wq_v (fun v30_q51859 h_v30_q51859 => ?_)
        have t_v30_q51859 := congrArg Int32.toInt h_v30_q51859
        have b_51861 := i32b v29_q51857
        exact ih I0_l9 L0_l9 M0_26_q51850 v29_q51857 v30_q51859 ⟨by omega, by omega⟩ k_M0_26_q51850 (by omega)
set_option maxHeartbeats 4000000 in
theorem tt_fX12_tree {N : Nat} (hN : 3000000000 ≤ N) (I0 : Nat → Int32) (L0 : Int64) (M0 : Nat → Nat → Int32) (k_I0 : KX12 I0 M0) : wq (fX12_tree N I0 L0 M0) (fun r => KX12 r.2.1 r.2.2.2 ∧ True) := by
  unfold fX12_tree
  refine wq_v (fun I0_1_q51862 h_I0_1_q51862 => ?_)
  have k_I0_1_q51862 : KX12 I0_1_q51862 M0 := by rw [h_I0_1_q51862]; exact KX12.si0 k_I0
  have l_0 := il_0
  exact tt_fX12_tree_L9 hN N I0_1_q51862 L0 M0 (0 : Int32) (0 : Int32) ⟨by omega, by omega⟩ k_I0_1_q51862 (by omega)
set_option maxHeartbeats 4000000 in
theorem tt_fX12_whence {N : Nat} (hN : 3000000000 ≤ N) (I0 : Nat → Int32) (L0 : Int64) (M0 : Nat → Nat → Int32) (x1 : Int32) (k_I0 : KX12 I0 M0) : wq (fX12_whence N I0 L0 M0 x1) (fun r => (-2 ≤ r.1.toInt ∧ r.1.toInt ≤ 5) ∧ KX12 r.2.1 r.2.2.2 ∧ True) := by
  unfold fX12_whence
  refine wq_v (fun I0_2_q52037 h_I0_2_q52037 => ?_)
  have k_I0_2_q52037 : KX12 I0_2_q52037 M0 := by rw [h_I0_2_q52037]; exact KX12.si0 k_I0
  have b_52038 := i32b x1
  refine wq_b (tt_fX12_isBook hN I0_2_q52037 L0 M0 x1 k_I0_2_q52037) (fun r3_q52039 h_r3_q52039 => ?_)
  obtain ⟨h_r3_q52039_0, h_r3_q52039_1, h_r3_q52039_2, h_r3_q52039_3, -⟩ := h_r3_q52039
  have t_52040 := KX12.i1 h_r3_q52039_3
  have t_52041 := KX12.i1 k_I0
  have t_52042 : (I0_2_q52037 1).toInt = (I0 1).toInt := by rw [h_I0_2_q52037]; rfl
  have l_0 := il_0
  refine wq_eq (fun hc_52043 => ?_) (fun hc_52044 => ?_)
  · exact wq_s ⟨(show -2 ≤ (0 : Int32).toInt ∧ (0 : Int32).toInt ≤ 5 from ⟨by omega, by omega⟩), h_r3_q52039_3, trivial⟩
  · have t_52045 := KX12.i18 h_r3_q52039_3
    refine wq_eq (fun hc_52046 => ?_) (fun hc_52047 => ?_)
    · unfold fX12_whence_J36
      unfold fX12_whence_J37
      have l_1 := il_1
      refine wq_b (tt_fX12_right hN r3_q52039.2.1 r3_q52039.2.2.1 r3_q52039.2.2.2 (0 : Int32) (1 : Int32) ⟨by omega, by omega⟩ h_r3_q52039_3) (fun r1_q52048 h_r1_q52048 => ?_)
      obtain ⟨h_r1_q52048_0, h_r1_q52048_1, h_r1_q52048_2, h_r1_q52048_3, -⟩ := h_r1_q52048
      have t_52049 := KX12.i1 h_r1_q52048_3
      refine wq_eq (fun hc_52050 => ?_) (fun hc_52051 => ?_)
      · exact wq_s ⟨(show -2 ≤ (0 : Int32).toInt ∧ (0 : Int32).toInt ≤ 5 from ⟨by omega, by omega⟩), h_r1_q52048_3, trivial⟩
      · refine wq_in (n := 6) ⟨by omega, by omega⟩ ?_
        have t_52052 := KX12.m23 h_r1_q52048_3 x1.toNatClampNeg
        exact wq_s ⟨(show -2 ≤ (r1_q52048.2.2.2 23 x1.toNatClampNeg).toInt ∧ (r1_q52048.2.2.2 23 x1.toNatClampNeg).toInt ≤ 5 from ⟨by omega, by omega⟩), h_r1_q52048_3, trivial⟩
    · refine wq_in (n := 6) ⟨by omega, by omega⟩ ?_
      have t_52053 := KX12.m23 h_r3_q52039_3 x1.toNatClampNeg
      have l_m2 := il_m2
      refine wq_eq (fun hc_52054 => ?_) (fun hc_52055 => ?_)
      · unfold fX12_whence_J36
        unfold fX12_whence_J37
        have l_1 := il_1
        refine wq_b (tt_fX12_right hN r3_q52039.2.1 r3_q52039.2.2.1 r3_q52039.2.2.2 (0 : Int32) (1 : Int32) ⟨by omega, by omega⟩ h_r3_q52039_3) (fun r1_q52056 h_r1_q52056 => ?_)
        obtain ⟨h_r1_q52056_0, h_r1_q52056_1, h_r1_q52056_2, h_r1_q52056_3, -⟩ := h_r1_q52056
        have t_52057 := KX12.i1 h_r1_q52056_3
        refine wq_eq (fun hc_52058 => ?_) (fun hc_52059 => ?_)
        · exact wq_s ⟨(show -2 ≤ (0 : Int32).toInt ∧ (0 : Int32).toInt ≤ 5 from ⟨by omega, by omega⟩), h_r1_q52056_3, trivial⟩
        · refine wq_in (n := 6) ⟨by omega, by omega⟩ ?_
          have t_52060 := KX12.m23 h_r1_q52056_3 x1.toNatClampNeg
          exact wq_s ⟨(show -2 ≤ (r1_q52056.2.2.2 23 x1.toNatClampNeg).toInt ∧ (r1_q52056.2.2.2 23 x1.toNatClampNeg).toInt ≤ 5 from ⟨by omega, by omega⟩), h_r1_q52056_3, trivial⟩
      · unfold fX12_whence_J37
        have l_1 := il_1
        refine wq_b (tt_fX12_right hN r3_q52039.2.1 r3_q52039.2.2.1 r3_q52039.2.2.2 (1 : Int32) (1 : Int32) ⟨by omega, by omega⟩ h_r3_q52039_3) (fun r1_q52061 h_r1_q52061 => ?_)
        obtain ⟨h_r1_q52061_0, h_r1_q52061_1, h_r1_q52061_2, h_r1_q52061_3, -⟩ := h_r1_q52061
        have t_52062 := KX12.i1 h_r1_q52061_3
        refine wq_eq (fun hc_52063 => ?_) (fun hc_52064 => ?_)
        · exact wq_s ⟨(show -2 ≤ (0 : Int32).toInt ∧ (0 : Int32).toInt ≤ 5 from ⟨by omega, by omega⟩), h_r1_q52061_3, trivial⟩
        · refine wq_in (n := 6) ⟨by omega, by omega⟩ ?_
          have t_52065 := KX12.m23 h_r1_q52061_3 x1.toNatClampNeg
          exact wq_s ⟨(show -2 ≤ (r1_q52061.2.2.2 23 x1.toNatClampNeg).toInt ∧ (r1_q52061.2.2.2 23 x1.toNatClampNeg).toInt ≤ 5 from ⟨by omega, by omega⟩), h_r1_q52061_3, trivial⟩
set_option maxHeartbeats 4000000 in
theorem tt_fX12_slips_L62 {N : Nat} (hN : 3000000000 ≤ N) (x1 : Int32) (x2 : Int32) (y52_4 : Int32) (g52 : (Nat → Int32) → Int64 → (Nat → Nat → Int32) → Int32 → Int32 → Option (Int32 × (Nat → Int32) × Int64 × (Nat → Nat → Int32))) (h_y52_4 : 0 ≤ y52_4.toInt ∧ y52_4.toInt ≤ 5) (hg52 : ∀ (q0 : (Nat → Int32)) (q1 : Int64) (q2 : (Nat → Nat → Int32)) (q3 : Int32) (q4 : Int32), (0 ≤ q4.toInt ∧ q4.toInt ≤ 6) → (KX12 q0 q2) → (y52_4.toInt < q4.toInt) → wq (g52 q0 q1 q2 q3 q4) (fun r => KX12 r.2.1 r.2.2.2 ∧ True)) : ∀ (fu : Nat) (I0_l62 : (Nat → Int32)) (L0_l62 : Int64) (M0_l62 : (Nat → Nat → Int32)) (y62_3 : Int32) (y62_5 : Int32), (0 ≤ y62_5.toInt ∧ y62_5.toInt ≤ 420) → (KX12 I0_l62 M0_l62) → (420 - y62_5.toInt) < (fu : Int) → wq (fX12_slips_L62 N x1 x2 y52_4 g52 fu I0_l62 L0_l62 M0_l62 y62_3 y62_5) (fun r => KX12 r.2.1 r.2.2.2 ∧ True) := by
  intro fu
  induction fu with
  | zero => intro I0_l62 L0_l62 M0_l62 y62_3 y62_5 h_y62_5 k_I0_l62 hm; exfalso; omega
  | succ fu ih =>
    intro I0_l62 L0_l62 M0_l62 y62_3 y62_5 h_y62_5 k_I0_l62 hm
    rw [fX12_slips_L62.eq_2]
    have l_420 := il_420
    refine wq_le (fun hc_54996 => ?_) (fun hc_54997 => ?_)
    · have l_1 := il_1
      have t_54999 := ia_add y52_4 (1 : Int32) (by omega) (by omega)
      refine wq_v (fun v7_q54998 h_v7_q54998 => ?_)
      have t_v7_q54998 := congrArg Int32.toInt h_v7_q54998
      have b_55000 := i32b y62_3
      exact hg52 I0_l62 L0_l62 M0_l62 y62_3 v7_q54998 ⟨by omega, by omega⟩ k_I0_l62 (by omega)
    · refine wq_in (n := 6) ⟨by omega, by omega⟩ ?_
      have t_55001 := KX12.m23 k_I0_l62 y52_4.toNatClampNeg
      have l_0 := il_0
      refine wq_lt (fun hc_55002 => ?_) (fun hc_55003 => ?_)
      · have l_1 := il_1
        have t_55005 := ia_add y52_4 (1 : Int32) (by omega) (by omega)
        refine wq_v (fun v8_q55004 h_v8_q55004 => ?_)
        have t_v8_q55004 := congrArg Int32.toInt h_v8_q55004
        have b_55006 := i32b y62_3
        exact hg52 I0_l62 L0_l62 M0_l62 y62_3 v8_q55004 ⟨by omega, by omega⟩ k_I0_l62 (by omega)
      · have l_20 := il_20
        have t_55007 := ia_mul (20 : Int32) (20) il_20 y52_4 (by omega) (by omega)
        have l_21 := il_21
        have t_55008 := ia_div y62_5 (21 : Int32) 21 il_21 (by decide) (by omega)
        have t_55009 := ia_add ((20 : Int32) * y52_4) (y62_5 / (21 : Int32)) (by omega) (by omega)
        have t_55010 := ia_rem y62_5 (21 : Int32) 21 il_21 (by decide) (by omega)
        refine wq_b (tt_fX12_at hN I0_l62 L0_l62 M0_l62 (((20 : Int32) * y52_4) + (y62_5 / (21 : Int32))) (y62_5 - ((y62_5 / (21 : Int32)) * (21 : Int32))) ⟨by omega, by omega⟩ ⟨by omega, by omega⟩ k_I0_l62) (fun r9b_q55011 h_r9b_q55011 => ?_)
        obtain ⟨h_r9b_q55011_0, h_r9b_q55011_1, h_r9b_q55011_2, -⟩ := h_r9b_q55011
        refine wq_in (n := 6) ⟨by omega, by omega⟩ ?_
        have t_55012 := ia_mul (20 : Int32) (20) il_20 (M0_l62 23 y52_4.toNatClampNeg) (by omega) (by omega)
        have t_55013 := ia_add ((20 : Int32) * (M0_l62 23 y52_4.toNatClampNeg)) (y62_5 / (21 : Int32)) (by omega) (by omega)
        refine wq_b (tt_fX12_at hN I0_l62 L0_l62 M0_l62 (((20 : Int32) * (M0_l62 23 y52_4.toNatClampNeg)) + (y62_5 / (21 : Int32))) (y62_5 - ((y62_5 / (21 : Int32)) * (21 : Int32))) ⟨by omega, by omega⟩ ⟨by omega, by omega⟩ k_I0_l62) (fun r10_q55014 h_r10_q55014 => ?_)
        obtain ⟨h_r10_q55014_0, h_r10_q55014_1, h_r10_q55014_2, -⟩ := h_r10_q55014
        have l_m1 := il_m1
        refine wq_eq (fun hc_55015 => ?_) (fun hc_55016 => ?_)
        · have l_1 := il_1
          have t_55018 := ia_add y62_5 (1 : Int32) (by omega) (by omega)
          refine wq_v (fun v11_q55017 h_v11_q55017 => ?_)
          have t_v11_q55017 := congrArg Int32.toInt h_v11_q55017
          have b_55019 := i32b y62_3
          exact ih I0_l62 L0_l62 M0_l62 y62_3 v11_q55017 ⟨by omega, by omega⟩ k_I0_l62 (by omega)
        · refine wq_eq (fun hc_55020 => ?_) (fun hc_55021 => ?_)
          · have l_1 := il_1
            have t_55023 := ia_add y62_5 (1 : Int32) (by omega) (by omega)
            refine wq_v (fun v15_q55022 h_v15_q55022 => ?_)
            have t_v15_q55022 := congrArg Int32.toInt h_v15_q55022
            have b_55024 := i32b y62_3
            exact ih I0_l62 L0_l62 M0_l62 y62_3 v15_q55022 ⟨by omega, by omega⟩ k_I0_l62 (by omega)
          · refine wq_b (tt_fX12_beside hN I0_l62 L0_l62 M0_l62 r9b_q55011 r10_q55014 ⟨by omega, by omega⟩ k_I0_l62) (fun r12_q55025 h_r12_q55025 => ?_)
            obtain ⟨h_r12_q55025_0, -⟩ := h_r12_q55025
            have l_1 := il_1
            refine wq_eq (fun hc_55026 => ?_) (fun hc_55027 => ?_)
            · have l_30 := il_30
              have t_55028 := ia_rem r9b_q55011 (30 : Int32) 30 il_30 (by decide) (by omega)
              have b_55029 := i32b x1
              refine wq_eq (fun hc_55030 => ?_) (fun hc_55031 => ?_)
              · have t_55032 := ia_rem r10_q55014 (30 : Int32) 30 il_30 (by decide) (by omega)
                have b_55033 := i32b x2
                refine wq_eq (fun hc_55034 => ?_) (fun hc_55035 => ?_)
                · have b_55037 := i32b y62_3
                  refine wq_v (fun v13_q55036 h_v13_q55036 => ?_)
                  have t_v13_q55036 := congrArg Int32.toInt h_v13_q55036
                  have t_55039 := ia_add y62_5 (1 : Int32) (by omega) (by omega)
                  refine wq_v (fun v14_q55038 h_v14_q55038 => ?_)
                  have t_v14_q55038 := congrArg Int32.toInt h_v14_q55038
                  have b_55040 := i32b v13_q55036
                  exact ih I0_l62 L0_l62 M0_l62 v13_q55036 v14_q55038 ⟨by omega, by omega⟩ k_I0_l62 (by omega)
                · unfold fX12_slips_J178
                  have l_2 := il_2
                  refine wq_eq (fun hc_55041 => ?_) (fun hc_55042 => ?_)
                  · exfalso; omega
                  · have t_55044 := ia_add y62_5 (1 : Int32) (by omega) (by omega)
                    refine wq_v (fun v2_q55043 h_v2_q55043 => ?_)
                    have t_v2_q55043 := congrArg Int32.toInt h_v2_q55043
                    have b_55045 := i32b y62_3
                    exact ih I0_l62 L0_l62 M0_l62 y62_3 v2_q55043 ⟨by omega, by omega⟩ k_I0_l62 (by omega)
              · unfold fX12_slips_J178
                have l_2 := il_2
                refine wq_eq (fun hc_55046 => ?_) (fun hc_55047 => ?_)
                · exfalso; omega
                · have t_55049 := ia_add y62_5 (1 : Int32) (by omega) (by omega)
                  refine wq_v (fun v2_q55048 h_v2_q55048 => ?_)
                  have t_v2_q55048 := congrArg Int32.toInt h_v2_q55048
                  have b_55050 := i32b y62_3
                  exact ih I0_l62 L0_l62 M0_l62 y62_3 v2_q55048 ⟨by omega, by omega⟩ k_I0_l62 (by omega)
            · unfold fX12_slips_J178
              have l_2 := il_2
              refine wq_eq (fun hc_55051 => ?_) (fun hc_55052 => ?_)
              · have l_30 := il_30
                have t_55053 := ia_div r9b_q55011 (30 : Int32) 30 il_30 (by decide) (by omega)
                have b_55054 := i32b x1
                refine wq_eq (fun hc_55055 => ?_) (fun hc_55056 => ?_)
                · have t_55057 := ia_div r10_q55014 (30 : Int32) 30 il_30 (by decide) (by omega)
                  have b_55058 := i32b x2
                  refine wq_eq (fun hc_55059 => ?_) (fun hc_55060 => ?_)
                  · have b_55062 := i32b y62_3
                    refine wq_v (fun v5_q55061 h_v5_q55061 => ?_)
                    have t_v5_q55061 := congrArg Int32.toInt h_v5_q55061
                    have t_55064 := ia_add y62_5 (1 : Int32) (by omega) (by omega)
                    refine wq_v (fun v6_q55063 h_v6_q55063 => ?_)
                    have t_v6_q55063 := congrArg Int32.toInt h_v6_q55063
                    have b_55065 := i32b v5_q55061
                    exact ih I0_l62 L0_l62 M0_l62 v5_q55061 v6_q55063 ⟨by omega, by omega⟩ k_I0_l62 (by omega)
                  · have t_55067 := ia_add y62_5 (1 : Int32) (by omega) (by omega)
                    refine wq_v (fun v4_q55066 h_v4_q55066 => ?_)
                    have t_v4_q55066 := congrArg Int32.toInt h_v4_q55066
                    have b_55068 := i32b y62_3
                    exact ih I0_l62 L0_l62 M0_l62 y62_3 v4_q55066 ⟨by omega, by omega⟩ k_I0_l62 (by omega)
                · have t_55070 := ia_add y62_5 (1 : Int32) (by omega) (by omega)
                  refine wq_v (fun v3_q55069 h_v3_q55069 => ?_)
                  have t_v3_q55069 := congrArg Int32.toInt h_v3_q55069
                  have b_55071 := i32b y62_3
                  exact ih I0_l62 L0_l62 M0_l62 y62_3 v3_q55069 ⟨by omega, by omega⟩ k_I0_l62 (by omega)
              · have t_55073 := ia_add y62_5 (1 : Int32) (by omega) (by omega)
                refine wq_v (fun v2_q55072 h_v2_q55072 => ?_)
                have t_v2_q55072 := congrArg Int32.toInt h_v2_q55072
                have b_55074 := i32b y62_3
                exact ih I0_l62 L0_l62 M0_l62 y62_3 v2_q55072 ⟨by omega, by omega⟩ k_I0_l62 (by omega)
set_option maxHeartbeats 4000000 in
theorem tt_fX12_slips_L52 {N : Nat} (hN : 3000000000 ≤ N) (x1 : Int32) (x2 : Int32)   : ∀ (fu : Nat) (I0_l52 : (Nat → Int32)) (L0_l52 : Int64) (M0_l52 : (Nat → Nat → Int32)) (y52_3 : Int32) (y52_4 : Int32), (0 ≤ y52_4.toInt ∧ y52_4.toInt ≤ 6) → (KX12 I0_l52 M0_l52) → (6 - y52_4.toInt) < (fu : Int) → wq (fX12_slips_L52 N x1 x2 fu I0_l52 L0_l52 M0_l52 y52_3 y52_4) (fun r => KX12 r.2.1 r.2.2.2 ∧ True) := by
  intro fu
  induction fu with
  | zero => intro I0_l52 L0_l52 M0_l52 y52_3 y52_4 h_y52_4 k_I0_l52 hm; exfalso; omega
  | succ fu ih =>
    intro I0_l52 L0_l52 M0_l52 y52_3 y52_4 h_y52_4 k_I0_l52 hm
    rw [fX12_slips_L52.eq_2]
    have l_6 := il_6
    refine wq_le (fun hc_55075 => ?_) (fun hc_55076 => ?_)
    · have b_55077 := i32b y52_3
      exact wq_s ⟨k_I0_l52, trivial⟩
    · have b_55078 := i32b x1
      have b_55079 := i32b x2
      have b_55080 := i32b y52_3
      have l_0 := il_0
      exact tt_fX12_slips_L62 hN x1 x2 y52_4 _ ⟨by omega, by omega⟩ (fun q0 q1 q2 q3 q4 hq0 hq1 hq2 => ih q0 q1 q2 q3 q4 hq0 hq1 (by omega)) N I0_l52 L0_l52 M0_l52 y52_3 (0 : Int32) ⟨by omega, by omega⟩ k_I0_l52 (by omega)
set_option maxHeartbeats 4000000 in
theorem tt_fX12_slips {N : Nat} (hN : 3000000000 ≤ N) (I0 : Nat → Int32) (L0 : Int64) (M0 : Nat → Nat → Int32) (x1 : Int32) (x2 : Int32) (k_I0 : KX12 I0 M0) : wq (fX12_slips N I0 L0 M0 x1 x2) (fun r => KX12 r.2.1 r.2.2.2 ∧ True) := by
  unfold fX12_slips
  refine wq_v (fun I0_16_q55081 h_I0_16_q55081 => ?_)
  have k_I0_16_q55081 : KX12 I0_16_q55081 M0 := by rw [h_I0_16_q55081]; exact KX12.si0 k_I0
  have b_55082 := i32b x1
  have l_0 := il_0
  have l_29 := il_29
  refine wq_b (tt_fX12_within hN x1 (0 : Int32) (29 : Int32)) (fun r17_q55083 h_r17_q55083 => ?_)
  obtain ⟨h_r17_q55083_0, h_r17_q55083_1, -⟩ := h_r17_q55083
  refine wq_eq (fun hc_55084 => ?_) (fun hc_55085 => ?_)
  · unfold fX12_slips_J37
    unfold fX12_slips_J38
    have l_1 := il_1
    refine wq_b (tt_fX12_right hN I0_16_q55081 L0 M0 (0 : Int32) (1 : Int32) ⟨by omega, by omega⟩ k_I0_16_q55081) (fun r1_q55086 h_r1_q55086 => ?_)
    obtain ⟨h_r1_q55086_0, h_r1_q55086_1, h_r1_q55086_2, h_r1_q55086_3, -⟩ := h_r1_q55086
    have t_55087 := KX12.i1 h_r1_q55086_3
    have t_55088 := KX12.i1 k_I0
    have t_55089 : (I0_16_q55081 1).toInt = (I0 1).toInt := by rw [h_I0_16_q55081]; rfl
    refine wq_eq (fun hc_55090 => ?_) (fun hc_55091 => ?_)
    · exact wq_s ⟨h_r1_q55086_3, trivial⟩
    · have b_55092 := i32b x2
      exact tt_fX12_slips_L52 hN x1 x2 N r1_q55086.2.1 r1_q55086.2.2.1 r1_q55086.2.2.2 (0 : Int32) (0 : Int32) ⟨by omega, by omega⟩ h_r1_q55086_3 (by omega)
  · have b_55093 := i32b x2
    refine wq_b (tt_fX12_within hN x2 (0 : Int32) (29 : Int32)) (fun r18_q55094 h_r18_q55094 => ?_)
    obtain ⟨h_r18_q55094_0, h_r18_q55094_1, -⟩ := h_r18_q55094
    refine wq_eq (fun hc_55095 => ?_) (fun hc_55096 => ?_)
    · unfold fX12_slips_J37
      unfold fX12_slips_J38
      have l_1 := il_1
      refine wq_b (tt_fX12_right hN I0_16_q55081 L0 M0 (0 : Int32) (1 : Int32) ⟨by omega, by omega⟩ k_I0_16_q55081) (fun r1_q55097 h_r1_q55097 => ?_)
      obtain ⟨h_r1_q55097_0, h_r1_q55097_1, h_r1_q55097_2, h_r1_q55097_3, -⟩ := h_r1_q55097
      have t_55098 := KX12.i1 h_r1_q55097_3
      have t_55099 := KX12.i1 k_I0
      have t_55100 : (I0_16_q55081 1).toInt = (I0 1).toInt := by rw [h_I0_16_q55081]; rfl
      refine wq_eq (fun hc_55101 => ?_) (fun hc_55102 => ?_)
      · exact wq_s ⟨h_r1_q55097_3, trivial⟩
      · exact tt_fX12_slips_L52 hN x1 x2 N r1_q55097.2.1 r1_q55097.2.2.1 r1_q55097.2.2.2 (0 : Int32) (0 : Int32) ⟨by omega, by omega⟩ h_r1_q55097_3 (by omega)
    · have t_55103 := KX12.i18 k_I0
      have t_55104 : (I0_16_q55081 18).toInt = (I0 18).toInt := by rw [h_I0_16_q55081]; rfl
      refine wq_eq (fun hc_55105 => ?_) (fun hc_55106 => ?_)
      · unfold fX12_slips_J37
        unfold fX12_slips_J38
        have l_1 := il_1
        refine wq_b (tt_fX12_right hN I0_16_q55081 L0 M0 (0 : Int32) (1 : Int32) ⟨by omega, by omega⟩ k_I0_16_q55081) (fun r1_q55107 h_r1_q55107 => ?_)
        obtain ⟨h_r1_q55107_0, h_r1_q55107_1, h_r1_q55107_2, h_r1_q55107_3, -⟩ := h_r1_q55107
        have t_55108 := KX12.i1 h_r1_q55107_3
        have t_55109 := KX12.i1 k_I0
        have t_55110 : (I0_16_q55081 1).toInt = (I0 1).toInt := by rw [h_I0_16_q55081]; rfl
        refine wq_eq (fun hc_55111 => ?_) (fun hc_55112 => ?_)
        · exact wq_s ⟨h_r1_q55107_3, trivial⟩
        · exact tt_fX12_slips_L52 hN x1 x2 N r1_q55107.2.1 r1_q55107.2.2.1 r1_q55107.2.2.2 (0 : Int32) (0 : Int32) ⟨by omega, by omega⟩ h_r1_q55107_3 (by omega)
      · unfold fX12_slips_J38
        have l_1 := il_1
        refine wq_b (tt_fX12_right hN I0_16_q55081 L0 M0 (1 : Int32) (1 : Int32) ⟨by omega, by omega⟩ k_I0_16_q55081) (fun r1_q55113 h_r1_q55113 => ?_)
        obtain ⟨h_r1_q55113_0, h_r1_q55113_1, h_r1_q55113_2, h_r1_q55113_3, -⟩ := h_r1_q55113
        have t_55114 := KX12.i1 h_r1_q55113_3
        have t_55115 := KX12.i1 k_I0
        have t_55116 : (I0_16_q55081 1).toInt = (I0 1).toInt := by rw [h_I0_16_q55081]; rfl
        refine wq_eq (fun hc_55117 => ?_) (fun hc_55118 => ?_)
        · exact wq_s ⟨h_r1_q55113_3, trivial⟩
        · exact tt_fX12_slips_L52 hN x1 x2 N r1_q55113.2.1 r1_q55113.2.2.1 r1_q55113.2.2.2 (0 : Int32) (0 : Int32) ⟨by omega, by omega⟩ h_r1_q55113_3 (by omega)
set_option maxHeartbeats 4000000 in
theorem tt_fX12_handed_L37 {N : Nat} (hN : 3000000000 ≤ N) (x1 : Int32) (x2 : Int32) (x3 : Int32) (h_x1 : 0 ≤ x1.toInt ∧ x1.toInt ≤ 5) (h_x2 : 0 ≤ x2.toInt ∧ x2.toInt ≤ 5) (h_x3 : 0 ≤ x3.toInt ∧ x3.toInt ≤ 5)  : ∀ (fu : Nat) (I0_l37 : (Nat → Int32)) (L0_l37 : Int64) (M0_l37 : (Nat → Nat → Int32)) (y37_4 : Int32) (y37_5 : Int32), (0 ≤ y37_5.toInt ∧ y37_5.toInt ≤ 440) → (KX12 I0_l37 M0_l37) → (440 - y37_5.toInt) < (fu : Int) → wq (fX12_handed_L37 N x1 x2 x3 fu I0_l37 L0_l37 M0_l37 y37_4 y37_5) (fun r => KX12 r.2.1 r.2.2.2 ∧ True) := by
  intro fu
  induction fu with
  | zero => intro I0_l37 L0_l37 M0_l37 y37_4 y37_5 h_y37_5 k_I0_l37 hm; exfalso; omega
  | succ fu ih =>
    intro I0_l37 L0_l37 M0_l37 y37_4 y37_5 h_y37_5 k_I0_l37 hm
    rw [fX12_handed_L37.eq_2]
    have l_440 := il_440
    refine wq_le (fun hc_55993 => ?_) (fun hc_55994 => ?_)
    · have b_55995 := i32b y37_4
      exact wq_s ⟨k_I0_l37, trivial⟩
    · have t_55996 := ia_mul (440 : Int32) (440) il_440 x1 (by omega) (by omega)
      have t_55997 := ia_add ((440 : Int32) * x1) y37_5 (by omega) (by omega)
      refine wq_in (n := 2640) ⟨by omega, by omega⟩ ?_
      have t_55999 := KX12.m7 k_I0_l37 ((((440 : Int32) * x1) + y37_5)).toNatClampNeg
      refine wq_v (fun v5_q55998 h_v5_q55998 => ?_)
      have t_v5_q55998 := congrArg Int32.toInt h_v5_q55998
      have t_56000 := ia_mul (440 : Int32) (440) il_440 x2 (by omega) (by omega)
      have t_56001 := ia_add ((440 : Int32) * x2) y37_5 (by omega) (by omega)
      refine wq_in (n := 2640) ⟨by omega, by omega⟩ ?_
      have t_56003 := KX12.m7 k_I0_l37 ((((440 : Int32) * x2) + y37_5)).toNatClampNeg
      refine wq_v (fun v6_q56002 h_v6_q56002 => ?_)
      have t_v6_q56002 := congrArg Int32.toInt h_v6_q56002
      have t_56004 := ia_mul (440 : Int32) (440) il_440 x3 (by omega) (by omega)
      have t_56005 := ia_add ((440 : Int32) * x3) y37_5 (by omega) (by omega)
      refine wq_in (n := 2640) ⟨by omega, by omega⟩ ?_
      have t_56007 := KX12.m7 k_I0_l37 ((((440 : Int32) * x3) + y37_5)).toNatClampNeg
      refine wq_v (fun v7_q56006 h_v7_q56006 => ?_)
      have t_v7_q56006 := congrArg Int32.toInt h_v7_q56006
      have l_m1 := il_m1
      refine wq_eq (fun hc_56008 => ?_) (fun hc_56009 => ?_)
      · have l_1 := il_1
        have t_56011 := ia_add y37_5 (1 : Int32) (by omega) (by omega)
        refine wq_v (fun v8_q56010 h_v8_q56010 => ?_)
        have t_v8_q56010 := congrArg Int32.toInt h_v8_q56010
        have b_56012 := i32b y37_4
        exact ih I0_l37 L0_l37 M0_l37 y37_4 v8_q56010 ⟨by omega, by omega⟩ k_I0_l37 (by omega)
      · refine wq_eq (fun hc_56013 => ?_) (fun hc_56014 => ?_)
        · refine wq_eq (fun hc_56015 => ?_) (fun hc_56016 => ?_)
          · have l_1 := il_1
            have t_56018 := ia_add y37_5 (1 : Int32) (by omega) (by omega)
            refine wq_v (fun v10_q56017 h_v10_q56017 => ?_)
            have t_v10_q56017 := congrArg Int32.toInt h_v10_q56017
            have b_56019 := i32b y37_4
            exact ih I0_l37 L0_l37 M0_l37 y37_4 v10_q56017 ⟨by omega, by omega⟩ k_I0_l37 (by omega)
          · refine wq_eq (fun hc_56020 => ?_) (fun hc_56021 => ?_)
            · have l_1 := il_1
              have t_56023 := ia_add y37_5 (1 : Int32) (by omega) (by omega)
              refine wq_v (fun v11_q56022 h_v11_q56022 => ?_)
              have t_v11_q56022 := congrArg Int32.toInt h_v11_q56022
              have b_56024 := i32b y37_4
              exact ih I0_l37 L0_l37 M0_l37 y37_4 v11_q56022 ⟨by omega, by omega⟩ k_I0_l37 (by omega)
            · have b_56026 := i32b y37_4
              have l_1 := il_1
              refine wq_v (fun v12_q56025 h_v12_q56025 => ?_)
              have t_v12_q56025 := congrArg Int32.toInt h_v12_q56025
              have t_56028 := ia_add y37_5 (1 : Int32) (by omega) (by omega)
              refine wq_v (fun v13_q56027 h_v13_q56027 => ?_)
              have t_v13_q56027 := congrArg Int32.toInt h_v13_q56027
              have b_56029 := i32b v12_q56025
              exact ih I0_l37 L0_l37 M0_l37 v12_q56025 v13_q56027 ⟨by omega, by omega⟩ k_I0_l37 (by omega)
        · have l_1 := il_1
          have t_56031 := ia_add y37_5 (1 : Int32) (by omega) (by omega)
          refine wq_v (fun v9_q56030 h_v9_q56030 => ?_)
          have t_v9_q56030 := congrArg Int32.toInt h_v9_q56030
          have b_56032 := i32b y37_4
          exact ih I0_l37 L0_l37 M0_l37 y37_4 v9_q56030 ⟨by omega, by omega⟩ k_I0_l37 (by omega)

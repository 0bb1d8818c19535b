theorem tt_bi73 {N : Nat} (hN : 3000000000 ≤ N) (x1 x2 : Int32) (g43 g64 : (Nat → Int32) → Int64 → (Nat → Nat → Int32) → Int32 → Option (Int32 × (Nat → Int32) × Int64 × (Nat → Nat → Int32))) (S0 : Int) (Q : Int32 × (Nat → Int32) × Int64 × (Nat → Nat → Int32) → Prop) (hg : ∀ (I : Nat → Int32) (L : Int64) (M : Nat → Nat → Int32) (y : Int32), KX12 I M → PS (M 31) → (0 ≤ y.toInt ∧ y.toInt ≤ 1) → sm (M 31) 0 120 + y.toInt ≤ S0 → wq (g64 I L M y) Q) : ∀ (fu : Nat) (I : Nat → Int32) (L : Int64) (M : Nat → Nat → Int32) (y a : Int32), KX12 I M → PS (M 31) → (0 ≤ y.toInt ∧ y.toInt ≤ 1) → sm (M 31) 0 120 + y.toInt ≤ S0 → (0 ≤ a.toInt ∧ a.toInt ≤ 120) → 120 - a.toInt < (fu : Int) → wq (fX12_births_L73 N x1 x2 g43 g64 fu I L M y a) Q := by
  intro fu
  induction fu with
  | zero => intro I L M y a k p hy hs ha hm; exfalso; omega
  | succ fu ih =>
    intro I L M y a k p hy hs ha hm
    rw [fX12_births_L73.eq_2]
    have l_120 := il_120
    have l_0 := il_0
    refine wq_le (fun hc => hg I L M y k p hy hs) (fun hc => ?_)
    exact tt_bi83 hN x1 x2 a ⟨by omega, by omega⟩ g43 g64 _ S0 Q (fun I L M y v k p hy hs hv => ih I L M y v k p hy hs ⟨by omega, by omega⟩ (by omega)) N I L M y (0 : Int32) k p hy hs ⟨by omega, by omega⟩ (by omega)
theorem tt_bi64 {N : Nat} (hN : 3000000000 ≤ N) (x1 x2 : Int32) (hx : -1 ≤ x1.toInt ∧ x1.toInt ≤ 119) (g43 : (Nat → Int32) → Int64 → (Nat → Nat → Int32) → Int32 → Option (Int32 × (Nat → Int32) × Int64 × (Nat → Nat → Int32))) : ∀ (fu : Nat) (I : Nat → Int32) (L : Int64) (M : Nat → Nat → Int32) (y : Int32), KX12 I M → PS (M 31) → (0 ≤ y.toInt ∧ y.toInt ≤ 1) → sm (M 31) 0 120 + y.toInt < (fu : Int) → wq (fX12_births_L64 N x1 x2 g43 fu I L M y) (fun r => KX12 r.2.1 r.2.2.2 ∧ True) := by
  intro fu
  induction fu with
  | zero =>
    intro I L M y k p hy hm
    have a := sm_nng (M 31) p 120 (by omega)
    exfalso; omega
  | succ fu ih =>
    intro I L M y k p hy hm
    rw [fX12_births_L64.eq_2]
    have l_0 := il_0
    have l_m1 := il_m1
    refine wq_eq (fun hc => ?_) (fun hc => ?_)
    · refine wq_eq (fun hc2 => tt_bi211 hN x1 x2 g43 _ N I L M (0 : Int32) (0 : Int32) k ⟨by omega, by omega⟩ (by omega)) (fun hc2 => ?_)
      refine wq_in (n := 120) ⟨by omega, by omega⟩ ?_
      exact wq_s ⟨k, trivial⟩
    · exact tt_bi73 hN x1 x2 g43 _ (sm (M 31) 0 120) _ (fun I L M y k p hy hs => ih I L M y k p hy (by omega)) N I L M (0 : Int32) (0 : Int32) k p ⟨by omega, by omega⟩ (by omega) ⟨by omega, by omega⟩ (by omega)
theorem tt_bi43 {N : Nat} (hN : 3000000000 ≤ N) (x1 x2 : Int32) (hx : -1 ≤ x1.toInt ∧ x1.toInt ≤ 119) : ∀ (fu : Nat) (I : Nat → Int32) (L : Int64) (M : Nat → Nat → Int32) (y : Int32), KX12 I M → (∀ j : Nat, (j : Int) < y.toInt → 0 ≤ (M 31 j).toInt ∧ (M 31 j).toInt ≤ 119) → (0 ≤ y.toInt ∧ y.toInt ≤ 120) → 120 - y.toInt < (fu : Int) → wq (fX12_births_L43 N x1 x2 fu I L M y) (fun r => KX12 r.2.1 r.2.2.2 ∧ True) := by
  intro fu
  induction fu with
  | zero => intro I L M y k p hy hm; exfalso; omega
  | succ fu ih =>
    intro I L M y k p hy hm
    rw [fX12_births_L43.eq_2]
    have l_120 := il_120
    have l_1 := il_1
    refine wq_le (fun hc => ?_) (fun hc => ?_)
    · have p2 : PS (M 31) := fun j hj => p j (by omega)
      have a := sm_nng (M 31) p2 120 (by omega)
      exact tt_bi64 hN x1 x2 hx _ N I L M (1 : Int32) k p2 ⟨by omega, by omega⟩ (by omega)
    · refine wq_in (n := 120) ⟨by omega, by omega⟩ ?_
      refine wq_v (fun M2 e2 => ?_)
      have t5 := ia_add y (1 : Int32) (by omega) (by omega)
      refine wq_v (fun v e => ?_)
      have t6 := congrArg Int32.toInt e
      have c := tn_of y (by omega)
      refine ih I L M2 v (by rw [e2]; exact KX12.sm31 k) (fun j hj => ?_) ⟨by omega, by omega⟩ (by omega)
      have e31 : M2 31 = upd (M 31) y.toNatClampNeg y := by rw [e2]; rfl
      rw [e31]
      unfold upd
      by_cases q : j = y.toNatClampNeg
      · rw [if_pos q]; exact ⟨by omega, by omega⟩
      · rw [if_neg q]; exact p j (by omega)
theorem tt_bi32 {N : Nat} (hN : 3000000000 ≤ N) (x1 x2 z : Int32) (I : Nat → Int32) (L : Int64) (M : Nat → Nat → Int32) (k : KX12 I M) (hx : z.toInt = 0 ∨ (-1 ≤ x1.toInt ∧ x1.toInt ≤ 119)) : wq (fX12_births_J32 N x1 x2 I L M z) (fun r => KX12 r.2.1 r.2.2.2 ∧ True) := by
  unfold fX12_births_J32
  have l_0 := il_0
  have l_1 := il_1
  refine wq_b (tt_fX12_right hN I L M z (1 : Int32) ⟨by omega, by omega⟩ k) (fun r hr => ?_)
  obtain ⟨hr0, -, -, kr, -⟩ := hr
  refine wq_eq (fun hc => wq_s ⟨kr, trivial⟩) (fun hc => ?_)
  exact tt_bi43 hN x1 x2 ⟨by omega, by omega⟩ N _ _ _ (0 : Int32) kr (fun j hj => by exfalso; omega) ⟨by omega, by omega⟩ (by omega)
theorem tt_fX12_births {N : Nat} (hN : 3000000000 ≤ N) (I0 : Nat → Int32) (L0 : Int64) (M0 : Nat → Nat → Int32) (x1 : Int32) (x2 : Int32) (k_I0 : KX12 I0 M0) : wq (fX12_births N I0 L0 M0 x1 x2) (fun r => KX12 r.2.1 r.2.2.2 ∧ True) := by
  unfold fX12_births
  have l_0 := il_0
  have l_1 := il_1
  have l_7 := il_7
  have l_m1 := il_m1
  have l_120 := il_120
  refine wq_v (fun I1 e1 => ?_)
  have k1 : KX12 I1 M0 := by rw [e1]; exact KX12.si0 k_I0
  have j31 : wq (fX12_births_J31 N x1 x2 I1 L0 M0) (fun r => KX12 r.2.1 r.2.2.2 ∧ True) := by
    unfold fX12_births_J31
    exact tt_bi32 hN x1 x2 (0 : Int32) I1 L0 M0 k1 (Or.inl il_0)
  refine wq_b (tt_fX12_within hN x2 (1 : Int32) (7 : Int32)) (fun r _ => ?_)
  refine wq_i (fun _ => j31) (fun _ => ?_)
  refine wq_lt (fun _ => j31) (fun h1 => ?_)
  refine wq_le (fun _ => j31) (fun h2 => ?_)
  exact tt_bi32 hN x1 x2 (1 : Int32) I1 L0 M0 k1 (Or.inr ⟨by omega, by omega⟩)
set_option maxHeartbeats 4000000 in
theorem tt_fX12_count_L81 {N : Nat} (hN : 3000000000 ≤ N) (x1 : Int32) (h_x1 : 2 ≤ x1.toInt ∧ x1.toInt ≤ 5)  : ∀ (fu : Nat) (I0_l81 : (Nat → Int32)) (L0_l81 : Int64) (M0_l81 : (Nat → Nat → Int32)) (y81_2 : Int32) (y81_3 : Int32), (0 ≤ y81_3.toInt ∧ y81_3.toInt ≤ 20) → (KX12 I0_l81 M0_l81) → (20 - y81_3.toInt) < (fu : Int) → wq (fX12_count_L81 N x1 fu I0_l81 L0_l81 M0_l81 y81_2 y81_3) (fun r => KX12 r.2.1 r.2.2.2 ∧ True) := by
  intro fu
  induction fu with
  | zero => intro I0_l81 L0_l81 M0_l81 y81_2 y81_3 h_y81_3 k_I0_l81 hm; exfalso; omega
  | succ fu ih =>
    intro I0_l81 L0_l81 M0_l81 y81_2 y81_3 h_y81_3 k_I0_l81 hm
    rw [fX12_count_L81.eq_2]
    have l_20 := il_20
    refine wq_le (fun hc_63828 => ?_) (fun hc_63829 => ?_)
    · have l_4 := il_4
      refine wq_eq (fun hc_63830 => ?_) (fun hc_63831 => ?_)
      · have t_63832 := KX12.i3 k_I0_l81
        exact wq_s ⟨k_I0_l81, trivial⟩
      · have b_63833 := i32b y81_2
        exact wq_s ⟨k_I0_l81, trivial⟩
    · have l_3 := il_3
      refine wq_eq (fun hc_63834 => ?_) (fun hc_63835 => ?_)
      · refine wq_in (n := 20) ⟨by omega, by omega⟩ ?_
        have l_m1 := il_m1
        refine wq_eq (fun hc_63836 => ?_) (fun hc_63837 => ?_)
        · unfold fX12_count_J103
          have l_5 := il_5
          refine wq_eq (fun hc_63838 => ?_) (fun hc_63839 => ?_)
          · exfalso; omega
          · have b_63841 := i32b y81_2
            have l_0 := il_0
            have t_63842 := ia_add y81_2 (0 : Int32) (by omega) (by omega)
            refine wq_v (fun v1_q63840 h_v1_q63840 => ?_)
            have t_v1_q63840 := congrArg Int32.toInt h_v1_q63840
            have l_1 := il_1
            have t_63844 := ia_add y81_3 (1 : Int32) (by omega) (by omega)
            refine wq_v (fun v2_q63843 h_v2_q63843 => ?_)
            have t_v2_q63843 := congrArg Int32.toInt h_v2_q63843
            have b_63845 := i32b v1_q63840
            exact ih I0_l81 L0_l81 M0_l81 v1_q63840 v2_q63843 ⟨by omega, by omega⟩ k_I0_l81 (by omega)
        · have b_63847 := i32b y81_2
          have l_1 := il_1
          refine wq_v (fun v7_q63846 h_v7_q63846 => ?_)
          have t_v7_q63846 := congrArg Int32.toInt h_v7_q63846
          have t_63849 := ia_add y81_3 (1 : Int32) (by omega) (by omega)
          refine wq_v (fun v8_q63848 h_v8_q63848 => ?_)
          have t_v8_q63848 := congrArg Int32.toInt h_v8_q63848
          have b_63850 := i32b v7_q63846
          exact ih I0_l81 L0_l81 M0_l81 v7_q63846 v8_q63848 ⟨by omega, by omega⟩ k_I0_l81 (by omega)
      · unfold fX12_count_J103
        have l_5 := il_5
        refine wq_eq (fun hc_63851 => ?_) (fun hc_63852 => ?_)
        · refine wq_in (n := 20) ⟨by omega, by omega⟩ ?_
          have l_m1 := il_m1
          refine wq_eq (fun hc_63853 => ?_) (fun hc_63854 => ?_)
          · have b_63856 := i32b y81_2
            have l_0 := il_0
            have t_63857 := ia_add y81_2 (0 : Int32) (by omega) (by omega)
            refine wq_v (fun v3_q63855 h_v3_q63855 => ?_)
            have t_v3_q63855 := congrArg Int32.toInt h_v3_q63855
            have l_1 := il_1
            have t_63859 := ia_add y81_3 (1 : Int32) (by omega) (by omega)
            refine wq_v (fun v4_q63858 h_v4_q63858 => ?_)
            have t_v4_q63858 := congrArg Int32.toInt h_v4_q63858
            have b_63860 := i32b v3_q63855
            exact ih I0_l81 L0_l81 M0_l81 v3_q63855 v4_q63858 ⟨by omega, by omega⟩ k_I0_l81 (by omega)
          · have b_63862 := i32b y81_2
            have l_1 := il_1
            refine wq_v (fun v5_q63861 h_v5_q63861 => ?_)
            have t_v5_q63861 := congrArg Int32.toInt h_v5_q63861
            have t_63864 := ia_add y81_3 (1 : Int32) (by omega) (by omega)
            refine wq_v (fun v6_q63863 h_v6_q63863 => ?_)
            have t_v6_q63863 := congrArg Int32.toInt h_v6_q63863
            have b_63865 := i32b v5_q63861
            exact ih I0_l81 L0_l81 M0_l81 v5_q63861 v6_q63863 ⟨by omega, by omega⟩ k_I0_l81 (by omega)
        · have b_63867 := i32b y81_2
          have l_0 := il_0
          have t_63868 := ia_add y81_2 (0 : Int32) (by omega) (by omega)
          refine wq_v (fun v1_q63866 h_v1_q63866 => ?_)
          have t_v1_q63866 := congrArg Int32.toInt h_v1_q63866
          have l_1 := il_1
          have t_63870 := ia_add y81_3 (1 : Int32) (by omega) (by omega)
          refine wq_v (fun v2_q63869 h_v2_q63869 => ?_)
          have t_v2_q63869 := congrArg Int32.toInt h_v2_q63869
          have b_63871 := i32b v1_q63866
          exact ih I0_l81 L0_l81 M0_l81 v1_q63866 v2_q63869 ⟨by omega, by omega⟩ k_I0_l81 (by omega)
set_option maxHeartbeats 4000000 in
theorem tt_fX12_count_L46 {N : Nat} (hN : 3000000000 ≤ N) (x1 : Int32) (h_x1 : 2 ≤ x1.toInt ∧ x1.toInt ≤ 5)  : ∀ (fu : Nat) (I0_l46 : (Nat → Int32)) (L0_l46 : Int64) (M0_l46 : (Nat → Nat → Int32)) (y46_2 : Int32) (y46_3 : Int32), (0 ≤ y46_3.toInt ∧ y46_3.toInt ≤ 120) → (KX12 I0_l46 M0_l46) → (120 - y46_3.toInt) < (fu : Int) → wq (fX12_count_L46 N x1 fu I0_l46 L0_l46 M0_l46 y46_2 y46_3) (fun r => KX12 r.2.1 r.2.2.2 ∧ True) := by
  intro fu
  induction fu with
  | zero => intro I0_l46 L0_l46 M0_l46 y46_2 y46_3 h_y46_3 k_I0_l46 hm; exfalso; omega
  | succ fu ih =>
    intro I0_l46 L0_l46 M0_l46 y46_2 y46_3 h_y46_3 k_I0_l46 hm
    rw [fX12_count_L46.eq_2]
    have l_120 := il_120
    refine wq_le (fun hc_63872 => ?_) (fun hc_63873 => ?_)
    · unfold fX12_count_J79
      have b_63874 := i32b y46_2
      have l_0 := il_0
      exact tt_fX12_count_L81 hN x1 ⟨by omega, by omega⟩ N I0_l46 L0_l46 M0_l46 y46_2 (0 : Int32) ⟨by omega, by omega⟩ k_I0_l46 (by omega)
    · have l_2 := il_2
      refine wq_eq (fun hc_63875 => ?_) (fun hc_63876 => ?_)
      · refine wq_b (tt_fX12_tells hN I0_l46 L0_l46 M0_l46 y46_3 ⟨by omega, by omega⟩ k_I0_l46) (fun r12_q63877 h_r12_q63877 => ?_)
        obtain ⟨h_r12_q63877_0, -⟩ := h_r12_q63877
        have l_0 := il_0
        refine wq_eq (fun hc_63878 => ?_) (fun hc_63879 => ?_)
        · have b_63881 := i32b y46_2
          have t_63882 := ia_add y46_2 (0 : Int32) (by omega) (by omega)
          refine wq_v (fun v13_q63880 h_v13_q63880 => ?_)
          have t_v13_q63880 := congrArg Int32.toInt h_v13_q63880
          have l_1 := il_1
          have t_63884 := ia_add y46_3 (1 : Int32) (by omega) (by omega)
          refine wq_v (fun v14_q63883 h_v14_q63883 => ?_)
          have t_v14_q63883 := congrArg Int32.toInt h_v14_q63883
          have b_63885 := i32b v13_q63880
          exact ih I0_l46 L0_l46 M0_l46 v13_q63880 v14_q63883 ⟨by omega, by omega⟩ k_I0_l46 (by omega)
        · have b_63887 := i32b y46_2
          have l_1 := il_1
          refine wq_v (fun v15_q63886 h_v15_q63886 => ?_)
          have t_v15_q63886 := congrArg Int32.toInt h_v15_q63886
          have t_63889 := ia_add y46_3 (1 : Int32) (by omega) (by omega)
          refine wq_v (fun v16_q63888 h_v16_q63888 => ?_)
          have t_v16_q63888 := congrArg Int32.toInt h_v16_q63888
          have b_63890 := i32b v15_q63886
          exact ih I0_l46 L0_l46 M0_l46 v15_q63886 v16_q63888 ⟨by omega, by omega⟩ k_I0_l46 (by omega)
      · unfold fX12_count_J79
        have b_63891 := i32b y46_2
        have l_0 := il_0
        exact tt_fX12_count_L81 hN x1 ⟨by omega, by omega⟩ N I0_l46 L0_l46 M0_l46 y46_2 (0 : Int32) ⟨by omega, by omega⟩ k_I0_l46 (by omega)
set_option maxHeartbeats 4000000 in
theorem tt_fX12_count {N : Nat} (hN : 3000000000 ≤ N) (I0 : Nat → Int32) (L0 : Int64) (M0 : Nat → Nat → Int32) (x1 : Int32) (k_I0 : KX12 I0 M0) : wq (fX12_count N I0 L0 M0 x1) (fun r => KX12 r.2.1 r.2.2.2 ∧ True) := by
  unfold fX12_count
  refine wq_v (fun I0_9_q63892 h_I0_9_q63892 => ?_)
  have k_I0_9_q63892 : KX12 I0_9_q63892 M0 := by rw [h_I0_9_q63892]; exact KX12.si0 k_I0
  have b_63893 := i32b x1
  have l_0 := il_0
  have l_5 := il_5
  refine wq_b (tt_fX12_within hN x1 (0 : Int32) (5 : Int32)) (fun r10_q63894 h_r10_q63894 => ?_)
  obtain ⟨h_r10_q63894_0, h_r10_q63894_1, -⟩ := h_r10_q63894
  have l_1 := il_1
  refine wq_b (tt_fX12_right hN I0_9_q63892 L0 M0 r10_q63894 (1 : Int32) ⟨by omega, by omega⟩ k_I0_9_q63892) (fun r11_q63895 h_r11_q63895 => ?_)
  obtain ⟨h_r11_q63895_0, h_r11_q63895_1, h_r11_q63895_2, h_r11_q63895_3, -⟩ := h_r11_q63895
  have t_63896 := KX12.i1 h_r11_q63895_3
  have t_63897 := KX12.i1 k_I0
  have t_63898 : (I0_9_q63892 1).toInt = (I0 1).toInt := by rw [h_I0_9_q63892]; rfl
  refine wq_eq (fun hc_63899 => ?_) (fun hc_63900 => ?_)
  · exact wq_s ⟨h_r11_q63895_3, trivial⟩
  · have l_2 := il_2
    refine wq_le (fun hc_63901 => ?_) (fun hc_63902 => ?_)
    · exact tt_fX12_count_L46 hN x1 ⟨by omega, by omega⟩ N r11_q63895.2.1 r11_q63895.2.2.1 r11_q63895.2.2.2 (0 : Int32) (0 : Int32) ⟨by omega, by omega⟩ h_r11_q63895_3 (by omega)
    · refine wq_eq (fun hc_63903 => ?_) (fun hc_63904 => ?_)
      · exact wq_s ⟨h_r11_q63895_3, trivial⟩
      · have t_63905 := KX12.i2 h_r11_q63895_3
        exact wq_s ⟨h_r11_q63895_3, trivial⟩
set_option maxHeartbeats 4000000 in
theorem tt_fX12_life {N : Nat} (hN : 3000000000 ≤ N) (I0 : Nat → Int32) (L0 : Int64) (M0 : Nat → Nat → Int32) (x1 : Int32) (x2 : Int32) (x3 : Int32) (k_I0 : KX12 I0 M0) : wq (fX12_life N I0 L0 M0 x1 x2 x3) (fun r => (0 ≤ r.1.toInt ∧ r.1.toInt ≤ 1) ∧ KX12 r.2.1 r.2.2.2 ∧ True) := by
  unfold fX12_life
  refine wq_v (fun I0_1_q64020 h_I0_1_q64020 => ?_)
  have k_I0_1_q64020 : KX12 I0_1_q64020 M0 := by rw [h_I0_1_q64020]; exact KX12.si0 k_I0
  have b_64021 := i32b x1
  have l_0 := il_0
  have l_19 := il_19
  refine wq_b (tt_fX12_within hN x1 (0 : Int32) (19 : Int32)) (fun r2_q64022 h_r2_q64022 => ?_)
  obtain ⟨h_r2_q64022_0, h_r2_q64022_1, -⟩ := h_r2_q64022
  have l_1 := il_1
  refine wq_b (tt_fX12_right hN I0_1_q64020 L0 M0 r2_q64022 (1 : Int32) ⟨by omega, by omega⟩ k_I0_1_q64020) (fun r3_q64023 h_r3_q64023 => ?_)
  obtain ⟨h_r3_q64023_0, h_r3_q64023_1, h_r3_q64023_2, h_r3_q64023_3, -⟩ := h_r3_q64023
  have t_64024 := KX12.i1 h_r3_q64023_3
  have t_64025 := KX12.i1 k_I0
  have t_64026 : (I0_1_q64020 1).toInt = (I0 1).toInt := by rw [h_I0_1_q64020]; rfl
  refine wq_eq (fun hc_64027 => ?_) (fun hc_64028 => ?_)
  · exact wq_s ⟨(show 0 ≤ (0 : Int32).toInt ∧ (0 : Int32).toInt ≤ 1 from ⟨by omega, by omega⟩), h_r3_q64023_3, trivial⟩
  · have b_64029 := i32b x2
    have l_120 := il_120
    refine wq_b (tt_fX12_within hN x2 (0 : Int32) (120 : Int32)) (fun r4_q64030 h_r4_q64030 => ?_)
    obtain ⟨h_r4_q64030_0, h_r4_q64030_1, -⟩ := h_r4_q64030
    refine wq_eq (fun hc_64031 => ?_) (fun hc_64032 => ?_)
    · exact wq_s ⟨(show 0 ≤ (0 : Int32).toInt ∧ (0 : Int32).toInt ≤ 1 from ⟨by omega, by omega⟩), h_r3_q64023_3, trivial⟩
    · have b_64033 := i32b x3
      refine wq_b (tt_fX12_within hN x3 (0 : Int32) (120 : Int32)) (fun r5_q64034 h_r5_q64034 => ?_)
      obtain ⟨h_r5_q64034_0, h_r5_q64034_1, -⟩ := h_r5_q64034
      refine wq_eq (fun hc_64035 => ?_) (fun hc_64036 => ?_)
      · exact wq_s ⟨(show 0 ≤ (0 : Int32).toInt ∧ (0 : Int32).toInt ≤ 1 from ⟨by omega, by omega⟩), h_r3_q64023_3, trivial⟩
      · refine wq_in (n := 20) ⟨by omega, by omega⟩ ?_
        refine wq_v (fun M0_6_q64037 h_M0_6_q64037 => ?_)
        have k_M0_6_q64037 : KX12 r3_q64023.2.1 M0_6_q64037 := by rw [h_M0_6_q64037]; exact KX12.sm32 h_r3_q64023_3
        refine wq_in (n := 20) ⟨by omega, by omega⟩ ?_
        refine wq_v (fun M0_7_q64038 h_M0_7_q64038 => ?_)
        have k_M0_7_q64038 : KX12 r3_q64023.2.1 M0_7_q64038 := by rw [h_M0_7_q64038]; exact KX12.sm33 k_M0_6_q64037
        exact wq_s ⟨(show 0 ≤ (1 : Int32).toInt ∧ (1 : Int32).toInt ≤ 1 from ⟨by omega, by omega⟩), k_M0_7_q64038, trivial⟩
set_option maxHeartbeats 4000000 in
theorem tt_fX12_fate {N : Nat} (hN : 3000000000 ≤ N) (I0 : Nat → Int32) (L0 : Int64) (M0 : Nat → Nat → Int32) (x1 : Int32) (x2 : Int32) (k_I0 : KX12 I0 M0) : wq (fX12_fate N I0 L0 M0 x1 x2) (fun r => (0 ≤ r.1.toInt ∧ r.1.toInt ≤ 1) ∧ KX12 r.2.1 r.2.2.2 ∧ True) := by
  unfold fX12_fate
  refine wq_v (fun I0_1_q64123 h_I0_1_q64123 => ?_)
  have k_I0_1_q64123 : KX12 I0_1_q64123 M0 := by rw [h_I0_1_q64123]; exact KX12.si0 k_I0
  have b_64124 := i32b x1
  have l_0 := il_0
  have l_19 := il_19
  refine wq_b (tt_fX12_within hN x1 (0 : Int32) (19 : Int32)) (fun r2_q64125 h_r2_q64125 => ?_)
  obtain ⟨h_r2_q64125_0, h_r2_q64125_1, -⟩ := h_r2_q64125
  have l_1 := il_1
  refine wq_b (tt_fX12_right hN I0_1_q64123 L0 M0 r2_q64125 (1 : Int32) ⟨by omega, by omega⟩ k_I0_1_q64123) (fun r3_q64126 h_r3_q64126 => ?_)
  obtain ⟨h_r3_q64126_0, h_r3_q64126_1, h_r3_q64126_2, h_r3_q64126_3, -⟩ := h_r3_q64126
  have t_64127 := KX12.i1 h_r3_q64126_3
  have t_64128 := KX12.i1 k_I0
  have t_64129 : (I0_1_q64123 1).toInt = (I0 1).toInt := by rw [h_I0_1_q64123]; rfl
  refine wq_eq (fun hc_64130 => ?_) (fun hc_64131 => ?_)
  · exact wq_s ⟨(show 0 ≤ (0 : Int32).toInt ∧ (0 : Int32).toInt ≤ 1 from ⟨by omega, by omega⟩), h_r3_q64126_3, trivial⟩
  · have b_64132 := i32b x2
    have l_12 := il_12
    refine wq_b (tt_fX12_within hN x2 (1 : Int32) (12 : Int32)) (fun r4_q64133 h_r4_q64133 => ?_)
    obtain ⟨h_r4_q64133_0, h_r4_q64133_1, -⟩ := h_r4_q64133
    refine wq_eq (fun hc_64134 => ?_) (fun hc_64135 => ?_)
    · exact wq_s ⟨(show 0 ≤ (0 : Int32).toInt ∧ (0 : Int32).toInt ≤ 1 from ⟨by omega, by omega⟩), h_r3_q64126_3, trivial⟩
    · refine wq_in (n := 20) ⟨by omega, by omega⟩ ?_
      refine wq_v (fun M0_5_q64136 h_M0_5_q64136 => ?_)
      have k_M0_5_q64136 : KX12 r3_q64126.2.1 M0_5_q64136 := by rw [h_M0_5_q64136]; exact KX12.sm34 h_r3_q64126_3
      exact wq_s ⟨(show 0 ≤ (1 : Int32).toInt ∧ (1 : Int32).toInt ≤ 1 from ⟨by omega, by omega⟩), k_M0_5_q64136, trivial⟩
set_option maxHeartbeats 4000000 in
theorem tt_fX12_isHit {N : Nat} (hN : 3000000000 ≤ N) (I0 : Nat → Int32) (L0 : Int64) (M0 : Nat → Nat → Int32) (x1 : Int32) (x2 : Int32) (x3 : Int32) (h_x1 : 0 ≤ x1.toInt ∧ x1.toInt ≤ 19) (h_x2 : 0 ≤ x2.toInt ∧ x2.toInt ≤ 19) (k_I0 : KX12 I0 M0) : wq (fX12_isHit N I0 L0 M0 x1 x2 x3) (fun r => (0 ≤ r.toInt ∧ r.toInt ≤ 1) ∧ True) := by
  unfold fX12_isHit
  refine wq_in (n := 20) ⟨by omega, by omega⟩ ?_
  refine wq_in (n := 20) ⟨by omega, by omega⟩ ?_
  refine wq_v (fun v1_q64179 h_v1_q64179 => ?_)
  have t_v1_q64179 := congrArg Int32.toInt h_v1_q64179
  have b_64180 := i32b x3
  have b_64181 := i32b v1_q64179
  refine wq_lt (fun hc_64182 => ?_) (fun hc_64183 => ?_)
  · have l_0 := il_0
    exact wq_s ⟨(show 0 ≤ (0 : Int32).toInt ∧ (0 : Int32).toInt ≤ 1 from ⟨by omega, by omega⟩), trivial⟩
  · refine wq_lt (fun hc_64184 => ?_) (fun hc_64185 => ?_)
    · have l_0 := il_0
      exact wq_s ⟨(show 0 ≤ (0 : Int32).toInt ∧ (0 : Int32).toInt ≤ 1 from ⟨by omega, by omega⟩), trivial⟩
    · have l_1 := il_1
      exact wq_s ⟨(show 0 ≤ (1 : Int32).toInt ∧ (1 : Int32).toInt ≤ 1 from ⟨by omega, by omega⟩), trivial⟩
set_option maxHeartbeats 4000000 in
theorem tt_fX12_isTold {N : Nat} (hN : 3000000000 ≤ N) (I0 : Nat → Int32) (L0 : Int64) (M0 : Nat → Nat → Int32) (x1 : Int32) (x2 : Int32) (h_x1 : 0 ≤ x1.toInt ∧ x1.toInt ≤ 19) (h_x2 : 0 ≤ x2.toInt ∧ x2.toInt ≤ 19) (k_I0 : KX12 I0 M0) : wq (fX12_isTold N I0 L0 M0 x1 x2) (fun r => (0 ≤ r.toInt ∧ r.toInt ≤ 1) ∧ True) := by
  unfold fX12_isTold
  have l_7 := il_7
  refine wq_b (tt_fX12_at hN I0 L0 M0 x1 (7 : Int32) ⟨by omega, by omega⟩ ⟨by omega, by omega⟩ k_I0) (fun r1_q64252 h_r1_q64252 => ?_)
  obtain ⟨h_r1_q64252_0, h_r1_q64252_1, h_r1_q64252_2, -⟩ := h_r1_q64252
  have l_8 := il_8
  refine wq_b (tt_fX12_at hN I0 L0 M0 x1 (8 : Int32) ⟨by omega, by omega⟩ ⟨by omega, by omega⟩ k_I0) (fun r2_q64253 h_r2_q64253 => ?_)
  obtain ⟨h_r2_q64253_0, h_r2_q64253_1, h_r2_q64253_2, -⟩ := h_r2_q64253
  have l_m1 := il_m1
  refine wq_eq (fun hc_64254 => ?_) (fun hc_64255 => ?_)
  · have l_0 := il_0
    exact wq_s ⟨(show 0 ≤ (0 : Int32).toInt ∧ (0 : Int32).toInt ≤ 1 from ⟨by omega, by omega⟩), trivial⟩
  · refine wq_eq (fun hc_64256 => ?_) (fun hc_64257 => ?_)
    · have l_0 := il_0
      exact wq_s ⟨(show 0 ≤ (0 : Int32).toInt ∧ (0 : Int32).toInt ≤ 1 from ⟨by omega, by omega⟩), trivial⟩
    · refine wq_in (n := 20) ⟨by omega, by omega⟩ ?_
      have l_30 := il_30
      have t_64258 := ia_div r2_q64253 (30 : Int32) 30 il_30 (by decide) (by omega)
      have t_64259 := ia_div r1_q64252 (30 : Int32) 30 il_30 (by decide) (by omega)
      have l_1 := il_1
      have l_12 := il_12
      have t_64260 := ia_rem2 (((r1_q64252 / (30 : Int32)) + (M0 34 x2.toNatClampNeg)) - (1 : Int32)) (12 : Int32) 12 il_12 (by decide)
      refine wq_eq (fun hc_64261 => ?_) (fun hc_64262 => ?_)
      · exact wq_s ⟨(show 0 ≤ (1 : Int32).toInt ∧ (1 : Int32).toInt ≤ 1 from ⟨by omega, by omega⟩), trivial⟩
      · have l_0 := il_0
        exact wq_s ⟨(show 0 ≤ (0 : Int32).toInt ∧ (0 : Int32).toInt ≤ 1 from ⟨by omega, by omega⟩), trivial⟩
set_option maxHeartbeats 4000000 in
theorem tt_fX12_hitsBy_L4 {N : Nat} (hN : 3000000000 ≤ N) (I0 : Nat → Int32) (L0 : Int64) (M0 : Nat → Nat → Int32) (x1 : Int32) (k_I0 : KX12 I0 M0)  : ∀ (fu : Nat) (y4_2 : Int32) (y4_3 : Int32), (0 ≤ y4_3.toInt ∧ y4_3.toInt ≤ 20) → (20 - y4_3.toInt) < (fu : Int) → wq (fX12_hitsBy_L4 N I0 L0 M0 x1 fu y4_2 y4_3) (fun r => True) := by
  intro fu
  induction fu with
  | zero => intro y4_2 y4_3 h_y4_3 hm; exfalso; omega
  | succ fu ih =>
    intro y4_2 y4_3 h_y4_3 hm
    rw [fX12_hitsBy_L4.eq_2]
    have t_64701 := KX12.i19 k_I0
    refine wq_le (fun hc_64702 => ?_) (fun hc_64703 => ?_)
    · have b_64704 := i32b y4_2
      exact wq_s trivial
    · have l_0 := il_0
      have b_64705 := i32b x1
      refine wq_le (fun hc_64706 => ?_) (fun hc_64707 => ?_)
      · refine wq_in (n := 20) ⟨by omega, by omega⟩ ?_
        refine wq_in (n := 20) ⟨by omega, by omega⟩ ?_
        have t_64708 := KX12.m36 k_I0 y4_3.toNatClampNeg
        refine wq_in (n := 20) ⟨by omega, by omega⟩ ?_
        have t_64709 := KX12.m35 k_I0 y4_3.toNatClampNeg
        have t_64710 := KX12.m35 k_I0 ((M0 36 y4_3.toNatClampNeg)).toNatClampNeg
        refine wq_b (tt_fX12_isHit hN I0 L0 M0 (M0 35 y4_3.toNatClampNeg) (M0 35 (M0 36 y4_3.toNatClampNeg).toNatClampNeg) x1 ⟨by omega, by omega⟩ ⟨by omega, by omega⟩ k_I0) (fun r1_q64711 h_r1_q64711 => ?_)
        obtain ⟨h_r1_q64711_0, -⟩ := h_r1_q64711
        refine wq_eq (fun hc_64712 => ?_) (fun hc_64713 => ?_)
        · have b_64715 := i32b y4_2
          have t_64716 := ia_add y4_2 (0 : Int32) (by omega) (by omega)
          refine wq_v (fun v2_q64714 h_v2_q64714 => ?_)
          have t_v2_q64714 := congrArg Int32.toInt h_v2_q64714
          have l_1 := il_1
          have t_64718 := ia_add y4_3 (1 : Int32) (by omega) (by omega)
          refine wq_v (fun v3_q64717 h_v3_q64717 => ?_)
          have t_v3_q64717 := congrArg Int32.toInt h_v3_q64717
          have b_64719 := i32b v2_q64714
          exact ih v2_q64714 v3_q64717 ⟨by omega, by omega⟩ (by omega)
        · have b_64721 := i32b y4_2
          have l_1 := il_1
          refine wq_v (fun v4_q64720 h_v4_q64720 => ?_)
          have t_v4_q64720 := congrArg Int32.toInt h_v4_q64720
          have t_64723 := ia_add y4_3 (1 : Int32) (by omega) (by omega)
          refine wq_v (fun v5_q64722 h_v5_q64722 => ?_)
          have t_v5_q64722 := congrArg Int32.toInt h_v5_q64722
          have b_64724 := i32b v4_q64720
          exact ih v4_q64720 v5_q64722 ⟨by omega, by omega⟩ (by omega)
      · refine wq_in (n := 20) ⟨by omega, by omega⟩ ?_
        refine wq_in (n := 20) ⟨by omega, by omega⟩ ?_
        have t_64725 := KX12.m36 k_I0 y4_3.toNatClampNeg
        refine wq_in (n := 20) ⟨by omega, by omega⟩ ?_
        have t_64726 := KX12.m35 k_I0 y4_3.toNatClampNeg
        have t_64727 := KX12.m35 k_I0 ((M0 36 y4_3.toNatClampNeg)).toNatClampNeg
        refine wq_b (tt_fX12_isTold hN I0 L0 M0 (M0 35 y4_3.toNatClampNeg) (M0 35 (M0 36 y4_3.toNatClampNeg).toNatClampNeg) ⟨by omega, by omega⟩ ⟨by omega, by omega⟩ k_I0) (fun r6_q64728 h_r6_q64728 => ?_)
        obtain ⟨h_r6_q64728_0, -⟩ := h_r6_q64728
        refine wq_eq (fun hc_64729 => ?_) (fun hc_64730 => ?_)
        · have b_64732 := i32b y4_2
          have t_64733 := ia_add y4_2 (0 : Int32) (by omega) (by omega)
          refine wq_v (fun v7_q64731 h_v7_q64731 => ?_)
          have t_v7_q64731 := congrArg Int32.toInt h_v7_q64731
          have l_1 := il_1
          have t_64735 := ia_add y4_3 (1 : Int32) (by omega) (by omega)
          refine wq_v (fun v8_q64734 h_v8_q64734 => ?_)
          have t_v8_q64734 := congrArg Int32.toInt h_v8_q64734
          have b_64736 := i32b v7_q64731
          exact ih v7_q64731 v8_q64734 ⟨by omega, by omega⟩ (by omega)
        · have b_64738 := i32b y4_2
          have l_1 := il_1
          refine wq_v (fun v9_q64737 h_v9_q64737 => ?_)
          have t_v9_q64737 := congrArg Int32.toInt h_v9_q64737
          have t_64740 := ia_add y4_3 (1 : Int32) (by omega) (by omega)
          refine wq_v (fun v10_q64739 h_v10_q64739 => ?_)
          have t_v10_q64739 := congrArg Int32.toInt h_v10_q64739
          have b_64741 := i32b v9_q64737
          exact ih v9_q64737 v10_q64739 ⟨by omega, by omega⟩ (by omega)
set_option maxHeartbeats 4000000 in
theorem tt_fX12_hitsBy {N : Nat} (hN : 3000000000 ≤ N) (I0 : Nat → Int32) (L0 : Int64) (M0 : Nat → Nat → Int32) (x1 : Int32) (k_I0 : KX12 I0 M0) : wq (fX12_hitsBy N I0 L0 M0 x1) (fun r => True) := by
  unfold fX12_hitsBy
  have b_64742 := i32b x1
  have l_0 := il_0
  exact tt_fX12_hitsBy_L4 hN I0 L0 M0 x1 k_I0 N (0 : Int32) (0 : Int32) ⟨by omega, by omega⟩ (by omega)
def PI9 (n : Nat) (f : Nat → Int32) : Prop := (∀ k : Nat, k < n → 0 ≤ (f k).toInt ∧ (f k).toInt ≤ 7) ∧ ∀ a b : Nat, a < n → b < n → f a = f b → a = b
def sw9 (f : Nat → Int32) (a b : Nat) : Nat → Int32 := upd (upd f a (f b)) b (f a)
theorem sw_at (f : Nat → Int32) (a b k : Nat) : sw9 f a b k = if k = b then f a else if k = a then f b else f k := rfl
theorem PI9.sw {n : Nat} {f : Nat → Int32} (h : PI9 n f) {a b : Nat} (ha : a < n) (hb : b < n) : PI9 n (sw9 f a b) := by
  have key : ∀ k : Nat, k < n → ∃ q : Nat, q < n ∧ sw9 f a b k = f q ∧ ((k = b ∧ q = a) ∨ (k ≠ b ∧ k = a ∧ q = b) ∨ (k ≠ b ∧ k ≠ a ∧ q = k)) := by
    intro k hk
    by_cases h1 : k = b
    · exact ⟨a, ha, by rw [sw_at, if_pos h1], Or.inl ⟨h1, rfl⟩⟩
    · by_cases h2 : k = a
      · exact ⟨b, hb, by rw [sw_at, if_neg h1, if_pos h2], Or.inr (Or.inl ⟨h1, h2, rfl⟩)⟩
      · exact ⟨k, hk, by rw [sw_at, if_neg h1, if_neg h2], Or.inr (Or.inr ⟨h1, h2, rfl⟩)⟩
  refine ⟨fun k hk => ?_, fun c d hc hd e => ?_⟩
  · obtain ⟨q, hq, e, -⟩ := key k hk
    rw [e]; exact h.1 q hq
  · obtain ⟨q1, hq1, e1, c1⟩ := key c hc
    obtain ⟨q2, hq2, e2, c2⟩ := key d hd
    rw [e1, e2] at e
    have := h.2 q1 q2 hq1 hq2 e
    omega
def vl (f : Nat → Int32) : Nat → Int
  | 0 => 0
  | n + 1 => 8 * vl f n + (f n).toInt
def p8 : Nat → Int
  | 0 => 1
  | n + 1 => 8 * p8 n
theorem p8_le : ∀ n : Nat, n ≤ 8 → p8 n ≤ 16777216 := by decide
theorem vl_cg (f g : Nat → Int32) : ∀ n : Nat, (∀ k : Nat, k < n → g k = f k) → vl g n = vl f n := by
  intro n
  induction n with
  | zero => intro _; rfl
  | succ n ih =>
    intro h
    show 8 * vl g n + (g n).toInt = 8 * vl f n + (f n).toInt
    rw [ih (fun k hk => h k (by omega)), h n (by omega)]
theorem vl_lt (f g : Nat → Int32) (i : Nat) : ∀ n : Nat, i < n → (∀ k : Nat, k < n → 0 ≤ (f k).toInt ∧ (f k).toInt ≤ 7) → (∀ k : Nat, k < n → 0 ≤ (g k).toInt ∧ (g k).toInt ≤ 7) → (∀ k : Nat, k < i → g k = f k) → (f i).toInt < (g i).toInt → vl f n < vl g n := by
  intro n
  induction n with
  | zero => intro h; exact absurd h (by omega)
  | succ n ih =>
    intro hi hf hg he hl
    show 8 * vl f n + (f n).toInt < 8 * vl g n + (g n).toInt
    by_cases q : i = n
    · subst q
      rw [vl_cg f g i he]; omega
    · have a := ih (by omega) (fun k hk => hf k (by omega)) (fun k hk => hg k (by omega)) he hl
      have b := hf n (by omega)
      have c := hg n (by omega)
      omega
theorem vl_b (f : Nat → Int32) : ∀ n : Nat, (∀ k : Nat, k < n → 0 ≤ (f k).toInt ∧ (f k).toInt ≤ 7) → 0 ≤ vl f n ∧ vl f n < p8 n := by
  intro n
  induction n with
  | zero => intro _; exact ⟨Int.le_refl 0, (by decide : (0 : Int) < 1)⟩
  | succ n ih =>
    intro h
    have a := ih (fun k hk => h k (by omega))
    have b := h n (by omega)
    show 0 ≤ 8 * vl f n + (f n).toInt ∧ 8 * vl f n + (f n).toInt < 8 * p8 n
    omega
theorem tu_swaps (N : Nat) (I : Nat → Int32) (L : Int64) (M : Nat → Nat → Int32) (x y : Int32) (hx : 0 ≤ x.toInt ∧ x.toInt ≤ 19) (hy : 0 ≤ y.toInt ∧ y.toInt ≤ 19) (k : KX12 I M) : wq (fX12_swaps N I L M x y) (fun r => r.1 = I ∧ KX12 r.1 r.2.2 ∧ r.2.2 36 = sw9 (M 36) x.toNatClampNeg y.toNatClampNeg) := by
  unfold fX12_swaps
  refine wq_in (n := 20) ⟨by omega, by omega⟩ ?_
  refine wq_v (fun v1 e1 => ?_)
  refine wq_in (n := 20) ⟨by omega, by omega⟩ ?_
  refine wq_in (n := 20) ⟨by omega, by omega⟩ ?_
  refine wq_v (fun M2 e2 => ?_)
  refine wq_in (n := 20) ⟨by omega, by omega⟩ ?_
  refine wq_v (fun M3 e3 => ?_)
  refine wq_s ⟨rfl, ?_, ?_⟩
  · show KX12 I M3
    rw [e3, e2, e1]
    exact KX12.sm36 (KX12.sm36 k (k.m36 _)) (k.m36 _)
  · show M3 36 = _
    rw [e3, e2, e1]
    rfl
theorem tu_86 {N : Nat} (g47 : (Nat → Int32) → Int64 → (Nat → Nat → Int32) → Int32 → Option (Int32 × (Nat → Int32) × Int64 × (Nat → Nat → Int32))) (n i : Nat) (hn : n ≤ 8) (Mo : Nat → Int32) : ∀ (fu : Nat) (I : Nat → Int32) (L : Int64) (M : Nat → Nat → Int32) (x y : Int32), KX12 I M → PI9 n (M 36) → (∀ k : Nat, k ≤ i → M 36 k = Mo k) → (i : Int) < x.toInt → x.toInt ≤ 20 → -20 ≤ y.toInt → y.toInt < (n : Int) → y.toInt - x.toInt < (fu : Int) → 0 < fu → wq (fX12_turns_L86 N g47 fu I L M x y) (fun r => r.1.toInt = 1 ∧ r.2.1 = I ∧ KX12 r.2.1 r.2.2.2 ∧ PI9 n (r.2.2.2 36) ∧ ∀ k : Nat, k ≤ i → r.2.2.2 36 k = Mo k) := by
  intro fu
  induction fu with
  | zero => intro I L M x y k p ho h1 h2 h3 h4 h5 h6; exact absurd h6 (by decide)
  | succ fu ih =>
    intro I L M x y k p ho h1 h2 h3 h4 h5 h6
    rw [fX12_turns_L86.eq_2]
    have l_1 := il_1
    have l_m1 := il_m1
    refine wq_le (fun hc => wq_s ⟨il_1, rfl, k, p, ho⟩) (fun hc => ?_)
    refine wq_b (tu_swaps N I L M x y ⟨by omega, by omega⟩ ⟨by omega, by omega⟩ k) (fun r hr => ?_)
    obtain ⟨hr1, hr2, hr3⟩ := hr
    refine wq_v (fun v1 e1 => ?_)
    refine wq_v (fun v2 e2 => ?_)
    have t3 := (congrArg Int32.toInt e1).trans (ia_add x (1 : Int32) (by omega) (by omega))
    have t4 := (congrArg Int32.toInt e2).trans (ia_add y ((-1) : Int32) (by omega) (by omega))
    have cx := tn_of x (by omega)
    have cy := tn_of y (by omega)
    refine wq_w (ih r.1 r.2.1 r.2.2 v1 v2 hr2 (by rw [hr3]; exact PI9.sw p (by omega) (by omega)) (fun k hk => ?_) (by omega) (by omega) (by omega) (by omega) (by omega) (by omega)) (fun q hq => ?_)
    · rw [hr3, sw_at, if_neg (show ¬ k = y.toNatClampNeg by omega), if_neg (show ¬ k = x.toNatClampNeg by omega)]
      exact ho k hk
    · exact ⟨hq.1, hq.2.1.trans hr1, hq.2.2.1, hq.2.2.2.1, hq.2.2.2.2⟩
theorem tu_47 {N : Nat} (hN : 3000000000 ≤ N) (n : Nat) (i : Int32) (hn : n ≤ 8) (hi : 0 ≤ i.toInt) : ∀ (fu : Nat) (I : Nat → Int32) (L : Int64) (M : Nat → Nat → Int32) (j : Int32), KX12 I M → PI9 n (M 36) → (I 19).toInt = (n : Int) → (M 36 i.toNatClampNeg).toInt ≤ (M 36 (i.toNatClampNeg + 1)).toInt → (i.toInt < j.toInt ∧ j.toInt < (n : Int)) → j.toInt - i.toInt < (fu : Int) → wq (fX12_turns_L47 N i fu I L M j) (fun r => r.1.toInt = 1 ∧ r.2.1 = I ∧ KX12 r.2.1 r.2.2.2 ∧ PI9 n (r.2.2.2 36) ∧ vl (M 36) n < vl (r.2.2.2 36) n) := by
  intro fu
  induction fu with
  | zero => intro I L M j k p h9 hu hj hm; exfalso; omega
  | succ fu ih =>
    intro I L M j k p h9 hu hj hm
    rw [fX12_turns_L47.eq_2]
    have l_1 := il_1
    have l_m1 := il_m1
    have ci := tn_of i (by omega)
    have cj := tn_of j (by omega)
    refine wq_in (n := 20) ⟨by omega, by omega⟩ ?_
    refine wq_in (n := 20) ⟨by omega, by omega⟩ ?_
    refine wq_le (fun hc => ?_) (fun hc => ?_)
    · refine wq_b (tu_swaps N I L M i j ⟨by omega, by omega⟩ ⟨by omega, by omega⟩ k) (fun r hr => ?_)
      obtain ⟨hr1, hr2, hr3⟩ := hr
      have h19 : (r.1 19).toInt = (n : Int) := by rw [hr1]; exact h9
      refine wq_v (fun v1 e1 => ?_)
      refine wq_v (fun v2 e2 => ?_)
      have t3 := (congrArg Int32.toInt e1).trans (ia_add i (1 : Int32) (by omega) (by omega))
      have t4 := (congrArg Int32.toInt e2).trans (ia_sub (r.1 19) (1 : Int32) (by omega) (by omega))
      have ps : PI9 n (r.2.2 36) := by rw [hr3]; exact PI9.sw p (by omega) (by omega)
      refine wq_w (tu_86 _ n i.toNatClampNeg hn (r.2.2 36) N r.1 r.2.1 r.2.2 v1 v2 hr2 ps (fun _ _ => rfl) (by omega) (by omega) (by omega) (by omega) (by omega) (by omega)) (fun q hq => ?_)
      obtain ⟨q1, q2, q3, q4, q5⟩ := hq
      refine ⟨q1, q2.trans hr1, q3, q4, ?_⟩
      refine vl_lt (M 36) (q.2.2.2 36) i.toNatClampNeg n (by omega) p.1 q4.1 (fun k hk => ?_) ?_
      · rw [q5 k (by omega), hr3, sw_at, if_neg (show ¬ k = j.toNatClampNeg by omega), if_neg (show ¬ k = i.toNatClampNeg by omega)]
      · rw [q5 _ (Nat.le_refl _), hr3, sw_at, if_neg (show ¬ i.toNatClampNeg = j.toNatClampNeg by omega), if_pos rfl]
        have ne : (M 36 i.toNatClampNeg).toInt ≠ (M 36 j.toNatClampNeg).toInt := fun e => by
          have := p.2 _ _ (show i.toNatClampNeg < n by omega) (show j.toNatClampNeg < n by omega) (Int32.toInt_inj.mp e)
          omega
        omega
    · refine wq_v (fun v1 e1 => ?_)
      have t3 := (congrArg Int32.toInt e1).trans (ia_add j ((-1) : Int32) (by omega) (by omega))
      have hne : i.toInt + 1 ≠ j.toInt := fun e => by
        have e9 : j.toNatClampNeg = i.toNatClampNeg + 1 := by omega
        rw [e9] at hc
        omega
      exact ih I L M v1 k p h9 hu ⟨by omega, by omega⟩ (by omega)
def TP (n : Nat) (I : Nat → Int32) (M : Nat → Nat → Int32) (r : Int32 × (Nat → Int32) × Int64 × (Nat → Nat → Int32)) : Prop := KX12 r.2.1 r.2.2.2 ∧ r.2.1 = I ∧ (r.1.toInt = 0 ∨ (r.1.toInt = 1 ∧ PI9 n (r.2.2.2 36) ∧ vl (M 36) n < vl (r.2.2.2 36) n))
theorem tu_7 {N : Nat} (hN : 3000000000 ≤ N) (n : Nat) (hn : n ≤ 8) : ∀ (fu : Nat) (I : Nat → Int32) (L : Int64) (M : Nat → Nat → Int32) (y : Int32), KX12 I M → PI9 n (M 36) → (I 19).toInt = (n : Int) → (-2 ≤ y.toInt ∧ y.toInt ≤ (n : Int) - 2) → y.toInt + 2 < (fu : Int) → wq (fX12_turns_L7 N fu I L M y) (TP n I M) := by
  intro fu
  induction fu with
  | zero => intro I L M y k p h9 hy hm; exfalso; omega
  | succ fu ih =>
    intro I L M y k p h9 hy hm
    rw [fX12_turns_L7.eq_2]
    have l_0 := il_0
    have l_1 := il_1
    have l_m1 := il_m1
    refine wq_lt (fun hc => ?_) (fun hc => ?_)
    · unfold fX12_turns_J34
      exact wq_le (fun hc2 => by exfalso; omega) (fun hc2 => wq_s ⟨k, rfl, Or.inl il_0⟩)
    · have t1 := ia_add y (1 : Int32) (by omega) (by omega)
      have c1 := tn_of y (by omega)
      have c2 := tn_of (y + (1 : Int32)) (by omega)
      refine wq_in (n := 20) ⟨by omega, by omega⟩ ?_
      refine wq_in (n := 20) ⟨by omega, by omega⟩ ?_
      have e9 : (y + (1 : Int32)).toNatClampNeg = y.toNatClampNeg + 1 := by omega
      refine wq_le (fun hc2 => ?_) (fun hc2 => ?_)
      · unfold fX12_turns_J34
        refine wq_le (fun hc3 => ?_) (fun hc3 => by exfalso; omega)
        refine wq_v (fun v1 e1 => ?_)
        have t3 := (congrArg Int32.toInt e1).trans (ia_sub (I 19) (1 : Int32) (by omega) (by omega))
        rw [e9] at hc2
        exact wq_w (tu_47 hN n y hn (by omega) N I L M v1 k p h9 hc2 ⟨by omega, by omega⟩ (by omega)) (fun q hq => ⟨hq.2.2.1, hq.2.1, Or.inr ⟨hq.1, hq.2.2.2.1, hq.2.2.2.2⟩⟩)
      · refine wq_v (fun v1 e1 => ?_)
        have t3 := (congrArg Int32.toInt e1).trans (ia_add y ((-1) : Int32) (by omega) (by omega))
        exact ih I L M v1 k p h9 ⟨by omega, by omega⟩ (by omega)

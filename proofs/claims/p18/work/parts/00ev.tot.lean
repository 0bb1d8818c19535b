set_option maxHeartbeats 4000000 in
theorem tt_fX12_tree_L134 {N : Nat} (hN : 3000000000 ≤ N) (y115_2 : Int32) (y115_4 : Int32) (y94_3 : Int32) (g9 : (Nat → Int32) → Int64 → (Nat → Nat → Int32) → Int32 → Int32 → Option (Int32 × (Nat → Int32) × Int64 × (Nat → Nat → Int32))) (g57 : (Nat → Int32) → Int64 → (Nat → Nat → Int32) → Int32 → Option (Int32 × (Nat → Int32) × Int64 × (Nat → Nat → Int32))) (g94 : (Nat → Int32) → Int64 → (Nat → Nat → Int32) → Int32 → Int32 → Option (Int32 × (Nat → Int32) × Int64 × (Nat → Nat → Int32))) (g115 : (Nat → Int32) → Int64 → (Nat → Nat → Int32) → Int32 → Int32 → Option (Int32 × (Nat → Int32) × Int64 × (Nat → Nat → Int32))) (h_y115_4 : 0 ≤ y115_4.toInt ∧ y115_4.toInt ≤ 2147483646) (h_y94_3 : 1 ≤ y94_3.toInt ∧ y94_3.toInt ≤ 2147483647) (hg115 : ∀ (q0 : (Nat → Int32)) (q1 : Int64) (q2 : (Nat → Nat → Int32)) (q3 : Int32) (q4 : Int32), (0 ≤ q4.toInt ∧ q4.toInt ≤ 2147483647) → (KX12 q0 q2) → (y115_4.toInt < q4.toInt) → wq (g115 q0 q1 q2 q3 q4) (fun r => KX12 r.2.1 r.2.2.2 ∧ True)) : ∀ (fu : Nat) (I0_l134 : (Nat → Int32)) (L0_l134 : Int64) (M0_l134 : (Nat → Nat → Int32)) (y134_5 : Int32) (y134_6 : Int32) (y134_7 : Int32) (y134_8 : Int32), (0 ≤ y134_5.toInt ∧ y134_5.toInt ≤ 2147483647) → (0 ≤ y134_6.toInt ∧ y134_6.toInt ≤ 1) → (-1 ≤ y134_8.toInt ∧ y134_8.toInt ≤ 5) → (KX12 I0_l134 M0_l134) → (y134_8.toInt - -1) < (fu : Int) → wq (fX12_tree_L134 N y115_2 y115_4 y94_3 g9 g57 g94 g115 fu I0_l134 L0_l134 M0_l134 y134_5 y134_6 y134_7 y134_8) (fun r => KX12 r.2.1 r.2.2.2 ∧ True) := by
  intro fu
  induction fu with
  | zero => intro I0_l134 L0_l134 M0_l134 y134_5 y134_6 y134_7 y134_8 h_y134_5 h_y134_6 h_y134_8 k_I0_l134 hm; exfalso; omega
  | succ fu ih =>
    intro I0_l134 L0_l134 M0_l134 y134_5 y134_6 y134_7 y134_8 h_y134_5 h_y134_6 h_y134_8 k_I0_l134 hm
    rw [fX12_tree_L134.eq_2]
    have l_0 := il_0
    refine wq_lt (fun hc_55807 => ?_) (fun hc_55808 => ?_)
    · refine wq_eq (fun hc_55809 => ?_) (fun hc_55810 => ?_)
      · have l_1 := il_1
        refine wq_v (fun v16_q55811 h_v16_q55811 => ?_)
        have t_v16_q55811 := (congrArg Int32.toInt h_v16_q55811).trans (ia_add y115_4 (1 : Int32) (by omega) (by omega))
        have b_55813 := i32b y115_2
        have b_55814 := i32b v16_q55811
        exact hg115 I0_l134 L0_l134 M0_l134 y115_2 v16_q55811 ⟨by omega, by omega⟩ k_I0_l134 (by omega)
      · have b_55815 := i32b y115_2
        have l_m1 := il_m1
        refine wq_eq (fun hc_55816 => ?_) (fun hc_55817 => ?_)
        · unfold fX12_tree_J258
          refine wq_b (tt_fX12_isTree hN I0_l134 L0_l134 M0_l134 k_I0_l134) (fun r2_q55818 h_r2_q55818 => ?_)
          obtain ⟨h_r2_q55818_0, -⟩ := h_r2_q55818
          refine wq_eq (fun hc_55819 => ?_) (fun hc_55820 => ?_)
          · have l_1 := il_1
            refine wq_v (fun v8_q55821 h_v8_q55821 => ?_)
            have t_v8_q55821 := (congrArg Int32.toInt h_v8_q55821).trans (ia_add y115_4 (1 : Int32) (by omega) (by omega))
            have b_55823 := i32b v8_q55821
            exact hg115 I0_l134 L0_l134 M0_l134 y115_2 v8_q55821 ⟨by omega, by omega⟩ k_I0_l134 (by omega)
          · have b_55824 := i32b y134_7
            have b_55825 := i32b y94_3
            exact tt_fX12_tree_L274 hN y115_4 y134_7 y94_3 g9 g57 g94 g115 ⟨by omega, by omega⟩ ⟨by omega, by omega⟩ hg115 N I0_l134 L0_l134 M0_l134 (0 : Int32) ⟨by omega, by omega⟩ k_I0_l134 (by omega)
        · have b_55826 := i32b y134_7
          refine wq_le (fun hc_55827 => ?_) (fun hc_55828 => ?_)
          · have l_1 := il_1
            refine wq_v (fun v17_q55829 h_v17_q55829 => ?_)
            have t_v17_q55829 := (congrArg Int32.toInt h_v17_q55829).trans (ia_add y115_4 (1 : Int32) (by omega) (by omega))
            have b_55831 := i32b v17_q55829
            exact hg115 I0_l134 L0_l134 M0_l134 y115_2 v17_q55829 ⟨by omega, by omega⟩ k_I0_l134 (by omega)
          · unfold fX12_tree_J258
            refine wq_b (tt_fX12_isTree hN I0_l134 L0_l134 M0_l134 k_I0_l134) (fun r2_q55832 h_r2_q55832 => ?_)
            obtain ⟨h_r2_q55832_0, -⟩ := h_r2_q55832
            refine wq_eq (fun hc_55833 => ?_) (fun hc_55834 => ?_)
            · have l_1 := il_1
              refine wq_v (fun v8_q55835 h_v8_q55835 => ?_)
              have t_v8_q55835 := (congrArg Int32.toInt h_v8_q55835).trans (ia_add y115_4 (1 : Int32) (by omega) (by omega))
              have b_55837 := i32b v8_q55835
              exact hg115 I0_l134 L0_l134 M0_l134 y115_2 v8_q55835 ⟨by omega, by omega⟩ k_I0_l134 (by omega)
            · have b_55838 := i32b y94_3
              exact tt_fX12_tree_L274 hN y115_4 y134_7 y94_3 g9 g57 g94 g115 ⟨by omega, by omega⟩ ⟨by omega, by omega⟩ hg115 N I0_l134 L0_l134 M0_l134 (0 : Int32) ⟨by omega, by omega⟩ k_I0_l134 (by omega)
    · refine wq_in (n := 6) ⟨by omega, by omega⟩ ?_
      refine wq_v (fun M0_18_q55839 h_M0_18_q55839 => ?_)
      have b_55840 := i32b y134_5
      have l_7 := il_7
      have t_55841 := ia_rem y134_5 (7 : Int32) 7 il_7 (by decide) (by omega)
      have l_1 := il_1
      have t_55842 := ia_sub (y134_5 - ((y134_5 / (7 : Int32)) * (7 : Int32))) (1 : Int32) (by omega) (by omega)
      have k_M0_18_q55839 : KX12 I0_l134 M0_18_q55839 := by rw [h_M0_18_q55839]; exact KX12.sm24 k_I0_l134 ⟨by omega, by omega⟩
      clear t_55841 t_55842
      refine wq_v (fun v19_q55843 h_v19_q55843 => ?_)
      have t_v19_q55843 := (congrArg Int32.toInt h_v19_q55843).trans (ia_div y134_5 (7 : Int32) 7 il_7 (by decide) (by omega))
      refine wq_eq (fun hc_55845 => ?_) (fun hc_55846 => ?_)
      · unfold fX12_tree_J190
        unfold fX12_tree_J191
        refine wq_in (n := 6) ⟨by omega, by omega⟩ ?_
        have t_55847 := KX12.m24 k_M0_18_q55839 y134_8.toNatClampNeg
        have l_m1 := il_m1
        refine wq_eq (fun hc_55848 => ?_) (fun hc_55849 => ?_)
        · refine wq_v (fun v10_q55850 h_v10_q55850 => ?_)
          clear h_v10_q55850
          refine wq_v (fun v11_q55851 h_v11_q55851 => ?_)
          have t_v11_q55851 := (congrArg Int32.toInt h_v11_q55851).trans (ia_add y134_8 ((-1) : Int32) (by omega) (by omega))
          have b_55853 := i32b v10_q55850
          exact ih I0_l134 L0_l134 M0_18_q55839 v19_q55843 (0 : Int32) v10_q55850 v11_q55851 ⟨by omega, by omega⟩ ⟨by omega, by omega⟩ ⟨by omega, by omega⟩ k_M0_18_q55839 (by omega)
        · refine wq_eq (fun hc_55854 => ?_) (fun hc_55855 => ?_)
          · refine wq_v (fun v14_q55856 h_v14_q55856 => ?_)
            clear h_v14_q55856
            refine wq_v (fun v15_q55857 h_v15_q55857 => ?_)
            have t_v15_q55857 := (congrArg Int32.toInt h_v15_q55857).trans (ia_add y134_8 ((-1) : Int32) (by omega) (by omega))
            have b_55859 := i32b v14_q55856
            exact ih I0_l134 L0_l134 M0_18_q55839 v19_q55843 (0 : Int32) v14_q55856 v15_q55857 ⟨by omega, by omega⟩ ⟨by omega, by omega⟩ ⟨by omega, by omega⟩ k_M0_18_q55839 (by omega)
          · exfalso; omega
      · refine wq_in (n := 6) ⟨by omega, by omega⟩ ?_
        have t_55860 : (M0_18_q55839 26 y134_8.toNatClampNeg).toInt = (M0_l134 26 y134_8.toNatClampNeg).toInt := congrArg (fun z : Nat → Int32 => (z y134_8.toNatClampNeg).toInt) (show M0_18_q55839 26 = M0_l134 26 from by rw [h_M0_18_q55839]; rfl)
        refine wq_eq (fun hc_55861 => ?_) (fun hc_55862 => ?_)
        · refine wq_in (n := 6) ⟨by omega, by omega⟩ ?_
          have t_55863 := KX12.m24 k_M0_18_q55839 y134_8.toNatClampNeg
          have l_m1 := il_m1
          refine wq_eq (fun hc_55864 => ?_) (fun hc_55865 => ?_)
          · unfold fX12_tree_J186
            unfold fX12_tree_J191
            refine wq_in (n := 6) ⟨by omega, by omega⟩ ?_
            refine wq_eq (fun hc_55866 => ?_) (fun hc_55867 => ?_)
            · refine wq_v (fun v10_q55868 h_v10_q55868 => ?_)
              clear h_v10_q55868
              refine wq_v (fun v11_q55869 h_v11_q55869 => ?_)
              have t_v11_q55869 := (congrArg Int32.toInt h_v11_q55869).trans (ia_add y134_8 ((-1) : Int32) (by omega) (by omega))
              have b_55871 := i32b v10_q55868
              exact ih I0_l134 L0_l134 M0_18_q55839 v19_q55843 (1 : Int32) v10_q55868 v11_q55869 ⟨by omega, by omega⟩ ⟨by omega, by omega⟩ ⟨by omega, by omega⟩ k_M0_18_q55839 (by omega)
            · exfalso; omega
          · unfold fX12_tree_J190
            unfold fX12_tree_J191
            refine wq_in (n := 6) ⟨by omega, by omega⟩ ?_
            refine wq_eq (fun hc_55872 => ?_) (fun hc_55873 => ?_)
            · exfalso; omega
            · refine wq_eq (fun hc_55874 => ?_) (fun hc_55875 => ?_)
              · refine wq_v (fun v14_q55876 h_v14_q55876 => ?_)
                clear h_v14_q55876
                refine wq_v (fun v15_q55877 h_v15_q55877 => ?_)
                have t_v15_q55877 := (congrArg Int32.toInt h_v15_q55877).trans (ia_add y134_8 ((-1) : Int32) (by omega) (by omega))
                have b_55879 := i32b v14_q55876
                exact ih I0_l134 L0_l134 M0_18_q55839 v19_q55843 (0 : Int32) v14_q55876 v15_q55877 ⟨by omega, by omega⟩ ⟨by omega, by omega⟩ ⟨by omega, by omega⟩ k_M0_18_q55839 (by omega)
              · exfalso; omega
        · unfold fX12_tree_J186
          unfold fX12_tree_J191
          refine wq_in (n := 6) ⟨by omega, by omega⟩ ?_
          have t_55880 := KX12.m24 k_M0_18_q55839 y134_8.toNatClampNeg
          have l_m1 := il_m1
          refine wq_eq (fun hc_55881 => ?_) (fun hc_55882 => ?_)
          · refine wq_v (fun v10_q55883 h_v10_q55883 => ?_)
            clear h_v10_q55883
            refine wq_v (fun v11_q55884 h_v11_q55884 => ?_)
            have t_v11_q55884 := (congrArg Int32.toInt h_v11_q55884).trans (ia_add y134_8 ((-1) : Int32) (by omega) (by omega))
            have b_55886 := i32b v10_q55883
            exact ih I0_l134 L0_l134 M0_18_q55839 v19_q55843 (1 : Int32) v10_q55883 v11_q55884 ⟨by omega, by omega⟩ ⟨by omega, by omega⟩ ⟨by omega, by omega⟩ k_M0_18_q55839 (by omega)
          · refine wq_eq (fun hc_55887 => ?_) (fun hc_55888 => ?_)
            · exfalso; omega
            · refine wq_in (n := 6) ⟨by omega, by omega⟩ ?_
              have l_6 := il_6
              have t_55889 := ia_mul (6 : Int32) (6) il_6 (M0_18_q55839 24 y134_8.toNatClampNeg) (by omega) (by omega)
              have t_55890 := ia_add ((6 : Int32) * (M0_18_q55839 24 y134_8.toNatClampNeg)) y134_8 (by omega) (by omega)
              refine wq_in (n := 36) ⟨by omega, by omega⟩ ?_
              have b_55892 := i32b y134_7
              have t_55893 : (M0_18_q55839 25 (((6 : Int32) * (M0_18_q55839 24 y134_8.toNatClampNeg)) + y134_8).toNatClampNeg).toInt = (M0_l134 25 (((6 : Int32) * (M0_18_q55839 24 y134_8.toNatClampNeg)) + y134_8).toNatClampNeg).toInt := congrArg (fun z : Nat → Int32 => (z ((((6 : Int32) * (M0_18_q55839 24 y134_8.toNatClampNeg)) + y134_8)).toNatClampNeg).toInt) (show M0_18_q55839 25 = M0_l134 25 from by rw [h_M0_18_q55839]; rfl)
              refine wq_v (fun v12_q55891 h_v12_q55891 => ?_)
              clear h_v12_q55891
              refine wq_v (fun v13_q55894 h_v13_q55894 => ?_)
              have t_v13_q55894 := (congrArg Int32.toInt h_v13_q55894).trans (ia_add y134_8 ((-1) : Int32) (by omega) (by omega))
              have b_55896 := i32b v12_q55891
              exact ih I0_l134 L0_l134 M0_18_q55839 v19_q55843 (1 : Int32) v12_q55891 v13_q55894 ⟨by omega, by omega⟩ ⟨by omega, by omega⟩ ⟨by omega, by omega⟩ k_M0_18_q55839 (by omega)
set_option maxHeartbeats 4000000 in
theorem tt_fX12_tree_L115 {N : Nat} (hN : 3000000000 ≤ N) (y94_3 : Int32) (g9 : (Nat → Int32) → Int64 → (Nat → Nat → Int32) → Int32 → Int32 → Option (Int32 × (Nat → Int32) × Int64 × (Nat → Nat → Int32))) (g57 : (Nat → Int32) → Int64 → (Nat → Nat → Int32) → Int32 → Option (Int32 × (Nat → Int32) × Int64 × (Nat → Nat → Int32))) (g94 : (Nat → Int32) → Int64 → (Nat → Nat → Int32) → Int32 → Int32 → Option (Int32 × (Nat → Int32) × Int64 × (Nat → Nat → Int32)))   : ∀ (fu : Nat) (I0_l115 : (Nat → Int32)) (L0_l115 : Int64) (M0_l115 : (Nat → Nat → Int32)) (y115_2 : Int32) (y115_4 : Int32), (0 ≤ y115_4.toInt ∧ y115_4.toInt ≤ 2147483647) → (KX12 I0_l115 M0_l115) → (2147483647 - y115_4.toInt) < (fu : Int) → wq (fX12_tree_L115 N y94_3 g9 g57 g94 fu I0_l115 L0_l115 M0_l115 y115_2 y115_4) (fun r => KX12 r.2.1 r.2.2.2 ∧ True) := by
  intro fu
  induction fu with
  | zero => intro I0_l115 L0_l115 M0_l115 y115_2 y115_4 h_y115_4 k_I0_l115 hm; exfalso; omega
  | succ fu ih =>
    intro I0_l115 L0_l115 M0_l115 y115_2 y115_4 h_y115_4 k_I0_l115 hm
    rw [fX12_tree_L115.eq_2]
    have b_55897 := i32b y94_3
    have b_55898 := i32b y115_4
    refine wq_le (fun hc_55899 => ?_) (fun hc_55900 => ?_)
    · refine wq_v (fun I0_9_q55901 h_I0_9_q55901 => ?_)
      have l_1 := il_1
      have k_I0_9_q55901 : KX12 I0_9_q55901 M0_l115 := by rw [h_I0_9_q55901]; exact KX12.si18 k_I0_l115 ⟨by omega, by omega⟩
      have b_55902 := i32b y115_2
      exact wq_s ⟨k_I0_9_q55901, trivial⟩
    · have b_55903 := i32b y115_2
      have l_1 := il_1
      have l_0 := il_0
      have l_5 := il_5
      exact tt_fX12_tree_L134 hN y115_2 y115_4 y94_3 g9 g57 g94 _ ⟨by omega, by omega⟩ ⟨by omega, by omega⟩ (fun q0 q1 q2 q3 q4 hq0 hq1 hq2 => ih q0 q1 q2 q3 q4 hq0 hq1 (by omega)) N I0_l115 L0_l115 M0_l115 y115_4 (1 : Int32) (0 : Int32) (5 : Int32) ⟨by omega, by omega⟩ ⟨by omega, by omega⟩ ⟨by omega, by omega⟩ k_I0_l115 (by omega)
set_option maxHeartbeats 4000000 in
theorem tt_fX12_tree_L94 {N : Nat} (hN : 3000000000 ≤ N) (g9 : (Nat → Int32) → Int64 → (Nat → Nat → Int32) → Int32 → Int32 → Option (Int32 × (Nat → Int32) × Int64 × (Nat → Nat → Int32))) (g57 : (Nat → Int32) → Int64 → (Nat → Nat → Int32) → Int32 → Option (Int32 × (Nat → Int32) × Int64 × (Nat → Nat → Int32)))   : ∀ (fu : Nat) (I0_l94 : (Nat → Int32)) (L0_l94 : Int64) (M0_l94 : (Nat → Nat → Int32)) (y94_3 : Int32) (y94_4 : Int32), (0 ≤ y94_4.toInt ∧ y94_4.toInt ≤ 6) → (KX12 I0_l94 M0_l94) → (6 - y94_4.toInt) < (fu : Int) → wq (fX12_tree_L94 N g9 g57 fu I0_l94 L0_l94 M0_l94 y94_3 y94_4) (fun r => KX12 r.2.1 r.2.2.2 ∧ True) := by
  intro fu
  induction fu with
  | zero => intro I0_l94 L0_l94 M0_l94 y94_3 y94_4 h_y94_4 k_I0_l94 hm; exfalso; omega
  | succ fu ih =>
    intro I0_l94 L0_l94 M0_l94 y94_3 y94_4 h_y94_4 k_I0_l94 hm
    rw [fX12_tree_L94.eq_2]
    have l_6 := il_6
    refine wq_le (fun hc_55904 => ?_) (fun hc_55905 => ?_)
    · have b_55906 := i32b y94_3
      have l_m1 := il_m1
      have l_0 := il_0
      exact tt_fX12_tree_L115 hN y94_3 g9 g57 _ N I0_l94 L0_l94 M0_l94 ((-1) : Int32) (0 : Int32) ⟨by omega, by omega⟩ k_I0_l94 (by omega)
    · refine wq_v (fun v20_q55907 h_v20_q55907 => ?_)
      clear h_v20_q55907
      have l_1 := il_1
      have t_55909 := ia_add y94_4 (1 : Int32) (by omega) (by omega)
      refine wq_v (fun v21_q55908 h_v21_q55908 => ?_)
      have t_v21_q55908 := congrArg Int32.toInt h_v21_q55908
      have b_55910 := i32b v20_q55907
      exact ih I0_l94 L0_l94 M0_l94 v20_q55907 v21_q55908 ⟨by omega, by omega⟩ k_I0_l94 (by omega)
set_option maxHeartbeats 4000000 in
theorem tt_fX12_tree_L57 {N : Nat} (hN : 3000000000 ≤ N) (g9 : (Nat → Int32) → Int64 → (Nat → Nat → Int32) → Int32 → Int32 → Option (Int32 × (Nat → Int32) × Int64 × (Nat → Nat → Int32)))   : ∀ (fu : Nat) (I0_l57 : (Nat → Int32)) (L0_l57 : Int64) (M0_l57 : (Nat → Nat → Int32)) (y57_2 : Int32), (0 ≤ y57_2.toInt ∧ y57_2.toInt ≤ 36) → (KX12 I0_l57 M0_l57) → (36 - y57_2.toInt) < (fu : Int) → wq (fX12_tree_L57 N g9 fu I0_l57 L0_l57 M0_l57 y57_2) (fun r => KX12 r.2.1 r.2.2.2 ∧ True) := by
  intro fu
  induction fu with
  | zero => intro I0_l57 L0_l57 M0_l57 y57_2 h_y57_2 k_I0_l57 hm; exfalso; omega
  | succ fu ih =>
    intro I0_l57 L0_l57 M0_l57 y57_2 h_y57_2 k_I0_l57 hm
    rw [fX12_tree_L57.eq_2]
    have l_36 := il_36
    refine wq_le (fun hc_55911 => ?_) (fun hc_55912 => ?_)
    · have l_1 := il_1
      have l_0 := il_0
      exact tt_fX12_tree_L94 hN g9 _ N I0_l57 L0_l57 M0_l57 (1 : Int32) (0 : Int32) ⟨by omega, by omega⟩ k_I0_l57 (by omega)
    · have l_6 := il_6
      have t_55913 := ia_div y57_2 (6 : Int32) 6 il_6 (by decide) (by omega)
      have t_55914 := ia_rem y57_2 (6 : Int32) 6 il_6 (by decide) (by omega)
      refine wq_b (tt_fX12_priceAll hN I0_l57 L0_l57 M0_l57 (y57_2 / (6 : Int32)) (y57_2 - ((y57_2 / (6 : Int32)) * (6 : Int32))) ⟨by omega, by omega⟩ ⟨by omega, by omega⟩ k_I0_l57) (fun r22_q55915 h_r22_q55915 => ?_)
      obtain ⟨-⟩ := h_r22_q55915
      refine wq_in (n := 36) ⟨by omega, by omega⟩ ?_
      refine wq_v (fun M0_23_q55916 h_M0_23_q55916 => ?_)
      have k_M0_23_q55916 : KX12 I0_l57 M0_23_q55916 := by rw [h_M0_23_q55916]; exact KX12.sm25 k_I0_l57
      have l_1 := il_1
      have t_55918 := ia_add y57_2 (1 : Int32) (by omega) (by omega)
      refine wq_v (fun v24_q55917 h_v24_q55917 => ?_)
      have t_v24_q55917 := congrArg Int32.toInt h_v24_q55917
      exact ih I0_l57 L0_l57 M0_23_q55916 v24_q55917 ⟨by omega, by omega⟩ k_M0_23_q55916 (by omega)
set_option maxHeartbeats 4000000 in
theorem tt_fX12_tree_L9 {N : Nat} (hN : 3000000000 ≤ N)    : ∀ (fu : Nat) (I0_l9 : (Nat → Int32)) (L0_l9 : Int64) (M0_l9 : (Nat → Nat → Int32)) (y9_1 : Int32) (y9_2 : Int32), (0 ≤ y9_2.toInt ∧ y9_2.toInt ≤ 6) → (KX12 I0_l9 M0_l9) → (6 - y9_2.toInt) < (fu : Int) → wq (fX12_tree_L9 N fu I0_l9 L0_l9 M0_l9 y9_1 y9_2) (fun r => KX12 r.2.1 r.2.2.2 ∧ True) := by
  intro fu
  induction fu with
  | zero => intro I0_l9 L0_l9 M0_l9 y9_1 y9_2 h_y9_2 k_I0_l9 hm; exfalso; omega
  | succ fu ih =>
    intro I0_l9 L0_l9 M0_l9 y9_1 y9_2 h_y9_2 k_I0_l9 hm
    rw [fX12_tree_L9.eq_2]
    have l_6 := il_6
    refine wq_le (fun hc_55919 => ?_) (fun hc_55920 => ?_)
    · have b_55921 := i32b y9_1
      have l_0 := il_0
      refine wq_eq (fun hc_55922 => ?_) (fun hc_55923 => ?_)
      · have l_m1 := il_m1
        exact wq_s ⟨k_I0_l9, trivial⟩
      · exact tt_fX12_tree_L57 hN _ N I0_l9 L0_l9 M0_l9 (0 : Int32) ⟨by omega, by omega⟩ k_I0_l9 (by omega)
    · refine wq_b (tt_fX12_bookTells hN I0_l9 L0_l9 M0_l9 y9_2 ⟨by omega, by omega⟩ k_I0_l9) (fun r25_q55924 h_r25_q55924 => ?_)
      obtain ⟨h_r25_q55924_0, -⟩ := h_r25_q55924
      refine wq_in (n := 6) ⟨by omega, by omega⟩ ?_
      refine wq_v (fun M0_26_q55925 h_M0_26_q55925 => ?_)
      have k_M0_26_q55925 : KX12 I0_l9 M0_26_q55925 := by rw [h_M0_26_q55925]; exact KX12.sm26 k_I0_l9
      refine wq_in (n := 6) ⟨by omega, by omega⟩ ?_
      have l_0 := il_0
      refine wq_eq (fun hc_55926 => ?_) (fun hc_55927 => ?_)
      · refine wq_v (fun v27_q55928 h_v27_q55928 => ?_)
        clear h_v27_q55928
        have l_1 := il_1
        have t_55930 := ia_add y9_2 (1 : Int32) (by omega) (by omega)
        refine wq_v (fun v28_q55929 h_v28_q55929 => ?_)
        have t_v28_q55929 := congrArg Int32.toInt h_v28_q55929
        have b_55931 := i32b v27_q55928
        exact ih I0_l9 L0_l9 M0_26_q55925 v27_q55928 v28_q55929 ⟨by omega, by omega⟩ k_M0_26_q55925 (by omega)
      · have b_55933 := i32b y9_1
        have l_1 := il_1
        refine wq_v (fun v29_q55932 h_v29_q55932 => ?_)
        clear h_v29_q55932
        have t_55935 := ia_add y9_2 (1 : Int32) (by omega) (by omega)
        refine wq_v (fun v30_q55934 h_v30_q55934 => ?_)
        have t_v30_q55934 := congrArg Int32.toInt h_v30_q55934
        have b_55936 := i32b v29_q55932
        exact ih I0_l9 L0_l9 M0_26_q55925 v29_q55932 v30_q55934 ⟨by omega, by omega⟩ k_M0_26_q55925 (by omega)
set_option maxHeartbeats 4000000 in
theorem tt_fX12_tree {N : Nat} (hN : 3000000000 ≤ N) (I0 : Nat → Int32) (L0 : Int64) (M0 : Nat → Nat → Int32) (k_I0 : KX12 I0 M0) : wq (fX12_tree N I0 L0 M0) (fun r => KX12 r.2.1 r.2.2.2 ∧ True) := by
  unfold fX12_tree
  refine wq_v (fun I0_1_q55937 h_I0_1_q55937 => ?_)
  have k_I0_1_q55937 : KX12 I0_1_q55937 M0 := by rw [h_I0_1_q55937]; exact KX12.si0 k_I0
  have l_0 := il_0
  exact tt_fX12_tree_L9 hN N I0_1_q55937 L0 M0 (0 : Int32) (0 : Int32) ⟨by omega, by omega⟩ k_I0_1_q55937 (by omega)
set_option maxHeartbeats 4000000 in
theorem tt_fX12_whence {N : Nat} (hN : 3000000000 ≤ N) (I0 : Nat → Int32) (L0 : Int64) (M0 : Nat → Nat → Int32) (x1 : Int32) (k_I0 : KX12 I0 M0) : wq (fX12_whence N I0 L0 M0 x1) (fun r => (-2 ≤ r.1.toInt ∧ r.1.toInt ≤ 5) ∧ KX12 r.2.1 r.2.2.2 ∧ True) := by
  unfold fX12_whence
  refine wq_v (fun I0_2_q56112 h_I0_2_q56112 => ?_)
  have k_I0_2_q56112 : KX12 I0_2_q56112 M0 := by rw [h_I0_2_q56112]; exact KX12.si0 k_I0
  have b_56113 := i32b x1
  refine wq_b (tt_fX12_isBook hN I0_2_q56112 L0 M0 x1 k_I0_2_q56112) (fun r3_q56114 h_r3_q56114 => ?_)
  obtain ⟨h_r3_q56114_0, h_r3_q56114_1, h_r3_q56114_2, h_r3_q56114_3, -⟩ := h_r3_q56114
  have t_56115 := KX12.i1 h_r3_q56114_3
  have t_56116 := KX12.i1 k_I0
  have t_56117 : (I0_2_q56112 1).toInt = (I0 1).toInt := by rw [h_I0_2_q56112]; rfl
  have l_0 := il_0
  refine wq_eq (fun hc_56118 => ?_) (fun hc_56119 => ?_)
  · exact wq_s ⟨(show -2 ≤ (0 : Int32).toInt ∧ (0 : Int32).toInt ≤ 5 from ⟨by omega, by omega⟩), h_r3_q56114_3, trivial⟩
  · have t_56120 := KX12.i18 h_r3_q56114_3
    refine wq_eq (fun hc_56121 => ?_) (fun hc_56122 => ?_)
    · unfold fX12_whence_J36
      unfold fX12_whence_J37
      have l_1 := il_1
      refine wq_b (tt_fX12_right hN r3_q56114.2.1 r3_q56114.2.2.1 r3_q56114.2.2.2 (0 : Int32) (1 : Int32) ⟨by omega, by omega⟩ h_r3_q56114_3) (fun r1_q56123 h_r1_q56123 => ?_)
      obtain ⟨h_r1_q56123_0, h_r1_q56123_1, h_r1_q56123_2, h_r1_q56123_3, -⟩ := h_r1_q56123
      have t_56124 := KX12.i1 h_r1_q56123_3
      refine wq_eq (fun hc_56125 => ?_) (fun hc_56126 => ?_)
      · exact wq_s ⟨(show -2 ≤ (0 : Int32).toInt ∧ (0 : Int32).toInt ≤ 5 from ⟨by omega, by omega⟩), h_r1_q56123_3, trivial⟩
      · refine wq_in (n := 6) ⟨by omega, by omega⟩ ?_
        have t_56127 := KX12.m23 h_r1_q56123_3 x1.toNatClampNeg
        exact wq_s ⟨(show -2 ≤ (r1_q56123.2.2.2 23 x1.toNatClampNeg).toInt ∧ (r1_q56123.2.2.2 23 x1.toNatClampNeg).toInt ≤ 5 from ⟨by omega, by omega⟩), h_r1_q56123_3, trivial⟩
    · refine wq_in (n := 6) ⟨by omega, by omega⟩ ?_
      have t_56128 := KX12.m23 h_r3_q56114_3 x1.toNatClampNeg
      have l_m2 := il_m2
      refine wq_eq (fun hc_56129 => ?_) (fun hc_56130 => ?_)
      · unfold fX12_whence_J36
        unfold fX12_whence_J37
        have l_1 := il_1
        refine wq_b (tt_fX12_right hN r3_q56114.2.1 r3_q56114.2.2.1 r3_q56114.2.2.2 (0 : Int32) (1 : Int32) ⟨by omega, by omega⟩ h_r3_q56114_3) (fun r1_q56131 h_r1_q56131 => ?_)
        obtain ⟨h_r1_q56131_0, h_r1_q56131_1, h_r1_q56131_2, h_r1_q56131_3, -⟩ := h_r1_q56131
        have t_56132 := KX12.i1 h_r1_q56131_3
        refine wq_eq (fun hc_56133 => ?_) (fun hc_56134 => ?_)
        · exact wq_s ⟨(show -2 ≤ (0 : Int32).toInt ∧ (0 : Int32).toInt ≤ 5 from ⟨by omega, by omega⟩), h_r1_q56131_3, trivial⟩
        · refine wq_in (n := 6) ⟨by omega, by omega⟩ ?_
          have t_56135 := KX12.m23 h_r1_q56131_3 x1.toNatClampNeg
          exact wq_s ⟨(show -2 ≤ (r1_q56131.2.2.2 23 x1.toNatClampNeg).toInt ∧ (r1_q56131.2.2.2 23 x1.toNatClampNeg).toInt ≤ 5 from ⟨by omega, by omega⟩), h_r1_q56131_3, trivial⟩
      · unfold fX12_whence_J37
        have l_1 := il_1
        refine wq_b (tt_fX12_right hN r3_q56114.2.1 r3_q56114.2.2.1 r3_q56114.2.2.2 (1 : Int32) (1 : Int32) ⟨by omega, by omega⟩ h_r3_q56114_3) (fun r1_q56136 h_r1_q56136 => ?_)
        obtain ⟨h_r1_q56136_0, h_r1_q56136_1, h_r1_q56136_2, h_r1_q56136_3, -⟩ := h_r1_q56136
        have t_56137 := KX12.i1 h_r1_q56136_3
        refine wq_eq (fun hc_56138 => ?_) (fun hc_56139 => ?_)
        · exact wq_s ⟨(show -2 ≤ (0 : Int32).toInt ∧ (0 : Int32).toInt ≤ 5 from ⟨by omega, by omega⟩), h_r1_q56136_3, trivial⟩
        · refine wq_in (n := 6) ⟨by omega, by omega⟩ ?_
          have t_56140 := KX12.m23 h_r1_q56136_3 x1.toNatClampNeg
          exact wq_s ⟨(show -2 ≤ (r1_q56136.2.2.2 23 x1.toNatClampNeg).toInt ∧ (r1_q56136.2.2.2 23 x1.toNatClampNeg).toInt ≤ 5 from ⟨by omega, by omega⟩), h_r1_q56136_3, trivial⟩
set_option maxHeartbeats 4000000 in
theorem tt_fX12_slips_L62 {N : Nat} (hN : 3000000000 ≤ N) (x1 : Int32) (x2 : Int32) (y52_4 : Int32) (g52 : (Nat → Int32) → Int64 → (Nat → Nat → Int32) → Int32 → Int32 → Option (Int32 × (Nat → Int32) × Int64 × (Nat → Nat → Int32))) (h_y52_4 : 0 ≤ y52_4.toInt ∧ y52_4.toInt ≤ 5) (hg52 : ∀ (q0 : (Nat → Int32)) (q1 : Int64) (q2 : (Nat → Nat → Int32)) (q3 : Int32) (q4 : Int32), (0 ≤ q4.toInt ∧ q4.toInt ≤ 6) → (KX12 q0 q2) → (y52_4.toInt < q4.toInt) → wq (g52 q0 q1 q2 q3 q4) (fun r => KX12 r.2.1 r.2.2.2 ∧ True)) : ∀ (fu : Nat) (I0_l62 : (Nat → Int32)) (L0_l62 : Int64) (M0_l62 : (Nat → Nat → Int32)) (y62_3 : Int32) (y62_5 : Int32), (0 ≤ y62_5.toInt ∧ y62_5.toInt ≤ 420) → (KX12 I0_l62 M0_l62) → (420 - y62_5.toInt) < (fu : Int) → wq (fX12_slips_L62 N x1 x2 y52_4 g52 fu I0_l62 L0_l62 M0_l62 y62_3 y62_5) (fun r => KX12 r.2.1 r.2.2.2 ∧ True) := by
  intro fu
  induction fu with
  | zero => intro I0_l62 L0_l62 M0_l62 y62_3 y62_5 h_y62_5 k_I0_l62 hm; exfalso; omega
  | succ fu ih =>
    intro I0_l62 L0_l62 M0_l62 y62_3 y62_5 h_y62_5 k_I0_l62 hm
    rw [fX12_slips_L62.eq_2]
    have l_420 := il_420
    refine wq_le (fun hc_59071 => ?_) (fun hc_59072 => ?_)
    · have l_1 := il_1
      have t_59074 := ia_add y52_4 (1 : Int32) (by omega) (by omega)
      refine wq_v (fun v7_q59073 h_v7_q59073 => ?_)
      have t_v7_q59073 := congrArg Int32.toInt h_v7_q59073
      have b_59075 := i32b y62_3
      exact hg52 I0_l62 L0_l62 M0_l62 y62_3 v7_q59073 ⟨by omega, by omega⟩ k_I0_l62 (by omega)
    · refine wq_in (n := 6) ⟨by omega, by omega⟩ ?_
      have t_59076 := KX12.m23 k_I0_l62 y52_4.toNatClampNeg
      have l_0 := il_0
      refine wq_lt (fun hc_59077 => ?_) (fun hc_59078 => ?_)
      · have l_1 := il_1
        have t_59080 := ia_add y52_4 (1 : Int32) (by omega) (by omega)
        refine wq_v (fun v8_q59079 h_v8_q59079 => ?_)
        have t_v8_q59079 := congrArg Int32.toInt h_v8_q59079
        have b_59081 := i32b y62_3
        exact hg52 I0_l62 L0_l62 M0_l62 y62_3 v8_q59079 ⟨by omega, by omega⟩ k_I0_l62 (by omega)
      · have l_20 := il_20
        have t_59082 := ia_mul (20 : Int32) (20) il_20 y52_4 (by omega) (by omega)
        have l_21 := il_21
        have t_59083 := ia_div y62_5 (21 : Int32) 21 il_21 (by decide) (by omega)
        have t_59084 := ia_add ((20 : Int32) * y52_4) (y62_5 / (21 : Int32)) (by omega) (by omega)
        have t_59085 := ia_rem y62_5 (21 : Int32) 21 il_21 (by decide) (by omega)
        refine wq_b (tt_fX12_at hN I0_l62 L0_l62 M0_l62 (((20 : Int32) * y52_4) + (y62_5 / (21 : Int32))) (y62_5 - ((y62_5 / (21 : Int32)) * (21 : Int32))) ⟨by omega, by omega⟩ ⟨by omega, by omega⟩ k_I0_l62) (fun r9b_q59086 h_r9b_q59086 => ?_)
        obtain ⟨h_r9b_q59086_0, h_r9b_q59086_1, h_r9b_q59086_2, -⟩ := h_r9b_q59086
        refine wq_in (n := 6) ⟨by omega, by omega⟩ ?_
        have t_59087 := ia_mul (20 : Int32) (20) il_20 (M0_l62 23 y52_4.toNatClampNeg) (by omega) (by omega)
        have t_59088 := ia_add ((20 : Int32) * (M0_l62 23 y52_4.toNatClampNeg)) (y62_5 / (21 : Int32)) (by omega) (by omega)
        refine wq_b (tt_fX12_at hN I0_l62 L0_l62 M0_l62 (((20 : Int32) * (M0_l62 23 y52_4.toNatClampNeg)) + (y62_5 / (21 : Int32))) (y62_5 - ((y62_5 / (21 : Int32)) * (21 : Int32))) ⟨by omega, by omega⟩ ⟨by omega, by omega⟩ k_I0_l62) (fun r10_q59089 h_r10_q59089 => ?_)
        obtain ⟨h_r10_q59089_0, h_r10_q59089_1, h_r10_q59089_2, -⟩ := h_r10_q59089
        have l_m1 := il_m1
        refine wq_eq (fun hc_59090 => ?_) (fun hc_59091 => ?_)
        · have l_1 := il_1
          have t_59093 := ia_add y62_5 (1 : Int32) (by omega) (by omega)
          refine wq_v (fun v11_q59092 h_v11_q59092 => ?_)
          have t_v11_q59092 := congrArg Int32.toInt h_v11_q59092
          have b_59094 := i32b y62_3
          exact ih I0_l62 L0_l62 M0_l62 y62_3 v11_q59092 ⟨by omega, by omega⟩ k_I0_l62 (by omega)
        · refine wq_eq (fun hc_59095 => ?_) (fun hc_59096 => ?_)
          · have l_1 := il_1
            have t_59098 := ia_add y62_5 (1 : Int32) (by omega) (by omega)
            refine wq_v (fun v15_q59097 h_v15_q59097 => ?_)
            have t_v15_q59097 := congrArg Int32.toInt h_v15_q59097
            have b_59099 := i32b y62_3
            exact ih I0_l62 L0_l62 M0_l62 y62_3 v15_q59097 ⟨by omega, by omega⟩ k_I0_l62 (by omega)
          · refine wq_b (tt_fX12_beside hN I0_l62 L0_l62 M0_l62 r9b_q59086 r10_q59089 ⟨by omega, by omega⟩ k_I0_l62) (fun r12_q59100 h_r12_q59100 => ?_)
            obtain ⟨h_r12_q59100_0, -⟩ := h_r12_q59100
            have l_1 := il_1
            refine wq_eq (fun hc_59101 => ?_) (fun hc_59102 => ?_)
            · have l_30 := il_30
              have t_59103 := ia_rem r9b_q59086 (30 : Int32) 30 il_30 (by decide) (by omega)
              have b_59104 := i32b x1
              refine wq_eq (fun hc_59105 => ?_) (fun hc_59106 => ?_)
              · have t_59107 := ia_rem r10_q59089 (30 : Int32) 30 il_30 (by decide) (by omega)
                have b_59108 := i32b x2
                refine wq_eq (fun hc_59109 => ?_) (fun hc_59110 => ?_)
                · have b_59112 := i32b y62_3
                  refine wq_v (fun v13_q59111 h_v13_q59111 => ?_)
                  have t_v13_q59111 := congrArg Int32.toInt h_v13_q59111
                  have t_59114 := ia_add y62_5 (1 : Int32) (by omega) (by omega)
                  refine wq_v (fun v14_q59113 h_v14_q59113 => ?_)
                  have t_v14_q59113 := congrArg Int32.toInt h_v14_q59113
                  have b_59115 := i32b v13_q59111
                  exact ih I0_l62 L0_l62 M0_l62 v13_q59111 v14_q59113 ⟨by omega, by omega⟩ k_I0_l62 (by omega)
                · unfold fX12_slips_J178
                  have l_2 := il_2
                  refine wq_eq (fun hc_59116 => ?_) (fun hc_59117 => ?_)
                  · exfalso; omega
                  · have t_59119 := ia_add y62_5 (1 : Int32) (by omega) (by omega)
                    refine wq_v (fun v2_q59118 h_v2_q59118 => ?_)
                    have t_v2_q59118 := congrArg Int32.toInt h_v2_q59118
                    have b_59120 := i32b y62_3
                    exact ih I0_l62 L0_l62 M0_l62 y62_3 v2_q59118 ⟨by omega, by omega⟩ k_I0_l62 (by omega)
              · unfold fX12_slips_J178
                have l_2 := il_2
                refine wq_eq (fun hc_59121 => ?_) (fun hc_59122 => ?_)
                · exfalso; omega
                · have t_59124 := ia_add y62_5 (1 : Int32) (by omega) (by omega)
                  refine wq_v (fun v2_q59123 h_v2_q59123 => ?_)
                  have t_v2_q59123 := congrArg Int32.toInt h_v2_q59123
                  have b_59125 := i32b y62_3
                  exact ih I0_l62 L0_l62 M0_l62 y62_3 v2_q59123 ⟨by omega, by omega⟩ k_I0_l62 (by omega)
            · unfold fX12_slips_J178
              have l_2 := il_2
              refine wq_eq (fun hc_59126 => ?_) (fun hc_59127 => ?_)
              · have l_30 := il_30
                have t_59128 := ia_div r9b_q59086 (30 : Int32) 30 il_30 (by decide) (by omega)
                have b_59129 := i32b x1
                refine wq_eq (fun hc_59130 => ?_) (fun hc_59131 => ?_)
                · have t_59132 := ia_div r10_q59089 (30 : Int32) 30 il_30 (by decide) (by omega)
                  have b_59133 := i32b x2
                  refine wq_eq (fun hc_59134 => ?_) (fun hc_59135 => ?_)
                  · have b_59137 := i32b y62_3
                    refine wq_v (fun v5_q59136 h_v5_q59136 => ?_)
                    have t_v5_q59136 := congrArg Int32.toInt h_v5_q59136
                    have t_59139 := ia_add y62_5 (1 : Int32) (by omega) (by omega)
                    refine wq_v (fun v6_q59138 h_v6_q59138 => ?_)
                    have t_v6_q59138 := congrArg Int32.toInt h_v6_q59138
                    have b_59140 := i32b v5_q59136
                    exact ih I0_l62 L0_l62 M0_l62 v5_q59136 v6_q59138 ⟨by omega, by omega⟩ k_I0_l62 (by omega)
                  · have t_59142 := ia_add y62_5 (1 : Int32) (by omega) (by omega)
                    refine wq_v (fun v4_q59141 h_v4_q59141 => ?_)
                    have t_v4_q59141 := congrArg Int32.toInt h_v4_q59141
                    have b_59143 := i32b y62_3
                    exact ih I0_l62 L0_l62 M0_l62 y62_3 v4_q59141 ⟨by omega, by omega⟩ k_I0_l62 (by omega)
                · have t_59145 := ia_add y62_5 (1 : Int32) (by omega) (by omega)
                  refine wq_v (fun v3_q59144 h_v3_q59144 => ?_)
                  have t_v3_q59144 := congrArg Int32.toInt h_v3_q59144
                  have b_59146 := i32b y62_3
                  exact ih I0_l62 L0_l62 M0_l62 y62_3 v3_q59144 ⟨by omega, by omega⟩ k_I0_l62 (by omega)
              · have t_59148 := ia_add y62_5 (1 : Int32) (by omega) (by omega)
                refine wq_v (fun v2_q59147 h_v2_q59147 => ?_)
                have t_v2_q59147 := congrArg Int32.toInt h_v2_q59147
                have b_59149 := i32b y62_3
                exact ih I0_l62 L0_l62 M0_l62 y62_3 v2_q59147 ⟨by omega, by omega⟩ k_I0_l62 (by omega)
set_option maxHeartbeats 4000000 in
theorem tt_fX12_slips_L52 {N : Nat} (hN : 3000000000 ≤ N) (x1 : Int32) (x2 : Int32)   : ∀ (fu : Nat) (I0_l52 : (Nat → Int32)) (L0_l52 : Int64) (M0_l52 : (Nat → Nat → Int32)) (y52_3 : Int32) (y52_4 : Int32), (0 ≤ y52_4.toInt ∧ y52_4.toInt ≤ 6) → (KX12 I0_l52 M0_l52) → (6 - y52_4.toInt) < (fu : Int) → wq (fX12_slips_L52 N x1 x2 fu I0_l52 L0_l52 M0_l52 y52_3 y52_4) (fun r => KX12 r.2.1 r.2.2.2 ∧ True) := by
  intro fu
  induction fu with
  | zero => intro I0_l52 L0_l52 M0_l52 y52_3 y52_4 h_y52_4 k_I0_l52 hm; exfalso; omega
  | succ fu ih =>
    intro I0_l52 L0_l52 M0_l52 y52_3 y52_4 h_y52_4 k_I0_l52 hm
    rw [fX12_slips_L52.eq_2]
    have l_6 := il_6
    refine wq_le (fun hc_59150 => ?_) (fun hc_59151 => ?_)
    · have b_59152 := i32b y52_3
      exact wq_s ⟨k_I0_l52, trivial⟩
    · have b_59153 := i32b x1
      have b_59154 := i32b x2
      have b_59155 := i32b y52_3
      have l_0 := il_0
      exact tt_fX12_slips_L62 hN x1 x2 y52_4 _ ⟨by omega, by omega⟩ (fun q0 q1 q2 q3 q4 hq0 hq1 hq2 => ih q0 q1 q2 q3 q4 hq0 hq1 (by omega)) N I0_l52 L0_l52 M0_l52 y52_3 (0 : Int32) ⟨by omega, by omega⟩ k_I0_l52 (by omega)
set_option maxHeartbeats 4000000 in
theorem tt_fX12_slips {N : Nat} (hN : 3000000000 ≤ N) (I0 : Nat → Int32) (L0 : Int64) (M0 : Nat → Nat → Int32) (x1 : Int32) (x2 : Int32) (k_I0 : KX12 I0 M0) : wq (fX12_slips N I0 L0 M0 x1 x2) (fun r => KX12 r.2.1 r.2.2.2 ∧ True) := by
  unfold fX12_slips
  refine wq_v (fun I0_16_q59156 h_I0_16_q59156 => ?_)
  have k_I0_16_q59156 : KX12 I0_16_q59156 M0 := by rw [h_I0_16_q59156]; exact KX12.si0 k_I0
  have b_59157 := i32b x1
  have l_0 := il_0
  have l_29 := il_29
  refine wq_b (tt_fX12_within hN x1 (0 : Int32) (29 : Int32)) (fun r17_q59158 h_r17_q59158 => ?_)
  obtain ⟨h_r17_q59158_0, h_r17_q59158_1, -⟩ := h_r17_q59158
  refine wq_eq (fun hc_59159 => ?_) (fun hc_59160 => ?_)
  · unfold fX12_slips_J37
    unfold fX12_slips_J38
    have l_1 := il_1
    refine wq_b (tt_fX12_right hN I0_16_q59156 L0 M0 (0 : Int32) (1 : Int32) ⟨by omega, by omega⟩ k_I0_16_q59156) (fun r1_q59161 h_r1_q59161 => ?_)
    obtain ⟨h_r1_q59161_0, h_r1_q59161_1, h_r1_q59161_2, h_r1_q59161_3, -⟩ := h_r1_q59161
    have t_59162 := KX12.i1 h_r1_q59161_3
    have t_59163 := KX12.i1 k_I0
    have t_59164 : (I0_16_q59156 1).toInt = (I0 1).toInt := by rw [h_I0_16_q59156]; rfl
    refine wq_eq (fun hc_59165 => ?_) (fun hc_59166 => ?_)
    · exact wq_s ⟨h_r1_q59161_3, trivial⟩
    · have b_59167 := i32b x2
      exact tt_fX12_slips_L52 hN x1 x2 N r1_q59161.2.1 r1_q59161.2.2.1 r1_q59161.2.2.2 (0 : Int32) (0 : Int32) ⟨by omega, by omega⟩ h_r1_q59161_3 (by omega)
  · have b_59168 := i32b x2
    refine wq_b (tt_fX12_within hN x2 (0 : Int32) (29 : Int32)) (fun r18_q59169 h_r18_q59169 => ?_)
    obtain ⟨h_r18_q59169_0, h_r18_q59169_1, -⟩ := h_r18_q59169
    refine wq_eq (fun hc_59170 => ?_) (fun hc_59171 => ?_)
    · unfold fX12_slips_J37
      unfold fX12_slips_J38
      have l_1 := il_1
      refine wq_b (tt_fX12_right hN I0_16_q59156 L0 M0 (0 : Int32) (1 : Int32) ⟨by omega, by omega⟩ k_I0_16_q59156) (fun r1_q59172 h_r1_q59172 => ?_)
      obtain ⟨h_r1_q59172_0, h_r1_q59172_1, h_r1_q59172_2, h_r1_q59172_3, -⟩ := h_r1_q59172
      have t_59173 := KX12.i1 h_r1_q59172_3
      have t_59174 := KX12.i1 k_I0
      have t_59175 : (I0_16_q59156 1).toInt = (I0 1).toInt := by rw [h_I0_16_q59156]; rfl
      refine wq_eq (fun hc_59176 => ?_) (fun hc_59177 => ?_)
      · exact wq_s ⟨h_r1_q59172_3, trivial⟩
      · exact tt_fX12_slips_L52 hN x1 x2 N r1_q59172.2.1 r1_q59172.2.2.1 r1_q59172.2.2.2 (0 : Int32) (0 : Int32) ⟨by omega, by omega⟩ h_r1_q59172_3 (by omega)
    · have t_59178 := KX12.i18 k_I0
      have t_59179 : (I0_16_q59156 18).toInt = (I0 18).toInt := by rw [h_I0_16_q59156]; rfl
      refine wq_eq (fun hc_59180 => ?_) (fun hc_59181 => ?_)
      · unfold fX12_slips_J37
        unfold fX12_slips_J38
        have l_1 := il_1
        refine wq_b (tt_fX12_right hN I0_16_q59156 L0 M0 (0 : Int32) (1 : Int32) ⟨by omega, by omega⟩ k_I0_16_q59156) (fun r1_q59182 h_r1_q59182 => ?_)
        obtain ⟨h_r1_q59182_0, h_r1_q59182_1, h_r1_q59182_2, h_r1_q59182_3, -⟩ := h_r1_q59182
        have t_59183 := KX12.i1 h_r1_q59182_3
        have t_59184 := KX12.i1 k_I0
        have t_59185 : (I0_16_q59156 1).toInt = (I0 1).toInt := by rw [h_I0_16_q59156]; rfl
        refine wq_eq (fun hc_59186 => ?_) (fun hc_59187 => ?_)
        · exact wq_s ⟨h_r1_q59182_3, trivial⟩
        · exact tt_fX12_slips_L52 hN x1 x2 N r1_q59182.2.1 r1_q59182.2.2.1 r1_q59182.2.2.2 (0 : Int32) (0 : Int32) ⟨by omega, by omega⟩ h_r1_q59182_3 (by omega)
      · unfold fX12_slips_J38
        have l_1 := il_1
        refine wq_b (tt_fX12_right hN I0_16_q59156 L0 M0 (1 : Int32) (1 : Int32) ⟨by omega, by omega⟩ k_I0_16_q59156) (fun r1_q59188 h_r1_q59188 => ?_)
        obtain ⟨h_r1_q59188_0, h_r1_q59188_1, h_r1_q59188_2, h_r1_q59188_3, -⟩ := h_r1_q59188
        have t_59189 := KX12.i1 h_r1_q59188_3
        have t_59190 := KX12.i1 k_I0
        have t_59191 : (I0_16_q59156 1).toInt = (I0 1).toInt := by rw [h_I0_16_q59156]; rfl
        refine wq_eq (fun hc_59192 => ?_) (fun hc_59193 => ?_)
        · exact wq_s ⟨h_r1_q59188_3, trivial⟩
        · exact tt_fX12_slips_L52 hN x1 x2 N r1_q59188.2.1 r1_q59188.2.2.1 r1_q59188.2.2.2 (0 : Int32) (0 : Int32) ⟨by omega, by omega⟩ h_r1_q59188_3 (by omega)
set_option maxHeartbeats 4000000 in
theorem tt_fX12_handed_L37 {N : Nat} (hN : 3000000000 ≤ N) (x1 : Int32) (x2 : Int32) (x3 : Int32) (h_x1 : 0 ≤ x1.toInt ∧ x1.toInt ≤ 5) (h_x2 : 0 ≤ x2.toInt ∧ x2.toInt ≤ 5) (h_x3 : 0 ≤ x3.toInt ∧ x3.toInt ≤ 5)  : ∀ (fu : Nat) (I0_l37 : (Nat → Int32)) (L0_l37 : Int64) (M0_l37 : (Nat → Nat → Int32)) (y37_4 : Int32) (y37_5 : Int32), (0 ≤ y37_5.toInt ∧ y37_5.toInt ≤ 440) → (KX12 I0_l37 M0_l37) → (440 - y37_5.toInt) < (fu : Int) → wq (fX12_handed_L37 N x1 x2 x3 fu I0_l37 L0_l37 M0_l37 y37_4 y37_5) (fun r => KX12 r.2.1 r.2.2.2 ∧ True) := by
  intro fu
  induction fu with
  | zero => intro I0_l37 L0_l37 M0_l37 y37_4 y37_5 h_y37_5 k_I0_l37 hm; exfalso; omega
  | succ fu ih =>
    intro I0_l37 L0_l37 M0_l37 y37_4 y37_5 h_y37_5 k_I0_l37 hm
    rw [fX12_handed_L37.eq_2]
    have l_440 := il_440
    refine wq_le (fun hc_60068 => ?_) (fun hc_60069 => ?_)
    · have b_60070 := i32b y37_4
      exact wq_s ⟨k_I0_l37, trivial⟩
    · have t_60071 := ia_mul (440 : Int32) (440) il_440 x1 (by omega) (by omega)
      have t_60072 := ia_add ((440 : Int32) * x1) y37_5 (by omega) (by omega)
      refine wq_in (n := 2640) ⟨by omega, by omega⟩ ?_
      have t_60074 := KX12.m7 k_I0_l37 ((((440 : Int32) * x1) + y37_5)).toNatClampNeg
      refine wq_v (fun v5_q60073 h_v5_q60073 => ?_)
      have t_v5_q60073 := congrArg Int32.toInt h_v5_q60073
      have t_60075 := ia_mul (440 : Int32) (440) il_440 x2 (by omega) (by omega)
      have t_60076 := ia_add ((440 : Int32) * x2) y37_5 (by omega) (by omega)
      refine wq_in (n := 2640) ⟨by omega, by omega⟩ ?_
      have t_60078 := KX12.m7 k_I0_l37 ((((440 : Int32) * x2) + y37_5)).toNatClampNeg
      refine wq_v (fun v6_q60077 h_v6_q60077 => ?_)
      have t_v6_q60077 := congrArg Int32.toInt h_v6_q60077
      have t_60079 := ia_mul (440 : Int32) (440) il_440 x3 (by omega) (by omega)
      have t_60080 := ia_add ((440 : Int32) * x3) y37_5 (by omega) (by omega)
      refine wq_in (n := 2640) ⟨by omega, by omega⟩ ?_
      have t_60082 := KX12.m7 k_I0_l37 ((((440 : Int32) * x3) + y37_5)).toNatClampNeg
      refine wq_v (fun v7_q60081 h_v7_q60081 => ?_)
      have t_v7_q60081 := congrArg Int32.toInt h_v7_q60081
      have l_m1 := il_m1
      refine wq_eq (fun hc_60083 => ?_) (fun hc_60084 => ?_)
      · have l_1 := il_1
        have t_60086 := ia_add y37_5 (1 : Int32) (by omega) (by omega)
        refine wq_v (fun v8_q60085 h_v8_q60085 => ?_)
        have t_v8_q60085 := congrArg Int32.toInt h_v8_q60085
        have b_60087 := i32b y37_4
        exact ih I0_l37 L0_l37 M0_l37 y37_4 v8_q60085 ⟨by omega, by omega⟩ k_I0_l37 (by omega)
      · refine wq_eq (fun hc_60088 => ?_) (fun hc_60089 => ?_)
        · refine wq_eq (fun hc_60090 => ?_) (fun hc_60091 => ?_)
          · have l_1 := il_1
            have t_60093 := ia_add y37_5 (1 : Int32) (by omega) (by omega)
            refine wq_v (fun v10_q60092 h_v10_q60092 => ?_)
            have t_v10_q60092 := congrArg Int32.toInt h_v10_q60092
            have b_60094 := i32b y37_4
            exact ih I0_l37 L0_l37 M0_l37 y37_4 v10_q60092 ⟨by omega, by omega⟩ k_I0_l37 (by omega)
          · refine wq_eq (fun hc_60095 => ?_) (fun hc_60096 => ?_)
            · have l_1 := il_1
              have t_60098 := ia_add y37_5 (1 : Int32) (by omega) (by omega)
              refine wq_v (fun v11_q60097 h_v11_q60097 => ?_)
              have t_v11_q60097 := congrArg Int32.toInt h_v11_q60097
              have b_60099 := i32b y37_4
              exact ih I0_l37 L0_l37 M0_l37 y37_4 v11_q60097 ⟨by omega, by omega⟩ k_I0_l37 (by omega)
            · have b_60101 := i32b y37_4
              have l_1 := il_1
              refine wq_v (fun v12_q60100 h_v12_q60100 => ?_)
              have t_v12_q60100 := congrArg Int32.toInt h_v12_q60100
              have t_60103 := ia_add y37_5 (1 : Int32) (by omega) (by omega)
              refine wq_v (fun v13_q60102 h_v13_q60102 => ?_)
              have t_v13_q60102 := congrArg Int32.toInt h_v13_q60102
              have b_60104 := i32b v12_q60100
              exact ih I0_l37 L0_l37 M0_l37 v12_q60100 v13_q60102 ⟨by omega, by omega⟩ k_I0_l37 (by omega)
        · have l_1 := il_1
          have t_60106 := ia_add y37_5 (1 : Int32) (by omega) (by omega)
          refine wq_v (fun v9_q60105 h_v9_q60105 => ?_)
          have t_v9_q60105 := congrArg Int32.toInt h_v9_q60105
          have b_60107 := i32b y37_4
          exact ih I0_l37 L0_l37 M0_l37 y37_4 v9_q60105 ⟨by omega, by omega⟩ k_I0_l37 (by omega)

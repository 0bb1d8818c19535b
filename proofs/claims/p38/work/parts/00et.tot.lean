set_option maxHeartbeats 4000000 in
theorem tt_fX12_tree_L134 {N : Nat} (hN : 3000000000 ≤ N) (y115_2 : Int32) (y115_4 : Int32) (y94_3 : Int32) (g9 : (Nat → Int32) → Int64 → (Nat → Nat → Int32) → Int32 → Int32 → Option (Int32 × (Nat → Int32) × Int64 × (Nat → Nat → Int32))) (g57 : (Nat → Int32) → Int64 → (Nat → Nat → Int32) → Int32 → Option (Int32 × (Nat → Int32) × Int64 × (Nat → Nat → Int32))) (g94 : (Nat → Int32) → Int64 → (Nat → Nat → Int32) → Int32 → Int32 → Option (Int32 × (Nat → Int32) × Int64 × (Nat → Nat → Int32))) (g115 : (Nat → Int32) → Int64 → (Nat → Nat → Int32) → Int32 → Int32 → Option (Int32 × (Nat → Int32) × Int64 × (Nat → Nat → Int32))) (h_y115_4 : 0 ≤ y115_4.toInt ∧ y115_4.toInt ≤ 2147483646) (h_y94_3 : 1 ≤ y94_3.toInt ∧ y94_3.toInt ≤ 2147483647) (hg115 : ∀ (q0 : (Nat → Int32)) (q1 : Int64) (q2 : (Nat → Nat → Int32)) (q3 : Int32) (q4 : Int32), (0 ≤ q4.toInt ∧ q4.toInt ≤ 2147483647) → (KX12 q0 q2) → (y115_4.toInt < q4.toInt) → wq (g115 q0 q1 q2 q3 q4) (fun r => KX12 r.2.1 r.2.2.2 ∧ True)) : ∀ (fu : Nat) (I0_l134 : (Nat → Int32)) (L0_l134 : Int64) (M0_l134 : (Nat → Nat → Int32)) (y134_5 : Int32) (y134_6 : Int32) (y134_7 : Int32) (y134_8 : Int32), (0 ≤ y134_5.toInt ∧ y134_5.toInt ≤ 2147483647) → (0 ≤ y134_6.toInt ∧ y134_6.toInt ≤ 1) → (-1 ≤ y134_8.toInt ∧ y134_8.toInt ≤ 5) → (KX12 I0_l134 M0_l134) → (y134_8.toInt - -1) < (fu : Int) → wq (fX12_tree_L134 N y115_2 y115_4 y94_3 g9 g57 g94 g115 fu I0_l134 L0_l134 M0_l134 y134_5 y134_6 y134_7 y134_8) (fun r => KX12 r.2.1 r.2.2.2 ∧ True) := by
  intro fu
  induction fu with
  | zero => intro I0_l134 L0_l134 M0_l134 y134_5 y134_6 y134_7 y134_8 h_y134_5 h_y134_6 h_y134_8 k_I0_l134 hm; exfalso; omega
  | succ fu ih =>
    intro I0_l134 L0_l134 M0_l134 y134_5 y134_6 y134_7 y134_8 h_y134_5 h_y134_6 h_y134_8 k_I0_l134 hm
    rw [fX12_tree_L134.eq_2]
    have l_0 := il_0
    refine wq_lt (fun hc_50881 => ?_) (fun hc_50882 => ?_)
    · refine wq_eq (fun hc_50883 => ?_) (fun hc_50884 => ?_)
      · have l_1 := il_1
        refine wq_v (fun v16_q50885 h_v16_q50885 => ?_)
        have t_v16_q50885 := (congrArg Int32.toInt h_v16_q50885).trans (ia_add y115_4 (1 : Int32) (by omega) (by omega))
        have b_50887 := i32b y115_2
        have b_50888 := i32b v16_q50885
        exact hg115 I0_l134 L0_l134 M0_l134 y115_2 v16_q50885 ⟨by omega, by omega⟩ k_I0_l134 (by omega)
      · have b_50889 := i32b y115_2
        have l_m1 := il_m1
        refine wq_eq (fun hc_50890 => ?_) (fun hc_50891 => ?_)
        · unfold fX12_tree_J258
          refine wq_b (tt_fX12_isTree hN I0_l134 L0_l134 M0_l134 k_I0_l134) (fun r2_q50892 h_r2_q50892 => ?_)
          obtain ⟨h_r2_q50892_0, -⟩ := h_r2_q50892
          refine wq_eq (fun hc_50893 => ?_) (fun hc_50894 => ?_)
          · have l_1 := il_1
            refine wq_v (fun v8_q50895 h_v8_q50895 => ?_)
            have t_v8_q50895 := (congrArg Int32.toInt h_v8_q50895).trans (ia_add y115_4 (1 : Int32) (by omega) (by omega))
            have b_50897 := i32b v8_q50895
            exact hg115 I0_l134 L0_l134 M0_l134 y115_2 v8_q50895 ⟨by omega, by omega⟩ k_I0_l134 (by omega)
          · have b_50898 := i32b y134_7
            have b_50899 := i32b y94_3
            exact tt_fX12_tree_L274 hN y115_4 y134_7 y94_3 g9 g57 g94 g115 ⟨by omega, by omega⟩ ⟨by omega, by omega⟩ hg115 N I0_l134 L0_l134 M0_l134 (0 : Int32) ⟨by omega, by omega⟩ k_I0_l134 (by omega)
        · have b_50900 := i32b y134_7
          refine wq_le (fun hc_50901 => ?_) (fun hc_50902 => ?_)
          · have l_1 := il_1
            refine wq_v (fun v17_q50903 h_v17_q50903 => ?_)
            have t_v17_q50903 := (congrArg Int32.toInt h_v17_q50903).trans (ia_add y115_4 (1 : Int32) (by omega) (by omega))
            have b_50905 := i32b v17_q50903
            exact hg115 I0_l134 L0_l134 M0_l134 y115_2 v17_q50903 ⟨by omega, by omega⟩ k_I0_l134 (by omega)
          · unfold fX12_tree_J258
            refine wq_b (tt_fX12_isTree hN I0_l134 L0_l134 M0_l134 k_I0_l134) (fun r2_q50906 h_r2_q50906 => ?_)
            obtain ⟨h_r2_q50906_0, -⟩ := h_r2_q50906
            refine wq_eq (fun hc_50907 => ?_) (fun hc_50908 => ?_)
            · have l_1 := il_1
              refine wq_v (fun v8_q50909 h_v8_q50909 => ?_)
              have t_v8_q50909 := (congrArg Int32.toInt h_v8_q50909).trans (ia_add y115_4 (1 : Int32) (by omega) (by omega))
              have b_50911 := i32b v8_q50909
              exact hg115 I0_l134 L0_l134 M0_l134 y115_2 v8_q50909 ⟨by omega, by omega⟩ k_I0_l134 (by omega)
            · have b_50912 := i32b y94_3
              exact tt_fX12_tree_L274 hN y115_4 y134_7 y94_3 g9 g57 g94 g115 ⟨by omega, by omega⟩ ⟨by omega, by omega⟩ hg115 N I0_l134 L0_l134 M0_l134 (0 : Int32) ⟨by omega, by omega⟩ k_I0_l134 (by omega)
    · refine wq_in (n := 6) ⟨by omega, by omega⟩ ?_
      refine wq_v (fun M0_18_q50913 h_M0_18_q50913 => ?_)
      have b_50914 := i32b y134_5
      have l_7 := il_7
      have t_50915 := ia_rem y134_5 (7 : Int32) 7 il_7 (by decide) (by omega)
      have l_1 := il_1
      have t_50916 := ia_sub (y134_5 - ((y134_5 / (7 : Int32)) * (7 : Int32))) (1 : Int32) (by omega) (by omega)
      have k_M0_18_q50913 : KX12 I0_l134 M0_18_q50913 := by rw [h_M0_18_q50913]; exact KX12.sm24 k_I0_l134 ⟨by omega, by omega⟩
      clear t_50915 t_50916
      refine wq_v (fun v19_q50917 h_v19_q50917 => ?_)
      have t_v19_q50917 := (congrArg Int32.toInt h_v19_q50917).trans (ia_div y134_5 (7 : Int32) 7 il_7 (by decide) (by omega))
      refine wq_eq (fun hc_50919 => ?_) (fun hc_50920 => ?_)
      · unfold fX12_tree_J190
        unfold fX12_tree_J191
        refine wq_in (n := 6) ⟨by omega, by omega⟩ ?_
        have t_50921 := KX12.m24 k_M0_18_q50913 y134_8.toNatClampNeg
        have l_m1 := il_m1
        refine wq_eq (fun hc_50922 => ?_) (fun hc_50923 => ?_)
        · refine wq_v (fun v10_q50924 h_v10_q50924 => ?_)
          clear h_v10_q50924
          refine wq_v (fun v11_q50925 h_v11_q50925 => ?_)
          have t_v11_q50925 := (congrArg Int32.toInt h_v11_q50925).trans (ia_add y134_8 ((-1) : Int32) (by omega) (by omega))
          have b_50927 := i32b v10_q50924
          exact ih I0_l134 L0_l134 M0_18_q50913 v19_q50917 (0 : Int32) v10_q50924 v11_q50925 ⟨by omega, by omega⟩ ⟨by omega, by omega⟩ ⟨by omega, by omega⟩ k_M0_18_q50913 (by omega)
        · refine wq_eq (fun hc_50928 => ?_) (fun hc_50929 => ?_)
          · refine wq_v (fun v14_q50930 h_v14_q50930 => ?_)
            clear h_v14_q50930
            refine wq_v (fun v15_q50931 h_v15_q50931 => ?_)
            have t_v15_q50931 := (congrArg Int32.toInt h_v15_q50931).trans (ia_add y134_8 ((-1) : Int32) (by omega) (by omega))
            have b_50933 := i32b v14_q50930
            exact ih I0_l134 L0_l134 M0_18_q50913 v19_q50917 (0 : Int32) v14_q50930 v15_q50931 ⟨by omega, by omega⟩ ⟨by omega, by omega⟩ ⟨by omega, by omega⟩ k_M0_18_q50913 (by omega)
          · exfalso; omega
      · refine wq_in (n := 6) ⟨by omega, by omega⟩ ?_
        have t_50934 : (M0_18_q50913 26 y134_8.toNatClampNeg).toInt = (M0_l134 26 y134_8.toNatClampNeg).toInt := congrArg (fun z : Nat → Int32 => (z y134_8.toNatClampNeg).toInt) (show M0_18_q50913 26 = M0_l134 26 from by rw [h_M0_18_q50913]; rfl)
        refine wq_eq (fun hc_50935 => ?_) (fun hc_50936 => ?_)
        · refine wq_in (n := 6) ⟨by omega, by omega⟩ ?_
          have t_50937 := KX12.m24 k_M0_18_q50913 y134_8.toNatClampNeg
          have l_m1 := il_m1
          refine wq_eq (fun hc_50938 => ?_) (fun hc_50939 => ?_)
          · unfold fX12_tree_J186
            unfold fX12_tree_J191
            refine wq_in (n := 6) ⟨by omega, by omega⟩ ?_
            refine wq_eq (fun hc_50940 => ?_) (fun hc_50941 => ?_)
            · refine wq_v (fun v10_q50942 h_v10_q50942 => ?_)
              clear h_v10_q50942
              refine wq_v (fun v11_q50943 h_v11_q50943 => ?_)
              have t_v11_q50943 := (congrArg Int32.toInt h_v11_q50943).trans (ia_add y134_8 ((-1) : Int32) (by omega) (by omega))
              have b_50945 := i32b v10_q50942
              exact ih I0_l134 L0_l134 M0_18_q50913 v19_q50917 (1 : Int32) v10_q50942 v11_q50943 ⟨by omega, by omega⟩ ⟨by omega, by omega⟩ ⟨by omega, by omega⟩ k_M0_18_q50913 (by omega)
            · exfalso; omega
          · unfold fX12_tree_J190
            unfold fX12_tree_J191
            refine wq_in (n := 6) ⟨by omega, by omega⟩ ?_
            refine wq_eq (fun hc_50946 => ?_) (fun hc_50947 => ?_)
            · exfalso; omega
            · refine wq_eq (fun hc_50948 => ?_) (fun hc_50949 => ?_)
              · refine wq_v (fun v14_q50950 h_v14_q50950 => ?_)
                clear h_v14_q50950
                refine wq_v (fun v15_q50951 h_v15_q50951 => ?_)
                have t_v15_q50951 := (congrArg Int32.toInt h_v15_q50951).trans (ia_add y134_8 ((-1) : Int32) (by omega) (by omega))
                have b_50953 := i32b v14_q50950
                exact ih I0_l134 L0_l134 M0_18_q50913 v19_q50917 (0 : Int32) v14_q50950 v15_q50951 ⟨by omega, by omega⟩ ⟨by omega, by omega⟩ ⟨by omega, by omega⟩ k_M0_18_q50913 (by omega)
              · exfalso; omega
        · unfold fX12_tree_J186
          unfold fX12_tree_J191
          refine wq_in (n := 6) ⟨by omega, by omega⟩ ?_
          have t_50954 := KX12.m24 k_M0_18_q50913 y134_8.toNatClampNeg
          have l_m1 := il_m1
          refine wq_eq (fun hc_50955 => ?_) (fun hc_50956 => ?_)
          · refine wq_v (fun v10_q50957 h_v10_q50957 => ?_)
            clear h_v10_q50957
            refine wq_v (fun v11_q50958 h_v11_q50958 => ?_)
            have t_v11_q50958 := (congrArg Int32.toInt h_v11_q50958).trans (ia_add y134_8 ((-1) : Int32) (by omega) (by omega))
            have b_50960 := i32b v10_q50957
            exact ih I0_l134 L0_l134 M0_18_q50913 v19_q50917 (1 : Int32) v10_q50957 v11_q50958 ⟨by omega, by omega⟩ ⟨by omega, by omega⟩ ⟨by omega, by omega⟩ k_M0_18_q50913 (by omega)
          · refine wq_eq (fun hc_50961 => ?_) (fun hc_50962 => ?_)
            · exfalso; omega
            · refine wq_in (n := 6) ⟨by omega, by omega⟩ ?_
              have l_6 := il_6
              have t_50963 := ia_mul (6 : Int32) (6) il_6 (M0_18_q50913 24 y134_8.toNatClampNeg) (by omega) (by omega)
              have t_50964 := ia_add ((6 : Int32) * (M0_18_q50913 24 y134_8.toNatClampNeg)) y134_8 (by omega) (by omega)
              refine wq_in (n := 36) ⟨by omega, by omega⟩ ?_
              have b_50966 := i32b y134_7
              have t_50967 : (M0_18_q50913 25 (((6 : Int32) * (M0_18_q50913 24 y134_8.toNatClampNeg)) + y134_8).toNatClampNeg).toInt = (M0_l134 25 (((6 : Int32) * (M0_18_q50913 24 y134_8.toNatClampNeg)) + y134_8).toNatClampNeg).toInt := congrArg (fun z : Nat → Int32 => (z ((((6 : Int32) * (M0_18_q50913 24 y134_8.toNatClampNeg)) + y134_8)).toNatClampNeg).toInt) (show M0_18_q50913 25 = M0_l134 25 from by rw [h_M0_18_q50913]; rfl)
              refine wq_v (fun v12_q50965 h_v12_q50965 => ?_)
              clear h_v12_q50965
              refine wq_v (fun v13_q50968 h_v13_q50968 => ?_)
              have t_v13_q50968 := (congrArg Int32.toInt h_v13_q50968).trans (ia_add y134_8 ((-1) : Int32) (by omega) (by omega))
              have b_50970 := i32b v12_q50965
              exact ih I0_l134 L0_l134 M0_18_q50913 v19_q50917 (1 : Int32) v12_q50965 v13_q50968 ⟨by omega, by omega⟩ ⟨by omega, by omega⟩ ⟨by omega, by omega⟩ k_M0_18_q50913 (by omega)
set_option maxHeartbeats 4000000 in
theorem tt_fX12_tree_L115 {N : Nat} (hN : 3000000000 ≤ N) (y94_3 : Int32) (g9 : (Nat → Int32) → Int64 → (Nat → Nat → Int32) → Int32 → Int32 → Option (Int32 × (Nat → Int32) × Int64 × (Nat → Nat → Int32))) (g57 : (Nat → Int32) → Int64 → (Nat → Nat → Int32) → Int32 → Option (Int32 × (Nat → Int32) × Int64 × (Nat → Nat → Int32))) (g94 : (Nat → Int32) → Int64 → (Nat → Nat → Int32) → Int32 → Int32 → Option (Int32 × (Nat → Int32) × Int64 × (Nat → Nat → Int32)))   : ∀ (fu : Nat) (I0_l115 : (Nat → Int32)) (L0_l115 : Int64) (M0_l115 : (Nat → Nat → Int32)) (y115_2 : Int32) (y115_4 : Int32), (0 ≤ y115_4.toInt ∧ y115_4.toInt ≤ 2147483647) → (KX12 I0_l115 M0_l115) → (2147483647 - y115_4.toInt) < (fu : Int) → wq (fX12_tree_L115 N y94_3 g9 g57 g94 fu I0_l115 L0_l115 M0_l115 y115_2 y115_4) (fun r => KX12 r.2.1 r.2.2.2 ∧ True) := by
  intro fu
  induction fu with
  | zero => intro I0_l115 L0_l115 M0_l115 y115_2 y115_4 h_y115_4 k_I0_l115 hm; exfalso; omega
  | succ fu ih =>
    intro I0_l115 L0_l115 M0_l115 y115_2 y115_4 h_y115_4 k_I0_l115 hm
    rw [fX12_tree_L115.eq_2]
    have b_50971 := i32b y94_3
    have b_50972 := i32b y115_4
    refine wq_le (fun hc_50973 => ?_) (fun hc_50974 => ?_)
    · refine wq_v (fun I0_9_q50975 h_I0_9_q50975 => ?_)
      have l_1 := il_1
      have k_I0_9_q50975 : KX12 I0_9_q50975 M0_l115 := by rw [h_I0_9_q50975]; exact KX12.si18 k_I0_l115 ⟨by omega, by omega⟩
      have b_50976 := i32b y115_2
      exact wq_s ⟨k_I0_9_q50975, trivial⟩
    · have b_50977 := i32b y115_2
      have l_1 := il_1
      have l_0 := il_0
      have l_5 := il_5
      exact tt_fX12_tree_L134 hN y115_2 y115_4 y94_3 g9 g57 g94 _ ⟨by omega, by omega⟩ ⟨by omega, by omega⟩ (fun q0 q1 q2 q3 q4 hq0 hq1 hq2 => ih q0 q1 q2 q3 q4 hq0 hq1 (by omega)) N I0_l115 L0_l115 M0_l115 y115_4 (1 : Int32) (0 : Int32) (5 : Int32) ⟨by omega, by omega⟩ ⟨by omega, by omega⟩ ⟨by omega, by omega⟩ k_I0_l115 (by omega)
set_option maxHeartbeats 4000000 in
theorem tt_fX12_tree_L94 {N : Nat} (hN : 3000000000 ≤ N) (g9 : (Nat → Int32) → Int64 → (Nat → Nat → Int32) → Int32 → Int32 → Option (Int32 × (Nat → Int32) × Int64 × (Nat → Nat → Int32))) (g57 : (Nat → Int32) → Int64 → (Nat → Nat → Int32) → Int32 → Option (Int32 × (Nat → Int32) × Int64 × (Nat → Nat → Int32)))   : ∀ (fu : Nat) (I0_l94 : (Nat → Int32)) (L0_l94 : Int64) (M0_l94 : (Nat → Nat → Int32)) (y94_3 : Int32) (y94_4 : Int32), (0 ≤ y94_4.toInt ∧ y94_4.toInt ≤ 6) → (KX12 I0_l94 M0_l94) → (6 - y94_4.toInt) < (fu : Int) → wq (fX12_tree_L94 N g9 g57 fu I0_l94 L0_l94 M0_l94 y94_3 y94_4) (fun r => KX12 r.2.1 r.2.2.2 ∧ True) := by
  intro fu
  induction fu with
  | zero => intro I0_l94 L0_l94 M0_l94 y94_3 y94_4 h_y94_4 k_I0_l94 hm; exfalso; omega
  | succ fu ih =>
    intro I0_l94 L0_l94 M0_l94 y94_3 y94_4 h_y94_4 k_I0_l94 hm
    rw [fX12_tree_L94.eq_2]
    have l_6 := il_6
    refine wq_le (fun hc_50978 => ?_) (fun hc_50979 => ?_)
    · have b_50980 := i32b y94_3
      have l_m1 := il_m1
      have l_0 := il_0
      exact tt_fX12_tree_L115 hN y94_3 g9 g57 _ N I0_l94 L0_l94 M0_l94 ((-1) : Int32) (0 : Int32) ⟨by omega, by omega⟩ k_I0_l94 (by omega)
    · refine wq_v (fun v20_q50981 h_v20_q50981 => ?_)
      clear h_v20_q50981
      have l_1 := il_1
      have t_50983 := ia_add y94_4 (1 : Int32) (by omega) (by omega)
      refine wq_v (fun v21_q50982 h_v21_q50982 => ?_)
      have t_v21_q50982 := congrArg Int32.toInt h_v21_q50982
      have b_50984 := i32b v20_q50981
      exact ih I0_l94 L0_l94 M0_l94 v20_q50981 v21_q50982 ⟨by omega, by omega⟩ k_I0_l94 (by omega)
set_option maxHeartbeats 4000000 in
theorem tt_fX12_tree_L57 {N : Nat} (hN : 3000000000 ≤ N) (g9 : (Nat → Int32) → Int64 → (Nat → Nat → Int32) → Int32 → Int32 → Option (Int32 × (Nat → Int32) × Int64 × (Nat → Nat → Int32)))   : ∀ (fu : Nat) (I0_l57 : (Nat → Int32)) (L0_l57 : Int64) (M0_l57 : (Nat → Nat → Int32)) (y57_2 : Int32), (0 ≤ y57_2.toInt ∧ y57_2.toInt ≤ 36) → (KX12 I0_l57 M0_l57) → (36 - y57_2.toInt) < (fu : Int) → wq (fX12_tree_L57 N g9 fu I0_l57 L0_l57 M0_l57 y57_2) (fun r => KX12 r.2.1 r.2.2.2 ∧ True) := by
  intro fu
  induction fu with
  | zero => intro I0_l57 L0_l57 M0_l57 y57_2 h_y57_2 k_I0_l57 hm; exfalso; omega
  | succ fu ih =>
    intro I0_l57 L0_l57 M0_l57 y57_2 h_y57_2 k_I0_l57 hm
    rw [fX12_tree_L57.eq_2]
    have l_36 := il_36
    refine wq_le (fun hc_50985 => ?_) (fun hc_50986 => ?_)
    · have l_1 := il_1
      have l_0 := il_0
      exact tt_fX12_tree_L94 hN g9 _ N I0_l57 L0_l57 M0_l57 (1 : Int32) (0 : Int32) ⟨by omega, by omega⟩ k_I0_l57 (by omega)
    · have l_6 := il_6
      have t_50987 := ia_div y57_2 (6 : Int32) 6 il_6 (by decide) (by omega)
      have t_50988 := ia_rem y57_2 (6 : Int32) 6 il_6 (by decide) (by omega)
      refine wq_b (tt_fX12_priceAll hN I0_l57 L0_l57 M0_l57 (y57_2 / (6 : Int32)) (y57_2 - ((y57_2 / (6 : Int32)) * (6 : Int32))) ⟨by omega, by omega⟩ ⟨by omega, by omega⟩ k_I0_l57) (fun r22_q50989 h_r22_q50989 => ?_)
      obtain ⟨-⟩ := h_r22_q50989
      refine wq_in (n := 36) ⟨by omega, by omega⟩ ?_
      refine wq_v (fun M0_23_q50990 h_M0_23_q50990 => ?_)
      have k_M0_23_q50990 : KX12 I0_l57 M0_23_q50990 := by rw [h_M0_23_q50990]; exact KX12.sm25 k_I0_l57
      have l_1 := il_1
      have t_50992 := ia_add y57_2 (1 : Int32) (by omega) (by omega)
      refine wq_v (fun v24_q50991 h_v24_q50991 => ?_)
      have t_v24_q50991 := congrArg Int32.toInt h_v24_q50991
      exact ih I0_l57 L0_l57 M0_23_q50990 v24_q50991 ⟨by omega, by omega⟩ k_M0_23_q50990 (by omega)
set_option maxHeartbeats 4000000 in
theorem tt_fX12_tree_L9 {N : Nat} (hN : 3000000000 ≤ N)    : ∀ (fu : Nat) (I0_l9 : (Nat → Int32)) (L0_l9 : Int64) (M0_l9 : (Nat → Nat → Int32)) (y9_1 : Int32) (y9_2 : Int32), (0 ≤ y9_2.toInt ∧ y9_2.toInt ≤ 6) → (KX12 I0_l9 M0_l9) → (6 - y9_2.toInt) < (fu : Int) → wq (fX12_tree_L9 N fu I0_l9 L0_l9 M0_l9 y9_1 y9_2) (fun r => KX12 r.2.1 r.2.2.2 ∧ True) := by
  intro fu
  induction fu with
  | zero => intro I0_l9 L0_l9 M0_l9 y9_1 y9_2 h_y9_2 k_I0_l9 hm; exfalso; omega
  | succ fu ih =>
    intro I0_l9 L0_l9 M0_l9 y9_1 y9_2 h_y9_2 k_I0_l9 hm
    rw [fX12_tree_L9.eq_2]
    have l_6 := il_6
    refine wq_le (fun hc_50993 => ?_) (fun hc_50994 => ?_)
    · have b_50995 := i32b y9_1
      have l_0 := il_0
      refine wq_eq (fun hc_50996 => ?_) (fun hc_50997 => ?_)
      · have l_m1 := il_m1
        exact wq_s ⟨k_I0_l9, trivial⟩
      · exact tt_fX12_tree_L57 hN _ N I0_l9 L0_l9 M0_l9 (0 : Int32) ⟨by omega, by omega⟩ k_I0_l9 (by omega)
    · refine wq_b (tt_fX12_bookTells hN I0_l9 L0_l9 M0_l9 y9_2 ⟨by omega, by omega⟩ k_I0_l9) (fun r25_q50998 h_r25_q50998 => ?_)
      obtain ⟨h_r25_q50998_0, -⟩ := h_r25_q50998
      refine wq_in (n := 6) ⟨by omega, by omega⟩ ?_
      refine wq_v (fun M0_26_q50999 h_M0_26_q50999 => ?_)
      have k_M0_26_q50999 : KX12 I0_l9 M0_26_q50999 := by rw [h_M0_26_q50999]; exact KX12.sm26 k_I0_l9
      refine wq_in (n := 6) ⟨by omega, by omega⟩ ?_
      have l_0 := il_0
      refine wq_eq (fun hc_51000 => ?_) (fun hc_51001 => ?_)
      · refine wq_v (fun v27_q51002 h_v27_q51002 => ?_)
        clear h_v27_q51002
        have l_1 := il_1
        have t_51004 := ia_add y9_2 (1 : Int32) (by omega) (by omega)
        refine wq_v (fun v28_q51003 h_v28_q51003 => ?_)
        have t_v28_q51003 := congrArg Int32.toInt h_v28_q51003
        have b_51005 := i32b v27_q51002
        exact ih I0_l9 L0_l9 M0_26_q50999 v27_q51002 v28_q51003 ⟨by omega, by omega⟩ k_M0_26_q50999 (by omega)
      · have b_51007 := i32b y9_1
        have l_1 := il_1
        refine wq_v (fun v29_q51006 h_v29_q51006 => ?_)
        clear h_v29_q51006
        have t_51009 := ia_add y9_2 (1 : Int32) (by omega) (by omega)
        refine wq_v (fun v30_q51008 h_v30_q51008 => ?_)
        have t_v30_q51008 := congrArg Int32.toInt h_v30_q51008
        have b_51010 := i32b v29_q51006
        exact ih I0_l9 L0_l9 M0_26_q50999 v29_q51006 v30_q51008 ⟨by omega, by omega⟩ k_M0_26_q50999 (by omega)
set_option maxHeartbeats 4000000 in
theorem tt_fX12_tree {N : Nat} (hN : 3000000000 ≤ N) (I0 : Nat → Int32) (L0 : Int64) (M0 : Nat → Nat → Int32) (k_I0 : KX12 I0 M0) : wq (fX12_tree N I0 L0 M0) (fun r => KX12 r.2.1 r.2.2.2 ∧ True) := by
  unfold fX12_tree
  refine wq_v (fun I0_1_q51011 h_I0_1_q51011 => ?_)
  have k_I0_1_q51011 : KX12 I0_1_q51011 M0 := by rw [h_I0_1_q51011]; exact KX12.si0 k_I0
  have l_0 := il_0
  exact tt_fX12_tree_L9 hN N I0_1_q51011 L0 M0 (0 : Int32) (0 : Int32) ⟨by omega, by omega⟩ k_I0_1_q51011 (by omega)
set_option maxHeartbeats 4000000 in
theorem tt_fX12_whence {N : Nat} (hN : 3000000000 ≤ N) (I0 : Nat → Int32) (L0 : Int64) (M0 : Nat → Nat → Int32) (x1 : Int32) (k_I0 : KX12 I0 M0) : wq (fX12_whence N I0 L0 M0 x1) (fun r => (-2 ≤ r.1.toInt ∧ r.1.toInt ≤ 5) ∧ KX12 r.2.1 r.2.2.2 ∧ True) := by
  unfold fX12_whence
  refine wq_v (fun I0_2_q51186 h_I0_2_q51186 => ?_)
  have k_I0_2_q51186 : KX12 I0_2_q51186 M0 := by rw [h_I0_2_q51186]; exact KX12.si0 k_I0
  have b_51187 := i32b x1
  refine wq_b (tt_fX12_isBook hN I0_2_q51186 L0 M0 x1 k_I0_2_q51186) (fun r3_q51188 h_r3_q51188 => ?_)
  obtain ⟨h_r3_q51188_0, h_r3_q51188_1, h_r3_q51188_2, h_r3_q51188_3, -⟩ := h_r3_q51188
  have t_51189 := KX12.i1 h_r3_q51188_3
  have t_51190 := KX12.i1 k_I0
  have t_51191 : (I0_2_q51186 1).toInt = (I0 1).toInt := by rw [h_I0_2_q51186]; rfl
  have l_0 := il_0
  refine wq_eq (fun hc_51192 => ?_) (fun hc_51193 => ?_)
  · exact wq_s ⟨(show -2 ≤ (0 : Int32).toInt ∧ (0 : Int32).toInt ≤ 5 from ⟨by omega, by omega⟩), h_r3_q51188_3, trivial⟩
  · have t_51194 := KX12.i18 h_r3_q51188_3
    refine wq_eq (fun hc_51195 => ?_) (fun hc_51196 => ?_)
    · unfold fX12_whence_J36
      unfold fX12_whence_J37
      have l_1 := il_1
      refine wq_b (tt_fX12_right hN r3_q51188.2.1 r3_q51188.2.2.1 r3_q51188.2.2.2 (0 : Int32) (1 : Int32) ⟨by omega, by omega⟩ h_r3_q51188_3) (fun r1_q51197 h_r1_q51197 => ?_)
      obtain ⟨h_r1_q51197_0, h_r1_q51197_1, h_r1_q51197_2, h_r1_q51197_3, -⟩ := h_r1_q51197
      have t_51198 := KX12.i1 h_r1_q51197_3
      refine wq_eq (fun hc_51199 => ?_) (fun hc_51200 => ?_)
      · exact wq_s ⟨(show -2 ≤ (0 : Int32).toInt ∧ (0 : Int32).toInt ≤ 5 from ⟨by omega, by omega⟩), h_r1_q51197_3, trivial⟩
      · refine wq_in (n := 6) ⟨by omega, by omega⟩ ?_
        have t_51201 := KX12.m23 h_r1_q51197_3 x1.toNatClampNeg
        exact wq_s ⟨(show -2 ≤ (r1_q51197.2.2.2 23 x1.toNatClampNeg).toInt ∧ (r1_q51197.2.2.2 23 x1.toNatClampNeg).toInt ≤ 5 from ⟨by omega, by omega⟩), h_r1_q51197_3, trivial⟩
    · refine wq_in (n := 6) ⟨by omega, by omega⟩ ?_
      have t_51202 := KX12.m23 h_r3_q51188_3 x1.toNatClampNeg
      have l_m2 := il_m2
      refine wq_eq (fun hc_51203 => ?_) (fun hc_51204 => ?_)
      · unfold fX12_whence_J36
        unfold fX12_whence_J37
        have l_1 := il_1
        refine wq_b (tt_fX12_right hN r3_q51188.2.1 r3_q51188.2.2.1 r3_q51188.2.2.2 (0 : Int32) (1 : Int32) ⟨by omega, by omega⟩ h_r3_q51188_3) (fun r1_q51205 h_r1_q51205 => ?_)
        obtain ⟨h_r1_q51205_0, h_r1_q51205_1, h_r1_q51205_2, h_r1_q51205_3, -⟩ := h_r1_q51205
        have t_51206 := KX12.i1 h_r1_q51205_3
        refine wq_eq (fun hc_51207 => ?_) (fun hc_51208 => ?_)
        · exact wq_s ⟨(show -2 ≤ (0 : Int32).toInt ∧ (0 : Int32).toInt ≤ 5 from ⟨by omega, by omega⟩), h_r1_q51205_3, trivial⟩
        · refine wq_in (n := 6) ⟨by omega, by omega⟩ ?_
          have t_51209 := KX12.m23 h_r1_q51205_3 x1.toNatClampNeg
          exact wq_s ⟨(show -2 ≤ (r1_q51205.2.2.2 23 x1.toNatClampNeg).toInt ∧ (r1_q51205.2.2.2 23 x1.toNatClampNeg).toInt ≤ 5 from ⟨by omega, by omega⟩), h_r1_q51205_3, trivial⟩
      · unfold fX12_whence_J37
        have l_1 := il_1
        refine wq_b (tt_fX12_right hN r3_q51188.2.1 r3_q51188.2.2.1 r3_q51188.2.2.2 (1 : Int32) (1 : Int32) ⟨by omega, by omega⟩ h_r3_q51188_3) (fun r1_q51210 h_r1_q51210 => ?_)
        obtain ⟨h_r1_q51210_0, h_r1_q51210_1, h_r1_q51210_2, h_r1_q51210_3, -⟩ := h_r1_q51210
        have t_51211 := KX12.i1 h_r1_q51210_3
        refine wq_eq (fun hc_51212 => ?_) (fun hc_51213 => ?_)
        · exact wq_s ⟨(show -2 ≤ (0 : Int32).toInt ∧ (0 : Int32).toInt ≤ 5 from ⟨by omega, by omega⟩), h_r1_q51210_3, trivial⟩
        · refine wq_in (n := 6) ⟨by omega, by omega⟩ ?_
          have t_51214 := KX12.m23 h_r1_q51210_3 x1.toNatClampNeg
          exact wq_s ⟨(show -2 ≤ (r1_q51210.2.2.2 23 x1.toNatClampNeg).toInt ∧ (r1_q51210.2.2.2 23 x1.toNatClampNeg).toInt ≤ 5 from ⟨by omega, by omega⟩), h_r1_q51210_3, trivial⟩
set_option maxHeartbeats 4000000 in
theorem tt_fX12_slips_L62 {N : Nat} (hN : 3000000000 ≤ N) (x1 : Int32) (x2 : Int32) (y52_4 : Int32) (g52 : (Nat → Int32) → Int64 → (Nat → Nat → Int32) → Int32 → Int32 → Option (Int32 × (Nat → Int32) × Int64 × (Nat → Nat → Int32))) (h_y52_4 : 0 ≤ y52_4.toInt ∧ y52_4.toInt ≤ 5) (hg52 : ∀ (q0 : (Nat → Int32)) (q1 : Int64) (q2 : (Nat → Nat → Int32)) (q3 : Int32) (q4 : Int32), (0 ≤ q4.toInt ∧ q4.toInt ≤ 6) → (KX12 q0 q2) → (y52_4.toInt < q4.toInt) → wq (g52 q0 q1 q2 q3 q4) (fun r => KX12 r.2.1 r.2.2.2 ∧ True)) : ∀ (fu : Nat) (I0_l62 : (Nat → Int32)) (L0_l62 : Int64) (M0_l62 : (Nat → Nat → Int32)) (y62_3 : Int32) (y62_5 : Int32), (0 ≤ y62_5.toInt ∧ y62_5.toInt ≤ 420) → (KX12 I0_l62 M0_l62) → (420 - y62_5.toInt) < (fu : Int) → wq (fX12_slips_L62 N x1 x2 y52_4 g52 fu I0_l62 L0_l62 M0_l62 y62_3 y62_5) (fun r => KX12 r.2.1 r.2.2.2 ∧ True) := by
  intro fu
  induction fu with
  | zero => intro I0_l62 L0_l62 M0_l62 y62_3 y62_5 h_y62_5 k_I0_l62 hm; exfalso; omega
  | succ fu ih =>
    intro I0_l62 L0_l62 M0_l62 y62_3 y62_5 h_y62_5 k_I0_l62 hm
    rw [fX12_slips_L62.eq_2]
    have l_420 := il_420
    refine wq_le (fun hc_54145 => ?_) (fun hc_54146 => ?_)
    · have l_1 := il_1
      have t_54148 := ia_add y52_4 (1 : Int32) (by omega) (by omega)
      refine wq_v (fun v7_q54147 h_v7_q54147 => ?_)
      have t_v7_q54147 := congrArg Int32.toInt h_v7_q54147
      have b_54149 := i32b y62_3
      exact hg52 I0_l62 L0_l62 M0_l62 y62_3 v7_q54147 ⟨by omega, by omega⟩ k_I0_l62 (by omega)
    · refine wq_in (n := 6) ⟨by omega, by omega⟩ ?_
      have t_54150 := KX12.m23 k_I0_l62 y52_4.toNatClampNeg
      have l_0 := il_0
      refine wq_lt (fun hc_54151 => ?_) (fun hc_54152 => ?_)
      · have l_1 := il_1
        have t_54154 := ia_add y52_4 (1 : Int32) (by omega) (by omega)
        refine wq_v (fun v8_q54153 h_v8_q54153 => ?_)
        have t_v8_q54153 := congrArg Int32.toInt h_v8_q54153
        have b_54155 := i32b y62_3
        exact hg52 I0_l62 L0_l62 M0_l62 y62_3 v8_q54153 ⟨by omega, by omega⟩ k_I0_l62 (by omega)
      · have l_20 := il_20
        have t_54156 := ia_mul (20 : Int32) (20) il_20 y52_4 (by omega) (by omega)
        have l_21 := il_21
        have t_54157 := ia_div y62_5 (21 : Int32) 21 il_21 (by decide) (by omega)
        have t_54158 := ia_add ((20 : Int32) * y52_4) (y62_5 / (21 : Int32)) (by omega) (by omega)
        have t_54159 := ia_rem y62_5 (21 : Int32) 21 il_21 (by decide) (by omega)
        refine wq_b (tt_fX12_at hN I0_l62 L0_l62 M0_l62 (((20 : Int32) * y52_4) + (y62_5 / (21 : Int32))) (y62_5 - ((y62_5 / (21 : Int32)) * (21 : Int32))) ⟨by omega, by omega⟩ ⟨by omega, by omega⟩ k_I0_l62) (fun r9b_q54160 h_r9b_q54160 => ?_)
        obtain ⟨h_r9b_q54160_0, h_r9b_q54160_1, h_r9b_q54160_2, -⟩ := h_r9b_q54160
        refine wq_in (n := 6) ⟨by omega, by omega⟩ ?_
        have t_54161 := ia_mul (20 : Int32) (20) il_20 (M0_l62 23 y52_4.toNatClampNeg) (by omega) (by omega)
        have t_54162 := ia_add ((20 : Int32) * (M0_l62 23 y52_4.toNatClampNeg)) (y62_5 / (21 : Int32)) (by omega) (by omega)
        refine wq_b (tt_fX12_at hN I0_l62 L0_l62 M0_l62 (((20 : Int32) * (M0_l62 23 y52_4.toNatClampNeg)) + (y62_5 / (21 : Int32))) (y62_5 - ((y62_5 / (21 : Int32)) * (21 : Int32))) ⟨by omega, by omega⟩ ⟨by omega, by omega⟩ k_I0_l62) (fun r10_q54163 h_r10_q54163 => ?_)
        obtain ⟨h_r10_q54163_0, h_r10_q54163_1, h_r10_q54163_2, -⟩ := h_r10_q54163
        have l_m1 := il_m1
        refine wq_eq (fun hc_54164 => ?_) (fun hc_54165 => ?_)
        · have l_1 := il_1
          have t_54167 := ia_add y62_5 (1 : Int32) (by omega) (by omega)
          refine wq_v (fun v11_q54166 h_v11_q54166 => ?_)
          have t_v11_q54166 := congrArg Int32.toInt h_v11_q54166
          have b_54168 := i32b y62_3
          exact ih I0_l62 L0_l62 M0_l62 y62_3 v11_q54166 ⟨by omega, by omega⟩ k_I0_l62 (by omega)
        · refine wq_eq (fun hc_54169 => ?_) (fun hc_54170 => ?_)
          · have l_1 := il_1
            have t_54172 := ia_add y62_5 (1 : Int32) (by omega) (by omega)
            refine wq_v (fun v15_q54171 h_v15_q54171 => ?_)
            have t_v15_q54171 := congrArg Int32.toInt h_v15_q54171
            have b_54173 := i32b y62_3
            exact ih I0_l62 L0_l62 M0_l62 y62_3 v15_q54171 ⟨by omega, by omega⟩ k_I0_l62 (by omega)
          · refine wq_b (tt_fX12_beside hN I0_l62 L0_l62 M0_l62 r9b_q54160 r10_q54163 ⟨by omega, by omega⟩ k_I0_l62) (fun r12_q54174 h_r12_q54174 => ?_)
            obtain ⟨h_r12_q54174_0, -⟩ := h_r12_q54174
            have l_1 := il_1
            refine wq_eq (fun hc_54175 => ?_) (fun hc_54176 => ?_)
            · have l_30 := il_30
              have t_54177 := ia_rem r9b_q54160 (30 : Int32) 30 il_30 (by decide) (by omega)
              have b_54178 := i32b x1
              refine wq_eq (fun hc_54179 => ?_) (fun hc_54180 => ?_)
              · have t_54181 := ia_rem r10_q54163 (30 : Int32) 30 il_30 (by decide) (by omega)
                have b_54182 := i32b x2
                refine wq_eq (fun hc_54183 => ?_) (fun hc_54184 => ?_)
                · have b_54186 := i32b y62_3
                  refine wq_v (fun v13_q54185 h_v13_q54185 => ?_)
                  have t_v13_q54185 := congrArg Int32.toInt h_v13_q54185
                  have t_54188 := ia_add y62_5 (1 : Int32) (by omega) (by omega)
                  refine wq_v (fun v14_q54187 h_v14_q54187 => ?_)
                  have t_v14_q54187 := congrArg Int32.toInt h_v14_q54187
                  have b_54189 := i32b v13_q54185
                  exact ih I0_l62 L0_l62 M0_l62 v13_q54185 v14_q54187 ⟨by omega, by omega⟩ k_I0_l62 (by omega)
                · unfold fX12_slips_J178
                  have l_2 := il_2
                  refine wq_eq (fun hc_54190 => ?_) (fun hc_54191 => ?_)
                  · exfalso; omega
                  · have t_54193 := ia_add y62_5 (1 : Int32) (by omega) (by omega)
                    refine wq_v (fun v2_q54192 h_v2_q54192 => ?_)
                    have t_v2_q54192 := congrArg Int32.toInt h_v2_q54192
                    have b_54194 := i32b y62_3
                    exact ih I0_l62 L0_l62 M0_l62 y62_3 v2_q54192 ⟨by omega, by omega⟩ k_I0_l62 (by omega)
              · unfold fX12_slips_J178
                have l_2 := il_2
                refine wq_eq (fun hc_54195 => ?_) (fun hc_54196 => ?_)
                · exfalso; omega
                · have t_54198 := ia_add y62_5 (1 : Int32) (by omega) (by omega)
                  refine wq_v (fun v2_q54197 h_v2_q54197 => ?_)
                  have t_v2_q54197 := congrArg Int32.toInt h_v2_q54197
                  have b_54199 := i32b y62_3
                  exact ih I0_l62 L0_l62 M0_l62 y62_3 v2_q54197 ⟨by omega, by omega⟩ k_I0_l62 (by omega)
            · unfold fX12_slips_J178
              have l_2 := il_2
              refine wq_eq (fun hc_54200 => ?_) (fun hc_54201 => ?_)
              · have l_30 := il_30
                have t_54202 := ia_div r9b_q54160 (30 : Int32) 30 il_30 (by decide) (by omega)
                have b_54203 := i32b x1
                refine wq_eq (fun hc_54204 => ?_) (fun hc_54205 => ?_)
                · have t_54206 := ia_div r10_q54163 (30 : Int32) 30 il_30 (by decide) (by omega)
                  have b_54207 := i32b x2
                  refine wq_eq (fun hc_54208 => ?_) (fun hc_54209 => ?_)
                  · have b_54211 := i32b y62_3
                    refine wq_v (fun v5_q54210 h_v5_q54210 => ?_)
                    have t_v5_q54210 := congrArg Int32.toInt h_v5_q54210
                    have t_54213 := ia_add y62_5 (1 : Int32) (by omega) (by omega)
                    refine wq_v (fun v6_q54212 h_v6_q54212 => ?_)
                    have t_v6_q54212 := congrArg Int32.toInt h_v6_q54212
                    have b_54214 := i32b v5_q54210
                    exact ih I0_l62 L0_l62 M0_l62 v5_q54210 v6_q54212 ⟨by omega, by omega⟩ k_I0_l62 (by omega)
                  · have t_54216 := ia_add y62_5 (1 : Int32) (by omega) (by omega)
                    refine wq_v (fun v4_q54215 h_v4_q54215 => ?_)
                    have t_v4_q54215 := congrArg Int32.toInt h_v4_q54215
                    have b_54217 := i32b y62_3
                    exact ih I0_l62 L0_l62 M0_l62 y62_3 v4_q54215 ⟨by omega, by omega⟩ k_I0_l62 (by omega)
                · have t_54219 := ia_add y62_5 (1 : Int32) (by omega) (by omega)
                  refine wq_v (fun v3_q54218 h_v3_q54218 => ?_)
                  have t_v3_q54218 := congrArg Int32.toInt h_v3_q54218
                  have b_54220 := i32b y62_3
                  exact ih I0_l62 L0_l62 M0_l62 y62_3 v3_q54218 ⟨by omega, by omega⟩ k_I0_l62 (by omega)
              · have t_54222 := ia_add y62_5 (1 : Int32) (by omega) (by omega)
                refine wq_v (fun v2_q54221 h_v2_q54221 => ?_)
                have t_v2_q54221 := congrArg Int32.toInt h_v2_q54221
                have b_54223 := i32b y62_3
                exact ih I0_l62 L0_l62 M0_l62 y62_3 v2_q54221 ⟨by omega, by omega⟩ k_I0_l62 (by omega)
set_option maxHeartbeats 4000000 in
theorem tt_fX12_slips_L52 {N : Nat} (hN : 3000000000 ≤ N) (x1 : Int32) (x2 : Int32)   : ∀ (fu : Nat) (I0_l52 : (Nat → Int32)) (L0_l52 : Int64) (M0_l52 : (Nat → Nat → Int32)) (y52_3 : Int32) (y52_4 : Int32), (0 ≤ y52_4.toInt ∧ y52_4.toInt ≤ 6) → (KX12 I0_l52 M0_l52) → (6 - y52_4.toInt) < (fu : Int) → wq (fX12_slips_L52 N x1 x2 fu I0_l52 L0_l52 M0_l52 y52_3 y52_4) (fun r => KX12 r.2.1 r.2.2.2 ∧ True) := by
  intro fu
  induction fu with
  | zero => intro I0_l52 L0_l52 M0_l52 y52_3 y52_4 h_y52_4 k_I0_l52 hm; exfalso; omega
  | succ fu ih =>
    intro I0_l52 L0_l52 M0_l52 y52_3 y52_4 h_y52_4 k_I0_l52 hm
    rw [fX12_slips_L52.eq_2]
    have l_6 := il_6
    refine wq_le (fun hc_54224 => ?_) (fun hc_54225 => ?_)
    · have b_54226 := i32b y52_3
      exact wq_s ⟨k_I0_l52, trivial⟩
    · have b_54227 := i32b x1
      have b_54228 := i32b x2
      have b_54229 := i32b y52_3
      have l_0 := il_0
      exact tt_fX12_slips_L62 hN x1 x2 y52_4 _ ⟨by omega, by omega⟩ (fun q0 q1 q2 q3 q4 hq0 hq1 hq2 => ih q0 q1 q2 q3 q4 hq0 hq1 (by omega)) N I0_l52 L0_l52 M0_l52 y52_3 (0 : Int32) ⟨by omega, by omega⟩ k_I0_l52 (by omega)
set_option maxHeartbeats 4000000 in
theorem tt_fX12_slips {N : Nat} (hN : 3000000000 ≤ N) (I0 : Nat → Int32) (L0 : Int64) (M0 : Nat → Nat → Int32) (x1 : Int32) (x2 : Int32) (k_I0 : KX12 I0 M0) : wq (fX12_slips N I0 L0 M0 x1 x2) (fun r => KX12 r.2.1 r.2.2.2 ∧ True) := by
  unfold fX12_slips
  refine wq_v (fun I0_16_q54230 h_I0_16_q54230 => ?_)
  have k_I0_16_q54230 : KX12 I0_16_q54230 M0 := by rw [h_I0_16_q54230]; exact KX12.si0 k_I0
  have b_54231 := i32b x1
  have l_0 := il_0
  have l_29 := il_29
  refine wq_b (tt_fX12_within hN x1 (0 : Int32) (29 : Int32)) (fun r17_q54232 h_r17_q54232 => ?_)
  obtain ⟨h_r17_q54232_0, h_r17_q54232_1, -⟩ := h_r17_q54232
  refine wq_eq (fun hc_54233 => ?_) (fun hc_54234 => ?_)
  · unfold fX12_slips_J37
    unfold fX12_slips_J38
    have l_1 := il_1
    refine wq_b (tt_fX12_right hN I0_16_q54230 L0 M0 (0 : Int32) (1 : Int32) ⟨by omega, by omega⟩ k_I0_16_q54230) (fun r1_q54235 h_r1_q54235 => ?_)
    obtain ⟨h_r1_q54235_0, h_r1_q54235_1, h_r1_q54235_2, h_r1_q54235_3, -⟩ := h_r1_q54235
    have t_54236 := KX12.i1 h_r1_q54235_3
    have t_54237 := KX12.i1 k_I0
    have t_54238 : (I0_16_q54230 1).toInt = (I0 1).toInt := by rw [h_I0_16_q54230]; rfl
    refine wq_eq (fun hc_54239 => ?_) (fun hc_54240 => ?_)
    · exact wq_s ⟨h_r1_q54235_3, trivial⟩
    · have b_54241 := i32b x2
      exact tt_fX12_slips_L52 hN x1 x2 N r1_q54235.2.1 r1_q54235.2.2.1 r1_q54235.2.2.2 (0 : Int32) (0 : Int32) ⟨by omega, by omega⟩ h_r1_q54235_3 (by omega)
  · have b_54242 := i32b x2
    refine wq_b (tt_fX12_within hN x2 (0 : Int32) (29 : Int32)) (fun r18_q54243 h_r18_q54243 => ?_)
    obtain ⟨h_r18_q54243_0, h_r18_q54243_1, -⟩ := h_r18_q54243
    refine wq_eq (fun hc_54244 => ?_) (fun hc_54245 => ?_)
    · unfold fX12_slips_J37
      unfold fX12_slips_J38
      have l_1 := il_1
      refine wq_b (tt_fX12_right hN I0_16_q54230 L0 M0 (0 : Int32) (1 : Int32) ⟨by omega, by omega⟩ k_I0_16_q54230) (fun r1_q54246 h_r1_q54246 => ?_)
      obtain ⟨h_r1_q54246_0, h_r1_q54246_1, h_r1_q54246_2, h_r1_q54246_3, -⟩ := h_r1_q54246
      have t_54247 := KX12.i1 h_r1_q54246_3
      have t_54248 := KX12.i1 k_I0
      have t_54249 : (I0_16_q54230 1).toInt = (I0 1).toInt := by rw [h_I0_16_q54230]; rfl
      refine wq_eq (fun hc_54250 => ?_) (fun hc_54251 => ?_)
      · exact wq_s ⟨h_r1_q54246_3, trivial⟩
      · exact tt_fX12_slips_L52 hN x1 x2 N r1_q54246.2.1 r1_q54246.2.2.1 r1_q54246.2.2.2 (0 : Int32) (0 : Int32) ⟨by omega, by omega⟩ h_r1_q54246_3 (by omega)
    · have t_54252 := KX12.i18 k_I0
      have t_54253 : (I0_16_q54230 18).toInt = (I0 18).toInt := by rw [h_I0_16_q54230]; rfl
      refine wq_eq (fun hc_54254 => ?_) (fun hc_54255 => ?_)
      · unfold fX12_slips_J37
        unfold fX12_slips_J38
        have l_1 := il_1
        refine wq_b (tt_fX12_right hN I0_16_q54230 L0 M0 (0 : Int32) (1 : Int32) ⟨by omega, by omega⟩ k_I0_16_q54230) (fun r1_q54256 h_r1_q54256 => ?_)
        obtain ⟨h_r1_q54256_0, h_r1_q54256_1, h_r1_q54256_2, h_r1_q54256_3, -⟩ := h_r1_q54256
        have t_54257 := KX12.i1 h_r1_q54256_3
        have t_54258 := KX12.i1 k_I0
        have t_54259 : (I0_16_q54230 1).toInt = (I0 1).toInt := by rw [h_I0_16_q54230]; rfl
        refine wq_eq (fun hc_54260 => ?_) (fun hc_54261 => ?_)
        · exact wq_s ⟨h_r1_q54256_3, trivial⟩
        · exact tt_fX12_slips_L52 hN x1 x2 N r1_q54256.2.1 r1_q54256.2.2.1 r1_q54256.2.2.2 (0 : Int32) (0 : Int32) ⟨by omega, by omega⟩ h_r1_q54256_3 (by omega)
      · unfold fX12_slips_J38
        have l_1 := il_1
        refine wq_b (tt_fX12_right hN I0_16_q54230 L0 M0 (1 : Int32) (1 : Int32) ⟨by omega, by omega⟩ k_I0_16_q54230) (fun r1_q54262 h_r1_q54262 => ?_)
        obtain ⟨h_r1_q54262_0, h_r1_q54262_1, h_r1_q54262_2, h_r1_q54262_3, -⟩ := h_r1_q54262
        have t_54263 := KX12.i1 h_r1_q54262_3
        have t_54264 := KX12.i1 k_I0
        have t_54265 : (I0_16_q54230 1).toInt = (I0 1).toInt := by rw [h_I0_16_q54230]; rfl
        refine wq_eq (fun hc_54266 => ?_) (fun hc_54267 => ?_)
        · exact wq_s ⟨h_r1_q54262_3, trivial⟩
        · exact tt_fX12_slips_L52 hN x1 x2 N r1_q54262.2.1 r1_q54262.2.2.1 r1_q54262.2.2.2 (0 : Int32) (0 : Int32) ⟨by omega, by omega⟩ h_r1_q54262_3 (by omega)
set_option maxHeartbeats 4000000 in
theorem tt_fX12_handed_L37 {N : Nat} (hN : 3000000000 ≤ N) (x1 : Int32) (x2 : Int32) (x3 : Int32) (h_x1 : 0 ≤ x1.toInt ∧ x1.toInt ≤ 5) (h_x2 : 0 ≤ x2.toInt ∧ x2.toInt ≤ 5) (h_x3 : 0 ≤ x3.toInt ∧ x3.toInt ≤ 5)  : ∀ (fu : Nat) (I0_l37 : (Nat → Int32)) (L0_l37 : Int64) (M0_l37 : (Nat → Nat → Int32)) (y37_4 : Int32) (y37_5 : Int32), (0 ≤ y37_5.toInt ∧ y37_5.toInt ≤ 440) → (KX12 I0_l37 M0_l37) → (440 - y37_5.toInt) < (fu : Int) → wq (fX12_handed_L37 N x1 x2 x3 fu I0_l37 L0_l37 M0_l37 y37_4 y37_5) (fun r => KX12 r.2.1 r.2.2.2 ∧ True) := by
  intro fu
  induction fu with
  | zero => intro I0_l37 L0_l37 M0_l37 y37_4 y37_5 h_y37_5 k_I0_l37 hm; exfalso; omega
  | succ fu ih =>
    intro I0_l37 L0_l37 M0_l37 y37_4 y37_5 h_y37_5 k_I0_l37 hm
    rw [fX12_handed_L37.eq_2]
    have l_440 := il_440
    refine wq_le (fun hc_55142 => ?_) (fun hc_55143 => ?_)
    · have b_55144 := i32b y37_4
      exact wq_s ⟨k_I0_l37, trivial⟩
    · have t_55145 := ia_mul (440 : Int32) (440) il_440 x1 (by omega) (by omega)
      have t_55146 := ia_add ((440 : Int32) * x1) y37_5 (by omega) (by omega)
      refine wq_in (n := 2640) ⟨by omega, by omega⟩ ?_
      have t_55148 := KX12.m7 k_I0_l37 ((((440 : Int32) * x1) + y37_5)).toNatClampNeg
      refine wq_v (fun v5_q55147 h_v5_q55147 => ?_)
      have t_v5_q55147 := congrArg Int32.toInt h_v5_q55147
      have t_55149 := ia_mul (440 : Int32) (440) il_440 x2 (by omega) (by omega)
      have t_55150 := ia_add ((440 : Int32) * x2) y37_5 (by omega) (by omega)
      refine wq_in (n := 2640) ⟨by omega, by omega⟩ ?_
      have t_55152 := KX12.m7 k_I0_l37 ((((440 : Int32) * x2) + y37_5)).toNatClampNeg
      refine wq_v (fun v6_q55151 h_v6_q55151 => ?_)
      have t_v6_q55151 := congrArg Int32.toInt h_v6_q55151
      have t_55153 := ia_mul (440 : Int32) (440) il_440 x3 (by omega) (by omega)
      have t_55154 := ia_add ((440 : Int32) * x3) y37_5 (by omega) (by omega)
      refine wq_in (n := 2640) ⟨by omega, by omega⟩ ?_
      have t_55156 := KX12.m7 k_I0_l37 ((((440 : Int32) * x3) + y37_5)).toNatClampNeg
      refine wq_v (fun v7_q55155 h_v7_q55155 => ?_)
      have t_v7_q55155 := congrArg Int32.toInt h_v7_q55155
      have l_m1 := il_m1
      refine wq_eq (fun hc_55157 => ?_) (fun hc_55158 => ?_)
      · have l_1 := il_1
        have t_55160 := ia_add y37_5 (1 : Int32) (by omega) (by omega)
        refine wq_v (fun v8_q55159 h_v8_q55159 => ?_)
        have t_v8_q55159 := congrArg Int32.toInt h_v8_q55159
        have b_55161 := i32b y37_4
        exact ih I0_l37 L0_l37 M0_l37 y37_4 v8_q55159 ⟨by omega, by omega⟩ k_I0_l37 (by omega)
      · refine wq_eq (fun hc_55162 => ?_) (fun hc_55163 => ?_)
        · refine wq_eq (fun hc_55164 => ?_) (fun hc_55165 => ?_)
          · have l_1 := il_1
            have t_55167 := ia_add y37_5 (1 : Int32) (by omega) (by omega)
            refine wq_v (fun v10_q55166 h_v10_q55166 => ?_)
            have t_v10_q55166 := congrArg Int32.toInt h_v10_q55166
            have b_55168 := i32b y37_4
            exact ih I0_l37 L0_l37 M0_l37 y37_4 v10_q55166 ⟨by omega, by omega⟩ k_I0_l37 (by omega)
          · refine wq_eq (fun hc_55169 => ?_) (fun hc_55170 => ?_)
            · have l_1 := il_1
              have t_55172 := ia_add y37_5 (1 : Int32) (by omega) (by omega)
              refine wq_v (fun v11_q55171 h_v11_q55171 => ?_)
              have t_v11_q55171 := congrArg Int32.toInt h_v11_q55171
              have b_55173 := i32b y37_4
              exact ih I0_l37 L0_l37 M0_l37 y37_4 v11_q55171 ⟨by omega, by omega⟩ k_I0_l37 (by omega)
            · have b_55175 := i32b y37_4
              have l_1 := il_1
              refine wq_v (fun v12_q55174 h_v12_q55174 => ?_)
              have t_v12_q55174 := congrArg Int32.toInt h_v12_q55174
              have t_55177 := ia_add y37_5 (1 : Int32) (by omega) (by omega)
              refine wq_v (fun v13_q55176 h_v13_q55176 => ?_)
              have t_v13_q55176 := congrArg Int32.toInt h_v13_q55176
              have b_55178 := i32b v12_q55174
              exact ih I0_l37 L0_l37 M0_l37 v12_q55174 v13_q55176 ⟨by omega, by omega⟩ k_I0_l37 (by omega)
        · have l_1 := il_1
          have t_55180 := ia_add y37_5 (1 : Int32) (by omega) (by omega)
          refine wq_v (fun v9_q55179 h_v9_q55179 => ?_)
          have t_v9_q55179 := congrArg Int32.toInt h_v9_q55179
          have b_55181 := i32b y37_4
          exact ih I0_l37 L0_l37 M0_l37 y37_4 v9_q55179 ⟨by omega, by omega⟩ k_I0_l37 (by omega)

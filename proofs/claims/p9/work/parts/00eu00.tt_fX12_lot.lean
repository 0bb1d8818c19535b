set_option maxHeartbeats 4000000 in
theorem tt_fX12_lot {N : Nat} (hN : 3000000000 ≤ N) (I0 : Nat → Int32) (L0 : Int64) (M0 : Nat → Nat → Int32) (x1 : Int32) (x2 : Int32) (x3 : Int32) (k_I0 : KX12 I0 M0) : wq (fX12_lot N I0 L0 M0 x1 x2 x3) (fun r => (-1 ≤ r.1.toInt ∧ r.1.toInt ≤ 359) ∧ KX12 r.2.1 r.2.2.2 ∧ True) := by
  unfold fX12_lot
  have b_51887 := i32b x1
  have b_51888 := i32b x2
  refine wq_b (tt_fX12_isWheel hN I0 L0 M0 x1 x2 k_I0) (fun r10_q51889 h_r10_q51889 => ?_)
  obtain ⟨h_r10_q51889_0, h_r10_q51889_1, h_r10_q51889_2, h_r10_q51889_3, -⟩ := h_r10_q51889
  have t_51890 := KX12.i1 h_r10_q51889_3
  have t_51891 := KX12.i1 k_I0
  have l_0 := il_0
  refine wq_eq (fun hc_51892 => ?_) (fun hc_51893 => ?_)
  · exact wq_s ⟨(show -1 ≤ (0 : Int32).toInt ∧ (0 : Int32).toInt ≤ 359 from ⟨by omega, by omega⟩), h_r10_q51889_3, trivial⟩
  · have b_51894 := i32b x3
    refine wq_eq (fun hc_51895 => ?_) (fun hc_51896 => ?_)
    · unfold fX12_lot_J19
      unfold fX12_lot_J24
      have l_1 := il_1
      refine wq_b (tt_fX12_right hN r10_q51889.2.1 r10_q51889.2.2.1 r10_q51889.2.2.2 (1 : Int32) (1 : Int32) ⟨by omega, by omega⟩ h_r10_q51889_3) (fun r4_q51897 h_r4_q51897 => ?_)
      obtain ⟨h_r4_q51897_0, h_r4_q51897_1, h_r4_q51897_2, h_r4_q51897_3, -⟩ := h_r4_q51897
      have t_51898 := KX12.i1 h_r4_q51897_3
      refine wq_eq (fun hc_51899 => ?_) (fun hc_51900 => ?_)
      · exact wq_s ⟨(show -1 ≤ (0 : Int32).toInt ∧ (0 : Int32).toInt ≤ 359 from ⟨by omega, by omega⟩), h_r4_q51897_3, trivial⟩
      · have l_20 := il_20
        have t_51902 := ia_mul (20 : Int32) (20) il_20 x1 (by omega) (by omega)
        have t_51903 := ia_add ((20 : Int32) * x1) x2 (by omega) (by omega)
        refine wq_v (fun v5_q51901 h_v5_q51901 => ?_)
        have t_v5_q51901 := congrArg Int32.toInt h_v5_q51901
        refine wq_b (tt_fX12_at hN r4_q51897.2.1 r4_q51897.2.2.1 r4_q51897.2.2.2 v5_q51901 (0 : Int32) ⟨by omega, by omega⟩ ⟨by omega, by omega⟩ h_r4_q51897_3) (fun r6_q51904 h_r6_q51904 => ?_)
        obtain ⟨h_r6_q51904_0, h_r6_q51904_1, h_r6_q51904_2, -⟩ := h_r6_q51904
        refine wq_b (tt_fX12_at hN r4_q51897.2.1 r4_q51897.2.2.1 r4_q51897.2.2.2 v5_q51901 (1 : Int32) ⟨by omega, by omega⟩ ⟨by omega, by omega⟩ h_r4_q51897_3) (fun r7_q51905 h_r7_q51905 => ?_)
        obtain ⟨h_r7_q51905_0, h_r7_q51905_1, h_r7_q51905_2, -⟩ := h_r7_q51905
        have l_7 := il_7
        refine wq_b (tt_fX12_at hN r4_q51897.2.1 r4_q51897.2.2.1 r4_q51897.2.2.2 v5_q51901 (7 : Int32) ⟨by omega, by omega⟩ ⟨by omega, by omega⟩ h_r4_q51897_3) (fun r8_q51906 h_r8_q51906 => ?_)
        obtain ⟨h_r8_q51906_0, h_r8_q51906_1, h_r8_q51906_2, -⟩ := h_r8_q51906
        have l_m1 := il_m1
        refine wq_eq (fun hc_51907 => ?_) (fun hc_51908 => ?_)
        · exact wq_s ⟨(show -1 ≤ (-1 : Int32).toInt ∧ (-1 : Int32).toInt ≤ 359 from ⟨by omega, by omega⟩), h_r4_q51897_3, trivial⟩
        · refine wq_eq (fun hc_51909 => ?_) (fun hc_51910 => ?_)
          · exact wq_s ⟨(show -1 ≤ (-1 : Int32).toInt ∧ (-1 : Int32).toInt ≤ 359 from ⟨by omega, by omega⟩), h_r4_q51897_3, trivial⟩
          · refine wq_eq (fun hc_51911 => ?_) (fun hc_51912 => ?_)
            · exact wq_s ⟨(show -1 ≤ (-1 : Int32).toInt ∧ (-1 : Int32).toInt ≤ 359 from ⟨by omega, by omega⟩), h_r4_q51897_3, trivial⟩
            · refine wq_eq (fun hc_51913 => ?_) (fun hc_51914 => ?_)
              · exfalso; omega
              · unfold fX12_lot_J106
                have t_51916 := ia_sub r7_q51905 r6_q51904 (by omega) (by omega)
                have l_360 := il_360
                have t_51917 := ia_add (r7_q51905 - r6_q51904) (360 : Int32) (by omega) (by omega)
                have t_51918 := ia_rem ((r7_q51905 - r6_q51904) + (360 : Int32)) (360 : Int32) 360 il_360 (by decide) (by omega)
                refine wq_v (fun v3_q51915 h_v3_q51915 => ?_)
                have t_v3_q51915 := congrArg Int32.toInt h_v3_q51915
                have l_180 := il_180
                have t_51919 := ia_sub r8_q51906 r6_q51904 (by omega) (by omega)
                have t_51920 := ia_add (r8_q51906 - r6_q51904) (360 : Int32) (by omega) (by omega)
                have t_51921 := ia_rem ((r8_q51906 - r6_q51904) + (360 : Int32)) (360 : Int32) 360 il_360 (by decide) (by omega)
                refine wq_le (fun hc_51922 => ?_) (fun hc_51923 => ?_)
                · unfold fX12_lot_J165
                  refine wq_eq (fun hc_51924 => ?_) (fun hc_51925 => ?_)
                  · have t_51926 := ia_sub r8_q51906 v3_q51915 (by omega) (by omega)
                    have t_51927 := ia_add (r8_q51906 - v3_q51915) (360 : Int32) (by omega) (by omega)
                    have t_51928 := ia_rem ((r8_q51906 - v3_q51915) + (360 : Int32)) (360 : Int32) 360 il_360 (by decide) (by omega)
                    exact wq_s ⟨(show -1 ≤ (((r8_q51906 - v3_q51915) + (360 : Int32)) - ((((r8_q51906 - v3_q51915) + (360 : Int32)) / (360 : Int32)) * (360 : Int32))).toInt ∧ (((r8_q51906 - v3_q51915) + (360 : Int32)) - ((((r8_q51906 - v3_q51915) + (360 : Int32)) / (360 : Int32)) * (360 : Int32))).toInt ≤ 359 from ⟨by omega, by omega⟩), h_r4_q51897_3, trivial⟩
                  · exfalso; omega
                · unfold fX12_lot_J165
                  refine wq_eq (fun hc_51929 => ?_) (fun hc_51930 => ?_)
                  · have t_51931 := ia_add r8_q51906 v3_q51915 (by omega) (by omega)
                    have t_51932 := ia_rem (r8_q51906 + v3_q51915) (360 : Int32) 360 il_360 (by decide) (by omega)
                    exact wq_s ⟨(show -1 ≤ ((r8_q51906 + v3_q51915) - (((r8_q51906 + v3_q51915) / (360 : Int32)) * (360 : Int32))).toInt ∧ ((r8_q51906 + v3_q51915) - (((r8_q51906 + v3_q51915) / (360 : Int32)) * (360 : Int32))).toInt ≤ 359 from ⟨by omega, by omega⟩), h_r4_q51897_3, trivial⟩
                  · exfalso; omega
    · have l_1 := il_1
      refine wq_eq (fun hc_51933 => ?_) (fun hc_51934 => ?_)
      · unfold fX12_lot_J19
        unfold fX12_lot_J24
        refine wq_b (tt_fX12_right hN r10_q51889.2.1 r10_q51889.2.2.1 r10_q51889.2.2.2 (1 : Int32) (1 : Int32) ⟨by omega, by omega⟩ h_r10_q51889_3) (fun r4_q51935 h_r4_q51935 => ?_)
        obtain ⟨h_r4_q51935_0, h_r4_q51935_1, h_r4_q51935_2, h_r4_q51935_3, -⟩ := h_r4_q51935
        have t_51936 := KX12.i1 h_r4_q51935_3
        refine wq_eq (fun hc_51937 => ?_) (fun hc_51938 => ?_)
        · exact wq_s ⟨(show -1 ≤ (0 : Int32).toInt ∧ (0 : Int32).toInt ≤ 359 from ⟨by omega, by omega⟩), h_r4_q51935_3, trivial⟩
        · have l_20 := il_20
          have t_51940 := ia_mul (20 : Int32) (20) il_20 x1 (by omega) (by omega)
          have t_51941 := ia_add ((20 : Int32) * x1) x2 (by omega) (by omega)
          refine wq_v (fun v5_q51939 h_v5_q51939 => ?_)
          have t_v5_q51939 := congrArg Int32.toInt h_v5_q51939
          refine wq_b (tt_fX12_at hN r4_q51935.2.1 r4_q51935.2.2.1 r4_q51935.2.2.2 v5_q51939 (0 : Int32) ⟨by omega, by omega⟩ ⟨by omega, by omega⟩ h_r4_q51935_3) (fun r6_q51942 h_r6_q51942 => ?_)
          obtain ⟨h_r6_q51942_0, h_r6_q51942_1, h_r6_q51942_2, -⟩ := h_r6_q51942
          refine wq_b (tt_fX12_at hN r4_q51935.2.1 r4_q51935.2.2.1 r4_q51935.2.2.2 v5_q51939 (1 : Int32) ⟨by omega, by omega⟩ ⟨by omega, by omega⟩ h_r4_q51935_3) (fun r7_q51943 h_r7_q51943 => ?_)
          obtain ⟨h_r7_q51943_0, h_r7_q51943_1, h_r7_q51943_2, -⟩ := h_r7_q51943
          have l_7 := il_7
          refine wq_b (tt_fX12_at hN r4_q51935.2.1 r4_q51935.2.2.1 r4_q51935.2.2.2 v5_q51939 (7 : Int32) ⟨by omega, by omega⟩ ⟨by omega, by omega⟩ h_r4_q51935_3) (fun r8_q51944 h_r8_q51944 => ?_)
          obtain ⟨h_r8_q51944_0, h_r8_q51944_1, h_r8_q51944_2, -⟩ := h_r8_q51944
          have l_m1 := il_m1
          refine wq_eq (fun hc_51945 => ?_) (fun hc_51946 => ?_)
          · exact wq_s ⟨(show -1 ≤ (-1 : Int32).toInt ∧ (-1 : Int32).toInt ≤ 359 from ⟨by omega, by omega⟩), h_r4_q51935_3, trivial⟩
          · refine wq_eq (fun hc_51947 => ?_) (fun hc_51948 => ?_)
            · exact wq_s ⟨(show -1 ≤ (-1 : Int32).toInt ∧ (-1 : Int32).toInt ≤ 359 from ⟨by omega, by omega⟩), h_r4_q51935_3, trivial⟩
            · refine wq_eq (fun hc_51949 => ?_) (fun hc_51950 => ?_)
              · exact wq_s ⟨(show -1 ≤ (-1 : Int32).toInt ∧ (-1 : Int32).toInt ≤ 359 from ⟨by omega, by omega⟩), h_r4_q51935_3, trivial⟩
              · refine wq_eq (fun hc_51951 => ?_) (fun hc_51952 => ?_)
                · have l_8 := il_8
                  refine wq_b (tt_fX12_at hN r4_q51935.2.1 r4_q51935.2.2.1 r4_q51935.2.2.2 v5_q51939 (8 : Int32) ⟨by omega, by omega⟩ ⟨by omega, by omega⟩ h_r4_q51935_3) (fun r9b_q51953 h_r9b_q51953 => ?_)
                  obtain ⟨h_r9b_q51953_0, h_r9b_q51953_1, h_r9b_q51953_2, -⟩ := h_r9b_q51953
                  refine wq_eq (fun hc_51954 => ?_) (fun hc_51955 => ?_)
                  · exact wq_s ⟨(show -1 ≤ (-1 : Int32).toInt ∧ (-1 : Int32).toInt ≤ 359 from ⟨by omega, by omega⟩), h_r4_q51935_3, trivial⟩
                  · unfold fX12_lot_J106
                    have t_51957 := ia_sub r7_q51943 r6_q51942 (by omega) (by omega)
                    have l_360 := il_360
                    have t_51958 := ia_add (r7_q51943 - r6_q51942) (360 : Int32) (by omega) (by omega)
                    have t_51959 := ia_rem ((r7_q51943 - r6_q51942) + (360 : Int32)) (360 : Int32) 360 il_360 (by decide) (by omega)
                    refine wq_v (fun v3_q51956 h_v3_q51956 => ?_)
                    have t_v3_q51956 := congrArg Int32.toInt h_v3_q51956
                    have l_180 := il_180
                    have t_51960 := ia_sub r8_q51944 r6_q51942 (by omega) (by omega)
                    have t_51961 := ia_add (r8_q51944 - r6_q51942) (360 : Int32) (by omega) (by omega)
                    have t_51962 := ia_rem ((r8_q51944 - r6_q51942) + (360 : Int32)) (360 : Int32) 360 il_360 (by decide) (by omega)
                    refine wq_le (fun hc_51963 => ?_) (fun hc_51964 => ?_)
                    · unfold fX12_lot_J165
                      refine wq_eq (fun hc_51965 => ?_) (fun hc_51966 => ?_)
                      · exfalso; omega
                      · refine wq_b (tt_fX12_at hN r4_q51935.2.1 r4_q51935.2.2.1 r4_q51935.2.2.2 v5_q51939 (8 : Int32) ⟨by omega, by omega⟩ ⟨by omega, by omega⟩ h_r4_q51935_3) (fun r1_q51967 h_r1_q51967 => ?_)
                        obtain ⟨h_r1_q51967_0, h_r1_q51967_1, h_r1_q51967_2, -⟩ := h_r1_q51967
                        have t_51968 := ia_sub r8_q51944 v3_q51956 (by omega) (by omega)
                        have t_51969 := ia_add (r8_q51944 - v3_q51956) (360 : Int32) (by omega) (by omega)
                        have t_51970 := ia_rem ((r8_q51944 - v3_q51956) + (360 : Int32)) (360 : Int32) 360 il_360 (by decide) (by omega)
                        refine wq_b (tt_fX12_costOf hN r4_q51935.2.1 r4_q51935.2.2.1 r4_q51935.2.2.2 r1_q51967 (((r8_q51944 - v3_q51956) + (360 : Int32)) - ((((r8_q51944 - v3_q51956) + (360 : Int32)) / (360 : Int32)) * (360 : Int32))) ⟨by omega, by omega⟩ h_r4_q51935_3) (fun r2_q51971 h_r2_q51971 => ?_)
                        obtain ⟨h_r2_q51971_0, -⟩ := h_r2_q51971
                        exact wq_s ⟨(show -1 ≤ r2_q51971.toInt ∧ r2_q51971.toInt ≤ 359 from ⟨by omega, by omega⟩), h_r4_q51935_3, trivial⟩
                    · unfold fX12_lot_J165
                      refine wq_eq (fun hc_51972 => ?_) (fun hc_51973 => ?_)
                      · exfalso; omega
                      · refine wq_b (tt_fX12_at hN r4_q51935.2.1 r4_q51935.2.2.1 r4_q51935.2.2.2 v5_q51939 (8 : Int32) ⟨by omega, by omega⟩ ⟨by omega, by omega⟩ h_r4_q51935_3) (fun r1_q51974 h_r1_q51974 => ?_)
                        obtain ⟨h_r1_q51974_0, h_r1_q51974_1, h_r1_q51974_2, -⟩ := h_r1_q51974
                        have t_51975 := ia_add r8_q51944 v3_q51956 (by omega) (by omega)
                        have t_51976 := ia_rem (r8_q51944 + v3_q51956) (360 : Int32) 360 il_360 (by decide) (by omega)
                        refine wq_b (tt_fX12_costOf hN r4_q51935.2.1 r4_q51935.2.2.1 r4_q51935.2.2.2 r1_q51974 ((r8_q51944 + v3_q51956) - (((r8_q51944 + v3_q51956) / (360 : Int32)) * (360 : Int32))) ⟨by omega, by omega⟩ h_r4_q51935_3) (fun r2_q51977 h_r2_q51977 => ?_)
                        obtain ⟨h_r2_q51977_0, -⟩ := h_r2_q51977
                        exact wq_s ⟨(show -1 ≤ r2_q51977.toInt ∧ r2_q51977.toInt ≤ 359 from ⟨by omega, by omega⟩), h_r4_q51935_3, trivial⟩
                · exfalso; omega
      · unfold fX12_lot_J24
        refine wq_b (tt_fX12_right hN r10_q51889.2.1 r10_q51889.2.2.1 r10_q51889.2.2.2 (0 : Int32) (1 : Int32) ⟨by omega, by omega⟩ h_r10_q51889_3) (fun r4_q51978 h_r4_q51978 => ?_)
        obtain ⟨h_r4_q51978_0, h_r4_q51978_1, h_r4_q51978_2, h_r4_q51978_3, -⟩ := h_r4_q51978
        have t_51979 := KX12.i1 h_r4_q51978_3
        refine wq_eq (fun hc_51980 => ?_) (fun hc_51981 => ?_)
        · exact wq_s ⟨(show -1 ≤ (0 : Int32).toInt ∧ (0 : Int32).toInt ≤ 359 from ⟨by omega, by omega⟩), h_r4_q51978_3, trivial⟩
        · have l_20 := il_20
          have t_51983 := ia_mul (20 : Int32) (20) il_20 x1 (by omega) (by omega)
          have t_51984 := ia_add ((20 : Int32) * x1) x2 (by omega) (by omega)
          refine wq_v (fun v5_q51982 h_v5_q51982 => ?_)
          have t_v5_q51982 := congrArg Int32.toInt h_v5_q51982
          refine wq_b (tt_fX12_at hN r4_q51978.2.1 r4_q51978.2.2.1 r4_q51978.2.2.2 v5_q51982 (0 : Int32) ⟨by omega, by omega⟩ ⟨by omega, by omega⟩ h_r4_q51978_3) (fun r6_q51985 h_r6_q51985 => ?_)
          obtain ⟨h_r6_q51985_0, h_r6_q51985_1, h_r6_q51985_2, -⟩ := h_r6_q51985
          refine wq_b (tt_fX12_at hN r4_q51978.2.1 r4_q51978.2.2.1 r4_q51978.2.2.2 v5_q51982 (1 : Int32) ⟨by omega, by omega⟩ ⟨by omega, by omega⟩ h_r4_q51978_3) (fun r7_q51986 h_r7_q51986 => ?_)
          obtain ⟨h_r7_q51986_0, h_r7_q51986_1, h_r7_q51986_2, -⟩ := h_r7_q51986
          have l_7 := il_7
          refine wq_b (tt_fX12_at hN r4_q51978.2.1 r4_q51978.2.2.1 r4_q51978.2.2.2 v5_q51982 (7 : Int32) ⟨by omega, by omega⟩ ⟨by omega, by omega⟩ h_r4_q51978_3) (fun r8_q51987 h_r8_q51987 => ?_)
          obtain ⟨h_r8_q51987_0, h_r8_q51987_1, h_r8_q51987_2, -⟩ := h_r8_q51987
          have l_m1 := il_m1
          refine wq_eq (fun hc_51988 => ?_) (fun hc_51989 => ?_)
          · exact wq_s ⟨(show -1 ≤ (-1 : Int32).toInt ∧ (-1 : Int32).toInt ≤ 359 from ⟨by omega, by omega⟩), h_r4_q51978_3, trivial⟩
          · refine wq_eq (fun hc_51990 => ?_) (fun hc_51991 => ?_)
            · exact wq_s ⟨(show -1 ≤ (-1 : Int32).toInt ∧ (-1 : Int32).toInt ≤ 359 from ⟨by omega, by omega⟩), h_r4_q51978_3, trivial⟩
            · refine wq_eq (fun hc_51992 => ?_) (fun hc_51993 => ?_)
              · exact wq_s ⟨(show -1 ≤ (-1 : Int32).toInt ∧ (-1 : Int32).toInt ≤ 359 from ⟨by omega, by omega⟩), h_r4_q51978_3, trivial⟩
              · refine wq_eq (fun hc_51994 => ?_) (fun hc_51995 => ?_)
                · have l_8 := il_8
                  refine wq_b (tt_fX12_at hN r4_q51978.2.1 r4_q51978.2.2.1 r4_q51978.2.2.2 v5_q51982 (8 : Int32) ⟨by omega, by omega⟩ ⟨by omega, by omega⟩ h_r4_q51978_3) (fun r9b_q51996 h_r9b_q51996 => ?_)
                  obtain ⟨h_r9b_q51996_0, h_r9b_q51996_1, h_r9b_q51996_2, -⟩ := h_r9b_q51996
                  refine wq_eq (fun hc_51997 => ?_) (fun hc_51998 => ?_)
                  · exact wq_s ⟨(show -1 ≤ (-1 : Int32).toInt ∧ (-1 : Int32).toInt ≤ 359 from ⟨by omega, by omega⟩), h_r4_q51978_3, trivial⟩
                  · unfold fX12_lot_J106
                    have t_52000 := ia_sub r7_q51986 r6_q51985 (by omega) (by omega)
                    have l_360 := il_360
                    have t_52001 := ia_add (r7_q51986 - r6_q51985) (360 : Int32) (by omega) (by omega)
                    have t_52002 := ia_rem ((r7_q51986 - r6_q51985) + (360 : Int32)) (360 : Int32) 360 il_360 (by decide) (by omega)
                    refine wq_v (fun v3_q51999 h_v3_q51999 => ?_)
                    have t_v3_q51999 := congrArg Int32.toInt h_v3_q51999
                    have l_180 := il_180
                    have t_52003 := ia_sub r8_q51987 r6_q51985 (by omega) (by omega)
                    have t_52004 := ia_add (r8_q51987 - r6_q51985) (360 : Int32) (by omega) (by omega)
                    have t_52005 := ia_rem ((r8_q51987 - r6_q51985) + (360 : Int32)) (360 : Int32) 360 il_360 (by decide) (by omega)
                    refine wq_le (fun hc_52006 => ?_) (fun hc_52007 => ?_)
                    · unfold fX12_lot_J165
                      refine wq_eq (fun hc_52008 => ?_) (fun hc_52009 => ?_)
                      · exfalso; omega
                      · refine wq_b (tt_fX12_at hN r4_q51978.2.1 r4_q51978.2.2.1 r4_q51978.2.2.2 v5_q51982 (8 : Int32) ⟨by omega, by omega⟩ ⟨by omega, by omega⟩ h_r4_q51978_3) (fun r1_q52010 h_r1_q52010 => ?_)
                        obtain ⟨h_r1_q52010_0, h_r1_q52010_1, h_r1_q52010_2, -⟩ := h_r1_q52010
                        have t_52011 := ia_sub r8_q51987 v3_q51999 (by omega) (by omega)
                        have t_52012 := ia_add (r8_q51987 - v3_q51999) (360 : Int32) (by omega) (by omega)
                        have t_52013 := ia_rem ((r8_q51987 - v3_q51999) + (360 : Int32)) (360 : Int32) 360 il_360 (by decide) (by omega)
                        refine wq_b (tt_fX12_costOf hN r4_q51978.2.1 r4_q51978.2.2.1 r4_q51978.2.2.2 r1_q52010 (((r8_q51987 - v3_q51999) + (360 : Int32)) - ((((r8_q51987 - v3_q51999) + (360 : Int32)) / (360 : Int32)) * (360 : Int32))) ⟨by omega, by omega⟩ h_r4_q51978_3) (fun r2_q52014 h_r2_q52014 => ?_)
                        obtain ⟨h_r2_q52014_0, -⟩ := h_r2_q52014
                        exact wq_s ⟨(show -1 ≤ r2_q52014.toInt ∧ r2_q52014.toInt ≤ 359 from ⟨by omega, by omega⟩), h_r4_q51978_3, trivial⟩
                    · unfold fX12_lot_J165
                      refine wq_eq (fun hc_52015 => ?_) (fun hc_52016 => ?_)
                      · exfalso; omega
                      · refine wq_b (tt_fX12_at hN r4_q51978.2.1 r4_q51978.2.2.1 r4_q51978.2.2.2 v5_q51982 (8 : Int32) ⟨by omega, by omega⟩ ⟨by omega, by omega⟩ h_r4_q51978_3) (fun r1_q52017 h_r1_q52017 => ?_)
                        obtain ⟨h_r1_q52017_0, h_r1_q52017_1, h_r1_q52017_2, -⟩ := h_r1_q52017
                        have t_52018 := ia_add r8_q51987 v3_q51999 (by omega) (by omega)
                        have t_52019 := ia_rem (r8_q51987 + v3_q51999) (360 : Int32) 360 il_360 (by decide) (by omega)
                        refine wq_b (tt_fX12_costOf hN r4_q51978.2.1 r4_q51978.2.2.1 r4_q51978.2.2.2 r1_q52017 ((r8_q51987 + v3_q51999) - (((r8_q51987 + v3_q51999) / (360 : Int32)) * (360 : Int32))) ⟨by omega, by omega⟩ h_r4_q51978_3) (fun r2_q52020 h_r2_q52020 => ?_)
                        obtain ⟨h_r2_q52020_0, -⟩ := h_r2_q52020
                        exact wq_s ⟨(show -1 ≤ r2_q52020.toInt ∧ r2_q52020.toInt ≤ 359 from ⟨by omega, by omega⟩), h_r4_q51978_3, trivial⟩
                · unfold fX12_lot_J106
                  have t_52022 := ia_sub r7_q51986 r6_q51985 (by omega) (by omega)
                  have l_360 := il_360
                  have t_52023 := ia_add (r7_q51986 - r6_q51985) (360 : Int32) (by omega) (by omega)
                  have t_52024 := ia_rem ((r7_q51986 - r6_q51985) + (360 : Int32)) (360 : Int32) 360 il_360 (by decide) (by omega)
                  refine wq_v (fun v3_q52021 h_v3_q52021 => ?_)
                  have t_v3_q52021 := congrArg Int32.toInt h_v3_q52021
                  have l_180 := il_180
                  have t_52025 := ia_sub r8_q51987 r6_q51985 (by omega) (by omega)
                  have t_52026 := ia_add (r8_q51987 - r6_q51985) (360 : Int32) (by omega) (by omega)
                  have t_52027 := ia_rem ((r8_q51987 - r6_q51985) + (360 : Int32)) (360 : Int32) 360 il_360 (by decide) (by omega)
                  refine wq_le (fun hc_52028 => ?_) (fun hc_52029 => ?_)
                  · unfold fX12_lot_J165
                    refine wq_eq (fun hc_52030 => ?_) (fun hc_52031 => ?_)
                    · have t_52032 := ia_sub r8_q51987 v3_q52021 (by omega) (by omega)
                      have t_52033 := ia_add (r8_q51987 - v3_q52021) (360 : Int32) (by omega) (by omega)
                      have t_52034 := ia_rem ((r8_q51987 - v3_q52021) + (360 : Int32)) (360 : Int32) 360 il_360 (by decide) (by omega)
                      exact wq_s ⟨(show -1 ≤ (((r8_q51987 - v3_q52021) + (360 : Int32)) - ((((r8_q51987 - v3_q52021) + (360 : Int32)) / (360 : Int32)) * (360 : Int32))).toInt ∧ (((r8_q51987 - v3_q52021) + (360 : Int32)) - ((((r8_q51987 - v3_q52021) + (360 : Int32)) / (360 : Int32)) * (360 : Int32))).toInt ≤ 359 from ⟨by omega, by omega⟩), h_r4_q51978_3, trivial⟩
                    · have l_8 := il_8
                      refine wq_b (tt_fX12_at hN r4_q51978.2.1 r4_q51978.2.2.1 r4_q51978.2.2.2 v5_q51982 (8 : Int32) ⟨by omega, by omega⟩ ⟨by omega, by omega⟩ h_r4_q51978_3) (fun r1_q52035 h_r1_q52035 => ?_)
                      obtain ⟨h_r1_q52035_0, h_r1_q52035_1, h_r1_q52035_2, -⟩ := h_r1_q52035
                      have t_52036 := ia_sub r8_q51987 v3_q52021 (by omega) (by omega)
                      have t_52037 := ia_add (r8_q51987 - v3_q52021) (360 : Int32) (by omega) (by omega)
                      have t_52038 := ia_rem ((r8_q51987 - v3_q52021) + (360 : Int32)) (360 : Int32) 360 il_360 (by decide) (by omega)
                      refine wq_b (tt_fX12_costOf hN r4_q51978.2.1 r4_q51978.2.2.1 r4_q51978.2.2.2 r1_q52035 (((r8_q51987 - v3_q52021) + (360 : Int32)) - ((((r8_q51987 - v3_q52021) + (360 : Int32)) / (360 : Int32)) * (360 : Int32))) ⟨by omega, by omega⟩ h_r4_q51978_3) (fun r2_q52039 h_r2_q52039 => ?_)
                      obtain ⟨h_r2_q52039_0, -⟩ := h_r2_q52039
                      exact wq_s ⟨(show -1 ≤ r2_q52039.toInt ∧ r2_q52039.toInt ≤ 359 from ⟨by omega, by omega⟩), h_r4_q51978_3, trivial⟩
                  · unfold fX12_lot_J165
                    refine wq_eq (fun hc_52040 => ?_) (fun hc_52041 => ?_)
                    · have t_52042 := ia_add r8_q51987 v3_q52021 (by omega) (by omega)
                      have t_52043 := ia_rem (r8_q51987 + v3_q52021) (360 : Int32) 360 il_360 (by decide) (by omega)
                      exact wq_s ⟨(show -1 ≤ ((r8_q51987 + v3_q52021) - (((r8_q51987 + v3_q52021) / (360 : Int32)) * (360 : Int32))).toInt ∧ ((r8_q51987 + v3_q52021) - (((r8_q51987 + v3_q52021) / (360 : Int32)) * (360 : Int32))).toInt ≤ 359 from ⟨by omega, by omega⟩), h_r4_q51978_3, trivial⟩
                    · have l_8 := il_8
                      refine wq_b (tt_fX12_at hN r4_q51978.2.1 r4_q51978.2.2.1 r4_q51978.2.2.2 v5_q51982 (8 : Int32) ⟨by omega, by omega⟩ ⟨by omega, by omega⟩ h_r4_q51978_3) (fun r1_q52044 h_r1_q52044 => ?_)
                      obtain ⟨h_r1_q52044_0, h_r1_q52044_1, h_r1_q52044_2, -⟩ := h_r1_q52044
                      have t_52045 := ia_add r8_q51987 v3_q52021 (by omega) (by omega)
                      have t_52046 := ia_rem (r8_q51987 + v3_q52021) (360 : Int32) 360 il_360 (by decide) (by omega)
                      refine wq_b (tt_fX12_costOf hN r4_q51978.2.1 r4_q51978.2.2.1 r4_q51978.2.2.2 r1_q52044 ((r8_q51987 + v3_q52021) - (((r8_q51987 + v3_q52021) / (360 : Int32)) * (360 : Int32))) ⟨by omega, by omega⟩ h_r4_q51978_3) (fun r2_q52047 h_r2_q52047 => ?_)
                      obtain ⟨h_r2_q52047_0, -⟩ := h_r2_q52047
                      exact wq_s ⟨(show -1 ≤ r2_q52047.toInt ∧ r2_q52047.toInt ≤ 359 from ⟨by omega, by omega⟩), h_r4_q51978_3, trivial⟩

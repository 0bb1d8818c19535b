set_option maxHeartbeats 4000000 in
theorem tt_fX12_lot {N : Nat} (hN : 3000000000 ≤ N) (I0 : Nat → Int32) (L0 : Int64) (M0 : Nat → Nat → Int32) (x1 : Int32) (x2 : Int32) (x3 : Int32) (k_I0 : KX12 I0 M0) : wq (fX12_lot N I0 L0 M0 x1 x2 x3) (fun r => (-1 ≤ r.1.toInt ∧ r.1.toInt ≤ 359) ∧ KX12 r.2.1 r.2.2.2 ∧ True) := by
  unfold fX12_lot
  have b_51887 := i32b x1
  have b_51888 := i32b x2
  refine wq_b (tt_fX12_isWheel hN I0 L0 M0 x1 x2 k_I0) (fun r10_q51889 h_r10_q51889 => ?_)
  obtain ⟨h_r10_q51889_0, h_r10_q51889_1, h_r10_q51889_2, h_r10_q51889_3, -⟩ := h_r10_q51889
  have t_51890 := KX12.i1 h_r10_q51889_3
  have t_51891 := KX12.i1 k_I0
  have l_0 := il_0
  refine wq_eq (fun hc_51892 => ?_) (fun hc_51893 => ?_)
  · exact wq_s ⟨(show -1 ≤ (0 : Int32).toInt ∧ (0 : Int32).toInt ≤ 359 from ⟨by omega, by omega⟩), h_r10_q51889_3, trivial⟩
  · have b_51894 := i32b x3
    refine wq_eq (fun hc_51895 => ?_) (fun hc_51896 => ?_)
    · unfold fX12_lot_J19
      unfold fX12_lot_J24
      have l_1 := il_1
      refine wq_b (tt_fX12_right hN r10_q51889.2.1 r10_q51889.2.2.1 r10_q51889.2.2.2 (1 : Int32) (1 : Int32) ⟨by omega, by omega⟩ h_r10_q51889_3) (fun r4_q51897 h_r4_q51897 => ?_)
      obtain ⟨h_r4_q51897_0, h_r4_q51897_1, h_r4_q51897_2, h_r4_q51897_3, -⟩ := h_r4_q51897
      have t_51898 := KX12.i1 h_r4_q51897_3
      refine wq_eq (fun hc_51899 => ?_) (fun hc_51900 => ?_)
      · exact wq_s ⟨(show -1 ≤ (0 : Int32).toInt ∧ (0 : Int32).toInt ≤ 359 from ⟨by omega, by omega⟩), h_r4_q51897_3, trivial⟩
      · have l_20 := il_20
        have t_51902 := ia_mul (20 : Int32) (20) il_20 x1 (by omega) (by omega)
        have t_51903 := ia_add ((20 : Int32) * x1) x2 (by omega) (by omega)
        refine wq_v (fun v5_q51901 h_v5_q51901 => ?_)
        have t_v5_q51901 := congrArg Int32.toInt h_v5_q51901
        refine wq_b (tt_fX12_at hN r4_q51897.2.1 r4_q51897.2.2.1 r4_q51897.2.2.2 v5_q51901 (0 : Int32) ⟨by omega, by omega⟩ ⟨by omega, by omega⟩ h_r4_q51897_3) (fun r6_q51904 h_r6_q51904 => ?_)
        obtain ⟨h_r6_q51904_0, h_r6_q51904_1, h_r6_q51904_2, -⟩ := h_r6_q51904
        refine wq_b (tt_fX12_at hN r4_q51897.2.1 r4_q51897.2.2.1 r4_q51897.2.2.2 v5_q51901 (1 : Int32) ⟨by omega, by omega⟩ ⟨by omega, by omega⟩ h_r4_q51897_3) (fun r7_q51905 h_r7_q51905 => ?_)
        obtain ⟨h_r7_q51905_0, h_r7_q51905_1, h_r7_q51905_2, -⟩ := h_r7_q51905
        have l_7 := il_7
        refine wq_b (tt_fX12_at hN r4_q51897.2.1 r4_q51897.2.2.1 r4_q51897.2.2.2 v5_q51901 (7 : Int32) ⟨by omega, by omega⟩ ⟨by omega, by omega⟩ h_r4_q51897_3) (fun r8_q51906 h_r8_q51906 => ?_)
        obtain ⟨h_r8_q51906_0, h_r8_q51906_1, h_r8_q51906_2, -⟩ := h_r8_q51906
        have l_m1 := il_m1
        refine wq_eq (fun hc_51907 => ?_) (fun hc_51908 => ?_)
        · exact wq_s ⟨(show -1 ≤ (-1 : Int32).toInt ∧ (-1 : Int32).toInt ≤ 359 from ⟨by omega, by omega⟩), h_r4_q51897_3, trivial⟩
        · refine wq_eq (fun hc_51909 => ?_) (fun hc_51910 => ?_)
          · exact wq_s ⟨(show -1 ≤ (-1 : Int32).toInt ∧ (-1 : Int32).toInt ≤ 359 from ⟨by omega, by omega⟩), h_r4_q51897_3, trivial⟩
          · refine wq_eq (fun hc_51911 => ?_) (fun hc_51912 => ?_)
            · exact wq_s ⟨(show -1 ≤ (-1 : Int32).toInt ∧ (-1 : Int32).toInt ≤ 359 from ⟨by omega, by omega⟩), h_r4_q51897_3, trivial⟩
            · refine wq_eq (fun hc_51913 => ?_) (fun hc_51914 => ?_)
              · exfalso; omega
              · unfold fX12_lot_J106
                have t_51916 := ia_sub r7_q51905 r6_q51904 (by omega) (by omega)
                have l_360 := il_360
                have t_51917 := ia_add (r7_q51905 - r6_q51904) (360 : Int32) (by omega) (by omega)
                have t_51918 := ia_rem ((r7_q51905 - r6_q51904) + (360 : Int32)) (360 : Int32) 360 il_360 (by decide) (by omega)
                refine wq_v (fun v3_q51915 h_v3_q51915 => ?_)
                have t_v3_q51915 := congrArg Int32.toInt h_v3_q51915
                have bv3 : 0 ≤ v3_q51915.toInt ∧ v3_q51915.toInt ≤ 359 := ⟨by omega, by omega⟩
                clear t_51916 t_51917 t_51918 t_v3_q51915
                have l_180 := il_180
                have t_51919 := ia_sub r8_q51906 r6_q51904 (by omega) (by omega)
                have t_51920 := ia_add (r8_q51906 - r6_q51904) (360 : Int32) (by omega) (by omega)
                have t_51921 := ia_rem ((r8_q51906 - r6_q51904) + (360 : Int32)) (360 : Int32) 360 il_360 (by decide) (by omega)
                clear t_51919 t_51920 t_51921
                refine wq_le (fun hc_51922 => ?_) (fun hc_51923 => ?_)
                · unfold fX12_lot_J165
                  refine wq_eq (fun hc_51924 => ?_) (fun hc_51925 => ?_)
                  · have t_51926 := ia_sub r8_q51906 v3_q51915 (by omega) (by omega)
                    have t_51927 := ia_add (r8_q51906 - v3_q51915) (360 : Int32) (by omega) (by omega)
                    have t_51928 := ia_rem ((r8_q51906 - v3_q51915) + (360 : Int32)) (360 : Int32) 360 il_360 (by decide) (by omega)
                    exact wq_s ⟨(show -1 ≤ (((r8_q51906 - v3_q51915) + (360 : Int32)) - ((((r8_q51906 - v3_q51915) + (360 : Int32)) / (360 : Int32)) * (360 : Int32))).toInt ∧ (((r8_q51906 - v3_q51915) + (360 : Int32)) - ((((r8_q51906 - v3_q51915) + (360 : Int32)) / (360 : Int32)) * (360 : Int32))).toInt ≤ 359 from ⟨by omega, by omega⟩), h_r4_q51897_3, trivial⟩
                  · exfalso; omega
                · unfold fX12_lot_J165
                  refine wq_eq (fun hc_51929 => ?_) (fun hc_51930 => ?_)
                  · have t_51931 := ia_add r8_q51906 v3_q51915 (by omega) (by omega)
                    have t_51932 := ia_rem (r8_q51906 + v3_q51915) (360 : Int32) 360 il_360 (by decide) (by omega)
                    exact wq_s ⟨(show -1 ≤ ((r8_q51906 + v3_q51915) - (((r8_q51906 + v3_q51915) / (360 : Int32)) * (360 : Int32))).toInt ∧ ((r8_q51906 + v3_q51915) - (((r8_q51906 + v3_q51915) / (360 : Int32)) * (360 : Int32))).toInt ≤ 359 from ⟨by omega, by omega⟩), h_r4_q51897_3, trivial⟩
                  · exfalso; omega
    · have l_1 := il_1
      refine wq_eq (fun hc_51933 => ?_) (fun hc_51934 => ?_)
      · unfold fX12_lot_J19
        unfold fX12_lot_J24
        refine wq_b (tt_fX12_right hN r10_q51889.2.1 r10_q51889.2.2.1 r10_q51889.2.2.2 (1 : Int32) (1 : Int32) ⟨by omega, by omega⟩ h_r10_q51889_3) (fun r4_q51935 h_r4_q51935 => ?_)
        obtain ⟨h_r4_q51935_0, h_r4_q51935_1, h_r4_q51935_2, h_r4_q51935_3, -⟩ := h_r4_q51935
        have t_51936 := KX12.i1 h_r4_q51935_3
        refine wq_eq (fun hc_51937 => ?_) (fun hc_51938 => ?_)
        · exact wq_s ⟨(show -1 ≤ (0 : Int32).toInt ∧ (0 : Int32).toInt ≤ 359 from ⟨by omega, by omega⟩), h_r4_q51935_3, trivial⟩
        · have l_20 := il_20
          have t_51940 := ia_mul (20 : Int32) (20) il_20 x1 (by omega) (by omega)
          have t_51941 := ia_add ((20 : Int32) * x1) x2 (by omega) (by omega)
          refine wq_v (fun v5_q51939 h_v5_q51939 => ?_)
          have t_v5_q51939 := congrArg Int32.toInt h_v5_q51939
          refine wq_b (tt_fX12_at hN r4_q51935.2.1 r4_q51935.2.2.1 r4_q51935.2.2.2 v5_q51939 (0 : Int32) ⟨by omega, by omega⟩ ⟨by omega, by omega⟩ h_r4_q51935_3) (fun r6_q51942 h_r6_q51942 => ?_)
          obtain ⟨h_r6_q51942_0, h_r6_q51942_1, h_r6_q51942_2, -⟩ := h_r6_q51942
          refine wq_b (tt_fX12_at hN r4_q51935.2.1 r4_q51935.2.2.1 r4_q51935.2.2.2 v5_q51939 (1 : Int32) ⟨by omega, by omega⟩ ⟨by omega, by omega⟩ h_r4_q51935_3) (fun r7_q51943 h_r7_q51943 => ?_)
          obtain ⟨h_r7_q51943_0, h_r7_q51943_1, h_r7_q51943_2, -⟩ := h_r7_q51943
          have l_7 := il_7
          refine wq_b (tt_fX12_at hN r4_q51935.2.1 r4_q51935.2.2.1 r4_q51935.2.2.2 v5_q51939 (7 : Int32) ⟨by omega, by omega⟩ ⟨by omega, by omega⟩ h_r4_q51935_3) (fun r8_q51944 h_r8_q51944 => ?_)
          obtain ⟨h_r8_q51944_0, h_r8_q51944_1, h_r8_q51944_2, -⟩ := h_r8_q51944
          have l_m1 := il_m1
          refine wq_eq (fun hc_51945 => ?_) (fun hc_51946 => ?_)
          · exact wq_s ⟨(show -1 ≤ (-1 : Int32).toInt ∧ (-1 : Int32).toInt ≤ 359 from ⟨by omega, by omega⟩), h_r4_q51935_3, trivial⟩
          · refine wq_eq (fun hc_51947 => ?_) (fun hc_51948 => ?_)
            · exact wq_s ⟨(show -1 ≤ (-1 : Int32).toInt ∧ (-1 : Int32).toInt ≤ 359 from ⟨by omega, by omega⟩), h_r4_q51935_3, trivial⟩
            · refine wq_eq (fun hc_51949 => ?_) (fun hc_51950 => ?_)
              · exact wq_s ⟨(show -1 ≤ (-1 : Int32).toInt ∧ (-1 : Int32).toInt ≤ 359 from ⟨by omega, by omega⟩), h_r4_q51935_3, trivial⟩
              · refine wq_eq (fun hc_51951 => ?_) (fun hc_51952 => ?_)
                · have l_8 := il_8
                  refine wq_b (tt_fX12_at hN r4_q51935.2.1 r4_q51935.2.2.1 r4_q51935.2.2.2 v5_q51939 (8 : Int32) ⟨by omega, by omega⟩ ⟨by omega, by omega⟩ h_r4_q51935_3) (fun r9b_q51953 h_r9b_q51953 => ?_)
                  obtain ⟨h_r9b_q51953_0, h_r9b_q51953_1, h_r9b_q51953_2, -⟩ := h_r9b_q51953
                  refine wq_eq (fun hc_51954 => ?_) (fun hc_51955 => ?_)
                  · exact wq_s ⟨(show -1 ≤ (-1 : Int32).toInt ∧ (-1 : Int32).toInt ≤ 359 from ⟨by omega, by omega⟩), h_r4_q51935_3, trivial⟩
                  · unfold fX12_lot_J106
                    have t_51957 := ia_sub r7_q51943 r6_q51942 (by omega) (by omega)
                    have l_360 := il_360
                    have t_51958 := ia_add (r7_q51943 - r6_q51942) (360 : Int32) (by omega) (by omega)
                    have t_51959 := ia_rem ((r7_q51943 - r6_q51942) + (360 : Int32)) (360 : Int32) 360 il_360 (by decide) (by omega)
                    refine wq_v (fun v3_q51956 h_v3_q51956 => ?_)
                    have t_v3_q51956 := congrArg Int32.toInt h_v3_q51956
                    have bv3 : 0 ≤ v3_q51956.toInt ∧ v3_q51956.toInt ≤ 359 := ⟨by omega, by omega⟩
                    clear t_51957 t_51958 t_51959 t_v3_q51956
                    have l_180 := il_180
                    have t_51960 := ia_sub r8_q51944 r6_q51942 (by omega) (by omega)
                    have t_51961 := ia_add (r8_q51944 - r6_q51942) (360 : Int32) (by omega) (by omega)
                    have t_51962 := ia_rem ((r8_q51944 - r6_q51942) + (360 : Int32)) (360 : Int32) 360 il_360 (by decide) (by omega)
                    clear t_51960 t_51961 t_51962
                    refine wq_le (fun hc_51963 => ?_) (fun hc_51964 => ?_)
                    · unfold fX12_lot_J165
                      refine wq_eq (fun hc_51965 => ?_) (fun hc_51966 => ?_)
                      · exfalso; omega
                      · refine wq_b (tt_fX12_at hN r4_q51935.2.1 r4_q51935.2.2.1 r4_q51935.2.2.2 v5_q51939 (8 : Int32) ⟨by omega, by omega⟩ ⟨by omega, by omega⟩ h_r4_q51935_3) (fun r1_q51967 h_r1_q51967 => ?_)
                        obtain ⟨h_r1_q51967_0, h_r1_q51967_1, h_r1_q51967_2, -⟩ := h_r1_q51967
                        have t_51968 := ia_sub r8_q51944 v3_q51956 (by omega) (by omega)
                        have t_51969 := ia_add (r8_q51944 - v3_q51956) (360 : Int32) (by omega) (by omega)
                        have t_51970 := ia_rem ((r8_q51944 - v3_q51956) + (360 : Int32)) (360 : Int32) 360 il_360 (by decide) (by omega)
                        refine wq_b (tt_fX12_costOf hN r4_q51935.2.1 r4_q51935.2.2.1 r4_q51935.2.2.2 r1_q51967 (((r8_q51944 - v3_q51956) + (360 : Int32)) - ((((r8_q51944 - v3_q51956) + (360 : Int32)) / (360 : Int32)) * (360 : Int32))) ⟨by omega, by omega⟩ h_r4_q51935_3) (fun r2_q51971 h_r2_q51971 => ?_)
                        obtain ⟨h_r2_q51971_0, -⟩ := h_r2_q51971
                        exact wq_s ⟨(show -1 ≤ r2_q51971.toInt ∧ r2_q51971.toInt ≤ 359 from ⟨by omega, by omega⟩), h_r4_q51935_3, trivial⟩
                    · unfold fX12_lot_J165
                      refine wq_eq (fun hc_51972 => ?_) (fun hc_51973 => ?_)
                      · exfalso; omega
                      · refine wq_b (tt_fX12_at hN r4_q51935.2.1 r4_q51935.2.2.1 r4_q51935.2.2.2 v5_q51939 (8 : Int32) ⟨by omega, by omega⟩ ⟨by omega, by omega⟩ h_r4_q51935_3) (fun r1_q51974 h_r1_q51974 => ?_)
                        obtain ⟨h_r1_q51974_0, h_r1_q51974_1, h_r1_q51974_2, -⟩ := h_r1_q51974
                        have t_51975 := ia_add r8_q51944 v3_q51956 (by omega) (by omega)
                        have t_51976 := ia_rem (r8_q51944 + v3_q51956) (360 : Int32) 360 il_360 (by decide) (by omega)
                        refine wq_b (tt_fX12_costOf hN r4_q51935.2.1 r4_q51935.2.2.1 r4_q51935.2.2.2 r1_q51974 ((r8_q51944 + v3_q51956) - (((r8_q51944 + v3_q51956) / (360 : Int32)) * (360 : Int32))) ⟨by omega, by omega⟩ h_r4_q51935_3) (fun r2_q51977 h_r2_q51977 => ?_)
                        obtain ⟨h_r2_q51977_0, -⟩ := h_r2_q51977
                        exact wq_s ⟨(show -1 ≤ r2_q51977.toInt ∧ r2_q51977.toInt ≤ 359 from ⟨by omega, by omega⟩), h_r4_q51935_3, trivial⟩
                · exfalso; omega
      · unfold fX12_lot_J24
        refine wq_b (tt_fX12_right hN r10_q51889.2.1 r10_q51889.2.2.1 r10_q51889.2.2.2 (0 : Int32) (1 : Int32) ⟨by omega, by omega⟩ h_r10_q51889_3) (fun r4_q51978 h_r4_q51978 => ?_)
        obtain ⟨h_r4_q51978_0, h_r4_q51978_1, h_r4_q51978_2, h_r4_q51978_3, -⟩ := h_r4_q51978
        have t_51979 := KX12.i1 h_r4_q51978_3
        refine wq_eq (fun hc_51980 => ?_) (fun hc_51981 => ?_)
        · exact wq_s ⟨(show -1 ≤ (0 : Int32).toInt ∧ (0 : Int32).toInt ≤ 359 from ⟨by omega, by omega⟩), h_r4_q51978_3, trivial⟩
        · have l_20 := il_20
          have t_51983 := ia_mul (20 : Int32) (20) il_20 x1 (by omega) (by omega)
          have t_51984 := ia_add ((20 : Int32) * x1) x2 (by omega) (by omega)
          refine wq_v (fun v5_q51982 h_v5_q51982 => ?_)
          have t_v5_q51982 := congrArg Int32.toInt h_v5_q51982
          refine wq_b (tt_fX12_at hN r4_q51978.2.1 r4_q51978.2.2.1 r4_q51978.2.2.2 v5_q51982 (0 : Int32) ⟨by omega, by omega⟩ ⟨by omega, by omega⟩ h_r4_q51978_3) (fun r6_q51985 h_r6_q51985 => ?_)
          obtain ⟨h_r6_q51985_0, h_r6_q51985_1, h_r6_q51985_2, -⟩ := h_r6_q51985
          refine wq_b (tt_fX12_at hN r4_q51978.2.1 r4_q51978.2.2.1 r4_q51978.2.2.2 v5_q51982 (1 : Int32) ⟨by omega, by omega⟩ ⟨by omega, by omega⟩ h_r4_q51978_3) (fun r7_q51986 h_r7_q51986 => ?_)
          obtain ⟨h_r7_q51986_0, h_r7_q51986_1, h_r7_q51986_2, -⟩ := h_r7_q51986
          have l_7 := il_7
          refine wq_b (tt_fX12_at hN r4_q51978.2.1 r4_q51978.2.2.1 r4_q51978.2.2.2 v5_q51982 (7 : Int32) ⟨by omega, by omega⟩ ⟨by omega, by omega⟩ h_r4_q51978_3) (fun r8_q51987 h_r8_q51987 => ?_)
          obtain ⟨h_r8_q51987_0, h_r8_q51987_1, h_r8_q51987_2, -⟩ := h_r8_q51987
          have l_m1 := il_m1
          refine wq_eq (fun hc_51988 => ?_) (fun hc_51989 => ?_)
          · exact wq_s ⟨(show -1 ≤ (-1 : Int32).toInt ∧ (-1 : Int32).toInt ≤ 359 from ⟨by omega, by omega⟩), h_r4_q51978_3, trivial⟩
          · refine wq_eq (fun hc_51990 => ?_) (fun hc_51991 => ?_)
            · exact wq_s ⟨(show -1 ≤ (-1 : Int32).toInt ∧ (-1 : Int32).toInt ≤ 359 from ⟨by omega, by omega⟩), h_r4_q51978_3, trivial⟩
            · refine wq_eq (fun hc_51992 => ?_) (fun hc_51993 => ?_)
              · exact wq_s ⟨(show -1 ≤ (-1 : Int32).toInt ∧ (-1 : Int32).toInt ≤ 359 from ⟨by omega, by omega⟩), h_r4_q51978_3, trivial⟩
              · refine wq_eq (fun hc_51994 => ?_) (fun hc_51995 => ?_)
                · have l_8 := il_8
                  refine wq_b (tt_fX12_at hN r4_q51978.2.1 r4_q51978.2.2.1 r4_q51978.2.2.2 v5_q51982 (8 : Int32) ⟨by omega, by omega⟩ ⟨by omega, by omega⟩ h_r4_q51978_3) (fun r9b_q51996 h_r9b_q51996 => ?_)
                  obtain ⟨h_r9b_q51996_0, h_r9b_q51996_1, h_r9b_q51996_2, -⟩ := h_r9b_q51996
                  refine wq_eq (fun hc_51997 => ?_) (fun hc_51998 => ?_)
                  · exact wq_s ⟨(show -1 ≤ (-1 : Int32).toInt ∧ (-1 : Int32).toInt ≤ 359 from ⟨by omega, by omega⟩), h_r4_q51978_3, trivial⟩
                  · unfold fX12_lot_J106
                    have t_52000 := ia_sub r7_q51986 r6_q51985 (by omega) (by omega)
                    have l_360 := il_360
                    have t_52001 := ia_add (r7_q51986 - r6_q51985) (360 : Int32) (by omega) (by omega)
                    have t_52002 := ia_rem ((r7_q51986 - r6_q51985) + (360 : Int32)) (360 : Int32) 360 il_360 (by decide) (by omega)
                    refine wq_v (fun v3_q51999 h_v3_q51999 => ?_)
                    have t_v3_q51999 := congrArg Int32.toInt h_v3_q51999
                    have bv3 : 0 ≤ v3_q51999.toInt ∧ v3_q51999.toInt ≤ 359 := ⟨by omega, by omega⟩
                    clear t_52000 t_52001 t_52002 t_v3_q51999
                    have l_180 := il_180
                    have t_52003 := ia_sub r8_q51987 r6_q51985 (by omega) (by omega)
                    have t_52004 := ia_add (r8_q51987 - r6_q51985) (360 : Int32) (by omega) (by omega)
                    have t_52005 := ia_rem ((r8_q51987 - r6_q51985) + (360 : Int32)) (360 : Int32) 360 il_360 (by decide) (by omega)
                    clear t_52003 t_52004 t_52005
                    refine wq_le (fun hc_52006 => ?_) (fun hc_52007 => ?_)
                    · unfold fX12_lot_J165
                      refine wq_eq (fun hc_52008 => ?_) (fun hc_52009 => ?_)
                      · exfalso; omega
                      · refine wq_b (tt_fX12_at hN r4_q51978.2.1 r4_q51978.2.2.1 r4_q51978.2.2.2 v5_q51982 (8 : Int32) ⟨by omega, by omega⟩ ⟨by omega, by omega⟩ h_r4_q51978_3) (fun r1_q52010 h_r1_q52010 => ?_)
                        obtain ⟨h_r1_q52010_0, h_r1_q52010_1, h_r1_q52010_2, -⟩ := h_r1_q52010
                        have t_52011 := ia_sub r8_q51987 v3_q51999 (by omega) (by omega)
                        have t_52012 := ia_add (r8_q51987 - v3_q51999) (360 : Int32) (by omega) (by omega)
                        have t_52013 := ia_rem ((r8_q51987 - v3_q51999) + (360 : Int32)) (360 : Int32) 360 il_360 (by decide) (by omega)
                        refine wq_b (tt_fX12_costOf hN r4_q51978.2.1 r4_q51978.2.2.1 r4_q51978.2.2.2 r1_q52010 (((r8_q51987 - v3_q51999) + (360 : Int32)) - ((((r8_q51987 - v3_q51999) + (360 : Int32)) / (360 : Int32)) * (360 : Int32))) ⟨by omega, by omega⟩ h_r4_q51978_3) (fun r2_q52014 h_r2_q52014 => ?_)
                        obtain ⟨h_r2_q52014_0, -⟩ := h_r2_q52014
                        exact wq_s ⟨(show -1 ≤ r2_q52014.toInt ∧ r2_q52014.toInt ≤ 359 from ⟨by omega, by omega⟩), h_r4_q51978_3, trivial⟩
                    · unfold fX12_lot_J165
                      refine wq_eq (fun hc_52015 => ?_) (fun hc_52016 => ?_)
                      · exfalso; omega
                      · refine wq_b (tt_fX12_at hN r4_q51978.2.1 r4_q51978.2.2.1 r4_q51978.2.2.2 v5_q51982 (8 : Int32) ⟨by omega, by omega⟩ ⟨by omega, by omega⟩ h_r4_q51978_3) (fun r1_q52017 h_r1_q52017 => ?_)
                        obtain ⟨h_r1_q52017_0, h_r1_q52017_1, h_r1_q52017_2, -⟩ := h_r1_q52017
                        have t_52018 := ia_add r8_q51987 v3_q51999 (by omega) (by omega)
                        have t_52019 := ia_rem (r8_q51987 + v3_q51999) (360 : Int32) 360 il_360 (by decide) (by omega)
                        refine wq_b (tt_fX12_costOf hN r4_q51978.2.1 r4_q51978.2.2.1 r4_q51978.2.2.2 r1_q52017 ((r8_q51987 + v3_q51999) - (((r8_q51987 + v3_q51999) / (360 : Int32)) * (360 : Int32))) ⟨by omega, by omega⟩ h_r4_q51978_3) (fun r2_q52020 h_r2_q52020 => ?_)
                        obtain ⟨h_r2_q52020_0, -⟩ := h_r2_q52020
                        exact wq_s ⟨(show -1 ≤ r2_q52020.toInt ∧ r2_q52020.toInt ≤ 359 from ⟨by omega, by omega⟩), h_r4_q51978_3, trivial⟩
                · unfold fX12_lot_J106
                  have t_52022 := ia_sub r7_q51986 r6_q51985 (by omega) (by omega)
                  have l_360 := il_360
                  have t_52023 := ia_add (r7_q51986 - r6_q51985) (360 : Int32) (by omega) (by omega)
                  have t_52024 := ia_rem ((r7_q51986 - r6_q51985) + (360 : Int32)) (360 : Int32) 360 il_360 (by decide) (by omega)
                  refine wq_v (fun v3_q52021 h_v3_q52021 => ?_)
                  have t_v3_q52021 := congrArg Int32.toInt h_v3_q52021
                  have bv3 : 0 ≤ v3_q52021.toInt ∧ v3_q52021.toInt ≤ 359 := ⟨by omega, by omega⟩
                  clear t_52022 t_52023 t_52024 t_v3_q52021
                  have l_180 := il_180
                  have t_52025 := ia_sub r8_q51987 r6_q51985 (by omega) (by omega)
                  have t_52026 := ia_add (r8_q51987 - r6_q51985) (360 : Int32) (by omega) (by omega)
                  have t_52027 := ia_rem ((r8_q51987 - r6_q51985) + (360 : Int32)) (360 : Int32) 360 il_360 (by decide) (by omega)
                  clear t_52025 t_52026 t_52027
                  refine wq_le (fun hc_52028 => ?_) (fun hc_52029 => ?_)
                  · unfold fX12_lot_J165
                    refine wq_eq (fun hc_52030 => ?_) (fun hc_52031 => ?_)
                    · have t_52032 := ia_sub r8_q51987 v3_q52021 (by omega) (by omega)
                      have t_52033 := ia_add (r8_q51987 - v3_q52021) (360 : Int32) (by omega) (by omega)
                      have t_52034 := ia_rem ((r8_q51987 - v3_q52021) + (360 : Int32)) (360 : Int32) 360 il_360 (by decide) (by omega)
                      exact wq_s ⟨(show -1 ≤ (((r8_q51987 - v3_q52021) + (360 : Int32)) - ((((r8_q51987 - v3_q52021) + (360 : Int32)) / (360 : Int32)) * (360 : Int32))).toInt ∧ (((r8_q51987 - v3_q52021) + (360 : Int32)) - ((((r8_q51987 - v3_q52021) + (360 : Int32)) / (360 : Int32)) * (360 : Int32))).toInt ≤ 359 from ⟨by omega, by omega⟩), h_r4_q51978_3, trivial⟩
                    · have l_8 := il_8
                      refine wq_b (tt_fX12_at hN r4_q51978.2.1 r4_q51978.2.2.1 r4_q51978.2.2.2 v5_q51982 (8 : Int32) ⟨by omega, by omega⟩ ⟨by omega, by omega⟩ h_r4_q51978_3) (fun r1_q52035 h_r1_q52035 => ?_)
                      obtain ⟨h_r1_q52035_0, h_r1_q52035_1, h_r1_q52035_2, -⟩ := h_r1_q52035
                      have t_52036 := ia_sub r8_q51987 v3_q52021 (by omega) (by omega)
                      have t_52037 := ia_add (r8_q51987 - v3_q52021) (360 : Int32) (by omega) (by omega)
                      have t_52038 := ia_rem ((r8_q51987 - v3_q52021) + (360 : Int32)) (360 : Int32) 360 il_360 (by decide) (by omega)
                      refine wq_b (tt_fX12_costOf hN r4_q51978.2.1 r4_q51978.2.2.1 r4_q51978.2.2.2 r1_q52035 (((r8_q51987 - v3_q52021) + (360 : Int32)) - ((((r8_q51987 - v3_q52021) + (360 : Int32)) / (360 : Int32)) * (360 : Int32))) ⟨by omega, by omega⟩ h_r4_q51978_3) (fun r2_q52039 h_r2_q52039 => ?_)
                      obtain ⟨h_r2_q52039_0, -⟩ := h_r2_q52039
                      exact wq_s ⟨(show -1 ≤ r2_q52039.toInt ∧ r2_q52039.toInt ≤ 359 from ⟨by omega, by omega⟩), h_r4_q51978_3, trivial⟩
                  · unfold fX12_lot_J165
                    refine wq_eq (fun hc_52040 => ?_) (fun hc_52041 => ?_)
                    · have t_52042 := ia_add r8_q51987 v3_q52021 (by omega) (by omega)
                      have t_52043 := ia_rem (r8_q51987 + v3_q52021) (360 : Int32) 360 il_360 (by decide) (by omega)
                      exact wq_s ⟨(show -1 ≤ ((r8_q51987 + v3_q52021) - (((r8_q51987 + v3_q52021) / (360 : Int32)) * (360 : Int32))).toInt ∧ ((r8_q51987 + v3_q52021) - (((r8_q51987 + v3_q52021) / (360 : Int32)) * (360 : Int32))).toInt ≤ 359 from ⟨by omega, by omega⟩), h_r4_q51978_3, trivial⟩
                    · have l_8 := il_8
                      refine wq_b (tt_fX12_at hN r4_q51978.2.1 r4_q51978.2.2.1 r4_q51978.2.2.2 v5_q51982 (8 : Int32) ⟨by omega, by omega⟩ ⟨by omega, by omega⟩ h_r4_q51978_3) (fun r1_q52044 h_r1_q52044 => ?_)
                      obtain ⟨h_r1_q52044_0, h_r1_q52044_1, h_r1_q52044_2, -⟩ := h_r1_q52044
                      have t_52045 := ia_add r8_q51987 v3_q52021 (by omega) (by omega)
                      have t_52046 := ia_rem (r8_q51987 + v3_q52021) (360 : Int32) 360 il_360 (by decide) (by omega)
                      refine wq_b (tt_fX12_costOf hN r4_q51978.2.1 r4_q51978.2.2.1 r4_q51978.2.2.2 r1_q52044 ((r8_q51987 + v3_q52021) - (((r8_q51987 + v3_q52021) / (360 : Int32)) * (360 : Int32))) ⟨by omega, by omega⟩ h_r4_q51978_3) (fun r2_q52047 h_r2_q52047 => ?_)
                      obtain ⟨h_r2_q52047_0, -⟩ := h_r2_q52047
                      exact wq_s ⟨(show -1 ≤ r2_q52047.toInt ∧ r2_q52047.toInt ≤ 359 from ⟨by omega, by omega⟩), h_r4_q51978_3, trivial⟩
set_option maxHeartbeats 4000000 in
theorem tt_fX12_priceOf {N : Nat} (hN : 3000000000 ≤ N) (I0 : Nat → Int32) (L0 : Int64) (M0 : Nat → Nat → Int32) (x1 : Int32) (x2 : Int32) (x3 : Int32) (h_x1 : -1 ≤ x1.toInt ∧ x1.toInt ≤ 389) (h_x2 : -1 ≤ x2.toInt ∧ x2.toInt ≤ 389) (k_I0 : KX12 I0 M0) : wq (fX12_priceOf N I0 L0 M0 x1 x2 x3) (fun r => (0 ≤ r.toInt ∧ r.toInt ≤ 4) ∧ True) := by
  unfold fX12_priceOf
  refine wq_eq (fun hc_52120 => ?_) (fun hc_52121 => ?_)
  · have l_0 := il_0
    exact wq_s ⟨(show 0 ≤ (0 : Int32).toInt ∧ (0 : Int32).toInt ≤ 4 from ⟨by omega, by omega⟩), trivial⟩
  · have l_m1 := il_m1
    refine wq_eq (fun hc_52122 => ?_) (fun hc_52123 => ?_)
    · have l_1 := il_1
      exact wq_s ⟨(show 0 ≤ (1 : Int32).toInt ∧ (1 : Int32).toInt ≤ 4 from ⟨by omega, by omega⟩), trivial⟩
    · refine wq_eq (fun hc_52124 => ?_) (fun hc_52125 => ?_)
      · have l_4 := il_4
        exact wq_s ⟨(show 0 ≤ (4 : Int32).toInt ∧ (4 : Int32).toInt ≤ 4 from ⟨by omega, by omega⟩), trivial⟩
      · have b_52126 := i32b x3
        have l_21 := il_21
        refine wq_eq (fun hc_52127 => ?_) (fun hc_52128 => ?_)
        · have l_3 := il_3
          exact wq_s ⟨(show 0 ≤ (3 : Int32).toInt ∧ (3 : Int32).toInt ≤ 4 from ⟨by omega, by omega⟩), trivial⟩
        · refine wq_b (tt_fX12_costOf hN I0 L0 M0 x2 x1 ⟨by omega, by omega⟩ k_I0) (fun r1_q52129 h_r1_q52129 => ?_)
          obtain ⟨h_r1_q52129_0, -⟩ := h_r1_q52129
          have l_1 := il_1
          refine wq_eq (fun hc_52130 => ?_) (fun hc_52131 => ?_)
          · exact wq_s ⟨(show 0 ≤ (1 : Int32).toInt ∧ (1 : Int32).toInt ≤ 4 from ⟨by omega, by omega⟩), trivial⟩
          · have l_3 := il_3
            exact wq_s ⟨(show 0 ≤ (3 : Int32).toInt ∧ (3 : Int32).toInt ≤ 4 from ⟨by omega, by omega⟩), trivial⟩
set_option maxHeartbeats 4000000 in
theorem tt_fX12_priceAll_L15 {N : Nat} (hN : 3000000000 ≤ N) (I0 : Nat → Int32) (L0 : Int64) (M0 : Nat → Nat → Int32) (x1 : Int32) (x2 : Int32) (y5_4 : Int32) (g5 : Int32 → Int32 → Option (Int32)) (h_x1 : 0 ≤ x1.toInt ∧ x1.toInt ≤ 5) (h_x2 : 0 ≤ x2.toInt ∧ x2.toInt ≤ 5) (h_y5_4 : 0 ≤ y5_4.toInt ∧ y5_4.toInt ≤ 19) (k_I0 : KX12 I0 M0) (hg5 : ∀ (q0 : Int32) (q1 : Int32), (0 ≤ q1.toInt ∧ q1.toInt ≤ 20) → (y5_4.toInt < q1.toInt) → wq (g5 q0 q1) (fun r => True)) : ∀ (fu : Nat) (y15_3 : Int32) (y15_5 : Int32), (0 ≤ y15_5.toInt ∧ y15_5.toInt ≤ 22) → (22 - y15_5.toInt) < (fu : Int) → wq (fX12_priceAll_L15 N I0 L0 M0 x1 x2 y5_4 g5 fu y15_3 y15_5) (fun r => True) := by
  intro fu
  induction fu with
  | zero => intro y15_3 y15_5 h_y15_5 hm; exfalso; omega
  | succ fu ih =>
    intro y15_3 y15_5 h_y15_5 hm
    rw [fX12_priceAll_L15.eq_2]
    have l_22 := il_22
    refine wq_le (fun hc_52515 => ?_) (fun hc_52516 => ?_)
    · have l_1 := il_1
      have t_52518 := ia_add y5_4 (1 : Int32) (by omega) (by omega)
      refine wq_v (fun v1_q52517 h_v1_q52517 => ?_)
      have t_v1_q52517 := congrArg Int32.toInt h_v1_q52517
      have b_52519 := i32b y15_3
      exact hg5 y15_3 v1_q52517 ⟨by omega, by omega⟩ (by omega)
    · have l_20 := il_20
      have t_52520 := ia_mul (20 : Int32) (20) il_20 x1 (by omega) (by omega)
      have t_52521 := ia_add ((20 : Int32) * x1) y5_4 (by omega) (by omega)
      refine wq_b (tt_fX12_at hN I0 L0 M0 (((20 : Int32) * x1) + y5_4) y15_5 ⟨by omega, by omega⟩ ⟨by omega, by omega⟩ k_I0) (fun r2_q52522 h_r2_q52522 => ?_)
      obtain ⟨h_r2_q52522_0, h_r2_q52522_1, h_r2_q52522_2, -⟩ := h_r2_q52522
      have t_52523 := ia_mul (20 : Int32) (20) il_20 x2 (by omega) (by omega)
      have t_52524 := ia_add ((20 : Int32) * x2) y5_4 (by omega) (by omega)
      refine wq_b (tt_fX12_at hN I0 L0 M0 (((20 : Int32) * x2) + y5_4) y15_5 ⟨by omega, by omega⟩ ⟨by omega, by omega⟩ k_I0) (fun r3_q52525 h_r3_q52525 => ?_)
      obtain ⟨h_r3_q52525_0, h_r3_q52525_1, h_r3_q52525_2, -⟩ := h_r3_q52525
      refine wq_b (tt_fX12_priceOf hN I0 L0 M0 r2_q52522 r3_q52525 y15_5 ⟨by omega, by omega⟩ ⟨by omega, by omega⟩ k_I0) (fun r4_q52526 h_r4_q52526 => ?_)
      obtain ⟨h_r4_q52526_0, -⟩ := h_r4_q52526
      have b_52528 := i32b y15_3
      refine wq_v (fun v5_q52527 h_v5_q52527 => ?_)
      have t_v5_q52527 := congrArg Int32.toInt h_v5_q52527
      have l_1 := il_1
      have t_52530 := ia_add y15_5 (1 : Int32) (by omega) (by omega)
      refine wq_v (fun v6_q52529 h_v6_q52529 => ?_)
      have t_v6_q52529 := congrArg Int32.toInt h_v6_q52529
      have b_52531 := i32b v5_q52527
      exact ih v5_q52527 v6_q52529 ⟨by omega, by omega⟩ (by omega)
set_option maxHeartbeats 4000000 in
theorem tt_fX12_priceAll_L5 {N : Nat} (hN : 3000000000 ≤ N) (I0 : Nat → Int32) (L0 : Int64) (M0 : Nat → Nat → Int32) (x1 : Int32) (x2 : Int32) (h_x1 : 0 ≤ x1.toInt ∧ x1.toInt ≤ 5) (h_x2 : 0 ≤ x2.toInt ∧ x2.toInt ≤ 5) (k_I0 : KX12 I0 M0)  : ∀ (fu : Nat) (y5_3 : Int32) (y5_4 : Int32), (0 ≤ y5_4.toInt ∧ y5_4.toInt ≤ 20) → (20 - y5_4.toInt) < (fu : Int) → wq (fX12_priceAll_L5 N I0 L0 M0 x1 x2 fu y5_3 y5_4) (fun r => True) := by
  intro fu
  induction fu with
  | zero => intro y5_3 y5_4 h_y5_4 hm; exfalso; omega
  | succ fu ih =>
    intro y5_3 y5_4 h_y5_4 hm
    rw [fX12_priceAll_L5.eq_2]
    have l_20 := il_20
    refine wq_le (fun hc_52532 => ?_) (fun hc_52533 => ?_)
    · have b_52534 := i32b y5_3
      exact wq_s trivial
    · have b_52535 := i32b y5_3
      have l_0 := il_0
      exact tt_fX12_priceAll_L15 hN I0 L0 M0 x1 x2 y5_4 _ ⟨by omega, by omega⟩ ⟨by omega, by omega⟩ ⟨by omega, by omega⟩ k_I0 (fun q0 q1 hq0 hq1 => ih q0 q1 hq0 (by omega)) N y5_3 (0 : Int32) ⟨by omega, by omega⟩ (by omega)
set_option maxHeartbeats 4000000 in
theorem tt_fX12_priceAll {N : Nat} (hN : 3000000000 ≤ N) (I0 : Nat → Int32) (L0 : Int64) (M0 : Nat → Nat → Int32) (x1 : Int32) (x2 : Int32) (h_x1 : 0 ≤ x1.toInt ∧ x1.toInt ≤ 5) (h_x2 : 0 ≤ x2.toInt ∧ x2.toInt ≤ 5) (k_I0 : KX12 I0 M0) : wq (fX12_priceAll N I0 L0 M0 x1 x2) (fun r => True) := by
  unfold fX12_priceAll
  have l_0 := il_0
  exact tt_fX12_priceAll_L5 hN I0 L0 M0 x1 x2 ⟨by omega, by omega⟩ ⟨by omega, by omega⟩ k_I0 N (0 : Int32) (0 : Int32) ⟨by omega, by omega⟩ (by omega)
set_option maxHeartbeats 4000000 in
theorem tt_fX12_price {N : Nat} (hN : 3000000000 ≤ N) (I0 : Nat → Int32) (L0 : Int64) (M0 : Nat → Nat → Int32) (x1 : Int32) (x2 : Int32) (k_I0 : KX12 I0 M0) : wq (fX12_price N I0 L0 M0 x1 x2) (fun r => KX12 r.2.1 r.2.2.2 ∧ True) := by
  unfold fX12_price
  refine wq_v (fun I0_1_q52626 h_I0_1_q52626 => ?_)
  have k_I0_1_q52626 : KX12 I0_1_q52626 M0 := by rw [h_I0_1_q52626]; exact KX12.si0 k_I0
  have b_52627 := i32b x1
  refine wq_b (tt_fX12_isBook hN I0_1_q52626 L0 M0 x1 k_I0_1_q52626) (fun r2_q52628 h_r2_q52628 => ?_)
  obtain ⟨h_r2_q52628_0, h_r2_q52628_1, h_r2_q52628_2, h_r2_q52628_3, -⟩ := h_r2_q52628
  have t_52629 := KX12.i1 h_r2_q52628_3
  have t_52630 := KX12.i1 k_I0
  have t_52631 : (I0_1_q52626 1).toInt = (I0 1).toInt := by rw [h_I0_1_q52626]; rfl
  have l_0 := il_0
  refine wq_eq (fun hc_52632 => ?_) (fun hc_52633 => ?_)
  · exact wq_s ⟨h_r2_q52628_3, trivial⟩
  · have b_52634 := i32b x2
    refine wq_b (tt_fX12_isBook hN r2_q52628.2.1 r2_q52628.2.2.1 r2_q52628.2.2.2 x2 h_r2_q52628_3) (fun r3_q52635 h_r3_q52635 => ?_)
    obtain ⟨h_r3_q52635_0, h_r3_q52635_1, h_r3_q52635_2, h_r3_q52635_3, -⟩ := h_r3_q52635
    have t_52636 := KX12.i1 h_r3_q52635_3
    refine wq_eq (fun hc_52637 => ?_) (fun hc_52638 => ?_)
    · exact wq_s ⟨h_r3_q52635_3, trivial⟩
    · refine wq_b (tt_fX12_priceAll hN r3_q52635.2.1 r3_q52635.2.2.1 r3_q52635.2.2.2 x1 x2 ⟨by omega, by omega⟩ ⟨by omega, by omega⟩ h_r3_q52635_3) (fun r4_q52639 h_r4_q52639 => ?_)
      obtain ⟨-⟩ := h_r4_q52639
      have b_52640 := i32b r4_q52639
      exact wq_s ⟨h_r3_q52635_3, trivial⟩
set_option maxHeartbeats 4000000 in
theorem tt_fX12_isTree_L76 {N : Nat} (hN : 3000000000 ≤ N) (I0 : Nat → Int32) (L0 : Int64) (M0 : Nat → Nat → Int32) (y71_1 : Int32) (y71_2 : Int32) (g4 : Int32 → Int32 → Option (Int32)) (h_y71_2 : 0 ≤ y71_2.toInt ∧ y71_2.toInt ≤ 5) (k_I0 : KX12 I0 M0) (hg4 : ∀ (q0 : Int32) (q1 : Int32), (0 ≤ q1.toInt ∧ q1.toInt ≤ 6) → (y71_2.toInt < q1.toInt) → wq (g4 q0 q1) (fun r => (0 ≤ r.toInt ∧ r.toInt ≤ 1) ∧ True)) : ∀ (fu : Nat) (y76_3 : Int32) (y76_4 : Int32), (0 ≤ y76_3.toInt ∧ y76_3.toInt ≤ 5) → (0 ≤ y76_4.toInt ∧ y76_4.toInt ≤ 6) → (6 - y76_4.toInt) < (fu : Int) → wq (fX12_isTree_L76 N I0 L0 M0 y71_1 y71_2 g4 fu y76_3 y76_4) (fun r => (0 ≤ r.toInt ∧ r.toInt ≤ 1) ∧ True) := by
  intro fu
  induction fu with
  | zero => intro y76_3 y76_4 h_y76_3 h_y76_4 hm; exfalso; omega
  | succ fu ih =>
    intro y76_3 y76_4 h_y76_3 h_y76_4 hm
    rw [fX12_isTree_L76.eq_2]
    refine wq_in (n := 6) ⟨by omega, by omega⟩ ?_
    have t_53135 := KX12.m24 k_I0 y76_3.toNatClampNeg
    have l_m1 := il_m1
    refine wq_eq (fun hc_53136 => ?_) (fun hc_53137 => ?_)
    · unfold fX12_isTree_J114
      refine wq_in (n := 6) ⟨by omega, by omega⟩ ?_
      refine wq_eq (fun hc_53138 => ?_) (fun hc_53139 => ?_)
      · have l_1 := il_1
        have t_53141 := ia_add y71_2 (1 : Int32) (by omega) (by omega)
        refine wq_v (fun v1_q53140 h_v1_q53140 => ?_)
        have t_v1_q53140 := congrArg Int32.toInt h_v1_q53140
        have b_53142 := i32b y71_1
        exact hg4 y71_1 v1_q53140 ⟨by omega, by omega⟩ (by omega)
      · exfalso; omega
    · have l_6 := il_6
      refine wq_le (fun hc_53143 => ?_) (fun hc_53144 => ?_)
      · unfold fX12_isTree_J114
        refine wq_in (n := 6) ⟨by omega, by omega⟩ ?_
        refine wq_eq (fun hc_53145 => ?_) (fun hc_53146 => ?_)
        · exfalso; omega
        · have l_0 := il_0
          exact wq_s ⟨(show 0 ≤ (0 : Int32).toInt ∧ (0 : Int32).toInt ≤ 1 from ⟨by omega, by omega⟩), trivial⟩
      · refine wq_in (n := 6) ⟨by omega, by omega⟩ ?_
        refine wq_v (fun v2_q53147 h_v2_q53147 => ?_)
        have t_v2_q53147 := congrArg Int32.toInt h_v2_q53147
        have l_1 := il_1
        have t_53149 := ia_add y76_4 (1 : Int32) (by omega) (by omega)
        refine wq_v (fun v3_q53148 h_v3_q53148 => ?_)
        have t_v3_q53148 := congrArg Int32.toInt h_v3_q53148
        refine wq_in (n := 6) ⟨by omega, by omega⟩ ?_
        have l_0 := il_0
        refine wq_eq (fun hc_53150 => ?_) (fun hc_53151 => ?_)
        · exact wq_s ⟨(show 0 ≤ (0 : Int32).toInt ∧ (0 : Int32).toInt ≤ 1 from ⟨by omega, by omega⟩), trivial⟩
        · exact ih v2_q53147 v3_q53148 ⟨by omega, by omega⟩ ⟨by omega, by omega⟩ (by omega)
set_option maxHeartbeats 4000000 in
theorem tt_fX12_isTree_L4 {N : Nat} (hN : 3000000000 ≤ N) (I0 : Nat → Int32) (L0 : Int64) (M0 : Nat → Nat → Int32) (k_I0 : KX12 I0 M0)  : ∀ (fu : Nat) (y4_1 : Int32) (y4_2 : Int32), (0 ≤ y4_2.toInt ∧ y4_2.toInt ≤ 6) → (6 - y4_2.toInt) < (fu : Int) → wq (fX12_isTree_L4 N I0 L0 M0 fu y4_1 y4_2) (fun r => (0 ≤ r.toInt ∧ r.toInt ≤ 1) ∧ True) := by
  intro fu
  induction fu with
  | zero => intro y4_1 y4_2 h_y4_2 hm; exfalso; omega
  | succ fu ih =>
    intro y4_1 y4_2 h_y4_2 hm
    rw [fX12_isTree_L4.eq_2]
    have l_6 := il_6
    refine wq_le (fun hc_53152 => ?_) (fun hc_53153 => ?_)
    · have b_53154 := i32b y4_1
      have l_1 := il_1
      refine wq_eq (fun hc_53155 => ?_) (fun hc_53156 => ?_)
      · exact wq_s ⟨(show 0 ≤ (1 : Int32).toInt ∧ (1 : Int32).toInt ≤ 1 from ⟨by omega, by omega⟩), trivial⟩
      · have l_0 := il_0
        exact wq_s ⟨(show 0 ≤ (0 : Int32).toInt ∧ (0 : Int32).toInt ≤ 1 from ⟨by omega, by omega⟩), trivial⟩
    · refine wq_in (n := 6) ⟨by omega, by omega⟩ ?_
      have l_0 := il_0
      refine wq_eq (fun hc_53157 => ?_) (fun hc_53158 => ?_)
      · have l_1 := il_1
        have t_53160 := ia_add y4_2 (1 : Int32) (by omega) (by omega)
        refine wq_v (fun v5_q53159 h_v5_q53159 => ?_)
        have t_v5_q53159 := congrArg Int32.toInt h_v5_q53159
        have b_53161 := i32b y4_1
        exact ih y4_1 v5_q53159 ⟨by omega, by omega⟩ (by omega)
      · refine wq_in (n := 6) ⟨by omega, by omega⟩ ?_
        have t_53162 := KX12.m24 k_I0 y4_2.toNatClampNeg
        have l_m1 := il_m1
        refine wq_eq (fun hc_53163 => ?_) (fun hc_53164 => ?_)
        · have b_53166 := i32b y4_1
          have l_1 := il_1
          refine wq_v (fun v4_q53165 h_v4_q53165 => ?_)
          have t_v4_q53165 := congrArg Int32.toInt h_v4_q53165
          unfold fX12_isTree_J35
          refine wq_in (n := 6) ⟨by omega, by omega⟩ ?_
          refine wq_eq (fun hc_53167 => ?_) (fun hc_53168 => ?_)
          · unfold fX12_isTree_J71
            have b_53169 := i32b v4_q53165
            exact tt_fX12_isTree_L76 hN I0 L0 M0 v4_q53165 y4_2 _ ⟨by omega, by omega⟩ k_I0 (fun q0 q1 hq0 hq1 => ih q0 q1 hq0 (by omega)) N y4_2 (0 : Int32) ⟨by omega, by omega⟩ ⟨by omega, by omega⟩ (by omega)
          · exfalso; omega
        · unfold fX12_isTree_J35
          refine wq_in (n := 6) ⟨by omega, by omega⟩ ?_
          refine wq_eq (fun hc_53170 => ?_) (fun hc_53171 => ?_)
          · exfalso; omega
          · refine wq_in (n := 6) ⟨by omega, by omega⟩ ?_
            refine wq_in (n := 6) ⟨by omega, by omega⟩ ?_
            refine wq_eq (fun hc_53172 => ?_) (fun hc_53173 => ?_)
            · exact wq_s ⟨(show 0 ≤ (0 : Int32).toInt ∧ (0 : Int32).toInt ≤ 1 from ⟨by omega, by omega⟩), trivial⟩
            · refine wq_in (n := 6) ⟨by omega, by omega⟩ ?_
              refine wq_eq (fun hc_53174 => ?_) (fun hc_53175 => ?_)
              · exact wq_s ⟨(show 0 ≤ (0 : Int32).toInt ∧ (0 : Int32).toInt ≤ 1 from ⟨by omega, by omega⟩), trivial⟩
              · unfold fX12_isTree_J71
                have b_53176 := i32b y4_1
                exact tt_fX12_isTree_L76 hN I0 L0 M0 y4_1 y4_2 _ ⟨by omega, by omega⟩ k_I0 (fun q0 q1 hq0 hq1 => ih q0 q1 hq0 (by omega)) N y4_2 (0 : Int32) ⟨by omega, by omega⟩ ⟨by omega, by omega⟩ (by omega)
set_option maxHeartbeats 4000000 in
theorem tt_fX12_isTree {N : Nat} (hN : 3000000000 ≤ N) (I0 : Nat → Int32) (L0 : Int64) (M0 : Nat → Nat → Int32) (k_I0 : KX12 I0 M0) : wq (fX12_isTree N I0 L0 M0) (fun r => (0 ≤ r.toInt ∧ r.toInt ≤ 1) ∧ True) := by
  unfold fX12_isTree
  have l_0 := il_0
  exact tt_fX12_isTree_L4 hN I0 L0 M0 k_I0 N (0 : Int32) (0 : Int32) ⟨by omega, by omega⟩ (by omega)
set_option maxHeartbeats 4000000 in
theorem tt_fX12_tree_L274 {N : Nat} (hN : 3000000000 ≤ N) (y258_4 : Int32) (y258_7 : Int32) (y94_3 : Int32) (g9 : (Nat → Int32) → Int64 → (Nat → Nat → Int32) → Int32 → Int32 → Option (Int32 × (Nat → Int32) × Int64 × (Nat → Nat → Int32))) (g57 : (Nat → Int32) → Int64 → (Nat → Nat → Int32) → Int32 → Option (Int32 × (Nat → Int32) × Int64 × (Nat → Nat → Int32))) (g94 : (Nat → Int32) → Int64 → (Nat → Nat → Int32) → Int32 → Int32 → Option (Int32 × (Nat → Int32) × Int64 × (Nat → Nat → Int32))) (g115 : (Nat → Int32) → Int64 → (Nat → Nat → Int32) → Int32 → Int32 → Option (Int32 × (Nat → Int32) × Int64 × (Nat → Nat → Int32))) (h_y258_4 : 0 ≤ y258_4.toInt ∧ y258_4.toInt ≤ 2147483646) (h_y94_3 : 1 ≤ y94_3.toInt ∧ y94_3.toInt ≤ 2147483647) (hg115 : ∀ (q0 : (Nat → Int32)) (q1 : Int64) (q2 : (Nat → Nat → Int32)) (q3 : Int32) (q4 : Int32), (0 ≤ q4.toInt ∧ q4.toInt ≤ 2147483647) → (KX12 q0 q2) → (y258_4.toInt < q4.toInt) → wq (g115 q0 q1 q2 q3 q4) (fun r => KX12 r.2.1 r.2.2.2 ∧ True)) : ∀ (fu : Nat) (I0_l274 : (Nat → Int32)) (L0_l274 : Int64) (M0_l274 : (Nat → Nat → Int32)) (y274_8 : Int32), (0 ≤ y274_8.toInt ∧ y274_8.toInt ≤ 6) → (KX12 I0_l274 M0_l274) → (6 - y274_8.toInt) < (fu : Int) → wq (fX12_tree_L274 N y258_4 y258_7 y94_3 g9 g57 g94 g115 fu I0_l274 L0_l274 M0_l274 y274_8) (fun r => KX12 r.2.1 r.2.2.2 ∧ True) := by
  intro fu
  induction fu with
  | zero => intro I0_l274 L0_l274 M0_l274 y274_8 h_y274_8 k_I0_l274 hm; exfalso; omega
  | succ fu ih =>
    intro I0_l274 L0_l274 M0_l274 y274_8 h_y274_8 k_I0_l274 hm
    rw [fX12_tree_L274.eq_2]
    have l_6 := il_6
    refine wq_le (fun hc_55792 => ?_) (fun hc_55793 => ?_)
    · have l_1 := il_1
      have t_55795 := ia_add y258_4 (1 : Int32) (by omega) (by omega)
      refine wq_v (fun v3_q55794 h_v3_q55794 => ?_)
      have t_v3_q55794 := congrArg Int32.toInt h_v3_q55794
      have b_55796 := i32b y258_7
      have b_55797 := i32b v3_q55794
      exact hg115 I0_l274 L0_l274 M0_l274 y258_7 v3_q55794 ⟨by omega, by omega⟩ k_I0_l274 (by omega)
    · refine wq_in (n := 6) ⟨by omega, by omega⟩ ?_
      have l_0 := il_0
      refine wq_eq (fun hc_55798 => ?_) (fun hc_55799 => ?_)
      · refine wq_in (n := 6) ⟨by omega, by omega⟩ ?_
        refine wq_v (fun M0_4_q55800 h_M0_4_q55800 => ?_)
        have l_m2 := il_m2
        have k_M0_4_q55800 : KX12 I0_l274 M0_4_q55800 := by rw [h_M0_4_q55800]; exact KX12.sm23 k_I0_l274 ⟨by omega, by omega⟩
        have l_1 := il_1
        have t_55802 := ia_add y274_8 (1 : Int32) (by omega) (by omega)
        refine wq_v (fun v5_q55801 h_v5_q55801 => ?_)
        have t_v5_q55801 := congrArg Int32.toInt h_v5_q55801
        exact ih I0_l274 L0_l274 M0_4_q55800 v5_q55801 ⟨by omega, by omega⟩ k_M0_4_q55800 (by omega)
      · refine wq_in (n := 6) ⟨by omega, by omega⟩ ?_
        refine wq_in (n := 6) ⟨by omega, by omega⟩ ?_
        refine wq_v (fun M0_6_q55803 h_M0_6_q55803 => ?_)
        have t_55804 := KX12.m24 k_I0_l274 y274_8.toNatClampNeg
        have k_M0_6_q55803 : KX12 I0_l274 M0_6_q55803 := by rw [h_M0_6_q55803]; exact KX12.sm23 k_I0_l274 ⟨by omega, by omega⟩
        have l_1 := il_1
        have t_55806 := ia_add y274_8 (1 : Int32) (by omega) (by omega)
        refine wq_v (fun v7_q55805 h_v7_q55805 => ?_)
        have t_v7_q55805 := congrArg Int32.toInt h_v7_q55805
        exact ih I0_l274 L0_l274 M0_6_q55803 v7_q55805 ⟨by omega, by omega⟩ k_M0_6_q55803 (by omega)

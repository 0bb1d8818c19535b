set_option maxHeartbeats 4000000 in
theorem tt_fX12_lot {N : Nat} (hN : 3000000000 ≤ N) (I0 : Nat → Int32) (L0 : Int64) (M0 : Nat → Nat → Int32) (x1 : Int32) (x2 : Int32) (x3 : Int32) (k_I0 : KX12 I0 M0) : wq (fX12_lot N I0 L0 M0 x1 x2 x3) (fun r => (-1 ≤ r.1.toInt ∧ r.1.toInt ≤ 359) ∧ KX12 r.2.1 r.2.2.2 ∧ True) := by
  unfold fX12_lot
  have b_46961 := i32b x1
  have b_46962 := i32b x2
  refine wq_b (tt_fX12_isWheel hN I0 L0 M0 x1 x2 k_I0) (fun r10_q46963 h_r10_q46963 => ?_)
  obtain ⟨h_r10_q46963_0, h_r10_q46963_1, h_r10_q46963_2, h_r10_q46963_3, -⟩ := h_r10_q46963
  have t_46964 := KX12.i1 h_r10_q46963_3
  have t_46965 := KX12.i1 k_I0
  have l_0 := il_0
  refine wq_eq (fun hc_46966 => ?_) (fun hc_46967 => ?_)
  · exact wq_s ⟨(show -1 ≤ (0 : Int32).toInt ∧ (0 : Int32).toInt ≤ 359 from ⟨by omega, by omega⟩), h_r10_q46963_3, trivial⟩
  · have b_46968 := i32b x3
    refine wq_eq (fun hc_46969 => ?_) (fun hc_46970 => ?_)
    · unfold fX12_lot_J19
      unfold fX12_lot_J24
      have l_1 := il_1
      refine wq_b (tt_fX12_right hN r10_q46963.2.1 r10_q46963.2.2.1 r10_q46963.2.2.2 (1 : Int32) (1 : Int32) ⟨by omega, by omega⟩ h_r10_q46963_3) (fun r4_q46971 h_r4_q46971 => ?_)
      obtain ⟨h_r4_q46971_0, h_r4_q46971_1, h_r4_q46971_2, h_r4_q46971_3, -⟩ := h_r4_q46971
      have t_46972 := KX12.i1 h_r4_q46971_3
      refine wq_eq (fun hc_46973 => ?_) (fun hc_46974 => ?_)
      · exact wq_s ⟨(show -1 ≤ (0 : Int32).toInt ∧ (0 : Int32).toInt ≤ 359 from ⟨by omega, by omega⟩), h_r4_q46971_3, trivial⟩
      · have l_20 := il_20
        have t_46976 := ia_mul (20 : Int32) (20) il_20 x1 (by omega) (by omega)
        have t_46977 := ia_add ((20 : Int32) * x1) x2 (by omega) (by omega)
        refine wq_v (fun v5_q46975 h_v5_q46975 => ?_)
        have t_v5_q46975 := congrArg Int32.toInt h_v5_q46975
        refine wq_b (tt_fX12_at hN r4_q46971.2.1 r4_q46971.2.2.1 r4_q46971.2.2.2 v5_q46975 (0 : Int32) ⟨by omega, by omega⟩ ⟨by omega, by omega⟩ h_r4_q46971_3) (fun r6_q46978 h_r6_q46978 => ?_)
        obtain ⟨h_r6_q46978_0, h_r6_q46978_1, h_r6_q46978_2, -⟩ := h_r6_q46978
        refine wq_b (tt_fX12_at hN r4_q46971.2.1 r4_q46971.2.2.1 r4_q46971.2.2.2 v5_q46975 (1 : Int32) ⟨by omega, by omega⟩ ⟨by omega, by omega⟩ h_r4_q46971_3) (fun r7_q46979 h_r7_q46979 => ?_)
        obtain ⟨h_r7_q46979_0, h_r7_q46979_1, h_r7_q46979_2, -⟩ := h_r7_q46979
        have l_7 := il_7
        refine wq_b (tt_fX12_at hN r4_q46971.2.1 r4_q46971.2.2.1 r4_q46971.2.2.2 v5_q46975 (7 : Int32) ⟨by omega, by omega⟩ ⟨by omega, by omega⟩ h_r4_q46971_3) (fun r8_q46980 h_r8_q46980 => ?_)
        obtain ⟨h_r8_q46980_0, h_r8_q46980_1, h_r8_q46980_2, -⟩ := h_r8_q46980
        have l_m1 := il_m1
        refine wq_eq (fun hc_46981 => ?_) (fun hc_46982 => ?_)
        · exact wq_s ⟨(show -1 ≤ (-1 : Int32).toInt ∧ (-1 : Int32).toInt ≤ 359 from ⟨by omega, by omega⟩), h_r4_q46971_3, trivial⟩
        · refine wq_eq (fun hc_46983 => ?_) (fun hc_46984 => ?_)
          · exact wq_s ⟨(show -1 ≤ (-1 : Int32).toInt ∧ (-1 : Int32).toInt ≤ 359 from ⟨by omega, by omega⟩), h_r4_q46971_3, trivial⟩
          · refine wq_eq (fun hc_46985 => ?_) (fun hc_46986 => ?_)
            · exact wq_s ⟨(show -1 ≤ (-1 : Int32).toInt ∧ (-1 : Int32).toInt ≤ 359 from ⟨by omega, by omega⟩), h_r4_q46971_3, trivial⟩
            · refine wq_eq (fun hc_46987 => ?_) (fun hc_46988 => ?_)
              · exfalso; omega
              · unfold fX12_lot_J106
                have t_46990 := ia_sub r7_q46979 r6_q46978 (by omega) (by omega)
                have l_360 := il_360
                have t_46991 := ia_add (r7_q46979 - r6_q46978) (360 : Int32) (by omega) (by omega)
                have t_46992 := ia_rem ((r7_q46979 - r6_q46978) + (360 : Int32)) (360 : Int32) 360 il_360 (by decide) (by omega)
                refine wq_v (fun v3_q46989 h_v3_q46989 => ?_)
                have t_v3_q46989 := congrArg Int32.toInt h_v3_q46989
                have l_180 := il_180
                have t_46993 := ia_sub r8_q46980 r6_q46978 (by omega) (by omega)
                have t_46994 := ia_add (r8_q46980 - r6_q46978) (360 : Int32) (by omega) (by omega)
                have t_46995 := ia_rem ((r8_q46980 - r6_q46978) + (360 : Int32)) (360 : Int32) 360 il_360 (by decide) (by omega)
                refine wq_le (fun hc_46996 => ?_) (fun hc_46997 => ?_)
                · unfold fX12_lot_J165
                  refine wq_eq (fun hc_46998 => ?_) (fun hc_46999 => ?_)
                  · have t_47000 := ia_sub r8_q46980 v3_q46989 (by omega) (by omega)
                    have t_47001 := ia_add (r8_q46980 - v3_q46989) (360 : Int32) (by omega) (by omega)
                    have t_47002 := ia_rem ((r8_q46980 - v3_q46989) + (360 : Int32)) (360 : Int32) 360 il_360 (by decide) (by omega)
                    exact wq_s ⟨(show -1 ≤ (((r8_q46980 - v3_q46989) + (360 : Int32)) - ((((r8_q46980 - v3_q46989) + (360 : Int32)) / (360 : Int32)) * (360 : Int32))).toInt ∧ (((r8_q46980 - v3_q46989) + (360 : Int32)) - ((((r8_q46980 - v3_q46989) + (360 : Int32)) / (360 : Int32)) * (360 : Int32))).toInt ≤ 359 from ⟨by omega, by omega⟩), h_r4_q46971_3, trivial⟩
                  · exfalso; omega
                · unfold fX12_lot_J165
                  refine wq_eq (fun hc_47003 => ?_) (fun hc_47004 => ?_)
                  · have t_47005 := ia_add r8_q46980 v3_q46989 (by omega) (by omega)
                    have t_47006 := ia_rem (r8_q46980 + v3_q46989) (360 : Int32) 360 il_360 (by decide) (by omega)
                    exact wq_s ⟨(show -1 ≤ ((r8_q46980 + v3_q46989) - (((r8_q46980 + v3_q46989) / (360 : Int32)) * (360 : Int32))).toInt ∧ ((r8_q46980 + v3_q46989) - (((r8_q46980 + v3_q46989) / (360 : Int32)) * (360 : Int32))).toInt ≤ 359 from ⟨by omega, by omega⟩), h_r4_q46971_3, trivial⟩
                  · exfalso; omega
    · have l_1 := il_1
      refine wq_eq (fun hc_47007 => ?_) (fun hc_47008 => ?_)
      · unfold fX12_lot_J19
        unfold fX12_lot_J24
        refine wq_b (tt_fX12_right hN r10_q46963.2.1 r10_q46963.2.2.1 r10_q46963.2.2.2 (1 : Int32) (1 : Int32) ⟨by omega, by omega⟩ h_r10_q46963_3) (fun r4_q47009 h_r4_q47009 => ?_)
        obtain ⟨h_r4_q47009_0, h_r4_q47009_1, h_r4_q47009_2, h_r4_q47009_3, -⟩ := h_r4_q47009
        have t_47010 := KX12.i1 h_r4_q47009_3
        refine wq_eq (fun hc_47011 => ?_) (fun hc_47012 => ?_)
        · exact wq_s ⟨(show -1 ≤ (0 : Int32).toInt ∧ (0 : Int32).toInt ≤ 359 from ⟨by omega, by omega⟩), h_r4_q47009_3, trivial⟩
        · have l_20 := il_20
          have t_47014 := ia_mul (20 : Int32) (20) il_20 x1 (by omega) (by omega)
          have t_47015 := ia_add ((20 : Int32) * x1) x2 (by omega) (by omega)
          refine wq_v (fun v5_q47013 h_v5_q47013 => ?_)
          have t_v5_q47013 := congrArg Int32.toInt h_v5_q47013
          refine wq_b (tt_fX12_at hN r4_q47009.2.1 r4_q47009.2.2.1 r4_q47009.2.2.2 v5_q47013 (0 : Int32) ⟨by omega, by omega⟩ ⟨by omega, by omega⟩ h_r4_q47009_3) (fun r6_q47016 h_r6_q47016 => ?_)
          obtain ⟨h_r6_q47016_0, h_r6_q47016_1, h_r6_q47016_2, -⟩ := h_r6_q47016
          refine wq_b (tt_fX12_at hN r4_q47009.2.1 r4_q47009.2.2.1 r4_q47009.2.2.2 v5_q47013 (1 : Int32) ⟨by omega, by omega⟩ ⟨by omega, by omega⟩ h_r4_q47009_3) (fun r7_q47017 h_r7_q47017 => ?_)
          obtain ⟨h_r7_q47017_0, h_r7_q47017_1, h_r7_q47017_2, -⟩ := h_r7_q47017
          have l_7 := il_7
          refine wq_b (tt_fX12_at hN r4_q47009.2.1 r4_q47009.2.2.1 r4_q47009.2.2.2 v5_q47013 (7 : Int32) ⟨by omega, by omega⟩ ⟨by omega, by omega⟩ h_r4_q47009_3) (fun r8_q47018 h_r8_q47018 => ?_)
          obtain ⟨h_r8_q47018_0, h_r8_q47018_1, h_r8_q47018_2, -⟩ := h_r8_q47018
          have l_m1 := il_m1
          refine wq_eq (fun hc_47019 => ?_) (fun hc_47020 => ?_)
          · exact wq_s ⟨(show -1 ≤ (-1 : Int32).toInt ∧ (-1 : Int32).toInt ≤ 359 from ⟨by omega, by omega⟩), h_r4_q47009_3, trivial⟩
          · refine wq_eq (fun hc_47021 => ?_) (fun hc_47022 => ?_)
            · exact wq_s ⟨(show -1 ≤ (-1 : Int32).toInt ∧ (-1 : Int32).toInt ≤ 359 from ⟨by omega, by omega⟩), h_r4_q47009_3, trivial⟩
            · refine wq_eq (fun hc_47023 => ?_) (fun hc_47024 => ?_)
              · exact wq_s ⟨(show -1 ≤ (-1 : Int32).toInt ∧ (-1 : Int32).toInt ≤ 359 from ⟨by omega, by omega⟩), h_r4_q47009_3, trivial⟩
              · refine wq_eq (fun hc_47025 => ?_) (fun hc_47026 => ?_)
                · have l_8 := il_8
                  refine wq_b (tt_fX12_at hN r4_q47009.2.1 r4_q47009.2.2.1 r4_q47009.2.2.2 v5_q47013 (8 : Int32) ⟨by omega, by omega⟩ ⟨by omega, by omega⟩ h_r4_q47009_3) (fun r9b_q47027 h_r9b_q47027 => ?_)
                  obtain ⟨h_r9b_q47027_0, h_r9b_q47027_1, h_r9b_q47027_2, -⟩ := h_r9b_q47027
                  refine wq_eq (fun hc_47028 => ?_) (fun hc_47029 => ?_)
                  · exact wq_s ⟨(show -1 ≤ (-1 : Int32).toInt ∧ (-1 : Int32).toInt ≤ 359 from ⟨by omega, by omega⟩), h_r4_q47009_3, trivial⟩
                  · unfold fX12_lot_J106
                    have t_47031 := ia_sub r7_q47017 r6_q47016 (by omega) (by omega)
                    have l_360 := il_360
                    have t_47032 := ia_add (r7_q47017 - r6_q47016) (360 : Int32) (by omega) (by omega)
                    have t_47033 := ia_rem ((r7_q47017 - r6_q47016) + (360 : Int32)) (360 : Int32) 360 il_360 (by decide) (by omega)
                    refine wq_v (fun v3_q47030 h_v3_q47030 => ?_)
                    have t_v3_q47030 := congrArg Int32.toInt h_v3_q47030
                    have l_180 := il_180
                    have t_47034 := ia_sub r8_q47018 r6_q47016 (by omega) (by omega)
                    have t_47035 := ia_add (r8_q47018 - r6_q47016) (360 : Int32) (by omega) (by omega)
                    have t_47036 := ia_rem ((r8_q47018 - r6_q47016) + (360 : Int32)) (360 : Int32) 360 il_360 (by decide) (by omega)
                    refine wq_le (fun hc_47037 => ?_) (fun hc_47038 => ?_)
                    · unfold fX12_lot_J165
                      refine wq_eq (fun hc_47039 => ?_) (fun hc_47040 => ?_)
                      · exfalso; omega
                      · refine wq_b (tt_fX12_at hN r4_q47009.2.1 r4_q47009.2.2.1 r4_q47009.2.2.2 v5_q47013 (8 : Int32) ⟨by omega, by omega⟩ ⟨by omega, by omega⟩ h_r4_q47009_3) (fun r1_q47041 h_r1_q47041 => ?_)
                        obtain ⟨h_r1_q47041_0, h_r1_q47041_1, h_r1_q47041_2, -⟩ := h_r1_q47041
                        have t_47042 := ia_sub r8_q47018 v3_q47030 (by omega) (by omega)
                        have t_47043 := ia_add (r8_q47018 - v3_q47030) (360 : Int32) (by omega) (by omega)
                        have t_47044 := ia_rem ((r8_q47018 - v3_q47030) + (360 : Int32)) (360 : Int32) 360 il_360 (by decide) (by omega)
                        refine wq_b (tt_fX12_costOf hN r4_q47009.2.1 r4_q47009.2.2.1 r4_q47009.2.2.2 r1_q47041 (((r8_q47018 - v3_q47030) + (360 : Int32)) - ((((r8_q47018 - v3_q47030) + (360 : Int32)) / (360 : Int32)) * (360 : Int32))) ⟨by omega, by omega⟩ h_r4_q47009_3) (fun r2_q47045 h_r2_q47045 => ?_)
                        obtain ⟨h_r2_q47045_0, -⟩ := h_r2_q47045
                        exact wq_s ⟨(show -1 ≤ r2_q47045.toInt ∧ r2_q47045.toInt ≤ 359 from ⟨by omega, by omega⟩), h_r4_q47009_3, trivial⟩
                    · unfold fX12_lot_J165
                      refine wq_eq (fun hc_47046 => ?_) (fun hc_47047 => ?_)
                      · exfalso; omega
                      · refine wq_b (tt_fX12_at hN r4_q47009.2.1 r4_q47009.2.2.1 r4_q47009.2.2.2 v5_q47013 (8 : Int32) ⟨by omega, by omega⟩ ⟨by omega, by omega⟩ h_r4_q47009_3) (fun r1_q47048 h_r1_q47048 => ?_)
                        obtain ⟨h_r1_q47048_0, h_r1_q47048_1, h_r1_q47048_2, -⟩ := h_r1_q47048
                        have t_47049 := ia_add r8_q47018 v3_q47030 (by omega) (by omega)
                        have t_47050 := ia_rem (r8_q47018 + v3_q47030) (360 : Int32) 360 il_360 (by decide) (by omega)
                        refine wq_b (tt_fX12_costOf hN r4_q47009.2.1 r4_q47009.2.2.1 r4_q47009.2.2.2 r1_q47048 ((r8_q47018 + v3_q47030) - (((r8_q47018 + v3_q47030) / (360 : Int32)) * (360 : Int32))) ⟨by omega, by omega⟩ h_r4_q47009_3) (fun r2_q47051 h_r2_q47051 => ?_)
                        obtain ⟨h_r2_q47051_0, -⟩ := h_r2_q47051
                        exact wq_s ⟨(show -1 ≤ r2_q47051.toInt ∧ r2_q47051.toInt ≤ 359 from ⟨by omega, by omega⟩), h_r4_q47009_3, trivial⟩
                · exfalso; omega
      · unfold fX12_lot_J24
        refine wq_b (tt_fX12_right hN r10_q46963.2.1 r10_q46963.2.2.1 r10_q46963.2.2.2 (0 : Int32) (1 : Int32) ⟨by omega, by omega⟩ h_r10_q46963_3) (fun r4_q47052 h_r4_q47052 => ?_)
        obtain ⟨h_r4_q47052_0, h_r4_q47052_1, h_r4_q47052_2, h_r4_q47052_3, -⟩ := h_r4_q47052
        have t_47053 := KX12.i1 h_r4_q47052_3
        refine wq_eq (fun hc_47054 => ?_) (fun hc_47055 => ?_)
        · exact wq_s ⟨(show -1 ≤ (0 : Int32).toInt ∧ (0 : Int32).toInt ≤ 359 from ⟨by omega, by omega⟩), h_r4_q47052_3, trivial⟩
        · have l_20 := il_20
          have t_47057 := ia_mul (20 : Int32) (20) il_20 x1 (by omega) (by omega)
          have t_47058 := ia_add ((20 : Int32) * x1) x2 (by omega) (by omega)
          refine wq_v (fun v5_q47056 h_v5_q47056 => ?_)
          have t_v5_q47056 := congrArg Int32.toInt h_v5_q47056
          refine wq_b (tt_fX12_at hN r4_q47052.2.1 r4_q47052.2.2.1 r4_q47052.2.2.2 v5_q47056 (0 : Int32) ⟨by omega, by omega⟩ ⟨by omega, by omega⟩ h_r4_q47052_3) (fun r6_q47059 h_r6_q47059 => ?_)
          obtain ⟨h_r6_q47059_0, h_r6_q47059_1, h_r6_q47059_2, -⟩ := h_r6_q47059
          refine wq_b (tt_fX12_at hN r4_q47052.2.1 r4_q47052.2.2.1 r4_q47052.2.2.2 v5_q47056 (1 : Int32) ⟨by omega, by omega⟩ ⟨by omega, by omega⟩ h_r4_q47052_3) (fun r7_q47060 h_r7_q47060 => ?_)
          obtain ⟨h_r7_q47060_0, h_r7_q47060_1, h_r7_q47060_2, -⟩ := h_r7_q47060
          have l_7 := il_7
          refine wq_b (tt_fX12_at hN r4_q47052.2.1 r4_q47052.2.2.1 r4_q47052.2.2.2 v5_q47056 (7 : Int32) ⟨by omega, by omega⟩ ⟨by omega, by omega⟩ h_r4_q47052_3) (fun r8_q47061 h_r8_q47061 => ?_)
          obtain ⟨h_r8_q47061_0, h_r8_q47061_1, h_r8_q47061_2, -⟩ := h_r8_q47061
          have l_m1 := il_m1
          refine wq_eq (fun hc_47062 => ?_) (fun hc_47063 => ?_)
          · exact wq_s ⟨(show -1 ≤ (-1 : Int32).toInt ∧ (-1 : Int32).toInt ≤ 359 from ⟨by omega, by omega⟩), h_r4_q47052_3, trivial⟩
          · refine wq_eq (fun hc_47064 => ?_) (fun hc_47065 => ?_)
            · exact wq_s ⟨(show -1 ≤ (-1 : Int32).toInt ∧ (-1 : Int32).toInt ≤ 359 from ⟨by omega, by omega⟩), h_r4_q47052_3, trivial⟩
            · refine wq_eq (fun hc_47066 => ?_) (fun hc_47067 => ?_)
              · exact wq_s ⟨(show -1 ≤ (-1 : Int32).toInt ∧ (-1 : Int32).toInt ≤ 359 from ⟨by omega, by omega⟩), h_r4_q47052_3, trivial⟩
              · refine wq_eq (fun hc_47068 => ?_) (fun hc_47069 => ?_)
                · have l_8 := il_8
                  refine wq_b (tt_fX12_at hN r4_q47052.2.1 r4_q47052.2.2.1 r4_q47052.2.2.2 v5_q47056 (8 : Int32) ⟨by omega, by omega⟩ ⟨by omega, by omega⟩ h_r4_q47052_3) (fun r9b_q47070 h_r9b_q47070 => ?_)
                  obtain ⟨h_r9b_q47070_0, h_r9b_q47070_1, h_r9b_q47070_2, -⟩ := h_r9b_q47070
                  refine wq_eq (fun hc_47071 => ?_) (fun hc_47072 => ?_)
                  · exact wq_s ⟨(show -1 ≤ (-1 : Int32).toInt ∧ (-1 : Int32).toInt ≤ 359 from ⟨by omega, by omega⟩), h_r4_q47052_3, trivial⟩
                  · unfold fX12_lot_J106
                    have t_47074 := ia_sub r7_q47060 r6_q47059 (by omega) (by omega)
                    have l_360 := il_360
                    have t_47075 := ia_add (r7_q47060 - r6_q47059) (360 : Int32) (by omega) (by omega)
                    have t_47076 := ia_rem ((r7_q47060 - r6_q47059) + (360 : Int32)) (360 : Int32) 360 il_360 (by decide) (by omega)
                    refine wq_v (fun v3_q47073 h_v3_q47073 => ?_)
                    have t_v3_q47073 := congrArg Int32.toInt h_v3_q47073
                    have l_180 := il_180
                    have t_47077 := ia_sub r8_q47061 r6_q47059 (by omega) (by omega)
                    have t_47078 := ia_add (r8_q47061 - r6_q47059) (360 : Int32) (by omega) (by omega)
                    have t_47079 := ia_rem ((r8_q47061 - r6_q47059) + (360 : Int32)) (360 : Int32) 360 il_360 (by decide) (by omega)
                    refine wq_le (fun hc_47080 => ?_) (fun hc_47081 => ?_)
                    · unfold fX12_lot_J165
                      refine wq_eq (fun hc_47082 => ?_) (fun hc_47083 => ?_)
                      · exfalso; omega
                      · refine wq_b (tt_fX12_at hN r4_q47052.2.1 r4_q47052.2.2.1 r4_q47052.2.2.2 v5_q47056 (8 : Int32) ⟨by omega, by omega⟩ ⟨by omega, by omega⟩ h_r4_q47052_3) (fun r1_q47084 h_r1_q47084 => ?_)
                        obtain ⟨h_r1_q47084_0, h_r1_q47084_1, h_r1_q47084_2, -⟩ := h_r1_q47084
                        have t_47085 := ia_sub r8_q47061 v3_q47073 (by omega) (by omega)
                        have t_47086 := ia_add (r8_q47061 - v3_q47073) (360 : Int32) (by omega) (by omega)
                        have t_47087 := ia_rem ((r8_q47061 - v3_q47073) + (360 : Int32)) (360 : Int32) 360 il_360 (by decide) (by omega)
                        refine wq_b (tt_fX12_costOf hN r4_q47052.2.1 r4_q47052.2.2.1 r4_q47052.2.2.2 r1_q47084 (((r8_q47061 - v3_q47073) + (360 : Int32)) - ((((r8_q47061 - v3_q47073) + (360 : Int32)) / (360 : Int32)) * (360 : Int32))) ⟨by omega, by omega⟩ h_r4_q47052_3) (fun r2_q47088 h_r2_q47088 => ?_)
                        obtain ⟨h_r2_q47088_0, -⟩ := h_r2_q47088
                        exact wq_s ⟨(show -1 ≤ r2_q47088.toInt ∧ r2_q47088.toInt ≤ 359 from ⟨by omega, by omega⟩), h_r4_q47052_3, trivial⟩
                    · unfold fX12_lot_J165
                      refine wq_eq (fun hc_47089 => ?_) (fun hc_47090 => ?_)
                      · exfalso; omega
                      · refine wq_b (tt_fX12_at hN r4_q47052.2.1 r4_q47052.2.2.1 r4_q47052.2.2.2 v5_q47056 (8 : Int32) ⟨by omega, by omega⟩ ⟨by omega, by omega⟩ h_r4_q47052_3) (fun r1_q47091 h_r1_q47091 => ?_)
                        obtain ⟨h_r1_q47091_0, h_r1_q47091_1, h_r1_q47091_2, -⟩ := h_r1_q47091
                        have t_47092 := ia_add r8_q47061 v3_q47073 (by omega) (by omega)
                        have t_47093 := ia_rem (r8_q47061 + v3_q47073) (360 : Int32) 360 il_360 (by decide) (by omega)
                        refine wq_b (tt_fX12_costOf hN r4_q47052.2.1 r4_q47052.2.2.1 r4_q47052.2.2.2 r1_q47091 ((r8_q47061 + v3_q47073) - (((r8_q47061 + v3_q47073) / (360 : Int32)) * (360 : Int32))) ⟨by omega, by omega⟩ h_r4_q47052_3) (fun r2_q47094 h_r2_q47094 => ?_)
                        obtain ⟨h_r2_q47094_0, -⟩ := h_r2_q47094
                        exact wq_s ⟨(show -1 ≤ r2_q47094.toInt ∧ r2_q47094.toInt ≤ 359 from ⟨by omega, by omega⟩), h_r4_q47052_3, trivial⟩
                · unfold fX12_lot_J106
                  have t_47096 := ia_sub r7_q47060 r6_q47059 (by omega) (by omega)
                  have l_360 := il_360
                  have t_47097 := ia_add (r7_q47060 - r6_q47059) (360 : Int32) (by omega) (by omega)
                  have t_47098 := ia_rem ((r7_q47060 - r6_q47059) + (360 : Int32)) (360 : Int32) 360 il_360 (by decide) (by omega)
                  refine wq_v (fun v3_q47095 h_v3_q47095 => ?_)
                  have t_v3_q47095 := congrArg Int32.toInt h_v3_q47095
                  have l_180 := il_180
                  have t_47099 := ia_sub r8_q47061 r6_q47059 (by omega) (by omega)
                  have t_47100 := ia_add (r8_q47061 - r6_q47059) (360 : Int32) (by omega) (by omega)
                  have t_47101 := ia_rem ((r8_q47061 - r6_q47059) + (360 : Int32)) (360 : Int32) 360 il_360 (by decide) (by omega)
                  refine wq_le (fun hc_47102 => ?_) (fun hc_47103 => ?_)
                  · unfold fX12_lot_J165
                    refine wq_eq (fun hc_47104 => ?_) (fun hc_47105 => ?_)
                    · have t_47106 := ia_sub r8_q47061 v3_q47095 (by omega) (by omega)
                      have t_47107 := ia_add (r8_q47061 - v3_q47095) (360 : Int32) (by omega) (by omega)
                      have t_47108 := ia_rem ((r8_q47061 - v3_q47095) + (360 : Int32)) (360 : Int32) 360 il_360 (by decide) (by omega)
                      exact wq_s ⟨(show -1 ≤ (((r8_q47061 - v3_q47095) + (360 : Int32)) - ((((r8_q47061 - v3_q47095) + (360 : Int32)) / (360 : Int32)) * (360 : Int32))).toInt ∧ (((r8_q47061 - v3_q47095) + (360 : Int32)) - ((((r8_q47061 - v3_q47095) + (360 : Int32)) / (360 : Int32)) * (360 : Int32))).toInt ≤ 359 from ⟨by omega, by omega⟩), h_r4_q47052_3, trivial⟩
                    · have l_8 := il_8
                      refine wq_b (tt_fX12_at hN r4_q47052.2.1 r4_q47052.2.2.1 r4_q47052.2.2.2 v5_q47056 (8 : Int32) ⟨by omega, by omega⟩ ⟨by omega, by omega⟩ h_r4_q47052_3) (fun r1_q47109 h_r1_q47109 => ?_)
                      obtain ⟨h_r1_q47109_0, h_r1_q47109_1, h_r1_q47109_2, -⟩ := h_r1_q47109
                      have t_47110 := ia_sub r8_q47061 v3_q47095 (by omega) (by omega)
                      have t_47111 := ia_add (r8_q47061 - v3_q47095) (360 : Int32) (by omega) (by omega)
                      have t_47112 := ia_rem ((r8_q47061 - v3_q47095) + (360 : Int32)) (360 : Int32) 360 il_360 (by decide) (by omega)
                      refine wq_b (tt_fX12_costOf hN r4_q47052.2.1 r4_q47052.2.2.1 r4_q47052.2.2.2 r1_q47109 (((r8_q47061 - v3_q47095) + (360 : Int32)) - ((((r8_q47061 - v3_q47095) + (360 : Int32)) / (360 : Int32)) * (360 : Int32))) ⟨by omega, by omega⟩ h_r4_q47052_3) (fun r2_q47113 h_r2_q47113 => ?_)
                      obtain ⟨h_r2_q47113_0, -⟩ := h_r2_q47113
                      exact wq_s ⟨(show -1 ≤ r2_q47113.toInt ∧ r2_q47113.toInt ≤ 359 from ⟨by omega, by omega⟩), h_r4_q47052_3, trivial⟩
                  · unfold fX12_lot_J165
                    refine wq_eq (fun hc_47114 => ?_) (fun hc_47115 => ?_)
                    · have t_47116 := ia_add r8_q47061 v3_q47095 (by omega) (by omega)
                      have t_47117 := ia_rem (r8_q47061 + v3_q47095) (360 : Int32) 360 il_360 (by decide) (by omega)
                      exact wq_s ⟨(show -1 ≤ ((r8_q47061 + v3_q47095) - (((r8_q47061 + v3_q47095) / (360 : Int32)) * (360 : Int32))).toInt ∧ ((r8_q47061 + v3_q47095) - (((r8_q47061 + v3_q47095) / (360 : Int32)) * (360 : Int32))).toInt ≤ 359 from ⟨by omega, by omega⟩), h_r4_q47052_3, trivial⟩
                    · have l_8 := il_8
                      refine wq_b (tt_fX12_at hN r4_q47052.2.1 r4_q47052.2.2.1 r4_q47052.2.2.2 v5_q47056 (8 : Int32) ⟨by omega, by omega⟩ ⟨by omega, by omega⟩ h_r4_q47052_3) (fun r1_q47118 h_r1_q47118 => ?_)
                      obtain ⟨h_r1_q47118_0, h_r1_q47118_1, h_r1_q47118_2, -⟩ := h_r1_q47118
                      have t_47119 := ia_add r8_q47061 v3_q47095 (by omega) (by omega)
                      have t_47120 := ia_rem (r8_q47061 + v3_q47095) (360 : Int32) 360 il_360 (by decide) (by omega)
                      refine wq_b (tt_fX12_costOf hN r4_q47052.2.1 r4_q47052.2.2.1 r4_q47052.2.2.2 r1_q47118 ((r8_q47061 + v3_q47095) - (((r8_q47061 + v3_q47095) / (360 : Int32)) * (360 : Int32))) ⟨by omega, by omega⟩ h_r4_q47052_3) (fun r2_q47121 h_r2_q47121 => ?_)
                      obtain ⟨h_r2_q47121_0, -⟩ := h_r2_q47121
                      exact wq_s ⟨(show -1 ≤ r2_q47121.toInt ∧ r2_q47121.toInt ≤ 359 from ⟨by omega, by omega⟩), h_r4_q47052_3, trivial⟩
set_option maxHeartbeats 4000000 in
theorem tt_fX12_priceOf {N : Nat} (hN : 3000000000 ≤ N) (I0 : Nat → Int32) (L0 : Int64) (M0 : Nat → Nat → Int32) (x1 : Int32) (x2 : Int32) (x3 : Int32) (h_x1 : -1 ≤ x1.toInt ∧ x1.toInt ≤ 389) (h_x2 : -1 ≤ x2.toInt ∧ x2.toInt ≤ 389) (k_I0 : KX12 I0 M0) : wq (fX12_priceOf N I0 L0 M0 x1 x2 x3) (fun r => (0 ≤ r.toInt ∧ r.toInt ≤ 4) ∧ True) := by
  unfold fX12_priceOf
  refine wq_eq (fun hc_47194 => ?_) (fun hc_47195 => ?_)
  · have l_0 := il_0
    exact wq_s ⟨(show 0 ≤ (0 : Int32).toInt ∧ (0 : Int32).toInt ≤ 4 from ⟨by omega, by omega⟩), trivial⟩
  · have l_m1 := il_m1
    refine wq_eq (fun hc_47196 => ?_) (fun hc_47197 => ?_)
    · have l_1 := il_1
      exact wq_s ⟨(show 0 ≤ (1 : Int32).toInt ∧ (1 : Int32).toInt ≤ 4 from ⟨by omega, by omega⟩), trivial⟩
    · refine wq_eq (fun hc_47198 => ?_) (fun hc_47199 => ?_)
      · have l_4 := il_4
        exact wq_s ⟨(show 0 ≤ (4 : Int32).toInt ∧ (4 : Int32).toInt ≤ 4 from ⟨by omega, by omega⟩), trivial⟩
      · have b_47200 := i32b x3
        have l_21 := il_21
        refine wq_eq (fun hc_47201 => ?_) (fun hc_47202 => ?_)
        · have l_3 := il_3
          exact wq_s ⟨(show 0 ≤ (3 : Int32).toInt ∧ (3 : Int32).toInt ≤ 4 from ⟨by omega, by omega⟩), trivial⟩
        · refine wq_b (tt_fX12_costOf hN I0 L0 M0 x2 x1 ⟨by omega, by omega⟩ k_I0) (fun r1_q47203 h_r1_q47203 => ?_)
          obtain ⟨h_r1_q47203_0, -⟩ := h_r1_q47203
          have l_1 := il_1
          refine wq_eq (fun hc_47204 => ?_) (fun hc_47205 => ?_)
          · exact wq_s ⟨(show 0 ≤ (1 : Int32).toInt ∧ (1 : Int32).toInt ≤ 4 from ⟨by omega, by omega⟩), trivial⟩
          · have l_3 := il_3
            exact wq_s ⟨(show 0 ≤ (3 : Int32).toInt ∧ (3 : Int32).toInt ≤ 4 from ⟨by omega, by omega⟩), trivial⟩
set_option maxHeartbeats 4000000 in
theorem tt_fX12_priceAll_L15 {N : Nat} (hN : 3000000000 ≤ N) (I0 : Nat → Int32) (L0 : Int64) (M0 : Nat → Nat → Int32) (x1 : Int32) (x2 : Int32) (y5_4 : Int32) (g5 : Int32 → Int32 → Option (Int32)) (h_x1 : 0 ≤ x1.toInt ∧ x1.toInt ≤ 5) (h_x2 : 0 ≤ x2.toInt ∧ x2.toInt ≤ 5) (h_y5_4 : 0 ≤ y5_4.toInt ∧ y5_4.toInt ≤ 19) (k_I0 : KX12 I0 M0) (hg5 : ∀ (q0 : Int32) (q1 : Int32), (0 ≤ q1.toInt ∧ q1.toInt ≤ 20) → (y5_4.toInt < q1.toInt) → wq (g5 q0 q1) (fun r => True)) : ∀ (fu : Nat) (y15_3 : Int32) (y15_5 : Int32), (0 ≤ y15_5.toInt ∧ y15_5.toInt ≤ 22) → (22 - y15_5.toInt) < (fu : Int) → wq (fX12_priceAll_L15 N I0 L0 M0 x1 x2 y5_4 g5 fu y15_3 y15_5) (fun r => True) := by
  intro fu
  induction fu with
  | zero => intro y15_3 y15_5 h_y15_5 hm; exfalso; omega
  | succ fu ih =>
    intro y15_3 y15_5 h_y15_5 hm
    rw [fX12_priceAll_L15.eq_2]
    have l_22 := il_22
    refine wq_le (fun hc_47589 => ?_) (fun hc_47590 => ?_)
    · have l_1 := il_1
      have t_47592 := ia_add y5_4 (1 : Int32) (by omega) (by omega)
      refine wq_v (fun v1_q47591 h_v1_q47591 => ?_)
      have t_v1_q47591 := congrArg Int32.toInt h_v1_q47591
      have b_47593 := i32b y15_3
      exact hg5 y15_3 v1_q47591 ⟨by omega, by omega⟩ (by omega)
    · have l_20 := il_20
      have t_47594 := ia_mul (20 : Int32) (20) il_20 x1 (by omega) (by omega)
      have t_47595 := ia_add ((20 : Int32) * x1) y5_4 (by omega) (by omega)
      refine wq_b (tt_fX12_at hN I0 L0 M0 (((20 : Int32) * x1) + y5_4) y15_5 ⟨by omega, by omega⟩ ⟨by omega, by omega⟩ k_I0) (fun r2_q47596 h_r2_q47596 => ?_)
      obtain ⟨h_r2_q47596_0, h_r2_q47596_1, h_r2_q47596_2, -⟩ := h_r2_q47596
      have t_47597 := ia_mul (20 : Int32) (20) il_20 x2 (by omega) (by omega)
      have t_47598 := ia_add ((20 : Int32) * x2) y5_4 (by omega) (by omega)
      refine wq_b (tt_fX12_at hN I0 L0 M0 (((20 : Int32) * x2) + y5_4) y15_5 ⟨by omega, by omega⟩ ⟨by omega, by omega⟩ k_I0) (fun r3_q47599 h_r3_q47599 => ?_)
      obtain ⟨h_r3_q47599_0, h_r3_q47599_1, h_r3_q47599_2, -⟩ := h_r3_q47599
      refine wq_b (tt_fX12_priceOf hN I0 L0 M0 r2_q47596 r3_q47599 y15_5 ⟨by omega, by omega⟩ ⟨by omega, by omega⟩ k_I0) (fun r4_q47600 h_r4_q47600 => ?_)
      obtain ⟨h_r4_q47600_0, -⟩ := h_r4_q47600
      have b_47602 := i32b y15_3
      refine wq_v (fun v5_q47601 h_v5_q47601 => ?_)
      have t_v5_q47601 := congrArg Int32.toInt h_v5_q47601
      have l_1 := il_1
      have t_47604 := ia_add y15_5 (1 : Int32) (by omega) (by omega)
      refine wq_v (fun v6_q47603 h_v6_q47603 => ?_)
      have t_v6_q47603 := congrArg Int32.toInt h_v6_q47603
      have b_47605 := i32b v5_q47601
      exact ih v5_q47601 v6_q47603 ⟨by omega, by omega⟩ (by omega)
set_option maxHeartbeats 4000000 in
theorem tt_fX12_priceAll_L5 {N : Nat} (hN : 3000000000 ≤ N) (I0 : Nat → Int32) (L0 : Int64) (M0 : Nat → Nat → Int32) (x1 : Int32) (x2 : Int32) (h_x1 : 0 ≤ x1.toInt ∧ x1.toInt ≤ 5) (h_x2 : 0 ≤ x2.toInt ∧ x2.toInt ≤ 5) (k_I0 : KX12 I0 M0)  : ∀ (fu : Nat) (y5_3 : Int32) (y5_4 : Int32), (0 ≤ y5_4.toInt ∧ y5_4.toInt ≤ 20) → (20 - y5_4.toInt) < (fu : Int) → wq (fX12_priceAll_L5 N I0 L0 M0 x1 x2 fu y5_3 y5_4) (fun r => True) := by
  intro fu
  induction fu with
  | zero => intro y5_3 y5_4 h_y5_4 hm; exfalso; omega
  | succ fu ih =>
    intro y5_3 y5_4 h_y5_4 hm
    rw [fX12_priceAll_L5.eq_2]
    have l_20 := il_20
    refine wq_le (fun hc_47606 => ?_) (fun hc_47607 => ?_)
    · have b_47608 := i32b y5_3
      exact wq_s trivial
    · have b_47609 := i32b y5_3
      have l_0 := il_0
      exact tt_fX12_priceAll_L15 hN I0 L0 M0 x1 x2 y5_4 _ ⟨by omega, by omega⟩ ⟨by omega, by omega⟩ ⟨by omega, by omega⟩ k_I0 (fun q0 q1 hq0 hq1 => ih q0 q1 hq0 (by omega)) N y5_3 (0 : Int32) ⟨by omega, by omega⟩ (by omega)
set_option maxHeartbeats 4000000 in
theorem tt_fX12_priceAll {N : Nat} (hN : 3000000000 ≤ N) (I0 : Nat → Int32) (L0 : Int64) (M0 : Nat → Nat → Int32) (x1 : Int32) (x2 : Int32) (h_x1 : 0 ≤ x1.toInt ∧ x1.toInt ≤ 5) (h_x2 : 0 ≤ x2.toInt ∧ x2.toInt ≤ 5) (k_I0 : KX12 I0 M0) : wq (fX12_priceAll N I0 L0 M0 x1 x2) (fun r => True) := by
  unfold fX12_priceAll
  have l_0 := il_0
  exact tt_fX12_priceAll_L5 hN I0 L0 M0 x1 x2 ⟨by omega, by omega⟩ ⟨by omega, by omega⟩ k_I0 N (0 : Int32) (0 : Int32) ⟨by omega, by omega⟩ (by omega)
set_option maxHeartbeats 4000000 in
theorem tt_fX12_price {N : Nat} (hN : 3000000000 ≤ N) (I0 : Nat → Int32) (L0 : Int64) (M0 : Nat → Nat → Int32) (x1 : Int32) (x2 : Int32) (k_I0 : KX12 I0 M0) : wq (fX12_price N I0 L0 M0 x1 x2) (fun r => KX12 r.2.1 r.2.2.2 ∧ True) := by
  unfold fX12_price
  refine wq_v (fun I0_1_q47700 h_I0_1_q47700 => ?_)
  have k_I0_1_q47700 : KX12 I0_1_q47700 M0 := by rw [h_I0_1_q47700]; exact KX12.si0 k_I0
  have b_47701 := i32b x1
  refine wq_b (tt_fX12_isBook hN I0_1_q47700 L0 M0 x1 k_I0_1_q47700) (fun r2_q47702 h_r2_q47702 => ?_)
  obtain ⟨h_r2_q47702_0, h_r2_q47702_1, h_r2_q47702_2, h_r2_q47702_3, -⟩ := h_r2_q47702
  have t_47703 := KX12.i1 h_r2_q47702_3
  have t_47704 := KX12.i1 k_I0
  have t_47705 : (I0_1_q47700 1).toInt = (I0 1).toInt := by rw [h_I0_1_q47700]; rfl
  have l_0 := il_0
  refine wq_eq (fun hc_47706 => ?_) (fun hc_47707 => ?_)
  · exact wq_s ⟨h_r2_q47702_3, trivial⟩
  · have b_47708 := i32b x2
    refine wq_b (tt_fX12_isBook hN r2_q47702.2.1 r2_q47702.2.2.1 r2_q47702.2.2.2 x2 h_r2_q47702_3) (fun r3_q47709 h_r3_q47709 => ?_)
    obtain ⟨h_r3_q47709_0, h_r3_q47709_1, h_r3_q47709_2, h_r3_q47709_3, -⟩ := h_r3_q47709
    have t_47710 := KX12.i1 h_r3_q47709_3
    refine wq_eq (fun hc_47711 => ?_) (fun hc_47712 => ?_)
    · exact wq_s ⟨h_r3_q47709_3, trivial⟩
    · refine wq_b (tt_fX12_priceAll hN r3_q47709.2.1 r3_q47709.2.2.1 r3_q47709.2.2.2 x1 x2 ⟨by omega, by omega⟩ ⟨by omega, by omega⟩ h_r3_q47709_3) (fun r4_q47713 h_r4_q47713 => ?_)
      obtain ⟨-⟩ := h_r4_q47713
      have b_47714 := i32b r4_q47713
      exact wq_s ⟨h_r3_q47709_3, trivial⟩
set_option maxHeartbeats 4000000 in
theorem tt_fX12_isTree_L76 {N : Nat} (hN : 3000000000 ≤ N) (I0 : Nat → Int32) (L0 : Int64) (M0 : Nat → Nat → Int32) (y71_1 : Int32) (y71_2 : Int32) (g4 : Int32 → Int32 → Option (Int32)) (h_y71_2 : 0 ≤ y71_2.toInt ∧ y71_2.toInt ≤ 5) (k_I0 : KX12 I0 M0) (hg4 : ∀ (q0 : Int32) (q1 : Int32), (0 ≤ q1.toInt ∧ q1.toInt ≤ 6) → (y71_2.toInt < q1.toInt) → wq (g4 q0 q1) (fun r => (0 ≤ r.toInt ∧ r.toInt ≤ 1) ∧ True)) : ∀ (fu : Nat) (y76_3 : Int32) (y76_4 : Int32), (0 ≤ y76_3.toInt ∧ y76_3.toInt ≤ 5) → (0 ≤ y76_4.toInt ∧ y76_4.toInt ≤ 6) → (6 - y76_4.toInt) < (fu : Int) → wq (fX12_isTree_L76 N I0 L0 M0 y71_1 y71_2 g4 fu y76_3 y76_4) (fun r => (0 ≤ r.toInt ∧ r.toInt ≤ 1) ∧ True) := by
  intro fu
  induction fu with
  | zero => intro y76_3 y76_4 h_y76_3 h_y76_4 hm; exfalso; omega
  | succ fu ih =>
    intro y76_3 y76_4 h_y76_3 h_y76_4 hm
    rw [fX12_isTree_L76.eq_2]
    refine wq_in (n := 6) ⟨by omega, by omega⟩ ?_
    have t_48209 := KX12.m24 k_I0 y76_3.toNatClampNeg
    have l_m1 := il_m1
    refine wq_eq (fun hc_48210 => ?_) (fun hc_48211 => ?_)
    · unfold fX12_isTree_J114
      refine wq_in (n := 6) ⟨by omega, by omega⟩ ?_
      refine wq_eq (fun hc_48212 => ?_) (fun hc_48213 => ?_)
      · have l_1 := il_1
        have t_48215 := ia_add y71_2 (1 : Int32) (by omega) (by omega)
        refine wq_v (fun v1_q48214 h_v1_q48214 => ?_)
        have t_v1_q48214 := congrArg Int32.toInt h_v1_q48214
        have b_48216 := i32b y71_1
        exact hg4 y71_1 v1_q48214 ⟨by omega, by omega⟩ (by omega)
      · exfalso; omega
    · have l_6 := il_6
      refine wq_le (fun hc_48217 => ?_) (fun hc_48218 => ?_)
      · unfold fX12_isTree_J114
        refine wq_in (n := 6) ⟨by omega, by omega⟩ ?_
        refine wq_eq (fun hc_48219 => ?_) (fun hc_48220 => ?_)
        · exfalso; omega
        · have l_0 := il_0
          exact wq_s ⟨(show 0 ≤ (0 : Int32).toInt ∧ (0 : Int32).toInt ≤ 1 from ⟨by omega, by omega⟩), trivial⟩
      · refine wq_in (n := 6) ⟨by omega, by omega⟩ ?_
        refine wq_v (fun v2_q48221 h_v2_q48221 => ?_)
        have t_v2_q48221 := congrArg Int32.toInt h_v2_q48221
        have l_1 := il_1
        have t_48223 := ia_add y76_4 (1 : Int32) (by omega) (by omega)
        refine wq_v (fun v3_q48222 h_v3_q48222 => ?_)
        have t_v3_q48222 := congrArg Int32.toInt h_v3_q48222
        refine wq_in (n := 6) ⟨by omega, by omega⟩ ?_
        have l_0 := il_0
        refine wq_eq (fun hc_48224 => ?_) (fun hc_48225 => ?_)
        · exact wq_s ⟨(show 0 ≤ (0 : Int32).toInt ∧ (0 : Int32).toInt ≤ 1 from ⟨by omega, by omega⟩), trivial⟩
        · exact ih v2_q48221 v3_q48222 ⟨by omega, by omega⟩ ⟨by omega, by omega⟩ (by omega)
set_option maxHeartbeats 4000000 in
theorem tt_fX12_isTree_L4 {N : Nat} (hN : 3000000000 ≤ N) (I0 : Nat → Int32) (L0 : Int64) (M0 : Nat → Nat → Int32) (k_I0 : KX12 I0 M0)  : ∀ (fu : Nat) (y4_1 : Int32) (y4_2 : Int32), (0 ≤ y4_2.toInt ∧ y4_2.toInt ≤ 6) → (6 - y4_2.toInt) < (fu : Int) → wq (fX12_isTree_L4 N I0 L0 M0 fu y4_1 y4_2) (fun r => (0 ≤ r.toInt ∧ r.toInt ≤ 1) ∧ True) := by
  intro fu
  induction fu with
  | zero => intro y4_1 y4_2 h_y4_2 hm; exfalso; omega
  | succ fu ih =>
    intro y4_1 y4_2 h_y4_2 hm
    rw [fX12_isTree_L4.eq_2]
    have l_6 := il_6
    refine wq_le (fun hc_48226 => ?_) (fun hc_48227 => ?_)
    · have b_48228 := i32b y4_1
      have l_1 := il_1
      refine wq_eq (fun hc_48229 => ?_) (fun hc_48230 => ?_)
      · exact wq_s ⟨(show 0 ≤ (1 : Int32).toInt ∧ (1 : Int32).toInt ≤ 1 from ⟨by omega, by omega⟩), trivial⟩
      · have l_0 := il_0
        exact wq_s ⟨(show 0 ≤ (0 : Int32).toInt ∧ (0 : Int32).toInt ≤ 1 from ⟨by omega, by omega⟩), trivial⟩
    · refine wq_in (n := 6) ⟨by omega, by omega⟩ ?_
      have l_0 := il_0
      refine wq_eq (fun hc_48231 => ?_) (fun hc_48232 => ?_)
      · have l_1 := il_1
        have t_48234 := ia_add y4_2 (1 : Int32) (by omega) (by omega)
        refine wq_v (fun v5_q48233 h_v5_q48233 => ?_)
        have t_v5_q48233 := congrArg Int32.toInt h_v5_q48233
        have b_48235 := i32b y4_1
        exact ih y4_1 v5_q48233 ⟨by omega, by omega⟩ (by omega)
      · refine wq_in (n := 6) ⟨by omega, by omega⟩ ?_
        have t_48236 := KX12.m24 k_I0 y4_2.toNatClampNeg
        have l_m1 := il_m1
        refine wq_eq (fun hc_48237 => ?_) (fun hc_48238 => ?_)
        · have b_48240 := i32b y4_1
          have l_1 := il_1
          refine wq_v (fun v4_q48239 h_v4_q48239 => ?_)
          have t_v4_q48239 := congrArg Int32.toInt h_v4_q48239
          unfold fX12_isTree_J35
          refine wq_in (n := 6) ⟨by omega, by omega⟩ ?_
          refine wq_eq (fun hc_48241 => ?_) (fun hc_48242 => ?_)
          · unfold fX12_isTree_J71
            have b_48243 := i32b v4_q48239
            exact tt_fX12_isTree_L76 hN I0 L0 M0 v4_q48239 y4_2 _ ⟨by omega, by omega⟩ k_I0 (fun q0 q1 hq0 hq1 => ih q0 q1 hq0 (by omega)) N y4_2 (0 : Int32) ⟨by omega, by omega⟩ ⟨by omega, by omega⟩ (by omega)
          · exfalso; omega
        · unfold fX12_isTree_J35
          refine wq_in (n := 6) ⟨by omega, by omega⟩ ?_
          refine wq_eq (fun hc_48244 => ?_) (fun hc_48245 => ?_)
          · exfalso; omega
          · refine wq_in (n := 6) ⟨by omega, by omega⟩ ?_
            refine wq_in (n := 6) ⟨by omega, by omega⟩ ?_
            refine wq_eq (fun hc_48246 => ?_) (fun hc_48247 => ?_)
            · exact wq_s ⟨(show 0 ≤ (0 : Int32).toInt ∧ (0 : Int32).toInt ≤ 1 from ⟨by omega, by omega⟩), trivial⟩
            · refine wq_in (n := 6) ⟨by omega, by omega⟩ ?_
              refine wq_eq (fun hc_48248 => ?_) (fun hc_48249 => ?_)
              · exact wq_s ⟨(show 0 ≤ (0 : Int32).toInt ∧ (0 : Int32).toInt ≤ 1 from ⟨by omega, by omega⟩), trivial⟩
              · unfold fX12_isTree_J71
                have b_48250 := i32b y4_1
                exact tt_fX12_isTree_L76 hN I0 L0 M0 y4_1 y4_2 _ ⟨by omega, by omega⟩ k_I0 (fun q0 q1 hq0 hq1 => ih q0 q1 hq0 (by omega)) N y4_2 (0 : Int32) ⟨by omega, by omega⟩ ⟨by omega, by omega⟩ (by omega)
set_option maxHeartbeats 4000000 in
theorem tt_fX12_isTree {N : Nat} (hN : 3000000000 ≤ N) (I0 : Nat → Int32) (L0 : Int64) (M0 : Nat → Nat → Int32) (k_I0 : KX12 I0 M0) : wq (fX12_isTree N I0 L0 M0) (fun r => (0 ≤ r.toInt ∧ r.toInt ≤ 1) ∧ True) := by
  unfold fX12_isTree
  have l_0 := il_0
  exact tt_fX12_isTree_L4 hN I0 L0 M0 k_I0 N (0 : Int32) (0 : Int32) ⟨by omega, by omega⟩ (by omega)
set_option maxHeartbeats 4000000 in
theorem tt_fX12_tree_L274 {N : Nat} (hN : 3000000000 ≤ N) (y258_4 : Int32) (y258_7 : Int32) (y94_3 : Int32) (g9 : (Nat → Int32) → Int64 → (Nat → Nat → Int32) → Int32 → Int32 → Option (Int32 × (Nat → Int32) × Int64 × (Nat → Nat → Int32))) (g57 : (Nat → Int32) → Int64 → (Nat → Nat → Int32) → Int32 → Option (Int32 × (Nat → Int32) × Int64 × (Nat → Nat → Int32))) (g94 : (Nat → Int32) → Int64 → (Nat → Nat → Int32) → Int32 → Int32 → Option (Int32 × (Nat → Int32) × Int64 × (Nat → Nat → Int32))) (g115 : (Nat → Int32) → Int64 → (Nat → Nat → Int32) → Int32 → Int32 → Option (Int32 × (Nat → Int32) × Int64 × (Nat → Nat → Int32))) (h_y258_4 : 0 ≤ y258_4.toInt ∧ y258_4.toInt ≤ 2147483646) (h_y94_3 : 1 ≤ y94_3.toInt ∧ y94_3.toInt ≤ 2147483647) (hg115 : ∀ (q0 : (Nat → Int32)) (q1 : Int64) (q2 : (Nat → Nat → Int32)) (q3 : Int32) (q4 : Int32), (0 ≤ q4.toInt ∧ q4.toInt ≤ 2147483647) → (KX12 q0 q2) → (y258_4.toInt < q4.toInt) → wq (g115 q0 q1 q2 q3 q4) (fun r => KX12 r.2.1 r.2.2.2 ∧ True)) : ∀ (fu : Nat) (I0_l274 : (Nat → Int32)) (L0_l274 : Int64) (M0_l274 : (Nat → Nat → Int32)) (y274_8 : Int32), (0 ≤ y274_8.toInt ∧ y274_8.toInt ≤ 6) → (KX12 I0_l274 M0_l274) → (6 - y274_8.toInt) < (fu : Int) → wq (fX12_tree_L274 N y258_4 y258_7 y94_3 g9 g57 g94 g115 fu I0_l274 L0_l274 M0_l274 y274_8) (fun r => KX12 r.2.1 r.2.2.2 ∧ True) := by
  intro fu
  induction fu with
  | zero => intro I0_l274 L0_l274 M0_l274 y274_8 h_y274_8 k_I0_l274 hm; exfalso; omega
  | succ fu ih =>
    intro I0_l274 L0_l274 M0_l274 y274_8 h_y274_8 k_I0_l274 hm
    rw [fX12_tree_L274.eq_2]
    have l_6 := il_6
    refine wq_le (fun hc_50866 => ?_) (fun hc_50867 => ?_)
    · have l_1 := il_1
      have t_50869 := ia_add y258_4 (1 : Int32) (by omega) (by omega)
      refine wq_v (fun v3_q50868 h_v3_q50868 => ?_)
      have t_v3_q50868 := congrArg Int32.toInt h_v3_q50868
      have b_50870 := i32b y258_7
      have b_50871 := i32b v3_q50868
      exact hg115 I0_l274 L0_l274 M0_l274 y258_7 v3_q50868 ⟨by omega, by omega⟩ k_I0_l274 (by omega)
    · refine wq_in (n := 6) ⟨by omega, by omega⟩ ?_
      have l_0 := il_0
      refine wq_eq (fun hc_50872 => ?_) (fun hc_50873 => ?_)
      · refine wq_in (n := 6) ⟨by omega, by omega⟩ ?_
        refine wq_v (fun M0_4_q50874 h_M0_4_q50874 => ?_)
        have l_m2 := il_m2
        have k_M0_4_q50874 : KX12 I0_l274 M0_4_q50874 := by rw [h_M0_4_q50874]; exact KX12.sm23 k_I0_l274 ⟨by omega, by omega⟩
        have l_1 := il_1
        have t_50876 := ia_add y274_8 (1 : Int32) (by omega) (by omega)
        refine wq_v (fun v5_q50875 h_v5_q50875 => ?_)
        have t_v5_q50875 := congrArg Int32.toInt h_v5_q50875
        exact ih I0_l274 L0_l274 M0_4_q50874 v5_q50875 ⟨by omega, by omega⟩ k_M0_4_q50874 (by omega)
      · refine wq_in (n := 6) ⟨by omega, by omega⟩ ?_
        refine wq_in (n := 6) ⟨by omega, by omega⟩ ?_
        refine wq_v (fun M0_6_q50877 h_M0_6_q50877 => ?_)
        have t_50878 := KX12.m24 k_I0_l274 y274_8.toNatClampNeg
        have k_M0_6_q50877 : KX12 I0_l274 M0_6_q50877 := by rw [h_M0_6_q50877]; exact KX12.sm23 k_I0_l274 ⟨by omega, by omega⟩
        have l_1 := il_1
        have t_50880 := ia_add y274_8 (1 : Int32) (by omega) (by omega)
        refine wq_v (fun v7_q50879 h_v7_q50879 => ?_)
        have t_v7_q50879 := congrArg Int32.toInt h_v7_q50879
        exact ih I0_l274 L0_l274 M0_6_q50877 v7_q50879 ⟨by omega, by omega⟩ k_M0_6_q50877 (by omega)

set_option maxHeartbeats 4000000 in
theorem tt_fX12_hour {N : Nat} (hN : 3000000000 ≤ N) (I0 : Nat → Int32) (L0 : Int64) (M0 : Nat → Nat → Int32) (x1 : Int32) (x2 : Int32) (x3 : Int32) (k_I0 : KX12 I0 M0) : wq (fX12_hour N I0 L0 M0 x1 x2 x3) (fun r => KX12 r.2.1 r.2.2.2 ∧ True) := by
  unfold fX12_hour
  have b_40990 := i32b x1
  have b_40991 := i32b x2
  refine wq_b (tt_fX12_isWheel hN I0 L0 M0 x1 x2 k_I0) (fun r7_q40992 h_r7_q40992 => ?_)
  obtain ⟨h_r7_q40992_0, h_r7_q40992_1, h_r7_q40992_2, h_r7_q40992_3, -⟩ := h_r7_q40992
  have t_40993 := KX12.i1 h_r7_q40992_3
  have t_40994 := KX12.i1 k_I0
  have l_0 := il_0
  refine wq_eq (fun hc_40995 => ?_) (fun hc_40996 => ?_)
  · exact wq_s ⟨h_r7_q40992_3, trivial⟩
  · have l_20 := il_20
    have t_40998 := ia_mul (20 : Int32) (20) il_20 x1 (by omega) (by omega)
    have t_40999 := ia_add ((20 : Int32) * x1) x2 (by omega) (by omega)
    refine wq_v (fun v8_q40997 h_v8_q40997 => ?_)
    have t_v8_q40997 := congrArg Int32.toInt h_v8_q40997
    refine wq_b (tt_fX12_at hN r7_q40992.2.1 r7_q40992.2.2.1 r7_q40992.2.2.2 v8_q40997 (0 : Int32) ⟨by omega, by omega⟩ ⟨by omega, by omega⟩ h_r7_q40992_3) (fun r9b_q41000 h_r9b_q41000 => ?_)
    obtain ⟨h_r9b_q41000_0, h_r9b_q41000_1, h_r9b_q41000_2, -⟩ := h_r9b_q41000
    have l_m1 := il_m1
    refine wq_eq (fun hc_41001 => ?_) (fun hc_41002 => ?_)
    · unfold fX12_hour_J46
      unfold fX12_hour_J47
      refine wq_eq (fun hc_41003 => ?_) (fun hc_41004 => ?_)
      · have b_41005 := i32b x3
        refine wq_eq (fun hc_41006 => ?_) (fun hc_41007 => ?_)
        · exact wq_s ⟨h_r7_q40992_3, trivial⟩
        · unfold fX12_hour_J61
          exact tt_fX12_hour_L67 hN x1 x2 x3 v8_q40997 (0 : Int32) ⟨by omega, by omega⟩ ⟨by omega, by omega⟩ ⟨by omega, by omega⟩ ⟨by omega, by omega⟩ N r7_q40992.2.1 r7_q40992.2.2.1 r7_q40992.2.2.2 (0 : Int32) (0 : Int32) ⟨by omega, by omega⟩ h_r7_q40992_3 (by omega)
      · exfalso; omega
    · have l_7 := il_7
      refine wq_b (tt_fX12_at hN r7_q40992.2.1 r7_q40992.2.2.1 r7_q40992.2.2.2 v8_q40997 (7 : Int32) ⟨by omega, by omega⟩ ⟨by omega, by omega⟩ h_r7_q40992_3) (fun r10_q41008 h_r10_q41008 => ?_)
      obtain ⟨h_r10_q41008_0, h_r10_q41008_1, h_r10_q41008_2, -⟩ := h_r10_q41008
      refine wq_eq (fun hc_41009 => ?_) (fun hc_41010 => ?_)
      · unfold fX12_hour_J46
        unfold fX12_hour_J47
        refine wq_eq (fun hc_41011 => ?_) (fun hc_41012 => ?_)
        · have b_41013 := i32b x3
          refine wq_eq (fun hc_41014 => ?_) (fun hc_41015 => ?_)
          · exact wq_s ⟨h_r7_q40992_3, trivial⟩
          · unfold fX12_hour_J61
            exact tt_fX12_hour_L67 hN x1 x2 x3 v8_q40997 (0 : Int32) ⟨by omega, by omega⟩ ⟨by omega, by omega⟩ ⟨by omega, by omega⟩ ⟨by omega, by omega⟩ N r7_q40992.2.1 r7_q40992.2.2.1 r7_q40992.2.2.2 (0 : Int32) (0 : Int32) ⟨by omega, by omega⟩ h_r7_q40992_3 (by omega)
        · exfalso; omega
      · unfold fX12_hour_J47
        have l_1 := il_1
        refine wq_eq (fun hc_41016 => ?_) (fun hc_41017 => ?_)
        · exfalso; omega
        · unfold fX12_hour_J61
          have b_41018 := i32b x3
          exact tt_fX12_hour_L67 hN x1 x2 x3 v8_q40997 (1 : Int32) ⟨by omega, by omega⟩ ⟨by omega, by omega⟩ ⟨by omega, by omega⟩ ⟨by omega, by omega⟩ N r7_q40992.2.1 r7_q40992.2.2.1 r7_q40992.2.2.2 (0 : Int32) (0 : Int32) ⟨by omega, by omega⟩ h_r7_q40992_3 (by omega)
set_option maxHeartbeats 4000000 in
theorem tt_fX12_houseAt {N : Nat} (hN : 3000000000 ≤ N) (I0 : Nat → Int32) (L0 : Int64) (M0 : Nat → Nat → Int32) (x1 : Int32) (x2 : Int32) (x3 : Int32) (x4 : Int32) (h_x1 : -1 ≤ x1.toInt ∧ x1.toInt ≤ 359) (h_x4 : 1 ≤ x4.toInt ∧ x4.toInt ≤ 12) (k_I0 : KX12 I0 M0) (hr_3 : ((0 ≤ x2.toInt ∧ x2.toInt ≤ 1) ∨ (0 ≤ x3.toInt ∧ x3.toInt < (I0 1).toInt))) : wq (fX12_houseAt N I0 L0 M0 x1 x2 x3 x4) (fun r => (-359 ≤ r.toInt ∧ r.toInt ≤ 359) ∧ True) := by
  unfold fX12_houseAt
  have b_41925 := i32b x2
  have l_0 := il_0
  refine wq_eq (fun hc_41926 => ?_) (fun hc_41927 => ?_)
  · have l_30 := il_30
    have t_41928 := ia_div2 x1 (30 : Int32) 30 il_30 (by decide)
    have t_41929 := ia_add (x1 / (30 : Int32)) x4 (by omega) (by omega)
    have l_1 := il_1
    have t_41930 := ia_sub ((x1 / (30 : Int32)) + x4) (1 : Int32) (by omega) (by omega)
    have l_12 := il_12
    have t_41931 := ia_rem (((x1 / (30 : Int32)) + x4) - (1 : Int32)) (12 : Int32) 12 il_12 (by decide) (by omega)
    have t_41932 := ia_mul (30 : Int32) (30) il_30 ((((x1 / (30 : Int32)) + x4) - (1 : Int32)) - (((((x1 / (30 : Int32)) + x4) - (1 : Int32)) / (12 : Int32)) * (12 : Int32))) (by omega) (by omega)
    exact wq_s ⟨(show -359 ≤ ((30 : Int32) * ((((x1 / (30 : Int32)) + x4) - (1 : Int32)) - (((((x1 / (30 : Int32)) + x4) - (1 : Int32)) / (12 : Int32)) * (12 : Int32)))).toInt ∧ ((30 : Int32) * ((((x1 / (30 : Int32)) + x4) - (1 : Int32)) - (((((x1 / (30 : Int32)) + x4) - (1 : Int32)) / (12 : Int32)) * (12 : Int32)))).toInt ≤ 359 from ⟨by omega, by omega⟩), trivial⟩
  · have l_1 := il_1
    refine wq_eq (fun hc_41933 => ?_) (fun hc_41934 => ?_)
    · have t_41935 := ia_sub x4 (1 : Int32) (by omega) (by omega)
      have l_30 := il_30
      have t_41936 := ia_mul (30 : Int32) (30) il_30 (x4 - (1 : Int32)) (by omega) (by omega)
      have t_41937 := ia_add x1 ((30 : Int32) * (x4 - (1 : Int32))) (by omega) (by omega)
      have l_360 := il_360
      have t_41938 := ia_rem2 (x1 + ((30 : Int32) * (x4 - (1 : Int32)))) (360 : Int32) 360 il_360 (by decide)
      exact wq_s ⟨(show -359 ≤ ((x1 + ((30 : Int32) * (x4 - (1 : Int32)))) - (((x1 + ((30 : Int32) * (x4 - (1 : Int32)))) / (360 : Int32)) * (360 : Int32))).toInt ∧ ((x1 + ((30 : Int32) * (x4 - (1 : Int32)))) - (((x1 + ((30 : Int32) * (x4 - (1 : Int32)))) / (360 : Int32)) * (360 : Int32))).toInt ≤ 359 from ⟨by omega, by omega⟩), trivial⟩
    · have b_41939 := i32b x3
      have l_60 := il_60
      have t_41940 := ia_mul (60 : Int32) (60) il_60 x1 (by omega) (by omega)
      have t_41941 := KX12.i1 k_I0
      refine wq_b (tt_fX12_middleOf hN I0 L0 M0 x3 ((60 : Int32) * x1) ⟨by omega, by omega⟩ ⟨by omega, by omega⟩ k_I0 (by omega)) (fun r1_q41942 h_r1_q41942 => ?_)
      obtain ⟨-⟩ := h_r1_q41942
      have b_41944 := i32b r1_q41942
      have t_41945 := i32b r1_q41942
      have t_41946 := ia_div2 r1_q41942 (60 : Int32) 60 il_60 (by decide)
      refine wq_v (fun v2_q41943 h_v2_q41943 => ?_)
      have t_v2_q41943 := congrArg Int32.toInt h_v2_q41943
      have t_41948 := ia_sub x1 v2_q41943 (by omega) (by omega)
      have l_360 := il_360
      have t_41949 := ia_add (x1 - v2_q41943) (360 : Int32) (by omega) (by omega)
      have t_41950 := ia_rem2 ((x1 - v2_q41943) + (360 : Int32)) (360 : Int32) 360 il_360 (by decide)
      refine wq_v (fun v3_q41947 h_v3_q41947 => ?_)
      have t_v3_q41947 := congrArg Int32.toInt h_v3_q41947
      have l_180 := il_180
      have t_41952 := ia_add v2_q41943 (180 : Int32) (by omega) (by omega)
      have t_41953 := ia_sub (v2_q41943 + (180 : Int32)) x1 (by omega) (by omega)
      have t_41954 := ia_add ((v2_q41943 + (180 : Int32)) - x1) (360 : Int32) (by omega) (by omega)
      have t_41955 := ia_rem2 (((v2_q41943 + (180 : Int32)) - x1) + (360 : Int32)) (360 : Int32) 360 il_360 (by decide)
      refine wq_v (fun v4_q41951 h_v4_q41951 => ?_)
      have t_v4_q41951 := congrArg Int32.toInt h_v4_q41951
      have l_3 := il_3
      refine wq_le (fun hc_41956 => ?_) (fun hc_41957 => ?_)
      · unfold fX12_houseAt_J110
        unfold fX12_houseAt_J112
        refine wq_eq (fun hc_41958 => ?_) (fun hc_41959 => ?_)
        · unfold fX12_houseAt_J195
          refine wq_eq (fun hc_41960 => ?_) (fun hc_41961 => ?_)
          · have t_41962 := ia_rem2 x1 (360 : Int32) 360 il_360 (by decide)
            exact wq_s ⟨(show -359 ≤ (x1 - ((x1 / (360 : Int32)) * (360 : Int32))).toInt ∧ (x1 - ((x1 / (360 : Int32)) * (360 : Int32))).toInt ≤ 359 from ⟨by omega, by omega⟩), trivial⟩
          · have t_41963 := ia_add x1 (180 : Int32) (by omega) (by omega)
            have t_41964 := ia_rem (x1 + (180 : Int32)) (360 : Int32) 360 il_360 (by decide) (by omega)
            exact wq_s ⟨(show -359 ≤ ((x1 + (180 : Int32)) - (((x1 + (180 : Int32)) / (360 : Int32)) * (360 : Int32))).toInt ∧ ((x1 + (180 : Int32)) - (((x1 + (180 : Int32)) / (360 : Int32)) * (360 : Int32))).toInt ≤ 359 from ⟨by omega, by omega⟩), trivial⟩
        · have l_10 := il_10
          refine wq_eq (fun hc_41965 => ?_) (fun hc_41966 => ?_)
          · exfalso; omega
          · have l_11 := il_11
            refine wq_eq (fun hc_41967 => ?_) (fun hc_41968 => ?_)
            · exfalso; omega
            · have l_12 := il_12
              refine wq_eq (fun hc_41969 => ?_) (fun hc_41970 => ?_)
              · exfalso; omega
              · have l_2 := il_2
                refine wq_eq (fun hc_41971 => ?_) (fun hc_41972 => ?_)
                · unfold fX12_houseAt_J195
                  refine wq_eq (fun hc_41973 => ?_) (fun hc_41974 => ?_)
                  · have t_41975 := ia_div2 v4_q41951 (3 : Int32) 3 il_3 (by decide)
                    have t_41976 := ia_add x1 (v4_q41951 / (3 : Int32)) (by omega) (by omega)
                    have t_41977 := ia_rem2 (x1 + (v4_q41951 / (3 : Int32))) (360 : Int32) 360 il_360 (by decide)
                    exact wq_s ⟨(show -359 ≤ ((x1 + (v4_q41951 / (3 : Int32))) - (((x1 + (v4_q41951 / (3 : Int32))) / (360 : Int32)) * (360 : Int32))).toInt ∧ ((x1 + (v4_q41951 / (3 : Int32))) - (((x1 + (v4_q41951 / (3 : Int32))) / (360 : Int32)) * (360 : Int32))).toInt ≤ 359 from ⟨by omega, by omega⟩), trivial⟩
                  · have t_41978 := ia_div2 v4_q41951 (3 : Int32) 3 il_3 (by decide)
                    have t_41979 := ia_add x1 (v4_q41951 / (3 : Int32)) (by omega) (by omega)
                    have t_41980 := ia_add (x1 + (v4_q41951 / (3 : Int32))) (180 : Int32) (by omega) (by omega)
                    have t_41981 := ia_rem ((x1 + (v4_q41951 / (3 : Int32))) + (180 : Int32)) (360 : Int32) 360 il_360 (by decide) (by omega)
                    exact wq_s ⟨(show -359 ≤ (((x1 + (v4_q41951 / (3 : Int32))) + (180 : Int32)) - ((((x1 + (v4_q41951 / (3 : Int32))) + (180 : Int32)) / (360 : Int32)) * (360 : Int32))).toInt ∧ (((x1 + (v4_q41951 / (3 : Int32))) + (180 : Int32)) - ((((x1 + (v4_q41951 / (3 : Int32))) + (180 : Int32)) / (360 : Int32)) * (360 : Int32))).toInt ≤ 359 from ⟨by omega, by omega⟩), trivial⟩
                · unfold fX12_houseAt_J195
                  refine wq_eq (fun hc_41982 => ?_) (fun hc_41983 => ?_)
                  · have t_41984 := ia_mul (2 : Int32) (2) il_2 v4_q41951 (by omega) (by omega)
                    have t_41985 := ia_div2 ((2 : Int32) * v4_q41951) (3 : Int32) 3 il_3 (by decide)
                    have t_41986 := ia_add x1 (((2 : Int32) * v4_q41951) / (3 : Int32)) (by omega) (by omega)
                    have t_41987 := ia_rem2 (x1 + (((2 : Int32) * v4_q41951) / (3 : Int32))) (360 : Int32) 360 il_360 (by decide)
                    exact wq_s ⟨(show -359 ≤ ((x1 + (((2 : Int32) * v4_q41951) / (3 : Int32))) - (((x1 + (((2 : Int32) * v4_q41951) / (3 : Int32))) / (360 : Int32)) * (360 : Int32))).toInt ∧ ((x1 + (((2 : Int32) * v4_q41951) / (3 : Int32))) - (((x1 + (((2 : Int32) * v4_q41951) / (3 : Int32))) / (360 : Int32)) * (360 : Int32))).toInt ≤ 359 from ⟨by omega, by omega⟩), trivial⟩
                  · have t_41988 := ia_mul (2 : Int32) (2) il_2 v4_q41951 (by omega) (by omega)
                    have t_41989 := ia_div2 ((2 : Int32) * v4_q41951) (3 : Int32) 3 il_3 (by decide)
                    have t_41990 := ia_add x1 (((2 : Int32) * v4_q41951) / (3 : Int32)) (by omega) (by omega)
                    have t_41991 := ia_add (x1 + (((2 : Int32) * v4_q41951) / (3 : Int32))) (180 : Int32) (by omega) (by omega)
                    have t_41992 := ia_rem2 ((x1 + (((2 : Int32) * v4_q41951) / (3 : Int32))) + (180 : Int32)) (360 : Int32) 360 il_360 (by decide)
                    exact wq_s ⟨(show -359 ≤ (((x1 + (((2 : Int32) * v4_q41951) / (3 : Int32))) + (180 : Int32)) - ((((x1 + (((2 : Int32) * v4_q41951) / (3 : Int32))) + (180 : Int32)) / (360 : Int32)) * (360 : Int32))).toInt ∧ (((x1 + (((2 : Int32) * v4_q41951) / (3 : Int32))) + (180 : Int32)) - ((((x1 + (((2 : Int32) * v4_q41951) / (3 : Int32))) + (180 : Int32)) / (360 : Int32)) * (360 : Int32))).toInt ≤ 359 from ⟨by omega, by omega⟩), trivial⟩
      · have l_10 := il_10
        refine wq_le (fun hc_41993 => ?_) (fun hc_41994 => ?_)
        · unfold fX12_houseAt_J110
          unfold fX12_houseAt_J112
          refine wq_eq (fun hc_41995 => ?_) (fun hc_41996 => ?_)
          · exfalso; omega
          · refine wq_eq (fun hc_41997 => ?_) (fun hc_41998 => ?_)
            · unfold fX12_houseAt_J195
              refine wq_eq (fun hc_41999 => ?_) (fun hc_42000 => ?_)
              · have t_42001 := ia_rem2 v2_q41943 (360 : Int32) 360 il_360 (by decide)
                exact wq_s ⟨(show -359 ≤ (v2_q41943 - ((v2_q41943 / (360 : Int32)) * (360 : Int32))).toInt ∧ (v2_q41943 - ((v2_q41943 / (360 : Int32)) * (360 : Int32))).toInt ≤ 359 from ⟨by omega, by omega⟩), trivial⟩
              · have t_42002 := ia_rem2 (v2_q41943 + (180 : Int32)) (360 : Int32) 360 il_360 (by decide)
                exact wq_s ⟨(show -359 ≤ ((v2_q41943 + (180 : Int32)) - (((v2_q41943 + (180 : Int32)) / (360 : Int32)) * (360 : Int32))).toInt ∧ ((v2_q41943 + (180 : Int32)) - (((v2_q41943 + (180 : Int32)) / (360 : Int32)) * (360 : Int32))).toInt ≤ 359 from ⟨by omega, by omega⟩), trivial⟩
            · have l_11 := il_11
              refine wq_eq (fun hc_42003 => ?_) (fun hc_42004 => ?_)
              · unfold fX12_houseAt_J195
                refine wq_eq (fun hc_42005 => ?_) (fun hc_42006 => ?_)
                · have t_42007 := ia_div2 v3_q41947 (3 : Int32) 3 il_3 (by decide)
                  have t_42008 := ia_add v2_q41943 (v3_q41947 / (3 : Int32)) (by omega) (by omega)
                  have t_42009 := ia_rem2 (v2_q41943 + (v3_q41947 / (3 : Int32))) (360 : Int32) 360 il_360 (by decide)
                  exact wq_s ⟨(show -359 ≤ ((v2_q41943 + (v3_q41947 / (3 : Int32))) - (((v2_q41943 + (v3_q41947 / (3 : Int32))) / (360 : Int32)) * (360 : Int32))).toInt ∧ ((v2_q41943 + (v3_q41947 / (3 : Int32))) - (((v2_q41943 + (v3_q41947 / (3 : Int32))) / (360 : Int32)) * (360 : Int32))).toInt ≤ 359 from ⟨by omega, by omega⟩), trivial⟩
                · have t_42010 := ia_div2 v3_q41947 (3 : Int32) 3 il_3 (by decide)
                  have t_42011 := ia_add v2_q41943 (v3_q41947 / (3 : Int32)) (by omega) (by omega)
                  have t_42012 := ia_add (v2_q41943 + (v3_q41947 / (3 : Int32))) (180 : Int32) (by omega) (by omega)
                  have t_42013 := ia_rem2 ((v2_q41943 + (v3_q41947 / (3 : Int32))) + (180 : Int32)) (360 : Int32) 360 il_360 (by decide)
                  exact wq_s ⟨(show -359 ≤ (((v2_q41943 + (v3_q41947 / (3 : Int32))) + (180 : Int32)) - ((((v2_q41943 + (v3_q41947 / (3 : Int32))) + (180 : Int32)) / (360 : Int32)) * (360 : Int32))).toInt ∧ (((v2_q41943 + (v3_q41947 / (3 : Int32))) + (180 : Int32)) - ((((v2_q41943 + (v3_q41947 / (3 : Int32))) + (180 : Int32)) / (360 : Int32)) * (360 : Int32))).toInt ≤ 359 from ⟨by omega, by omega⟩), trivial⟩
              · have l_12 := il_12
                refine wq_eq (fun hc_42014 => ?_) (fun hc_42015 => ?_)
                · unfold fX12_houseAt_J195
                  refine wq_eq (fun hc_42016 => ?_) (fun hc_42017 => ?_)
                  · have l_2 := il_2
                    have t_42018 := ia_mul (2 : Int32) (2) il_2 v3_q41947 (by omega) (by omega)
                    have t_42019 := ia_div2 ((2 : Int32) * v3_q41947) (3 : Int32) 3 il_3 (by decide)
                    have t_42020 := ia_add v2_q41943 (((2 : Int32) * v3_q41947) / (3 : Int32)) (by omega) (by omega)
                    have t_42021 := ia_rem2 (v2_q41943 + (((2 : Int32) * v3_q41947) / (3 : Int32))) (360 : Int32) 360 il_360 (by decide)
                    exact wq_s ⟨(show -359 ≤ ((v2_q41943 + (((2 : Int32) * v3_q41947) / (3 : Int32))) - (((v2_q41943 + (((2 : Int32) * v3_q41947) / (3 : Int32))) / (360 : Int32)) * (360 : Int32))).toInt ∧ ((v2_q41943 + (((2 : Int32) * v3_q41947) / (3 : Int32))) - (((v2_q41943 + (((2 : Int32) * v3_q41947) / (3 : Int32))) / (360 : Int32)) * (360 : Int32))).toInt ≤ 359 from ⟨by omega, by omega⟩), trivial⟩
                  · have l_2 := il_2
                    have t_42022 := ia_mul (2 : Int32) (2) il_2 v3_q41947 (by omega) (by omega)
                    have t_42023 := ia_div2 ((2 : Int32) * v3_q41947) (3 : Int32) 3 il_3 (by decide)
                    have t_42024 := ia_add v2_q41943 (((2 : Int32) * v3_q41947) / (3 : Int32)) (by omega) (by omega)
                    have t_42025 := ia_add (v2_q41943 + (((2 : Int32) * v3_q41947) / (3 : Int32))) (180 : Int32) (by omega) (by omega)
                    have t_42026 := ia_rem2 ((v2_q41943 + (((2 : Int32) * v3_q41947) / (3 : Int32))) + (180 : Int32)) (360 : Int32) 360 il_360 (by decide)
                    exact wq_s ⟨(show -359 ≤ (((v2_q41943 + (((2 : Int32) * v3_q41947) / (3 : Int32))) + (180 : Int32)) - ((((v2_q41943 + (((2 : Int32) * v3_q41947) / (3 : Int32))) + (180 : Int32)) / (360 : Int32)) * (360 : Int32))).toInt ∧ (((v2_q41943 + (((2 : Int32) * v3_q41947) / (3 : Int32))) + (180 : Int32)) - ((((v2_q41943 + (((2 : Int32) * v3_q41947) / (3 : Int32))) + (180 : Int32)) / (360 : Int32)) * (360 : Int32))).toInt ≤ 359 from ⟨by omega, by omega⟩), trivial⟩
                · exfalso; omega
        · unfold fX12_houseAt_J112
          have l_5 := il_5
          have t_42027 := ia_add x4 (5 : Int32) (by omega) (by omega)
          have l_12 := il_12
          have t_42028 := ia_rem (x4 + (5 : Int32)) (12 : Int32) 12 il_12 (by decide) (by omega)
          have t_42029 := ia_add ((x4 + (5 : Int32)) - (((x4 + (5 : Int32)) / (12 : Int32)) * (12 : Int32))) (1 : Int32) (by omega) (by omega)
          refine wq_eq (fun hc_42030 => ?_) (fun hc_42031 => ?_)
          · unfold fX12_houseAt_J195
            refine wq_eq (fun hc_42032 => ?_) (fun hc_42033 => ?_)
            · exfalso; omega
            · have t_42034 := ia_add x1 (180 : Int32) (by omega) (by omega)
              have t_42035 := ia_rem (x1 + (180 : Int32)) (360 : Int32) 360 il_360 (by decide) (by omega)
              exact wq_s ⟨(show -359 ≤ ((x1 + (180 : Int32)) - (((x1 + (180 : Int32)) / (360 : Int32)) * (360 : Int32))).toInt ∧ ((x1 + (180 : Int32)) - (((x1 + (180 : Int32)) / (360 : Int32)) * (360 : Int32))).toInt ≤ 359 from ⟨by omega, by omega⟩), trivial⟩
          · refine wq_eq (fun hc_42036 => ?_) (fun hc_42037 => ?_)
            · unfold fX12_houseAt_J195
              refine wq_eq (fun hc_42038 => ?_) (fun hc_42039 => ?_)
              · exfalso; omega
              · have t_42040 := ia_rem2 (v2_q41943 + (180 : Int32)) (360 : Int32) 360 il_360 (by decide)
                exact wq_s ⟨(show -359 ≤ ((v2_q41943 + (180 : Int32)) - (((v2_q41943 + (180 : Int32)) / (360 : Int32)) * (360 : Int32))).toInt ∧ ((v2_q41943 + (180 : Int32)) - (((v2_q41943 + (180 : Int32)) / (360 : Int32)) * (360 : Int32))).toInt ≤ 359 from ⟨by omega, by omega⟩), trivial⟩
            · have l_11 := il_11
              refine wq_eq (fun hc_42041 => ?_) (fun hc_42042 => ?_)
              · unfold fX12_houseAt_J195
                refine wq_eq (fun hc_42043 => ?_) (fun hc_42044 => ?_)
                · exfalso; omega
                · have t_42045 := ia_div2 v3_q41947 (3 : Int32) 3 il_3 (by decide)
                  have t_42046 := ia_add v2_q41943 (v3_q41947 / (3 : Int32)) (by omega) (by omega)
                  have t_42047 := ia_add (v2_q41943 + (v3_q41947 / (3 : Int32))) (180 : Int32) (by omega) (by omega)
                  have t_42048 := ia_rem2 ((v2_q41943 + (v3_q41947 / (3 : Int32))) + (180 : Int32)) (360 : Int32) 360 il_360 (by decide)
                  exact wq_s ⟨(show -359 ≤ (((v2_q41943 + (v3_q41947 / (3 : Int32))) + (180 : Int32)) - ((((v2_q41943 + (v3_q41947 / (3 : Int32))) + (180 : Int32)) / (360 : Int32)) * (360 : Int32))).toInt ∧ (((v2_q41943 + (v3_q41947 / (3 : Int32))) + (180 : Int32)) - ((((v2_q41943 + (v3_q41947 / (3 : Int32))) + (180 : Int32)) / (360 : Int32)) * (360 : Int32))).toInt ≤ 359 from ⟨by omega, by omega⟩), trivial⟩
              · refine wq_eq (fun hc_42049 => ?_) (fun hc_42050 => ?_)
                · unfold fX12_houseAt_J195
                  refine wq_eq (fun hc_42051 => ?_) (fun hc_42052 => ?_)
                  · exfalso; omega
                  · have l_2 := il_2
                    have t_42053 := ia_mul (2 : Int32) (2) il_2 v3_q41947 (by omega) (by omega)
                    have t_42054 := ia_div2 ((2 : Int32) * v3_q41947) (3 : Int32) 3 il_3 (by decide)
                    have t_42055 := ia_add v2_q41943 (((2 : Int32) * v3_q41947) / (3 : Int32)) (by omega) (by omega)
                    have t_42056 := ia_add (v2_q41943 + (((2 : Int32) * v3_q41947) / (3 : Int32))) (180 : Int32) (by omega) (by omega)
                    have t_42057 := ia_rem2 ((v2_q41943 + (((2 : Int32) * v3_q41947) / (3 : Int32))) + (180 : Int32)) (360 : Int32) 360 il_360 (by decide)
                    exact wq_s ⟨(show -359 ≤ (((v2_q41943 + (((2 : Int32) * v3_q41947) / (3 : Int32))) + (180 : Int32)) - ((((v2_q41943 + (((2 : Int32) * v3_q41947) / (3 : Int32))) + (180 : Int32)) / (360 : Int32)) * (360 : Int32))).toInt ∧ (((v2_q41943 + (((2 : Int32) * v3_q41947) / (3 : Int32))) + (180 : Int32)) - ((((v2_q41943 + (((2 : Int32) * v3_q41947) / (3 : Int32))) + (180 : Int32)) / (360 : Int32)) * (360 : Int32))).toInt ≤ 359 from ⟨by omega, by omega⟩), trivial⟩
                · have l_2 := il_2
                  refine wq_eq (fun hc_42058 => ?_) (fun hc_42059 => ?_)
                  · unfold fX12_houseAt_J195
                    refine wq_eq (fun hc_42060 => ?_) (fun hc_42061 => ?_)
                    · exfalso; omega
                    · have t_42062 := ia_div2 v4_q41951 (3 : Int32) 3 il_3 (by decide)
                      have t_42063 := ia_add x1 (v4_q41951 / (3 : Int32)) (by omega) (by omega)
                      have t_42064 := ia_add (x1 + (v4_q41951 / (3 : Int32))) (180 : Int32) (by omega) (by omega)
                      have t_42065 := ia_rem ((x1 + (v4_q41951 / (3 : Int32))) + (180 : Int32)) (360 : Int32) 360 il_360 (by decide) (by omega)
                      exact wq_s ⟨(show -359 ≤ (((x1 + (v4_q41951 / (3 : Int32))) + (180 : Int32)) - ((((x1 + (v4_q41951 / (3 : Int32))) + (180 : Int32)) / (360 : Int32)) * (360 : Int32))).toInt ∧ (((x1 + (v4_q41951 / (3 : Int32))) + (180 : Int32)) - ((((x1 + (v4_q41951 / (3 : Int32))) + (180 : Int32)) / (360 : Int32)) * (360 : Int32))).toInt ≤ 359 from ⟨by omega, by omega⟩), trivial⟩
                  · unfold fX12_houseAt_J195
                    refine wq_eq (fun hc_42066 => ?_) (fun hc_42067 => ?_)
                    · have t_42068 := ia_mul (2 : Int32) (2) il_2 v4_q41951 (by omega) (by omega)
                      have t_42069 := ia_div2 ((2 : Int32) * v4_q41951) (3 : Int32) 3 il_3 (by decide)
                      have t_42070 := ia_add x1 (((2 : Int32) * v4_q41951) / (3 : Int32)) (by omega) (by omega)
                      have t_42071 := ia_rem2 (x1 + (((2 : Int32) * v4_q41951) / (3 : Int32))) (360 : Int32) 360 il_360 (by decide)
                      exact wq_s ⟨(show -359 ≤ ((x1 + (((2 : Int32) * v4_q41951) / (3 : Int32))) - (((x1 + (((2 : Int32) * v4_q41951) / (3 : Int32))) / (360 : Int32)) * (360 : Int32))).toInt ∧ ((x1 + (((2 : Int32) * v4_q41951) / (3 : Int32))) - (((x1 + (((2 : Int32) * v4_q41951) / (3 : Int32))) / (360 : Int32)) * (360 : Int32))).toInt ≤ 359 from ⟨by omega, by omega⟩), trivial⟩
                    · have t_42072 := ia_mul (2 : Int32) (2) il_2 v4_q41951 (by omega) (by omega)
                      have t_42073 := ia_div2 ((2 : Int32) * v4_q41951) (3 : Int32) 3 il_3 (by decide)
                      have t_42074 := ia_add x1 (((2 : Int32) * v4_q41951) / (3 : Int32)) (by omega) (by omega)
                      have t_42075 := ia_add (x1 + (((2 : Int32) * v4_q41951) / (3 : Int32))) (180 : Int32) (by omega) (by omega)
                      have t_42076 := ia_rem2 ((x1 + (((2 : Int32) * v4_q41951) / (3 : Int32))) + (180 : Int32)) (360 : Int32) 360 il_360 (by decide)
                      exact wq_s ⟨(show -359 ≤ (((x1 + (((2 : Int32) * v4_q41951) / (3 : Int32))) + (180 : Int32)) - ((((x1 + (((2 : Int32) * v4_q41951) / (3 : Int32))) + (180 : Int32)) / (360 : Int32)) * (360 : Int32))).toInt ∧ (((x1 + (((2 : Int32) * v4_q41951) / (3 : Int32))) + (180 : Int32)) - ((((x1 + (((2 : Int32) * v4_q41951) / (3 : Int32))) + (180 : Int32)) / (360 : Int32)) * (360 : Int32))).toInt ≤ 359 from ⟨by omega, by omega⟩), trivial⟩
set_option maxHeartbeats 4000000 in
theorem tt_fX12_isWay {N : Nat} (hN : 3000000000 ≤ N) (I0 : Nat → Int32) (L0 : Int64) (M0 : Nat → Nat → Int32) (x1 : Int32) (x2 : Int32) (k_I0 : KX12 I0 M0) : wq (fX12_isWay N I0 L0 M0 x1 x2) (fun r => (r.1.toInt = 0 ∨ (r.1.toInt = 1 ∧ ((0 ≤ x1.toInt ∧ x1.toInt ≤ 1) ∨ (x1.toInt = 2 ∧ 0 ≤ x2.toInt ∧ x2.toInt ≤ 6 ∧ x2.toInt < (r.2.1 1).toInt)))) ∧ (r.2.1 1).toInt = (I0 1).toInt ∧ (0 ≤ r.1.toInt ∧ r.1.toInt ≤ 1) ∧ KX12 r.2.1 r.2.2.2 ∧ True) := by
  unfold fX12_isWay
  have b_42227 := i32b x1
  have l_0 := il_0
  have l_2 := il_2
  refine wq_b (tt_fX12_within hN x1 (0 : Int32) (2 : Int32)) (fun r1_q42228 h_r1_q42228 => ?_)
  obtain ⟨h_r1_q42228_0, h_r1_q42228_1, -⟩ := h_r1_q42228
  refine wq_eq (fun hc_42229 => ?_) (fun hc_42230 => ?_)
  · have l_1 := il_1
    refine wq_b (tt_fX12_right hN I0 L0 M0 (0 : Int32) (1 : Int32) ⟨by omega, by omega⟩ k_I0) (fun r2_q42231 h_r2_q42231 => ?_)
    obtain ⟨h_r2_q42231_0, h_r2_q42231_1, h_r2_q42231_2, h_r2_q42231_3, -⟩ := h_r2_q42231
    have t_42232 := KX12.i1 h_r2_q42231_3
    have t_42233 := KX12.i1 k_I0
    refine wq_bz (by omega) ?_
    have b_42234 := i32b x2
    exact wq_s ⟨(show (r2_q42231.1.toInt = 0 ∨ (r2_q42231.1.toInt = 1 ∧ ((0 ≤ x1.toInt ∧ x1.toInt ≤ 1) ∨ (x1.toInt = 2 ∧ 0 ≤ x2.toInt ∧ x2.toInt ≤ 6 ∧ x2.toInt < (r2_q42231.2.1 1).toInt)))) from by omega), (show (r2_q42231.2.1 1).toInt = (I0 1).toInt from by omega), (show 0 ≤ r2_q42231.1.toInt ∧ r2_q42231.1.toInt ≤ 1 from ⟨by omega, by omega⟩), h_r2_q42231_3, trivial⟩
  · refine wq_lt (fun hc_42235 => ?_) (fun hc_42236 => ?_)
    · have l_1 := il_1
      refine wq_b (tt_fX12_right hN I0 L0 M0 (1 : Int32) (1 : Int32) ⟨by omega, by omega⟩ k_I0) (fun r3_q42237 h_r3_q42237 => ?_)
      obtain ⟨h_r3_q42237_0, h_r3_q42237_1, h_r3_q42237_2, h_r3_q42237_3, -⟩ := h_r3_q42237
      have t_42238 := KX12.i1 h_r3_q42237_3
      have t_42239 := KX12.i1 k_I0
      refine wq_bz (by omega) ?_
      have b_42240 := i32b x2
      exact wq_s ⟨(show (r3_q42237.1.toInt = 0 ∨ (r3_q42237.1.toInt = 1 ∧ ((0 ≤ x1.toInt ∧ x1.toInt ≤ 1) ∨ (x1.toInt = 2 ∧ 0 ≤ x2.toInt ∧ x2.toInt ≤ 6 ∧ x2.toInt < (r3_q42237.2.1 1).toInt)))) from by omega), (show (r3_q42237.2.1 1).toInt = (I0 1).toInt from by omega), (show 0 ≤ r3_q42237.1.toInt ∧ r3_q42237.1.toInt ≤ 1 from ⟨by omega, by omega⟩), h_r3_q42237_3, trivial⟩
    · have b_42241 := i32b x2
      refine wq_lt (fun hc_42242 => ?_) (fun hc_42243 => ?_)
      · have l_1 := il_1
        refine wq_b (tt_fX12_right hN I0 L0 M0 (0 : Int32) (1 : Int32) ⟨by omega, by omega⟩ k_I0) (fun r4_q42244 h_r4_q42244 => ?_)
        obtain ⟨h_r4_q42244_0, h_r4_q42244_1, h_r4_q42244_2, h_r4_q42244_3, -⟩ := h_r4_q42244
        have t_42245 := KX12.i1 h_r4_q42244_3
        have t_42246 := KX12.i1 k_I0
        refine wq_bz (by omega) ?_
        exact wq_s ⟨(show (r4_q42244.1.toInt = 0 ∨ (r4_q42244.1.toInt = 1 ∧ ((0 ≤ x1.toInt ∧ x1.toInt ≤ 1) ∨ (x1.toInt = 2 ∧ 0 ≤ x2.toInt ∧ x2.toInt ≤ 6 ∧ x2.toInt < (r4_q42244.2.1 1).toInt)))) from by omega), (show (r4_q42244.2.1 1).toInt = (I0 1).toInt from by omega), (show 0 ≤ r4_q42244.1.toInt ∧ r4_q42244.1.toInt ≤ 1 from ⟨by omega, by omega⟩), h_r4_q42244_3, trivial⟩
      · have t_42247 := KX12.i1 k_I0
        refine wq_le (fun hc_42248 => ?_) (fun hc_42249 => ?_)
        · have l_1 := il_1
          refine wq_b (tt_fX12_right hN I0 L0 M0 (0 : Int32) (1 : Int32) ⟨by omega, by omega⟩ k_I0) (fun r5_q42250 h_r5_q42250 => ?_)
          obtain ⟨h_r5_q42250_0, h_r5_q42250_1, h_r5_q42250_2, h_r5_q42250_3, -⟩ := h_r5_q42250
          have t_42251 := KX12.i1 h_r5_q42250_3
          refine wq_bz (by omega) ?_
          exact wq_s ⟨(show (r5_q42250.1.toInt = 0 ∨ (r5_q42250.1.toInt = 1 ∧ ((0 ≤ x1.toInt ∧ x1.toInt ≤ 1) ∨ (x1.toInt = 2 ∧ 0 ≤ x2.toInt ∧ x2.toInt ≤ 6 ∧ x2.toInt < (r5_q42250.2.1 1).toInt)))) from by omega), (show (r5_q42250.2.1 1).toInt = (I0 1).toInt from by omega), (show 0 ≤ r5_q42250.1.toInt ∧ r5_q42250.1.toInt ≤ 1 from ⟨by omega, by omega⟩), h_r5_q42250_3, trivial⟩
        · have l_1 := il_1
          refine wq_b (tt_fX12_right hN I0 L0 M0 (1 : Int32) (1 : Int32) ⟨by omega, by omega⟩ k_I0) (fun r6_q42252 h_r6_q42252 => ?_)
          obtain ⟨h_r6_q42252_0, h_r6_q42252_1, h_r6_q42252_2, h_r6_q42252_3, -⟩ := h_r6_q42252
          have t_42253 := KX12.i1 h_r6_q42252_3
          refine wq_bz (by omega) ?_
          exact wq_s ⟨(show (r6_q42252.1.toInt = 0 ∨ (r6_q42252.1.toInt = 1 ∧ ((0 ≤ x1.toInt ∧ x1.toInt ≤ 1) ∨ (x1.toInt = 2 ∧ 0 ≤ x2.toInt ∧ x2.toInt ≤ 6 ∧ x2.toInt < (r6_q42252.2.1 1).toInt)))) from by omega), (show (r6_q42252.2.1 1).toInt = (I0 1).toInt from by omega), (show 0 ≤ r6_q42252.1.toInt ∧ r6_q42252.1.toInt ≤ 1 from ⟨by omega, by omega⟩), h_r6_q42252_3, trivial⟩
set_option maxHeartbeats 4000000 in
theorem tt_fX12_houseOf {N : Nat} (hN : 3000000000 ≤ N) (I0 : Nat → Int32) (L0 : Int64) (M0 : Nat → Nat → Int32) (x1 : Int32) (x2 : Int32) (x3 : Int32) (x4 : Int32) (k_I0 : KX12 I0 M0) : wq (fX12_houseOf N I0 L0 M0 x1 x2 x3 x4) (fun r => (-359 ≤ r.1.toInt ∧ r.1.toInt ≤ 359) ∧ KX12 r.2.1 r.2.2.2 ∧ True) := by
  unfold fX12_houseOf
  refine wq_v (fun I0_4_q42548 h_I0_4_q42548 => ?_)
  have k_I0_4_q42548 : KX12 I0_4_q42548 M0 := by rw [h_I0_4_q42548]; exact KX12.si0 k_I0
  have b_42549 := i32b x1
  have l_0 := il_0
  have l_359 := il_359
  refine wq_b (tt_fX12_within hN x1 (0 : Int32) (359 : Int32)) (fun r5_q42550 h_r5_q42550 => ?_)
  obtain ⟨h_r5_q42550_0, h_r5_q42550_1, -⟩ := h_r5_q42550
  refine wq_eq (fun hc_42551 => ?_) (fun hc_42552 => ?_)
  · unfold fX12_houseOf_J32
    unfold fX12_houseOf_J33
    have l_1 := il_1
    refine wq_b (tt_fX12_right hN I0_4_q42548 L0 M0 (0 : Int32) (1 : Int32) ⟨by omega, by omega⟩ k_I0_4_q42548) (fun r1_q42553 h_r1_q42553 => ?_)
    obtain ⟨h_r1_q42553_0, h_r1_q42553_1, h_r1_q42553_2, h_r1_q42553_3, -⟩ := h_r1_q42553
    have t_42554 := KX12.i1 h_r1_q42553_3
    have t_42555 := KX12.i1 k_I0
    have t_42556 : (I0_4_q42548 1).toInt = (I0 1).toInt := by rw [h_I0_4_q42548]; rfl
    refine wq_eq (fun hc_42557 => ?_) (fun hc_42558 => ?_)
    · exact wq_s ⟨(show -359 ≤ (0 : Int32).toInt ∧ (0 : Int32).toInt ≤ 359 from ⟨by omega, by omega⟩), h_r1_q42553_3, trivial⟩
    · have b_42559 := i32b x2
      have b_42560 := i32b x3
      refine wq_b (tt_fX12_isWay hN r1_q42553.2.1 r1_q42553.2.2.1 r1_q42553.2.2.2 x2 x3 h_r1_q42553_3) (fun r2_q42561 h_r2_q42561 => ?_)
      obtain ⟨h_r2_q42561_0, h_r2_q42561_1, h_r2_q42561_2, h_r2_q42561_3, -⟩ := h_r2_q42561
      have t_42562 := KX12.i1 h_r2_q42561_3
      refine wq_eq (fun hc_42563 => ?_) (fun hc_42564 => ?_)
      · exact wq_s ⟨(show -359 ≤ (0 : Int32).toInt ∧ (0 : Int32).toInt ≤ 359 from ⟨by omega, by omega⟩), h_r2_q42561_3, trivial⟩
      · have b_42565 := i32b x4
        refine wq_b (tt_fX12_houseAt hN r2_q42561.2.1 r2_q42561.2.2.1 r2_q42561.2.2.2 x1 x2 x3 x4 ⟨by omega, by omega⟩ ⟨by omega, by omega⟩ h_r2_q42561_3 (by omega)) (fun r3_q42566 h_r3_q42566 => ?_)
        obtain ⟨h_r3_q42566_0, -⟩ := h_r3_q42566
        exact wq_s ⟨(show -359 ≤ r3_q42566.toInt ∧ r3_q42566.toInt ≤ 359 from ⟨by omega, by omega⟩), h_r2_q42561_3, trivial⟩
  · have b_42567 := i32b x4
    have l_1 := il_1
    have l_12 := il_12
    refine wq_b (tt_fX12_within hN x4 (1 : Int32) (12 : Int32)) (fun r6_q42568 h_r6_q42568 => ?_)
    obtain ⟨h_r6_q42568_0, h_r6_q42568_1, -⟩ := h_r6_q42568
    refine wq_eq (fun hc_42569 => ?_) (fun hc_42570 => ?_)
    · unfold fX12_houseOf_J32
      unfold fX12_houseOf_J33
      refine wq_b (tt_fX12_right hN I0_4_q42548 L0 M0 (0 : Int32) (1 : Int32) ⟨by omega, by omega⟩ k_I0_4_q42548) (fun r1_q42571 h_r1_q42571 => ?_)
      obtain ⟨h_r1_q42571_0, h_r1_q42571_1, h_r1_q42571_2, h_r1_q42571_3, -⟩ := h_r1_q42571
      have t_42572 := KX12.i1 h_r1_q42571_3
      have t_42573 := KX12.i1 k_I0
      have t_42574 : (I0_4_q42548 1).toInt = (I0 1).toInt := by rw [h_I0_4_q42548]; rfl
      refine wq_eq (fun hc_42575 => ?_) (fun hc_42576 => ?_)
      · exact wq_s ⟨(show -359 ≤ (0 : Int32).toInt ∧ (0 : Int32).toInt ≤ 359 from ⟨by omega, by omega⟩), h_r1_q42571_3, trivial⟩
      · have b_42577 := i32b x2
        have b_42578 := i32b x3
        refine wq_b (tt_fX12_isWay hN r1_q42571.2.1 r1_q42571.2.2.1 r1_q42571.2.2.2 x2 x3 h_r1_q42571_3) (fun r2_q42579 h_r2_q42579 => ?_)
        obtain ⟨h_r2_q42579_0, h_r2_q42579_1, h_r2_q42579_2, h_r2_q42579_3, -⟩ := h_r2_q42579
        have t_42580 := KX12.i1 h_r2_q42579_3
        refine wq_eq (fun hc_42581 => ?_) (fun hc_42582 => ?_)
        · exact wq_s ⟨(show -359 ≤ (0 : Int32).toInt ∧ (0 : Int32).toInt ≤ 359 from ⟨by omega, by omega⟩), h_r2_q42579_3, trivial⟩
        · refine wq_b (tt_fX12_houseAt hN r2_q42579.2.1 r2_q42579.2.2.1 r2_q42579.2.2.2 x1 x2 x3 x4 ⟨by omega, by omega⟩ ⟨by omega, by omega⟩ h_r2_q42579_3 (by omega)) (fun r3_q42583 h_r3_q42583 => ?_)
          obtain ⟨h_r3_q42583_0, -⟩ := h_r3_q42583
          exact wq_s ⟨(show -359 ≤ r3_q42583.toInt ∧ r3_q42583.toInt ≤ 359 from ⟨by omega, by omega⟩), h_r2_q42579_3, trivial⟩
    · unfold fX12_houseOf_J33
      refine wq_b (tt_fX12_right hN I0_4_q42548 L0 M0 (1 : Int32) (1 : Int32) ⟨by omega, by omega⟩ k_I0_4_q42548) (fun r1_q42584 h_r1_q42584 => ?_)
      obtain ⟨h_r1_q42584_0, h_r1_q42584_1, h_r1_q42584_2, h_r1_q42584_3, -⟩ := h_r1_q42584
      have t_42585 := KX12.i1 h_r1_q42584_3
      have t_42586 := KX12.i1 k_I0
      have t_42587 : (I0_4_q42548 1).toInt = (I0 1).toInt := by rw [h_I0_4_q42548]; rfl
      refine wq_eq (fun hc_42588 => ?_) (fun hc_42589 => ?_)
      · exact wq_s ⟨(show -359 ≤ (0 : Int32).toInt ∧ (0 : Int32).toInt ≤ 359 from ⟨by omega, by omega⟩), h_r1_q42584_3, trivial⟩
      · have b_42590 := i32b x2
        have b_42591 := i32b x3
        refine wq_b (tt_fX12_isWay hN r1_q42584.2.1 r1_q42584.2.2.1 r1_q42584.2.2.2 x2 x3 h_r1_q42584_3) (fun r2_q42592 h_r2_q42592 => ?_)
        obtain ⟨h_r2_q42592_0, h_r2_q42592_1, h_r2_q42592_2, h_r2_q42592_3, -⟩ := h_r2_q42592
        have t_42593 := KX12.i1 h_r2_q42592_3
        refine wq_eq (fun hc_42594 => ?_) (fun hc_42595 => ?_)
        · exact wq_s ⟨(show -359 ≤ (0 : Int32).toInt ∧ (0 : Int32).toInt ≤ 359 from ⟨by omega, by omega⟩), h_r2_q42592_3, trivial⟩
        · refine wq_b (tt_fX12_houseAt hN r2_q42592.2.1 r2_q42592.2.2.1 r2_q42592.2.2.2 x1 x2 x3 x4 ⟨by omega, by omega⟩ ⟨by omega, by omega⟩ h_r2_q42592_3 (by omega)) (fun r3_q42596 h_r3_q42596 => ?_)
          obtain ⟨h_r3_q42596_0, -⟩ := h_r3_q42596
          exact wq_s ⟨(show -359 ≤ r3_q42596.toInt ∧ r3_q42596.toInt ≤ 359 from ⟨by omega, by omega⟩), h_r2_q42592_3, trivial⟩
set_option maxHeartbeats 4000000 in
theorem tt_fX12_agrees_L6 {N : Nat} (hN : 3000000000 ≤ N) (I0 : Nat → Int32) (L0 : Int64) (M0 : Nat → Nat → Int32) (x1 : Int32) (x2 : Int32) (x3 : Int32) (h_x1 : 0 ≤ x1.toInt ∧ x1.toInt ≤ 119) (k_I0 : KX12 I0 M0) (hr_2 : ((0 ≤ x2.toInt ∧ x2.toInt ≤ 1) ∨ (0 ≤ x3.toInt ∧ x3.toInt < (I0 1).toInt)))  : ∀ (fu : Nat) (y6_4 : Int32) (y6_5 : Int32), (1 ≤ y6_5.toInt ∧ y6_5.toInt ≤ 13) → (13 - y6_5.toInt) < (fu : Int) → wq (fX12_agrees_L6 N I0 L0 M0 x1 x2 x3 fu y6_4 y6_5) (fun r => True) := by
  intro fu
  induction fu with
  | zero => intro y6_4 y6_5 h_y6_5 hm; exfalso; omega
  | succ fu ih =>
    intro y6_4 y6_5 h_y6_5 hm
    rw [fX12_agrees_L6.eq_2]
    have l_12 := il_12
    refine wq_lt (fun hc_43108 => ?_) (fun hc_43109 => ?_)
    · have b_43110 := i32b y6_4
      exact wq_s trivial
    · have l_9 := il_9
      have t_43111 := ia_add (9 : Int32) y6_5 (by omega) (by omega)
      have l_1 := il_1
      have t_43112 := ia_sub ((9 : Int32) + y6_5) (1 : Int32) (by omega) (by omega)
      refine wq_b (tt_fX12_at hN I0 L0 M0 x1 (((9 : Int32) + y6_5) - (1 : Int32)) ⟨by omega, by omega⟩ ⟨by omega, by omega⟩ k_I0) (fun r1_q43113 h_r1_q43113 => ?_)
      obtain ⟨h_r1_q43113_0, h_r1_q43113_1, h_r1_q43113_2, -⟩ := h_r1_q43113
      have l_m1 := il_m1
      refine wq_eq (fun hc_43114 => ?_) (fun hc_43115 => ?_)
      · have t_43117 := ia_add y6_5 (1 : Int32) (by omega) (by omega)
        refine wq_v (fun v2_q43116 h_v2_q43116 => ?_)
        have t_v2_q43116 := congrArg Int32.toInt h_v2_q43116
        have b_43118 := i32b y6_4
        exact ih y6_4 v2_q43116 ⟨by omega, by omega⟩ (by omega)
      · have l_7 := il_7
        refine wq_b (tt_fX12_at hN I0 L0 M0 x1 (7 : Int32) ⟨by omega, by omega⟩ ⟨by omega, by omega⟩ k_I0) (fun r3_q43119 h_r3_q43119 => ?_)
        obtain ⟨h_r3_q43119_0, h_r3_q43119_1, h_r3_q43119_2, -⟩ := h_r3_q43119
        have b_43120 := i32b x2
        have b_43121 := i32b x3
        have t_43122 := KX12.i1 k_I0
        refine wq_b (tt_fX12_houseAt hN I0 L0 M0 r3_q43119 x2 x3 y6_5 ⟨by omega, by omega⟩ ⟨by omega, by omega⟩ k_I0 (by omega)) (fun r4_q43123 h_r4_q43123 => ?_)
        obtain ⟨h_r4_q43123_0, -⟩ := h_r4_q43123
        refine wq_eq (fun hc_43124 => ?_) (fun hc_43125 => ?_)
        · have b_43127 := i32b y6_4
          refine wq_v (fun v6_q43126 h_v6_q43126 => ?_)
          have t_v6_q43126 := congrArg Int32.toInt h_v6_q43126
          have t_43129 := ia_add y6_5 (1 : Int32) (by omega) (by omega)
          refine wq_v (fun v7_q43128 h_v7_q43128 => ?_)
          have t_v7_q43128 := congrArg Int32.toInt h_v7_q43128
          have b_43130 := i32b v6_q43126
          exact ih v6_q43126 v7_q43128 ⟨by omega, by omega⟩ (by omega)
        · have t_43132 := ia_add y6_5 (1 : Int32) (by omega) (by omega)
          refine wq_v (fun v5_q43131 h_v5_q43131 => ?_)
          have t_v5_q43131 := congrArg Int32.toInt h_v5_q43131
          have b_43133 := i32b y6_4
          exact ih y6_4 v5_q43131 ⟨by omega, by omega⟩ (by omega)
set_option maxHeartbeats 4000000 in
theorem tt_fX12_agrees {N : Nat} (hN : 3000000000 ≤ N) (I0 : Nat → Int32) (L0 : Int64) (M0 : Nat → Nat → Int32) (x1 : Int32) (x2 : Int32) (x3 : Int32) (h_x1 : 0 ≤ x1.toInt ∧ x1.toInt ≤ 119) (k_I0 : KX12 I0 M0) (hr_2 : ((0 ≤ x2.toInt ∧ x2.toInt ≤ 1) ∨ (0 ≤ x3.toInt ∧ x3.toInt < (I0 1).toInt))) : wq (fX12_agrees N I0 L0 M0 x1 x2 x3) (fun r => True) := by
  unfold fX12_agrees
  have b_43134 := i32b x2
  have b_43135 := i32b x3
  have l_0 := il_0
  have l_1 := il_1
  have t_43136 := KX12.i1 k_I0
  exact tt_fX12_agrees_L6 hN I0 L0 M0 x1 x2 x3 ⟨by omega, by omega⟩ k_I0 (by omega) N (0 : Int32) (1 : Int32) ⟨by omega, by omega⟩ (by omega)
set_option maxHeartbeats 4000000 in
theorem tt_fX12_housesTold_L4 {N : Nat} (hN : 3000000000 ≤ N) (I0 : Nat → Int32) (L0 : Int64) (M0 : Nat → Nat → Int32) (x1 : Int32) (h_x1 : 0 ≤ x1.toInt ∧ x1.toInt ≤ 119) (k_I0 : KX12 I0 M0)  : ∀ (fu : Nat) (y4_2 : Int32) (y4_3 : Int32), (1 ≤ y4_3.toInt ∧ y4_3.toInt ≤ 13) → (13 - y4_3.toInt) < (fu : Int) → wq (fX12_housesTold_L4 N I0 L0 M0 x1 fu y4_2 y4_3) (fun r => True) := by
  intro fu
  induction fu with
  | zero => intro y4_2 y4_3 h_y4_3 hm; exfalso; omega
  | succ fu ih =>
    intro y4_2 y4_3 h_y4_3 hm
    rw [fX12_housesTold_L4.eq_2]
    have l_12 := il_12
    refine wq_lt (fun hc_43450 => ?_) (fun hc_43451 => ?_)
    · have b_43452 := i32b y4_2
      exact wq_s trivial
    · have l_9 := il_9
      have t_43453 := ia_add (9 : Int32) y4_3 (by omega) (by omega)
      have l_1 := il_1
      have t_43454 := ia_sub ((9 : Int32) + y4_3) (1 : Int32) (by omega) (by omega)
      refine wq_b (tt_fX12_at hN I0 L0 M0 x1 (((9 : Int32) + y4_3) - (1 : Int32)) ⟨by omega, by omega⟩ ⟨by omega, by omega⟩ k_I0) (fun r1_q43455 h_r1_q43455 => ?_)
      obtain ⟨h_r1_q43455_0, h_r1_q43455_1, h_r1_q43455_2, -⟩ := h_r1_q43455
      have l_m1 := il_m1
      refine wq_eq (fun hc_43456 => ?_) (fun hc_43457 => ?_)
      · have b_43459 := i32b y4_2
        have l_0 := il_0
        have t_43460 := ia_add y4_2 (0 : Int32) (by omega) (by omega)
        refine wq_v (fun v2_q43458 h_v2_q43458 => ?_)
        have t_v2_q43458 := congrArg Int32.toInt h_v2_q43458
        have t_43462 := ia_add y4_3 (1 : Int32) (by omega) (by omega)
        refine wq_v (fun v3_q43461 h_v3_q43461 => ?_)
        have t_v3_q43461 := congrArg Int32.toInt h_v3_q43461
        have b_43463 := i32b v2_q43458
        exact ih v2_q43458 v3_q43461 ⟨by omega, by omega⟩ (by omega)
      · have b_43465 := i32b y4_2
        refine wq_v (fun v4_q43464 h_v4_q43464 => ?_)
        have t_v4_q43464 := congrArg Int32.toInt h_v4_q43464
        have t_43467 := ia_add y4_3 (1 : Int32) (by omega) (by omega)
        refine wq_v (fun v5_q43466 h_v5_q43466 => ?_)
        have t_v5_q43466 := congrArg Int32.toInt h_v5_q43466
        have b_43468 := i32b v4_q43464
        exact ih v4_q43464 v5_q43466 ⟨by omega, by omega⟩ (by omega)
set_option maxHeartbeats 4000000 in
theorem tt_fX12_housesTold {N : Nat} (hN : 3000000000 ≤ N) (I0 : Nat → Int32) (L0 : Int64) (M0 : Nat → Nat → Int32) (x1 : Int32) (h_x1 : 0 ≤ x1.toInt ∧ x1.toInt ≤ 119) (k_I0 : KX12 I0 M0) : wq (fX12_housesTold N I0 L0 M0 x1) (fun r => True) := by
  unfold fX12_housesTold
  have l_0 := il_0
  have l_1 := il_1
  exact tt_fX12_housesTold_L4 hN I0 L0 M0 x1 ⟨by omega, by omega⟩ k_I0 N (0 : Int32) (1 : Int32) ⟨by omega, by omega⟩ (by omega)
set_option maxHeartbeats 4000000 in
theorem tt_fX12_agree {N : Nat} (hN : 3000000000 ≤ N) (I0 : Nat → Int32) (L0 : Int64) (M0 : Nat → Nat → Int32) (x1 : Int32) (x2 : Int32) (x3 : Int32) (x4 : Int32) (k_I0 : KX12 I0 M0) : wq (fX12_agree N I0 L0 M0 x1 x2 x3 x4) (fun r => KX12 r.2.1 r.2.2.2 ∧ True) := by
  unfold fX12_agree
  have b_43589 := i32b x1
  have b_43590 := i32b x2
  refine wq_b (tt_fX12_isWheel hN I0 L0 M0 x1 x2 k_I0) (fun r1_q43591 h_r1_q43591 => ?_)
  obtain ⟨h_r1_q43591_0, h_r1_q43591_1, h_r1_q43591_2, h_r1_q43591_3, -⟩ := h_r1_q43591
  have t_43592 := KX12.i1 h_r1_q43591_3
  have t_43593 := KX12.i1 k_I0
  have l_0 := il_0
  refine wq_eq (fun hc_43594 => ?_) (fun hc_43595 => ?_)
  · exact wq_s ⟨h_r1_q43591_3, trivial⟩
  · have b_43596 := i32b x3
    have b_43597 := i32b x4
    refine wq_b (tt_fX12_isWay hN r1_q43591.2.1 r1_q43591.2.2.1 r1_q43591.2.2.2 x3 x4 h_r1_q43591_3) (fun r2_q43598 h_r2_q43598 => ?_)
    obtain ⟨h_r2_q43598_0, h_r2_q43598_1, h_r2_q43598_2, h_r2_q43598_3, -⟩ := h_r2_q43598
    have t_43599 := KX12.i1 h_r2_q43598_3
    refine wq_eq (fun hc_43600 => ?_) (fun hc_43601 => ?_)
    · exact wq_s ⟨h_r2_q43598_3, trivial⟩
    · have l_20 := il_20
      have t_43602 := ia_mul (20 : Int32) (20) il_20 x1 (by omega) (by omega)
      have t_43603 := ia_add ((20 : Int32) * x1) x2 (by omega) (by omega)
      have l_7 := il_7
      refine wq_b (tt_fX12_at hN r2_q43598.2.1 r2_q43598.2.2.1 r2_q43598.2.2.2 (((20 : Int32) * x1) + x2) (7 : Int32) ⟨by omega, by omega⟩ ⟨by omega, by omega⟩ h_r2_q43598_3) (fun r3_q43604 h_r3_q43604 => ?_)
      obtain ⟨h_r3_q43604_0, h_r3_q43604_1, h_r3_q43604_2, -⟩ := h_r3_q43604
      have l_m1 := il_m1
      refine wq_eq (fun hc_43605 => ?_) (fun hc_43606 => ?_)
      · exact wq_s ⟨h_r2_q43598_3, trivial⟩
      · refine wq_b (tt_fX12_agrees hN r2_q43598.2.1 r2_q43598.2.2.1 r2_q43598.2.2.2 (((20 : Int32) * x1) + x2) x3 x4 ⟨by omega, by omega⟩ h_r2_q43598_3 (by omega)) (fun r4_q43607 h_r4_q43607 => ?_)
        obtain ⟨-⟩ := h_r4_q43607
        have b_43608 := i32b r4_q43607
        exact wq_s ⟨h_r2_q43598_3, trivial⟩
set_option maxHeartbeats 4000000 in
theorem tt_fX12_possible_L164 {N : Nat} (hN : 3000000000 ≤ N) (x1 : Int32) (x2 : Int32) (x3 : Int32) (r1 : Int32) (v6 : Int32) (y126_7 : Int32) (y126_8 : Int32) (y71_4 : Int32) (g88 : (Nat → Int32) → Int64 → (Nat → Nat → Int32) → Int32 → Int32 → Option (Int32 × (Nat → Int32) × Int64 × (Nat → Nat → Int32))) (g126 : (Nat → Int32) → Int64 → (Nat → Nat → Int32) → Int32 → Int32 → Int32 → Option (Int32 × (Nat → Int32) × Int64 × (Nat → Nat → Int32))) (h_x1 : 0 ≤ x1.toInt ∧ x1.toInt ≤ 5) (h_x2 : 0 ≤ x2.toInt ∧ x2.toInt ≤ 19) (h_y126_8 : 0 ≤ y126_8.toInt ∧ y126_8.toInt ≤ 6) (h_y71_4 : 0 ≤ y71_4.toInt ∧ y71_4.toInt ≤ 119) (hg126 : ∀ (q0 : (Nat → Int32)) (q1 : Int64) (q2 : (Nat → Nat → Int32)) (q3 : Int32) (q4 : Int32) (q5 : Int32), (0 ≤ q5.toInt ∧ q5.toInt ≤ 7) → (KX12 q0 q2) → (y126_8.toInt < q5.toInt) → wq (g126 q0 q1 q2 q3 q4 q5) (fun r => KX12 r.2.1 r.2.2.2 ∧ True)) : ∀ (fu : Nat) (I0_l164 : (Nat → Int32)) (L0_l164 : Int64) (M0_l164 : (Nat → Nat → Int32)) (y164_9 : Int32) (y164_10 : Int32), (0 ≤ y164_9.toInt ∧ y164_9.toInt ≤ 1) → (0 ≤ y164_10.toInt ∧ y164_10.toInt ≤ 360) → (KX12 I0_l164 M0_l164) → (y126_8.toInt < (I0_l164 1).toInt) → (360 - y164_10.toInt) < (fu : Int) → wq (fX12_possible_L164 N x1 x2 x3 r1 v6 y126_7 y126_8 y71_4 g88 g126 fu I0_l164 L0_l164 M0_l164 y164_9 y164_10) (fun r => KX12 r.2.1 r.2.2.2 ∧ True) := by
  intro fu
  induction fu with
  | zero => intro I0_l164 L0_l164 M0_l164 y164_9 y164_10 h_y164_9 h_y164_10 k_I0_l164 hl_3 hm; exfalso; omega
  | succ fu ih =>
    intro I0_l164 L0_l164 M0_l164 y164_9 y164_10 h_y164_9 h_y164_10 k_I0_l164 hl_3 hm
    rw [fX12_possible_L164.eq_2]
    have l_360 := il_360
    refine wq_le (fun hc_46063 => ?_) (fun hc_46064 => ?_)
    · unfold fX12_possible_J208
      have l_0 := il_0
      refine wq_eq (fun hc_46065 => ?_) (fun hc_46066 => ?_)
      · have l_1 := il_1
        have t_46068 := ia_add y126_8 (1 : Int32) (by omega) (by omega)
        refine wq_v (fun v2_q46067 h_v2_q46067 => ?_)
        have t_v2_q46067 := congrArg Int32.toInt h_v2_q46067
        have b_46069 := i32b v6
        have b_46070 := i32b y126_7
        exact hg126 I0_l164 L0_l164 M0_l164 v6 y126_7 v2_q46067 ⟨by omega, by omega⟩ k_I0_l164 (by omega)
      · have b_46072 := i32b y126_7
        refine wq_v (fun v3_q46071 h_v3_q46071 => ?_)
        have t_v3_q46071 := congrArg Int32.toInt h_v3_q46071
        have l_1 := il_1
        have t_46074 := ia_add y126_8 (1 : Int32) (by omega) (by omega)
        refine wq_v (fun v4_q46073 h_v4_q46073 => ?_)
        have t_v4_q46073 := congrArg Int32.toInt h_v4_q46073
        have b_46075 := i32b v6
        have b_46076 := i32b v3_q46071
        exact hg126 I0_l164 L0_l164 M0_l164 v6 v3_q46071 v4_q46073 ⟨by omega, by omega⟩ k_I0_l164 (by omega)
    · have b_46077 := i32b x3
      have l_1 := il_1
      refine wq_eq (fun hc_46078 => ?_) (fun hc_46079 => ?_)
      · have l_0 := il_0
        refine wq_eq (fun hc_46080 => ?_) (fun hc_46081 => ?_)
        · have t_46082 := KX12.i1 k_I0_l164
          refine wq_b (tt_fX12_isHour hN I0_l164 L0_l164 M0_l164 y71_4 y126_8 y164_10 ⟨by omega, by omega⟩ ⟨by omega, by omega⟩ ⟨by omega, by omega⟩ k_I0_l164 (by omega)) (fun r8_q46083 h_r8_q46083 => ?_)
          obtain ⟨h_r8_q46083_0, -⟩ := h_r8_q46083
          refine wq_eq (fun hc_46084 => ?_) (fun hc_46085 => ?_)
          · have t_46087 := ia_add y164_10 (1 : Int32) (by omega) (by omega)
            refine wq_v (fun v9_q46086 h_v9_q46086 => ?_)
            have t_v9_q46086 := congrArg Int32.toInt h_v9_q46086
            exact ih I0_l164 L0_l164 M0_l164 (0 : Int32) v9_q46086 ⟨by omega, by omega⟩ ⟨by omega, by omega⟩ k_I0_l164 (by omega) (by omega)
          · have t_46089 := ia_add y164_10 (1 : Int32) (by omega) (by omega)
            refine wq_v (fun v10_q46088 h_v10_q46088 => ?_)
            have t_v10_q46088 := congrArg Int32.toInt h_v10_q46088
            exact ih I0_l164 L0_l164 M0_l164 (1 : Int32) v10_q46088 ⟨by omega, by omega⟩ ⟨by omega, by omega⟩ k_I0_l164 (by omega) (by omega)
        · have t_46091 := ia_add y164_10 (1 : Int32) (by omega) (by omega)
          refine wq_v (fun v7_q46090 h_v7_q46090 => ?_)
          have t_v7_q46090 := congrArg Int32.toInt h_v7_q46090
          have t_46092 := KX12.i1 k_I0_l164
          exact ih I0_l164 L0_l164 M0_l164 (1 : Int32) v7_q46090 ⟨by omega, by omega⟩ ⟨by omega, by omega⟩ k_I0_l164 (by omega) (by omega)
      · unfold fX12_possible_J208
        have l_0 := il_0
        refine wq_eq (fun hc_46093 => ?_) (fun hc_46094 => ?_)
        · have t_46096 := ia_add y126_8 (1 : Int32) (by omega) (by omega)
          refine wq_v (fun v2_q46095 h_v2_q46095 => ?_)
          have t_v2_q46095 := congrArg Int32.toInt h_v2_q46095
          have b_46097 := i32b v6
          have b_46098 := i32b y126_7
          exact hg126 I0_l164 L0_l164 M0_l164 v6 y126_7 v2_q46095 ⟨by omega, by omega⟩ k_I0_l164 (by omega)
        · have b_46100 := i32b y126_7
          refine wq_v (fun v3_q46099 h_v3_q46099 => ?_)
          have t_v3_q46099 := congrArg Int32.toInt h_v3_q46099
          have t_46102 := ia_add y126_8 (1 : Int32) (by omega) (by omega)
          refine wq_v (fun v4_q46101 h_v4_q46101 => ?_)
          have t_v4_q46101 := congrArg Int32.toInt h_v4_q46101
          have b_46103 := i32b v6
          have b_46104 := i32b v3_q46099
          exact hg126 I0_l164 L0_l164 M0_l164 v6 v3_q46099 v4_q46101 ⟨by omega, by omega⟩ k_I0_l164 (by omega)

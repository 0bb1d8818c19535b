set_option maxHeartbeats 4000000 in
theorem tt_fX12_readsEntry {N : Nat} (hN : 3000000000 ≤ N) (I0 : Nat → Int32) (L0 : Int64) (M0 : Nat → Nat → Int32) (k_I0 : KX12 I0 M0) : wq (fX12_readsEntry N I0 L0 M0) (fun r => KX12 r.1 r.2.2 ∧ True) := by
  unfold fX12_readsEntry
  refine wq_b (tt_fX12_knownWord hN I0 L0 M0 k_I0) (fun r21_q27824 h_r21_q27824 => ?_)
  obtain ⟨h_r21_q27824_0, -⟩ := h_r21_q27824
  have l_0 := il_0
  refine wq_lt (fun hc_27825 => ?_) (fun hc_27826 => ?_)
  · unfold fX12_readsEntry_J15
    have l_1 := il_1
    refine wq_b (tt_fX12_wrong hN I0 L0 M0 (1 : Int32) k_I0) (fun r20_q27827 h_r20_q27827 => ?_)
    obtain ⟨h_r20_q27827_0, -⟩ := h_r20_q27827
    unfold fX12_readsEntry_J20
    refine wq_b (tt_fX12_isGood hN r20_q27827.1 r20_q27827.2.1 r20_q27827.2.2 h_r20_q27827_0) (fun r19_q27828 h_r19_q27828 => ?_)
    obtain ⟨h_r19_q27828_0, -⟩ := h_r19_q27828
    refine wq_eq (fun hc_27829 => ?_) (fun hc_27830 => ?_)
    · exact wq_s ⟨h_r20_q27827_0, trivial⟩
    · have l_10 := il_10
      refine wq_eq (fun hc_27831 => ?_) (fun hc_27832 => ?_)
      · exfalso; omega
      · unfold fX12_readsEntry_J40
        have l_9 := il_9
        refine wq_eq (fun hc_27833 => ?_) (fun hc_27834 => ?_)
        · exfalso; omega
        · refine wq_in (n := 22) ⟨by omega, by omega⟩ ?_
          have t_27835 := KX12.m16 h_r20_q27827_0 r21_q27824.toNatClampNeg
          have l_m1 := il_m1
          refine wq_eq (fun hc_27836 => ?_) (fun hc_27837 => ?_)
          · unfold fX12_readsEntry_J62
            refine wq_b (tt_fX12_isGood hN r20_q27827.1 r20_q27827.2.1 r20_q27827.2.2 h_r20_q27827_0) (fun r9b_q27838 h_r9b_q27838 => ?_)
            obtain ⟨h_r9b_q27838_0, -⟩ := h_r9b_q27838
            refine wq_eq (fun hc_27839 => ?_) (fun hc_27840 => ?_)
            · exact wq_s ⟨h_r20_q27827_0, trivial⟩
            · refine wq_b (tt_fX12_steps hN r20_q27827.1 r20_q27827.2.1 r20_q27827.2.2 h_r20_q27827_0) (fun r10_q27841 h_r10_q27841 => ?_)
              obtain ⟨h_r10_q27841_0, -⟩ := h_r10_q27841
              refine wq_eq (fun hc_27842 => ?_) (fun hc_27843 => ?_)
              · exfalso; omega
              · unfold fX12_readsEntry_J129
                refine wq_eq (fun hc_27844 => ?_) (fun hc_27845 => ?_)
                · exfalso; omega
                · unfold fX12_readsEntry_J144
                  have l_11 := il_11
                  refine wq_b (tt_fX12_number hN r10_q27841.1 r10_q27841.2.1 r10_q27841.2.2 (0 : Int32) (11 : Int32) h_r10_q27841_0) (fun r7_q27846 h_r7_q27846 => ?_)
                  obtain ⟨h_r7_q27846_0, -⟩ := h_r7_q27846
                  have b_27848 := i32b r7_q27846.1
                  refine wq_v (fun v8_q27847 h_v8_q27847 => ?_)
                  have t_v8_q27847 := congrArg Int32.toInt h_v8_q27847
                  refine wq_eq (fun hc_27849 => ?_) (fun hc_27850 => ?_)
                  · exfalso; omega
                  · unfold fX12_readsEntry_J166
                    unfold fX12_readsEntry_J168
                    have l_29 := il_29
                    refine wq_b (tt_fX12_number hN r7_q27846.2.1 r7_q27846.2.2.1 r7_q27846.2.2.2 (0 : Int32) (29 : Int32) h_r7_q27846_0) (fun r3_q27851 h_r3_q27851 => ?_)
                    obtain ⟨h_r3_q27851_0, -⟩ := h_r3_q27851
                    have b_27853 := i32b r3_q27851.1
                    refine wq_v (fun v4_q27852 h_v4_q27852 => ?_)
                    have t_v4_q27852 := congrArg Int32.toInt h_v4_q27852
                    refine wq_b (tt_fX12_isGood hN r3_q27851.2.1 r3_q27851.2.2.1 r3_q27851.2.2.2 h_r3_q27851_0) (fun r5_q27854 h_r5_q27854 => ?_)
                    obtain ⟨h_r5_q27854_0, -⟩ := h_r5_q27854
                    refine wq_eq (fun hc_27855 => ?_) (fun hc_27856 => ?_)
                    · unfold fX12_readsEntry_J193
                      have l_3 := il_3
                      refine wq_eq (fun hc_27857 => ?_) (fun hc_27858 => ?_)
                      · refine wq_b (tt_fX12_need hN r3_q27851.2.1 r3_q27851.2.2.1 r3_q27851.2.2.2 (1 : Int32) h_r3_q27851_0) (fun r2_q27859 h_r2_q27859 => ?_)
                        obtain ⟨h_r2_q27859_0, -⟩ := h_r2_q27859
                        exact wq_s ⟨h_r2_q27859_0, trivial⟩
                      · refine wq_b (tt_fX12_need hN r3_q27851.2.1 r3_q27851.2.2.1 r3_q27851.2.2.2 (0 : Int32) h_r3_q27851_0) (fun r1_q27860 h_r1_q27860 => ?_)
                        obtain ⟨h_r1_q27860_0, -⟩ := h_r1_q27860
                        exact wq_s ⟨h_r1_q27860_0, trivial⟩
                    · refine wq_in (n := 22) ⟨by omega, by omega⟩ ?_
                      refine wq_v (fun M0_6_q27861 h_M0_6_q27861 => ?_)
                      have b_27862 := i32b v8_q27847
                      have l_30 := il_30
                      have b_27863 := i32b v4_q27852
                      have tn_27864 := tn_of r21_q27824 (by omega)
                      have k_M0_6_q27861 : KX12 r3_q27851.2.1 M0_6_q27861 := by rw [h_M0_6_q27861]; exact KX12.sm16 h_r3_q27851_0 ⟨by omega, by omega⟩ (DN.um (KX12.edn h_r3_q27851_0) (fun q => by omega))
                      unfold fX12_readsEntry_J193
                      have l_3 := il_3
                      refine wq_eq (fun hc_27865 => ?_) (fun hc_27866 => ?_)
                      · refine wq_b (tt_fX12_need hN r3_q27851.2.1 r3_q27851.2.2.1 M0_6_q27861 (1 : Int32) k_M0_6_q27861) (fun r2_q27867 h_r2_q27867 => ?_)
                        obtain ⟨h_r2_q27867_0, -⟩ := h_r2_q27867
                        exact wq_s ⟨h_r2_q27867_0, trivial⟩
                      · refine wq_b (tt_fX12_need hN r3_q27851.2.1 r3_q27851.2.2.1 M0_6_q27861 (0 : Int32) k_M0_6_q27861) (fun r1_q27868 h_r1_q27868 => ?_)
                        obtain ⟨h_r1_q27868_0, -⟩ := h_r1_q27868
                        exact wq_s ⟨h_r1_q27868_0, trivial⟩
          · have l_3 := il_3
            refine wq_b (tt_fX12_wrong hN r20_q27827.1 r20_q27827.2.1 r20_q27827.2.2 (3 : Int32) h_r20_q27827_0) (fun r18_q27869 h_r18_q27869 => ?_)
            obtain ⟨h_r18_q27869_0, -⟩ := h_r18_q27869
            unfold fX12_readsEntry_J62
            refine wq_b (tt_fX12_isGood hN r18_q27869.1 r18_q27869.2.1 r18_q27869.2.2 h_r18_q27869_0) (fun r9b_q27870 h_r9b_q27870 => ?_)
            obtain ⟨h_r9b_q27870_0, -⟩ := h_r9b_q27870
            refine wq_eq (fun hc_27871 => ?_) (fun hc_27872 => ?_)
            · exact wq_s ⟨h_r18_q27869_0, trivial⟩
            · refine wq_b (tt_fX12_steps hN r18_q27869.1 r18_q27869.2.1 r18_q27869.2.2 h_r18_q27869_0) (fun r10_q27873 h_r10_q27873 => ?_)
              obtain ⟨h_r10_q27873_0, -⟩ := h_r10_q27873
              refine wq_eq (fun hc_27874 => ?_) (fun hc_27875 => ?_)
              · exfalso; omega
              · unfold fX12_readsEntry_J129
                refine wq_eq (fun hc_27876 => ?_) (fun hc_27877 => ?_)
                · exfalso; omega
                · unfold fX12_readsEntry_J144
                  have l_11 := il_11
                  refine wq_b (tt_fX12_number hN r10_q27873.1 r10_q27873.2.1 r10_q27873.2.2 (0 : Int32) (11 : Int32) h_r10_q27873_0) (fun r7_q27878 h_r7_q27878 => ?_)
                  obtain ⟨h_r7_q27878_0, -⟩ := h_r7_q27878
                  have b_27880 := i32b r7_q27878.1
                  refine wq_v (fun v8_q27879 h_v8_q27879 => ?_)
                  have t_v8_q27879 := congrArg Int32.toInt h_v8_q27879
                  refine wq_eq (fun hc_27881 => ?_) (fun hc_27882 => ?_)
                  · exfalso; omega
                  · unfold fX12_readsEntry_J166
                    unfold fX12_readsEntry_J168
                    have l_29 := il_29
                    refine wq_b (tt_fX12_number hN r7_q27878.2.1 r7_q27878.2.2.1 r7_q27878.2.2.2 (0 : Int32) (29 : Int32) h_r7_q27878_0) (fun r3_q27883 h_r3_q27883 => ?_)
                    obtain ⟨h_r3_q27883_0, -⟩ := h_r3_q27883
                    have b_27885 := i32b r3_q27883.1
                    refine wq_v (fun v4_q27884 h_v4_q27884 => ?_)
                    have t_v4_q27884 := congrArg Int32.toInt h_v4_q27884
                    refine wq_b (tt_fX12_isGood hN r3_q27883.2.1 r3_q27883.2.2.1 r3_q27883.2.2.2 h_r3_q27883_0) (fun r5_q27886 h_r5_q27886 => ?_)
                    obtain ⟨h_r5_q27886_0, -⟩ := h_r5_q27886
                    refine wq_eq (fun hc_27887 => ?_) (fun hc_27888 => ?_)
                    · unfold fX12_readsEntry_J193
                      refine wq_eq (fun hc_27889 => ?_) (fun hc_27890 => ?_)
                      · refine wq_b (tt_fX12_need hN r3_q27883.2.1 r3_q27883.2.2.1 r3_q27883.2.2.2 (1 : Int32) h_r3_q27883_0) (fun r2_q27891 h_r2_q27891 => ?_)
                        obtain ⟨h_r2_q27891_0, -⟩ := h_r2_q27891
                        exact wq_s ⟨h_r2_q27891_0, trivial⟩
                      · refine wq_b (tt_fX12_need hN r3_q27883.2.1 r3_q27883.2.2.1 r3_q27883.2.2.2 (0 : Int32) h_r3_q27883_0) (fun r1_q27892 h_r1_q27892 => ?_)
                        obtain ⟨h_r1_q27892_0, -⟩ := h_r1_q27892
                        exact wq_s ⟨h_r1_q27892_0, trivial⟩
                    · refine wq_in (n := 22) ⟨by omega, by omega⟩ ?_
                      refine wq_v (fun M0_6_q27893 h_M0_6_q27893 => ?_)
                      have b_27894 := i32b v8_q27879
                      have l_30 := il_30
                      have b_27895 := i32b v4_q27884
                      have tn_27896 := tn_of r21_q27824 (by omega)
                      have k_M0_6_q27893 : KX12 r3_q27883.2.1 M0_6_q27893 := by rw [h_M0_6_q27893]; exact KX12.sm16 h_r3_q27883_0 ⟨by omega, by omega⟩ (DN.um (KX12.edn h_r3_q27883_0) (fun q => by omega))
                      unfold fX12_readsEntry_J193
                      refine wq_eq (fun hc_27897 => ?_) (fun hc_27898 => ?_)
                      · refine wq_b (tt_fX12_need hN r3_q27883.2.1 r3_q27883.2.2.1 M0_6_q27893 (1 : Int32) k_M0_6_q27893) (fun r2_q27899 h_r2_q27899 => ?_)
                        obtain ⟨h_r2_q27899_0, -⟩ := h_r2_q27899
                        exact wq_s ⟨h_r2_q27899_0, trivial⟩
                      · refine wq_b (tt_fX12_need hN r3_q27883.2.1 r3_q27883.2.2.1 M0_6_q27893 (0 : Int32) k_M0_6_q27893) (fun r1_q27900 h_r1_q27900 => ?_)
                        obtain ⟨h_r1_q27900_0, -⟩ := h_r1_q27900
                        exact wq_s ⟨h_r1_q27900_0, trivial⟩
  · have l_10 := il_10
    refine wq_le (fun hc_27901 => ?_) (fun hc_27902 => ?_)
    · unfold fX12_readsEntry_J20
      refine wq_b (tt_fX12_isGood hN I0 L0 M0 k_I0) (fun r19_q27903 h_r19_q27903 => ?_)
      obtain ⟨h_r19_q27903_0, -⟩ := h_r19_q27903
      refine wq_eq (fun hc_27904 => ?_) (fun hc_27905 => ?_)
      · exact wq_s ⟨k_I0, trivial⟩
      · refine wq_eq (fun hc_27906 => ?_) (fun hc_27907 => ?_)
        · unfold fX12_readsEntry_J40
          have l_9 := il_9
          refine wq_eq (fun hc_27908 => ?_) (fun hc_27909 => ?_)
          · exfalso; omega
          · have l_21 := il_21
            refine wq_in (n := 22) ⟨by omega, by omega⟩ ?_
            have t_27910 := KX12.m16 k_I0 ((21 : Int32)).toNatClampNeg
            have l_m1 := il_m1
            refine wq_eq (fun hc_27911 => ?_) (fun hc_27912 => ?_)
            · unfold fX12_readsEntry_J62
              refine wq_b (tt_fX12_isGood hN I0 L0 M0 k_I0) (fun r9b_q27913 h_r9b_q27913 => ?_)
              obtain ⟨h_r9b_q27913_0, -⟩ := h_r9b_q27913
              refine wq_eq (fun hc_27914 => ?_) (fun hc_27915 => ?_)
              · exact wq_s ⟨k_I0, trivial⟩
              · refine wq_b (tt_fX12_steps hN I0 L0 M0 k_I0) (fun r10_q27916 h_r10_q27916 => ?_)
                obtain ⟨h_r10_q27916_0, -⟩ := h_r10_q27916
                refine wq_eq (fun hc_27917 => ?_) (fun hc_27918 => ?_)
                · exfalso; omega
                · unfold fX12_readsEntry_J129
                  refine wq_eq (fun hc_27919 => ?_) (fun hc_27920 => ?_)
                  · unfold fX12_readsEntry_J144
                    have l_12 := il_12
                    refine wq_b (tt_fX12_number hN r10_q27916.1 r10_q27916.2.1 r10_q27916.2.2 (0 : Int32) (12 : Int32) h_r10_q27916_0) (fun r7_q27921 h_r7_q27921 => ?_)
                    obtain ⟨h_r7_q27921_0, -⟩ := h_r7_q27921
                    have b_27923 := i32b r7_q27921.1
                    refine wq_v (fun v8_q27922 h_v8_q27922 => ?_)
                    have t_v8_q27922 := congrArg Int32.toInt h_v8_q27922
                    refine wq_eq (fun hc_27924 => ?_) (fun hc_27925 => ?_)
                    · have b_27926 := i32b v8_q27922
                      refine wq_eq (fun hc_27927 => ?_) (fun hc_27928 => ?_)
                      · unfold fX12_readsEntry_J168
                        have l_4 := il_4
                        refine wq_b (tt_fX12_number hN r7_q27921.2.1 r7_q27921.2.2.1 r7_q27921.2.2.2 (0 : Int32) (4 : Int32) h_r7_q27921_0) (fun r3_q27929 h_r3_q27929 => ?_)
                        obtain ⟨h_r3_q27929_0, -⟩ := h_r3_q27929
                        have b_27931 := i32b r3_q27929.1
                        refine wq_v (fun v4_q27930 h_v4_q27930 => ?_)
                        have t_v4_q27930 := congrArg Int32.toInt h_v4_q27930
                        refine wq_b (tt_fX12_isGood hN r3_q27929.2.1 r3_q27929.2.2.1 r3_q27929.2.2.2 h_r3_q27929_0) (fun r5_q27932 h_r5_q27932 => ?_)
                        obtain ⟨h_r5_q27932_0, -⟩ := h_r5_q27932
                        refine wq_eq (fun hc_27933 => ?_) (fun hc_27934 => ?_)
                        · unfold fX12_readsEntry_J193
                          have l_3 := il_3
                          refine wq_eq (fun hc_27935 => ?_) (fun hc_27936 => ?_)
                          · have l_1 := il_1
                            refine wq_b (tt_fX12_need hN r3_q27929.2.1 r3_q27929.2.2.1 r3_q27929.2.2.2 (1 : Int32) h_r3_q27929_0) (fun r2_q27937 h_r2_q27937 => ?_)
                            obtain ⟨h_r2_q27937_0, -⟩ := h_r2_q27937
                            exact wq_s ⟨h_r2_q27937_0, trivial⟩
                          · refine wq_b (tt_fX12_need hN r3_q27929.2.1 r3_q27929.2.2.1 r3_q27929.2.2.2 (0 : Int32) h_r3_q27929_0) (fun r1_q27938 h_r1_q27938 => ?_)
                            obtain ⟨h_r1_q27938_0, -⟩ := h_r1_q27938
                            exact wq_s ⟨h_r1_q27938_0, trivial⟩
                        · refine wq_in (n := 22) ⟨by omega, by omega⟩ ?_
                          refine wq_v (fun M0_6_q27939 h_M0_6_q27939 => ?_)
                          have l_30 := il_30
                          have t_27940 := ia_mul (30 : Int32) (30) il_30 v8_q27922 (by omega) (by omega)
                          have b_27941 := i32b v4_q27930
                          have tn_27942 := tn_of (21 : Int32) (by omega)
                          have k_M0_6_q27939 : KX12 r3_q27929.2.1 M0_6_q27939 := by rw [h_M0_6_q27939]; exact KX12.sm16 h_r3_q27929_0 ⟨by omega, by omega⟩ (DN.um (KX12.edn h_r3_q27929_0) (fun q => by omega))
                          unfold fX12_readsEntry_J193
                          have l_3 := il_3
                          refine wq_eq (fun hc_27943 => ?_) (fun hc_27944 => ?_)
                          · have l_1 := il_1
                            refine wq_b (tt_fX12_need hN r3_q27929.2.1 r3_q27929.2.2.1 M0_6_q27939 (1 : Int32) k_M0_6_q27939) (fun r2_q27945 h_r2_q27945 => ?_)
                            obtain ⟨h_r2_q27945_0, -⟩ := h_r2_q27945
                            exact wq_s ⟨h_r2_q27945_0, trivial⟩
                          · refine wq_b (tt_fX12_need hN r3_q27929.2.1 r3_q27929.2.2.1 M0_6_q27939 (0 : Int32) k_M0_6_q27939) (fun r1_q27946 h_r1_q27946 => ?_)
                            obtain ⟨h_r1_q27946_0, -⟩ := h_r1_q27946
                            exact wq_s ⟨h_r1_q27946_0, trivial⟩
                      · unfold fX12_readsEntry_J166
                        unfold fX12_readsEntry_J168
                        have l_29 := il_29
                        refine wq_b (tt_fX12_number hN r7_q27921.2.1 r7_q27921.2.2.1 r7_q27921.2.2.2 (0 : Int32) (29 : Int32) h_r7_q27921_0) (fun r3_q27947 h_r3_q27947 => ?_)
                        obtain ⟨h_r3_q27947_0, -⟩ := h_r3_q27947
                        have b_27949 := i32b r3_q27947.1
                        refine wq_v (fun v4_q27948 h_v4_q27948 => ?_)
                        have t_v4_q27948 := congrArg Int32.toInt h_v4_q27948
                        refine wq_b (tt_fX12_isGood hN r3_q27947.2.1 r3_q27947.2.2.1 r3_q27947.2.2.2 h_r3_q27947_0) (fun r5_q27950 h_r5_q27950 => ?_)
                        obtain ⟨h_r5_q27950_0, -⟩ := h_r5_q27950
                        refine wq_eq (fun hc_27951 => ?_) (fun hc_27952 => ?_)
                        · unfold fX12_readsEntry_J193
                          have l_3 := il_3
                          refine wq_eq (fun hc_27953 => ?_) (fun hc_27954 => ?_)
                          · have l_1 := il_1
                            refine wq_b (tt_fX12_need hN r3_q27947.2.1 r3_q27947.2.2.1 r3_q27947.2.2.2 (1 : Int32) h_r3_q27947_0) (fun r2_q27955 h_r2_q27955 => ?_)
                            obtain ⟨h_r2_q27955_0, -⟩ := h_r2_q27955
                            exact wq_s ⟨h_r2_q27955_0, trivial⟩
                          · refine wq_b (tt_fX12_need hN r3_q27947.2.1 r3_q27947.2.2.1 r3_q27947.2.2.2 (0 : Int32) h_r3_q27947_0) (fun r1_q27956 h_r1_q27956 => ?_)
                            obtain ⟨h_r1_q27956_0, -⟩ := h_r1_q27956
                            exact wq_s ⟨h_r1_q27956_0, trivial⟩
                        · refine wq_in (n := 22) ⟨by omega, by omega⟩ ?_
                          refine wq_v (fun M0_6_q27957 h_M0_6_q27957 => ?_)
                          have l_30 := il_30
                          have b_27958 := i32b v4_q27948
                          have tn_27959 := tn_of (21 : Int32) (by omega)
                          have k_M0_6_q27957 : KX12 r3_q27947.2.1 M0_6_q27957 := by rw [h_M0_6_q27957]; exact KX12.sm16 h_r3_q27947_0 ⟨by omega, by omega⟩ (DN.um (KX12.edn h_r3_q27947_0) (fun q => by omega))
                          unfold fX12_readsEntry_J193
                          have l_3 := il_3
                          refine wq_eq (fun hc_27960 => ?_) (fun hc_27961 => ?_)
                          · have l_1 := il_1
                            refine wq_b (tt_fX12_need hN r3_q27947.2.1 r3_q27947.2.2.1 M0_6_q27957 (1 : Int32) k_M0_6_q27957) (fun r2_q27962 h_r2_q27962 => ?_)
                            obtain ⟨h_r2_q27962_0, -⟩ := h_r2_q27962
                            exact wq_s ⟨h_r2_q27962_0, trivial⟩
                          · refine wq_b (tt_fX12_need hN r3_q27947.2.1 r3_q27947.2.2.1 M0_6_q27957 (0 : Int32) k_M0_6_q27957) (fun r1_q27963 h_r1_q27963 => ?_)
                            obtain ⟨h_r1_q27963_0, -⟩ := h_r1_q27963
                            exact wq_s ⟨h_r1_q27963_0, trivial⟩
                    · exfalso; omega
                  · exfalso; omega
            · have l_3 := il_3
              refine wq_b (tt_fX12_wrong hN I0 L0 M0 (3 : Int32) k_I0) (fun r18_q27964 h_r18_q27964 => ?_)
              obtain ⟨h_r18_q27964_0, -⟩ := h_r18_q27964
              unfold fX12_readsEntry_J62
              refine wq_b (tt_fX12_isGood hN r18_q27964.1 r18_q27964.2.1 r18_q27964.2.2 h_r18_q27964_0) (fun r9b_q27965 h_r9b_q27965 => ?_)
              obtain ⟨h_r9b_q27965_0, -⟩ := h_r9b_q27965
              refine wq_eq (fun hc_27966 => ?_) (fun hc_27967 => ?_)
              · exact wq_s ⟨h_r18_q27964_0, trivial⟩
              · refine wq_b (tt_fX12_steps hN r18_q27964.1 r18_q27964.2.1 r18_q27964.2.2 h_r18_q27964_0) (fun r10_q27968 h_r10_q27968 => ?_)
                obtain ⟨h_r10_q27968_0, -⟩ := h_r10_q27968
                refine wq_eq (fun hc_27969 => ?_) (fun hc_27970 => ?_)
                · exfalso; omega
                · unfold fX12_readsEntry_J129
                  refine wq_eq (fun hc_27971 => ?_) (fun hc_27972 => ?_)
                  · unfold fX12_readsEntry_J144
                    have l_12 := il_12
                    refine wq_b (tt_fX12_number hN r10_q27968.1 r10_q27968.2.1 r10_q27968.2.2 (0 : Int32) (12 : Int32) h_r10_q27968_0) (fun r7_q27973 h_r7_q27973 => ?_)
                    obtain ⟨h_r7_q27973_0, -⟩ := h_r7_q27973
                    have b_27975 := i32b r7_q27973.1
                    refine wq_v (fun v8_q27974 h_v8_q27974 => ?_)
                    have t_v8_q27974 := congrArg Int32.toInt h_v8_q27974
                    refine wq_eq (fun hc_27976 => ?_) (fun hc_27977 => ?_)
                    · have b_27978 := i32b v8_q27974
                      refine wq_eq (fun hc_27979 => ?_) (fun hc_27980 => ?_)
                      · unfold fX12_readsEntry_J168
                        have l_4 := il_4
                        refine wq_b (tt_fX12_number hN r7_q27973.2.1 r7_q27973.2.2.1 r7_q27973.2.2.2 (0 : Int32) (4 : Int32) h_r7_q27973_0) (fun r3_q27981 h_r3_q27981 => ?_)
                        obtain ⟨h_r3_q27981_0, -⟩ := h_r3_q27981
                        have b_27983 := i32b r3_q27981.1
                        refine wq_v (fun v4_q27982 h_v4_q27982 => ?_)
                        have t_v4_q27982 := congrArg Int32.toInt h_v4_q27982
                        refine wq_b (tt_fX12_isGood hN r3_q27981.2.1 r3_q27981.2.2.1 r3_q27981.2.2.2 h_r3_q27981_0) (fun r5_q27984 h_r5_q27984 => ?_)
                        obtain ⟨h_r5_q27984_0, -⟩ := h_r5_q27984
                        refine wq_eq (fun hc_27985 => ?_) (fun hc_27986 => ?_)
                        · unfold fX12_readsEntry_J193
                          refine wq_eq (fun hc_27987 => ?_) (fun hc_27988 => ?_)
                          · have l_1 := il_1
                            refine wq_b (tt_fX12_need hN r3_q27981.2.1 r3_q27981.2.2.1 r3_q27981.2.2.2 (1 : Int32) h_r3_q27981_0) (fun r2_q27989 h_r2_q27989 => ?_)
                            obtain ⟨h_r2_q27989_0, -⟩ := h_r2_q27989
                            exact wq_s ⟨h_r2_q27989_0, trivial⟩
                          · refine wq_b (tt_fX12_need hN r3_q27981.2.1 r3_q27981.2.2.1 r3_q27981.2.2.2 (0 : Int32) h_r3_q27981_0) (fun r1_q27990 h_r1_q27990 => ?_)
                            obtain ⟨h_r1_q27990_0, -⟩ := h_r1_q27990
                            exact wq_s ⟨h_r1_q27990_0, trivial⟩
                        · refine wq_in (n := 22) ⟨by omega, by omega⟩ ?_
                          refine wq_v (fun M0_6_q27991 h_M0_6_q27991 => ?_)
                          have l_30 := il_30
                          have t_27992 := ia_mul (30 : Int32) (30) il_30 v8_q27974 (by omega) (by omega)
                          have b_27993 := i32b v4_q27982
                          have tn_27994 := tn_of (21 : Int32) (by omega)
                          have k_M0_6_q27991 : KX12 r3_q27981.2.1 M0_6_q27991 := by rw [h_M0_6_q27991]; exact KX12.sm16 h_r3_q27981_0 ⟨by omega, by omega⟩ (DN.um (KX12.edn h_r3_q27981_0) (fun q => by omega))
                          unfold fX12_readsEntry_J193
                          refine wq_eq (fun hc_27995 => ?_) (fun hc_27996 => ?_)
                          · have l_1 := il_1
                            refine wq_b (tt_fX12_need hN r3_q27981.2.1 r3_q27981.2.2.1 M0_6_q27991 (1 : Int32) k_M0_6_q27991) (fun r2_q27997 h_r2_q27997 => ?_)
                            obtain ⟨h_r2_q27997_0, -⟩ := h_r2_q27997
                            exact wq_s ⟨h_r2_q27997_0, trivial⟩
                          · refine wq_b (tt_fX12_need hN r3_q27981.2.1 r3_q27981.2.2.1 M0_6_q27991 (0 : Int32) k_M0_6_q27991) (fun r1_q27998 h_r1_q27998 => ?_)
                            obtain ⟨h_r1_q27998_0, -⟩ := h_r1_q27998
                            exact wq_s ⟨h_r1_q27998_0, trivial⟩
                      · unfold fX12_readsEntry_J166
                        unfold fX12_readsEntry_J168
                        have l_29 := il_29
                        refine wq_b (tt_fX12_number hN r7_q27973.2.1 r7_q27973.2.2.1 r7_q27973.2.2.2 (0 : Int32) (29 : Int32) h_r7_q27973_0) (fun r3_q27999 h_r3_q27999 => ?_)
                        obtain ⟨h_r3_q27999_0, -⟩ := h_r3_q27999
                        have b_28001 := i32b r3_q27999.1
                        refine wq_v (fun v4_q28000 h_v4_q28000 => ?_)
                        have t_v4_q28000 := congrArg Int32.toInt h_v4_q28000
                        refine wq_b (tt_fX12_isGood hN r3_q27999.2.1 r3_q27999.2.2.1 r3_q27999.2.2.2 h_r3_q27999_0) (fun r5_q28002 h_r5_q28002 => ?_)
                        obtain ⟨h_r5_q28002_0, -⟩ := h_r5_q28002
                        refine wq_eq (fun hc_28003 => ?_) (fun hc_28004 => ?_)
                        · unfold fX12_readsEntry_J193
                          refine wq_eq (fun hc_28005 => ?_) (fun hc_28006 => ?_)
                          · have l_1 := il_1
                            refine wq_b (tt_fX12_need hN r3_q27999.2.1 r3_q27999.2.2.1 r3_q27999.2.2.2 (1 : Int32) h_r3_q27999_0) (fun r2_q28007 h_r2_q28007 => ?_)
                            obtain ⟨h_r2_q28007_0, -⟩ := h_r2_q28007
                            exact wq_s ⟨h_r2_q28007_0, trivial⟩
                          · refine wq_b (tt_fX12_need hN r3_q27999.2.1 r3_q27999.2.2.1 r3_q27999.2.2.2 (0 : Int32) h_r3_q27999_0) (fun r1_q28008 h_r1_q28008 => ?_)
                            obtain ⟨h_r1_q28008_0, -⟩ := h_r1_q28008
                            exact wq_s ⟨h_r1_q28008_0, trivial⟩
                        · refine wq_in (n := 22) ⟨by omega, by omega⟩ ?_
                          refine wq_v (fun M0_6_q28009 h_M0_6_q28009 => ?_)
                          have l_30 := il_30
                          have b_28010 := i32b v4_q28000
                          have tn_28011 := tn_of (21 : Int32) (by omega)
                          have k_M0_6_q28009 : KX12 r3_q27999.2.1 M0_6_q28009 := by rw [h_M0_6_q28009]; exact KX12.sm16 h_r3_q27999_0 ⟨by omega, by omega⟩ (DN.um (KX12.edn h_r3_q27999_0) (fun q => by omega))
                          unfold fX12_readsEntry_J193
                          refine wq_eq (fun hc_28012 => ?_) (fun hc_28013 => ?_)
                          · have l_1 := il_1
                            refine wq_b (tt_fX12_need hN r3_q27999.2.1 r3_q27999.2.2.1 M0_6_q28009 (1 : Int32) k_M0_6_q28009) (fun r2_q28014 h_r2_q28014 => ?_)
                            obtain ⟨h_r2_q28014_0, -⟩ := h_r2_q28014
                            exact wq_s ⟨h_r2_q28014_0, trivial⟩
                          · refine wq_b (tt_fX12_need hN r3_q27999.2.1 r3_q27999.2.2.1 M0_6_q28009 (0 : Int32) k_M0_6_q28009) (fun r1_q28015 h_r1_q28015 => ?_)
                            obtain ⟨h_r1_q28015_0, -⟩ := h_r1_q28015
                            exact wq_s ⟨h_r1_q28015_0, trivial⟩
                    · exfalso; omega
                  · exfalso; omega
        · unfold fX12_readsEntry_J40
          have l_9 := il_9
          refine wq_eq (fun hc_28016 => ?_) (fun hc_28017 => ?_)
          · unfold fX12_readsEntry_J62
            refine wq_b (tt_fX12_isGood hN I0 L0 M0 k_I0) (fun r9b_q28018 h_r9b_q28018 => ?_)
            obtain ⟨h_r9b_q28018_0, -⟩ := h_r9b_q28018
            refine wq_eq (fun hc_28019 => ?_) (fun hc_28020 => ?_)
            · exact wq_s ⟨k_I0, trivial⟩
            · refine wq_b (tt_fX12_steps hN I0 L0 M0 k_I0) (fun r10_q28021 h_r10_q28021 => ?_)
              obtain ⟨h_r10_q28021_0, -⟩ := h_r10_q28021
              refine wq_eq (fun hc_28022 => ?_) (fun hc_28023 => ?_)
              · refine wq_v (fun v11_q28024 h_v11_q28024 => ?_)
                have t_v11_q28024 := congrArg Int32.toInt h_v11_q28024
                have l_1 := il_1
                have l_12 := il_12
                refine wq_b (tt_fX12_number hN r10_q28021.1 r10_q28021.2.1 r10_q28021.2.2 (1 : Int32) (12 : Int32) h_r10_q28021_0) (fun r12_q28025 h_r12_q28025 => ?_)
                obtain ⟨h_r12_q28025_0, -⟩ := h_r12_q28025
                have b_28027 := i32b r12_q28025.1
                refine wq_v (fun v13_q28026 h_v13_q28026 => ?_)
                have t_v13_q28026 := congrArg Int32.toInt h_v13_q28026
                have b_28029 := i32b v13_q28026
                refine wq_v (fun v14_q28028 h_v14_q28028 => ?_)
                have t_v14_q28028 := congrArg Int32.toInt h_v14_q28028
                refine wq_b (tt_fX12_isGood hN r12_q28025.2.1 r12_q28025.2.2.1 r12_q28025.2.2.2 h_r12_q28025_0) (fun r15_q28030 h_r15_q28030 => ?_)
                obtain ⟨h_r15_q28030_0, -⟩ := h_r15_q28030
                refine wq_eq (fun hc_28031 => ?_) (fun hc_28032 => ?_)
                · unfold fX12_readsEntry_J129
                  refine wq_eq (fun hc_28033 => ?_) (fun hc_28034 => ?_)
                  · exfalso; omega
                  · unfold fX12_readsEntry_J144
                    have l_11 := il_11
                    refine wq_b (tt_fX12_number hN r12_q28025.2.1 r12_q28025.2.2.1 r12_q28025.2.2.2 (0 : Int32) (11 : Int32) h_r12_q28025_0) (fun r7_q28035 h_r7_q28035 => ?_)
                    obtain ⟨h_r7_q28035_0, -⟩ := h_r7_q28035
                    have b_28037 := i32b r7_q28035.1
                    refine wq_v (fun v8_q28036 h_v8_q28036 => ?_)
                    have t_v8_q28036 := congrArg Int32.toInt h_v8_q28036
                    refine wq_eq (fun hc_28038 => ?_) (fun hc_28039 => ?_)
                    · exfalso; omega
                    · unfold fX12_readsEntry_J166
                      unfold fX12_readsEntry_J168
                      have l_29 := il_29
                      refine wq_b (tt_fX12_number hN r7_q28035.2.1 r7_q28035.2.2.1 r7_q28035.2.2.2 (0 : Int32) (29 : Int32) h_r7_q28035_0) (fun r3_q28040 h_r3_q28040 => ?_)
                      obtain ⟨h_r3_q28040_0, -⟩ := h_r3_q28040
                      have b_28042 := i32b r3_q28040.1
                      refine wq_v (fun v4_q28041 h_v4_q28041 => ?_)
                      have t_v4_q28041 := congrArg Int32.toInt h_v4_q28041
                      refine wq_b (tt_fX12_isGood hN r3_q28040.2.1 r3_q28040.2.2.1 r3_q28040.2.2.2 h_r3_q28040_0) (fun r5_q28043 h_r5_q28043 => ?_)
                      obtain ⟨h_r5_q28043_0, -⟩ := h_r5_q28043
                      refine wq_eq (fun hc_28044 => ?_) (fun hc_28045 => ?_)
                      · unfold fX12_readsEntry_J193
                        have l_3 := il_3
                        refine wq_eq (fun hc_28046 => ?_) (fun hc_28047 => ?_)
                        · refine wq_b (tt_fX12_need hN r3_q28040.2.1 r3_q28040.2.2.1 r3_q28040.2.2.2 (1 : Int32) h_r3_q28040_0) (fun r2_q28048 h_r2_q28048 => ?_)
                          obtain ⟨h_r2_q28048_0, -⟩ := h_r2_q28048
                          exact wq_s ⟨h_r2_q28048_0, trivial⟩
                        · refine wq_b (tt_fX12_need hN r3_q28040.2.1 r3_q28040.2.2.1 r3_q28040.2.2.2 (0 : Int32) h_r3_q28040_0) (fun r1_q28049 h_r1_q28049 => ?_)
                          obtain ⟨h_r1_q28049_0, -⟩ := h_r1_q28049
                          exact wq_s ⟨h_r1_q28049_0, trivial⟩
                      · have b_28050 := i32b v14_q28028
                        refine wq_in (n := 22) ⟨by omega, by omega⟩ ?_
                        refine wq_v (fun M0_6_q28051 h_M0_6_q28051 => ?_)
                        have b_28052 := i32b v8_q28036
                        have l_30 := il_30
                        have b_28053 := i32b v4_q28041
                        have tn_28054 := tn_of v14_q28028 (by omega)
                        have k_M0_6_q28051 : KX12 r3_q28040.2.1 M0_6_q28051 := by rw [h_M0_6_q28051]; exact KX12.sm16 h_r3_q28040_0 ⟨by omega, by omega⟩ (DN.um (KX12.edn h_r3_q28040_0) (fun q => by omega))
                        unfold fX12_readsEntry_J193
                        have l_3 := il_3
                        refine wq_eq (fun hc_28055 => ?_) (fun hc_28056 => ?_)
                        · refine wq_b (tt_fX12_need hN r3_q28040.2.1 r3_q28040.2.2.1 M0_6_q28051 (1 : Int32) k_M0_6_q28051) (fun r2_q28057 h_r2_q28057 => ?_)
                          obtain ⟨h_r2_q28057_0, -⟩ := h_r2_q28057
                          exact wq_s ⟨h_r2_q28057_0, trivial⟩
                        · refine wq_b (tt_fX12_need hN r3_q28040.2.1 r3_q28040.2.2.1 M0_6_q28051 (0 : Int32) k_M0_6_q28051) (fun r1_q28058 h_r1_q28058 => ?_)
                          obtain ⟨h_r1_q28058_0, -⟩ := h_r1_q28058
                          exact wq_s ⟨h_r1_q28058_0, trivial⟩
                · have b_28059 := i32b v14_q28028
                  refine wq_in (n := 22) ⟨by omega, by omega⟩ ?_
                  have t_28060 := KX12.m16 h_r12_q28025_0 v14_q28028.toNatClampNeg
                  have l_m1 := il_m1
                  refine wq_eq (fun hc_28061 => ?_) (fun hc_28062 => ?_)
                  · unfold fX12_readsEntry_J129
                    refine wq_eq (fun hc_28063 => ?_) (fun hc_28064 => ?_)
                    · exfalso; omega
                    · unfold fX12_readsEntry_J144
                      have l_11 := il_11
                      refine wq_b (tt_fX12_number hN r12_q28025.2.1 r12_q28025.2.2.1 r12_q28025.2.2.2 (0 : Int32) (11 : Int32) h_r12_q28025_0) (fun r7_q28065 h_r7_q28065 => ?_)
                      obtain ⟨h_r7_q28065_0, -⟩ := h_r7_q28065
                      have b_28067 := i32b r7_q28065.1
                      refine wq_v (fun v8_q28066 h_v8_q28066 => ?_)
                      have t_v8_q28066 := congrArg Int32.toInt h_v8_q28066
                      refine wq_eq (fun hc_28068 => ?_) (fun hc_28069 => ?_)
                      · exfalso; omega
                      · unfold fX12_readsEntry_J166
                        unfold fX12_readsEntry_J168
                        have l_29 := il_29
                        refine wq_b (tt_fX12_number hN r7_q28065.2.1 r7_q28065.2.2.1 r7_q28065.2.2.2 (0 : Int32) (29 : Int32) h_r7_q28065_0) (fun r3_q28070 h_r3_q28070 => ?_)
                        obtain ⟨h_r3_q28070_0, -⟩ := h_r3_q28070
                        have b_28072 := i32b r3_q28070.1
                        refine wq_v (fun v4_q28071 h_v4_q28071 => ?_)
                        have t_v4_q28071 := congrArg Int32.toInt h_v4_q28071
                        refine wq_b (tt_fX12_isGood hN r3_q28070.2.1 r3_q28070.2.2.1 r3_q28070.2.2.2 h_r3_q28070_0) (fun r5_q28073 h_r5_q28073 => ?_)
                        obtain ⟨h_r5_q28073_0, -⟩ := h_r5_q28073
                        refine wq_eq (fun hc_28074 => ?_) (fun hc_28075 => ?_)
                        · unfold fX12_readsEntry_J193
                          have l_3 := il_3
                          refine wq_eq (fun hc_28076 => ?_) (fun hc_28077 => ?_)
                          · refine wq_b (tt_fX12_need hN r3_q28070.2.1 r3_q28070.2.2.1 r3_q28070.2.2.2 (1 : Int32) h_r3_q28070_0) (fun r2_q28078 h_r2_q28078 => ?_)
                            obtain ⟨h_r2_q28078_0, -⟩ := h_r2_q28078
                            exact wq_s ⟨h_r2_q28078_0, trivial⟩
                          · refine wq_b (tt_fX12_need hN r3_q28070.2.1 r3_q28070.2.2.1 r3_q28070.2.2.2 (0 : Int32) h_r3_q28070_0) (fun r1_q28079 h_r1_q28079 => ?_)
                            obtain ⟨h_r1_q28079_0, -⟩ := h_r1_q28079
                            exact wq_s ⟨h_r1_q28079_0, trivial⟩
                        · refine wq_in (n := 22) ⟨by omega, by omega⟩ ?_
                          refine wq_v (fun M0_6_q28080 h_M0_6_q28080 => ?_)
                          have b_28081 := i32b v8_q28066
                          have l_30 := il_30
                          have b_28082 := i32b v4_q28071
                          have tn_28083 := tn_of v14_q28028 (by omega)
                          have k_M0_6_q28080 : KX12 r3_q28070.2.1 M0_6_q28080 := by rw [h_M0_6_q28080]; exact KX12.sm16 h_r3_q28070_0 ⟨by omega, by omega⟩ (DN.um (KX12.edn h_r3_q28070_0) (fun q => by omega))
                          unfold fX12_readsEntry_J193
                          have l_3 := il_3
                          refine wq_eq (fun hc_28084 => ?_) (fun hc_28085 => ?_)
                          · refine wq_b (tt_fX12_need hN r3_q28070.2.1 r3_q28070.2.2.1 M0_6_q28080 (1 : Int32) k_M0_6_q28080) (fun r2_q28086 h_r2_q28086 => ?_)
                            obtain ⟨h_r2_q28086_0, -⟩ := h_r2_q28086
                            exact wq_s ⟨h_r2_q28086_0, trivial⟩
                          · refine wq_b (tt_fX12_need hN r3_q28070.2.1 r3_q28070.2.2.1 M0_6_q28080 (0 : Int32) k_M0_6_q28080) (fun r1_q28087 h_r1_q28087 => ?_)
                            obtain ⟨h_r1_q28087_0, -⟩ := h_r1_q28087
                            exact wq_s ⟨h_r1_q28087_0, trivial⟩
                  · refine wq_v (fun I0_16_q28088 h_I0_16_q28088 => ?_)
                    have k_I0_16_q28088 : KX12 I0_16_q28088 r12_q28025.2.2.2 := by rw [h_I0_16_q28088]; exact KX12.si4 h_r12_q28025_0
                    refine wq_v (fun I0_17_q28089 h_I0_17_q28089 => ?_)
                    have k_I0_17_q28089 : KX12 I0_17_q28089 r12_q28025.2.2.2 := by rw [h_I0_17_q28089]; exact KX12.si5 k_I0_16_q28088
                    unfold fX12_readsEntry_J129
                    refine wq_eq (fun hc_28090 => ?_) (fun hc_28091 => ?_)
                    · exfalso; omega
                    · unfold fX12_readsEntry_J144
                      have l_11 := il_11
                      refine wq_b (tt_fX12_number hN I0_17_q28089 r12_q28025.2.2.1 r12_q28025.2.2.2 (0 : Int32) (11 : Int32) k_I0_17_q28089) (fun r7_q28092 h_r7_q28092 => ?_)
                      obtain ⟨h_r7_q28092_0, -⟩ := h_r7_q28092
                      have b_28094 := i32b r7_q28092.1
                      refine wq_v (fun v8_q28093 h_v8_q28093 => ?_)
                      have t_v8_q28093 := congrArg Int32.toInt h_v8_q28093
                      refine wq_eq (fun hc_28095 => ?_) (fun hc_28096 => ?_)
                      · exfalso; omega
                      · unfold fX12_readsEntry_J166
                        unfold fX12_readsEntry_J168
                        have l_29 := il_29
                        refine wq_b (tt_fX12_number hN r7_q28092.2.1 r7_q28092.2.2.1 r7_q28092.2.2.2 (0 : Int32) (29 : Int32) h_r7_q28092_0) (fun r3_q28097 h_r3_q28097 => ?_)
                        obtain ⟨h_r3_q28097_0, -⟩ := h_r3_q28097
                        have b_28099 := i32b r3_q28097.1
                        refine wq_v (fun v4_q28098 h_v4_q28098 => ?_)
                        have t_v4_q28098 := congrArg Int32.toInt h_v4_q28098
                        refine wq_b (tt_fX12_isGood hN r3_q28097.2.1 r3_q28097.2.2.1 r3_q28097.2.2.2 h_r3_q28097_0) (fun r5_q28100 h_r5_q28100 => ?_)
                        obtain ⟨h_r5_q28100_0, -⟩ := h_r5_q28100
                        refine wq_eq (fun hc_28101 => ?_) (fun hc_28102 => ?_)
                        · unfold fX12_readsEntry_J193
                          have l_3 := il_3
                          refine wq_eq (fun hc_28103 => ?_) (fun hc_28104 => ?_)
                          · refine wq_b (tt_fX12_need hN r3_q28097.2.1 r3_q28097.2.2.1 r3_q28097.2.2.2 (1 : Int32) h_r3_q28097_0) (fun r2_q28105 h_r2_q28105 => ?_)
                            obtain ⟨h_r2_q28105_0, -⟩ := h_r2_q28105
                            exact wq_s ⟨h_r2_q28105_0, trivial⟩
                          · refine wq_b (tt_fX12_need hN r3_q28097.2.1 r3_q28097.2.2.1 r3_q28097.2.2.2 (0 : Int32) h_r3_q28097_0) (fun r1_q28106 h_r1_q28106 => ?_)
                            obtain ⟨h_r1_q28106_0, -⟩ := h_r1_q28106
                            exact wq_s ⟨h_r1_q28106_0, trivial⟩
                        · refine wq_in (n := 22) ⟨by omega, by omega⟩ ?_
                          refine wq_v (fun M0_6_q28107 h_M0_6_q28107 => ?_)
                          have b_28108 := i32b v8_q28093
                          have l_30 := il_30
                          have b_28109 := i32b v4_q28098
                          have tn_28110 := tn_of v14_q28028 (by omega)
                          have k_M0_6_q28107 : KX12 r3_q28097.2.1 M0_6_q28107 := by rw [h_M0_6_q28107]; exact KX12.sm16 h_r3_q28097_0 ⟨by omega, by omega⟩ (DN.um (KX12.edn h_r3_q28097_0) (fun q => by omega))
                          unfold fX12_readsEntry_J193
                          have l_3 := il_3
                          refine wq_eq (fun hc_28111 => ?_) (fun hc_28112 => ?_)
                          · refine wq_b (tt_fX12_need hN r3_q28097.2.1 r3_q28097.2.2.1 M0_6_q28107 (1 : Int32) k_M0_6_q28107) (fun r2_q28113 h_r2_q28113 => ?_)
                            obtain ⟨h_r2_q28113_0, -⟩ := h_r2_q28113
                            exact wq_s ⟨h_r2_q28113_0, trivial⟩
                          · refine wq_b (tt_fX12_need hN r3_q28097.2.1 r3_q28097.2.2.1 M0_6_q28107 (0 : Int32) k_M0_6_q28107) (fun r1_q28114 h_r1_q28114 => ?_)
                            obtain ⟨h_r1_q28114_0, -⟩ := h_r1_q28114
                            exact wq_s ⟨h_r1_q28114_0, trivial⟩
              · exfalso; omega
          · refine wq_in (n := 22) ⟨by omega, by omega⟩ ?_
            have t_28115 := KX12.m16 k_I0 r21_q27824.toNatClampNeg
            have l_m1 := il_m1
            refine wq_eq (fun hc_28116 => ?_) (fun hc_28117 => ?_)
            · unfold fX12_readsEntry_J62
              refine wq_b (tt_fX12_isGood hN I0 L0 M0 k_I0) (fun r9b_q28118 h_r9b_q28118 => ?_)
              obtain ⟨h_r9b_q28118_0, -⟩ := h_r9b_q28118
              refine wq_eq (fun hc_28119 => ?_) (fun hc_28120 => ?_)
              · exact wq_s ⟨k_I0, trivial⟩
              · refine wq_b (tt_fX12_steps hN I0 L0 M0 k_I0) (fun r10_q28121 h_r10_q28121 => ?_)
                obtain ⟨h_r10_q28121_0, -⟩ := h_r10_q28121
                refine wq_eq (fun hc_28122 => ?_) (fun hc_28123 => ?_)
                · exfalso; omega
                · unfold fX12_readsEntry_J129
                  refine wq_eq (fun hc_28124 => ?_) (fun hc_28125 => ?_)
                  · exfalso; omega
                  · unfold fX12_readsEntry_J144
                    have l_11 := il_11
                    refine wq_b (tt_fX12_number hN r10_q28121.1 r10_q28121.2.1 r10_q28121.2.2 (0 : Int32) (11 : Int32) h_r10_q28121_0) (fun r7_q28126 h_r7_q28126 => ?_)
                    obtain ⟨h_r7_q28126_0, -⟩ := h_r7_q28126
                    have b_28128 := i32b r7_q28126.1
                    refine wq_v (fun v8_q28127 h_v8_q28127 => ?_)
                    have t_v8_q28127 := congrArg Int32.toInt h_v8_q28127
                    refine wq_eq (fun hc_28129 => ?_) (fun hc_28130 => ?_)
                    · exfalso; omega
                    · unfold fX12_readsEntry_J166
                      unfold fX12_readsEntry_J168
                      have l_29 := il_29
                      refine wq_b (tt_fX12_number hN r7_q28126.2.1 r7_q28126.2.2.1 r7_q28126.2.2.2 (0 : Int32) (29 : Int32) h_r7_q28126_0) (fun r3_q28131 h_r3_q28131 => ?_)
                      obtain ⟨h_r3_q28131_0, -⟩ := h_r3_q28131
                      have b_28133 := i32b r3_q28131.1
                      refine wq_v (fun v4_q28132 h_v4_q28132 => ?_)
                      have t_v4_q28132 := congrArg Int32.toInt h_v4_q28132
                      refine wq_b (tt_fX12_isGood hN r3_q28131.2.1 r3_q28131.2.2.1 r3_q28131.2.2.2 h_r3_q28131_0) (fun r5_q28134 h_r5_q28134 => ?_)
                      obtain ⟨h_r5_q28134_0, -⟩ := h_r5_q28134
                      refine wq_eq (fun hc_28135 => ?_) (fun hc_28136 => ?_)
                      · unfold fX12_readsEntry_J193
                        have l_3 := il_3
                        refine wq_eq (fun hc_28137 => ?_) (fun hc_28138 => ?_)
                        · have l_1 := il_1
                          refine wq_b (tt_fX12_need hN r3_q28131.2.1 r3_q28131.2.2.1 r3_q28131.2.2.2 (1 : Int32) h_r3_q28131_0) (fun r2_q28139 h_r2_q28139 => ?_)
                          obtain ⟨h_r2_q28139_0, -⟩ := h_r2_q28139
                          exact wq_s ⟨h_r2_q28139_0, trivial⟩
                        · refine wq_b (tt_fX12_need hN r3_q28131.2.1 r3_q28131.2.2.1 r3_q28131.2.2.2 (0 : Int32) h_r3_q28131_0) (fun r1_q28140 h_r1_q28140 => ?_)
                          obtain ⟨h_r1_q28140_0, -⟩ := h_r1_q28140
                          exact wq_s ⟨h_r1_q28140_0, trivial⟩
                      · refine wq_in (n := 22) ⟨by omega, by omega⟩ ?_
                        refine wq_v (fun M0_6_q28141 h_M0_6_q28141 => ?_)
                        have b_28142 := i32b v8_q28127
                        have l_30 := il_30
                        have b_28143 := i32b v4_q28132
                        have tn_28144 := tn_of r21_q27824 (by omega)
                        have k_M0_6_q28141 : KX12 r3_q28131.2.1 M0_6_q28141 := by rw [h_M0_6_q28141]; exact KX12.sm16 h_r3_q28131_0 ⟨by omega, by omega⟩ (DN.um (KX12.edn h_r3_q28131_0) (fun q => by omega))
                        unfold fX12_readsEntry_J193
                        have l_3 := il_3
                        refine wq_eq (fun hc_28145 => ?_) (fun hc_28146 => ?_)
                        · have l_1 := il_1
                          refine wq_b (tt_fX12_need hN r3_q28131.2.1 r3_q28131.2.2.1 M0_6_q28141 (1 : Int32) k_M0_6_q28141) (fun r2_q28147 h_r2_q28147 => ?_)
                          obtain ⟨h_r2_q28147_0, -⟩ := h_r2_q28147
                          exact wq_s ⟨h_r2_q28147_0, trivial⟩
                        · refine wq_b (tt_fX12_need hN r3_q28131.2.1 r3_q28131.2.2.1 M0_6_q28141 (0 : Int32) k_M0_6_q28141) (fun r1_q28148 h_r1_q28148 => ?_)
                          obtain ⟨h_r1_q28148_0, -⟩ := h_r1_q28148
                          exact wq_s ⟨h_r1_q28148_0, trivial⟩
            · have l_3 := il_3
              refine wq_b (tt_fX12_wrong hN I0 L0 M0 (3 : Int32) k_I0) (fun r18_q28149 h_r18_q28149 => ?_)
              obtain ⟨h_r18_q28149_0, -⟩ := h_r18_q28149
              unfold fX12_readsEntry_J62
              refine wq_b (tt_fX12_isGood hN r18_q28149.1 r18_q28149.2.1 r18_q28149.2.2 h_r18_q28149_0) (fun r9b_q28150 h_r9b_q28150 => ?_)
              obtain ⟨h_r9b_q28150_0, -⟩ := h_r9b_q28150
              refine wq_eq (fun hc_28151 => ?_) (fun hc_28152 => ?_)
              · exact wq_s ⟨h_r18_q28149_0, trivial⟩
              · refine wq_b (tt_fX12_steps hN r18_q28149.1 r18_q28149.2.1 r18_q28149.2.2 h_r18_q28149_0) (fun r10_q28153 h_r10_q28153 => ?_)
                obtain ⟨h_r10_q28153_0, -⟩ := h_r10_q28153
                refine wq_eq (fun hc_28154 => ?_) (fun hc_28155 => ?_)
                · exfalso; omega
                · unfold fX12_readsEntry_J129
                  refine wq_eq (fun hc_28156 => ?_) (fun hc_28157 => ?_)
                  · exfalso; omega
                  · unfold fX12_readsEntry_J144
                    have l_11 := il_11
                    refine wq_b (tt_fX12_number hN r10_q28153.1 r10_q28153.2.1 r10_q28153.2.2 (0 : Int32) (11 : Int32) h_r10_q28153_0) (fun r7_q28158 h_r7_q28158 => ?_)
                    obtain ⟨h_r7_q28158_0, -⟩ := h_r7_q28158
                    have b_28160 := i32b r7_q28158.1
                    refine wq_v (fun v8_q28159 h_v8_q28159 => ?_)
                    have t_v8_q28159 := congrArg Int32.toInt h_v8_q28159
                    refine wq_eq (fun hc_28161 => ?_) (fun hc_28162 => ?_)
                    · exfalso; omega
                    · unfold fX12_readsEntry_J166
                      unfold fX12_readsEntry_J168
                      have l_29 := il_29
                      refine wq_b (tt_fX12_number hN r7_q28158.2.1 r7_q28158.2.2.1 r7_q28158.2.2.2 (0 : Int32) (29 : Int32) h_r7_q28158_0) (fun r3_q28163 h_r3_q28163 => ?_)
                      obtain ⟨h_r3_q28163_0, -⟩ := h_r3_q28163
                      have b_28165 := i32b r3_q28163.1
                      refine wq_v (fun v4_q28164 h_v4_q28164 => ?_)
                      have t_v4_q28164 := congrArg Int32.toInt h_v4_q28164
                      refine wq_b (tt_fX12_isGood hN r3_q28163.2.1 r3_q28163.2.2.1 r3_q28163.2.2.2 h_r3_q28163_0) (fun r5_q28166 h_r5_q28166 => ?_)
                      obtain ⟨h_r5_q28166_0, -⟩ := h_r5_q28166
                      refine wq_eq (fun hc_28167 => ?_) (fun hc_28168 => ?_)
                      · unfold fX12_readsEntry_J193
                        refine wq_eq (fun hc_28169 => ?_) (fun hc_28170 => ?_)
                        · have l_1 := il_1
                          refine wq_b (tt_fX12_need hN r3_q28163.2.1 r3_q28163.2.2.1 r3_q28163.2.2.2 (1 : Int32) h_r3_q28163_0) (fun r2_q28171 h_r2_q28171 => ?_)
                          obtain ⟨h_r2_q28171_0, -⟩ := h_r2_q28171
                          exact wq_s ⟨h_r2_q28171_0, trivial⟩
                        · refine wq_b (tt_fX12_need hN r3_q28163.2.1 r3_q28163.2.2.1 r3_q28163.2.2.2 (0 : Int32) h_r3_q28163_0) (fun r1_q28172 h_r1_q28172 => ?_)
                          obtain ⟨h_r1_q28172_0, -⟩ := h_r1_q28172
                          exact wq_s ⟨h_r1_q28172_0, trivial⟩
                      · refine wq_in (n := 22) ⟨by omega, by omega⟩ ?_
                        refine wq_v (fun M0_6_q28173 h_M0_6_q28173 => ?_)
                        have b_28174 := i32b v8_q28159
                        have l_30 := il_30
                        have b_28175 := i32b v4_q28164
                        have tn_28176 := tn_of r21_q27824 (by omega)
                        have k_M0_6_q28173 : KX12 r3_q28163.2.1 M0_6_q28173 := by rw [h_M0_6_q28173]; exact KX12.sm16 h_r3_q28163_0 ⟨by omega, by omega⟩ (DN.um (KX12.edn h_r3_q28163_0) (fun q => by omega))
                        unfold fX12_readsEntry_J193
                        refine wq_eq (fun hc_28177 => ?_) (fun hc_28178 => ?_)
                        · have l_1 := il_1
                          refine wq_b (tt_fX12_need hN r3_q28163.2.1 r3_q28163.2.2.1 M0_6_q28173 (1 : Int32) k_M0_6_q28173) (fun r2_q28179 h_r2_q28179 => ?_)
                          obtain ⟨h_r2_q28179_0, -⟩ := h_r2_q28179
                          exact wq_s ⟨h_r2_q28179_0, trivial⟩
                        · refine wq_b (tt_fX12_need hN r3_q28163.2.1 r3_q28163.2.2.1 M0_6_q28173 (0 : Int32) k_M0_6_q28173) (fun r1_q28180 h_r1_q28180 => ?_)
                          obtain ⟨h_r1_q28180_0, -⟩ := h_r1_q28180
                          exact wq_s ⟨h_r1_q28180_0, trivial⟩
    · unfold fX12_readsEntry_J15
      have l_1 := il_1
      refine wq_b (tt_fX12_wrong hN I0 L0 M0 (1 : Int32) k_I0) (fun r20_q28181 h_r20_q28181 => ?_)
      obtain ⟨h_r20_q28181_0, -⟩ := h_r20_q28181
      unfold fX12_readsEntry_J20
      refine wq_b (tt_fX12_isGood hN r20_q28181.1 r20_q28181.2.1 r20_q28181.2.2 h_r20_q28181_0) (fun r19_q28182 h_r19_q28182 => ?_)
      obtain ⟨h_r19_q28182_0, -⟩ := h_r19_q28182
      refine wq_eq (fun hc_28183 => ?_) (fun hc_28184 => ?_)
      · exact wq_s ⟨h_r20_q28181_0, trivial⟩
      · refine wq_eq (fun hc_28185 => ?_) (fun hc_28186 => ?_)
        · exfalso; omega
        · unfold fX12_readsEntry_J40
          have l_9 := il_9
          refine wq_eq (fun hc_28187 => ?_) (fun hc_28188 => ?_)
          · exfalso; omega
          · refine wq_in (n := 22) ⟨by omega, by omega⟩ ?_
            have t_28189 := KX12.m16 h_r20_q28181_0 r21_q27824.toNatClampNeg
            have l_m1 := il_m1
            refine wq_eq (fun hc_28190 => ?_) (fun hc_28191 => ?_)
            · unfold fX12_readsEntry_J62
              refine wq_b (tt_fX12_isGood hN r20_q28181.1 r20_q28181.2.1 r20_q28181.2.2 h_r20_q28181_0) (fun r9b_q28192 h_r9b_q28192 => ?_)
              obtain ⟨h_r9b_q28192_0, -⟩ := h_r9b_q28192
              refine wq_eq (fun hc_28193 => ?_) (fun hc_28194 => ?_)
              · exact wq_s ⟨h_r20_q28181_0, trivial⟩
              · refine wq_b (tt_fX12_steps hN r20_q28181.1 r20_q28181.2.1 r20_q28181.2.2 h_r20_q28181_0) (fun r10_q28195 h_r10_q28195 => ?_)
                obtain ⟨h_r10_q28195_0, -⟩ := h_r10_q28195
                refine wq_eq (fun hc_28196 => ?_) (fun hc_28197 => ?_)
                · exfalso; omega
                · unfold fX12_readsEntry_J129
                  refine wq_eq (fun hc_28198 => ?_) (fun hc_28199 => ?_)
                  · exfalso; omega
                  · unfold fX12_readsEntry_J144
                    have l_11 := il_11
                    refine wq_b (tt_fX12_number hN r10_q28195.1 r10_q28195.2.1 r10_q28195.2.2 (0 : Int32) (11 : Int32) h_r10_q28195_0) (fun r7_q28200 h_r7_q28200 => ?_)
                    obtain ⟨h_r7_q28200_0, -⟩ := h_r7_q28200
                    have b_28202 := i32b r7_q28200.1
                    refine wq_v (fun v8_q28201 h_v8_q28201 => ?_)
                    have t_v8_q28201 := congrArg Int32.toInt h_v8_q28201
                    refine wq_eq (fun hc_28203 => ?_) (fun hc_28204 => ?_)
                    · exfalso; omega
                    · unfold fX12_readsEntry_J166
                      unfold fX12_readsEntry_J168
                      have l_29 := il_29
                      refine wq_b (tt_fX12_number hN r7_q28200.2.1 r7_q28200.2.2.1 r7_q28200.2.2.2 (0 : Int32) (29 : Int32) h_r7_q28200_0) (fun r3_q28205 h_r3_q28205 => ?_)
                      obtain ⟨h_r3_q28205_0, -⟩ := h_r3_q28205
                      have b_28207 := i32b r3_q28205.1
                      refine wq_v (fun v4_q28206 h_v4_q28206 => ?_)
                      have t_v4_q28206 := congrArg Int32.toInt h_v4_q28206
                      refine wq_b (tt_fX12_isGood hN r3_q28205.2.1 r3_q28205.2.2.1 r3_q28205.2.2.2 h_r3_q28205_0) (fun r5_q28208 h_r5_q28208 => ?_)
                      obtain ⟨h_r5_q28208_0, -⟩ := h_r5_q28208
                      refine wq_eq (fun hc_28209 => ?_) (fun hc_28210 => ?_)
                      · unfold fX12_readsEntry_J193
                        have l_3 := il_3
                        refine wq_eq (fun hc_28211 => ?_) (fun hc_28212 => ?_)
                        · refine wq_b (tt_fX12_need hN r3_q28205.2.1 r3_q28205.2.2.1 r3_q28205.2.2.2 (1 : Int32) h_r3_q28205_0) (fun r2_q28213 h_r2_q28213 => ?_)
                          obtain ⟨h_r2_q28213_0, -⟩ := h_r2_q28213
                          exact wq_s ⟨h_r2_q28213_0, trivial⟩
                        · refine wq_b (tt_fX12_need hN r3_q28205.2.1 r3_q28205.2.2.1 r3_q28205.2.2.2 (0 : Int32) h_r3_q28205_0) (fun r1_q28214 h_r1_q28214 => ?_)
                          obtain ⟨h_r1_q28214_0, -⟩ := h_r1_q28214
                          exact wq_s ⟨h_r1_q28214_0, trivial⟩
                      · refine wq_in (n := 22) ⟨by omega, by omega⟩ ?_
                        refine wq_v (fun M0_6_q28215 h_M0_6_q28215 => ?_)
                        have b_28216 := i32b v8_q28201
                        have l_30 := il_30
                        have b_28217 := i32b v4_q28206
                        have tn_28218 := tn_of r21_q27824 (by omega)
                        have k_M0_6_q28215 : KX12 r3_q28205.2.1 M0_6_q28215 := by rw [h_M0_6_q28215]; exact KX12.sm16 h_r3_q28205_0 ⟨by omega, by omega⟩ (DN.um (KX12.edn h_r3_q28205_0) (fun q => by omega))
                        unfold fX12_readsEntry_J193
                        have l_3 := il_3
                        refine wq_eq (fun hc_28219 => ?_) (fun hc_28220 => ?_)
                        · refine wq_b (tt_fX12_need hN r3_q28205.2.1 r3_q28205.2.2.1 M0_6_q28215 (1 : Int32) k_M0_6_q28215) (fun r2_q28221 h_r2_q28221 => ?_)
                          obtain ⟨h_r2_q28221_0, -⟩ := h_r2_q28221
                          exact wq_s ⟨h_r2_q28221_0, trivial⟩
                        · refine wq_b (tt_fX12_need hN r3_q28205.2.1 r3_q28205.2.2.1 M0_6_q28215 (0 : Int32) k_M0_6_q28215) (fun r1_q28222 h_r1_q28222 => ?_)
                          obtain ⟨h_r1_q28222_0, -⟩ := h_r1_q28222
                          exact wq_s ⟨h_r1_q28222_0, trivial⟩
            · have l_3 := il_3
              refine wq_b (tt_fX12_wrong hN r20_q28181.1 r20_q28181.2.1 r20_q28181.2.2 (3 : Int32) h_r20_q28181_0) (fun r18_q28223 h_r18_q28223 => ?_)
              obtain ⟨h_r18_q28223_0, -⟩ := h_r18_q28223
              unfold fX12_readsEntry_J62
              refine wq_b (tt_fX12_isGood hN r18_q28223.1 r18_q28223.2.1 r18_q28223.2.2 h_r18_q28223_0) (fun r9b_q28224 h_r9b_q28224 => ?_)
              obtain ⟨h_r9b_q28224_0, -⟩ := h_r9b_q28224
              refine wq_eq (fun hc_28225 => ?_) (fun hc_28226 => ?_)
              · exact wq_s ⟨h_r18_q28223_0, trivial⟩
              · refine wq_b (tt_fX12_steps hN r18_q28223.1 r18_q28223.2.1 r18_q28223.2.2 h_r18_q28223_0) (fun r10_q28227 h_r10_q28227 => ?_)
                obtain ⟨h_r10_q28227_0, -⟩ := h_r10_q28227
                refine wq_eq (fun hc_28228 => ?_) (fun hc_28229 => ?_)
                · exfalso; omega
                · unfold fX12_readsEntry_J129
                  refine wq_eq (fun hc_28230 => ?_) (fun hc_28231 => ?_)
                  · exfalso; omega
                  · unfold fX12_readsEntry_J144
                    have l_11 := il_11
                    refine wq_b (tt_fX12_number hN r10_q28227.1 r10_q28227.2.1 r10_q28227.2.2 (0 : Int32) (11 : Int32) h_r10_q28227_0) (fun r7_q28232 h_r7_q28232 => ?_)
                    obtain ⟨h_r7_q28232_0, -⟩ := h_r7_q28232
                    have b_28234 := i32b r7_q28232.1
                    refine wq_v (fun v8_q28233 h_v8_q28233 => ?_)
                    have t_v8_q28233 := congrArg Int32.toInt h_v8_q28233
                    refine wq_eq (fun hc_28235 => ?_) (fun hc_28236 => ?_)
                    · exfalso; omega
                    · unfold fX12_readsEntry_J166
                      unfold fX12_readsEntry_J168
                      have l_29 := il_29
                      refine wq_b (tt_fX12_number hN r7_q28232.2.1 r7_q28232.2.2.1 r7_q28232.2.2.2 (0 : Int32) (29 : Int32) h_r7_q28232_0) (fun r3_q28237 h_r3_q28237 => ?_)
                      obtain ⟨h_r3_q28237_0, -⟩ := h_r3_q28237
                      have b_28239 := i32b r3_q28237.1
                      refine wq_v (fun v4_q28238 h_v4_q28238 => ?_)
                      have t_v4_q28238 := congrArg Int32.toInt h_v4_q28238
                      refine wq_b (tt_fX12_isGood hN r3_q28237.2.1 r3_q28237.2.2.1 r3_q28237.2.2.2 h_r3_q28237_0) (fun r5_q28240 h_r5_q28240 => ?_)
                      obtain ⟨h_r5_q28240_0, -⟩ := h_r5_q28240
                      refine wq_eq (fun hc_28241 => ?_) (fun hc_28242 => ?_)
                      · unfold fX12_readsEntry_J193
                        refine wq_eq (fun hc_28243 => ?_) (fun hc_28244 => ?_)
                        · refine wq_b (tt_fX12_need hN r3_q28237.2.1 r3_q28237.2.2.1 r3_q28237.2.2.2 (1 : Int32) h_r3_q28237_0) (fun r2_q28245 h_r2_q28245 => ?_)
                          obtain ⟨h_r2_q28245_0, -⟩ := h_r2_q28245
                          exact wq_s ⟨h_r2_q28245_0, trivial⟩
                        · refine wq_b (tt_fX12_need hN r3_q28237.2.1 r3_q28237.2.2.1 r3_q28237.2.2.2 (0 : Int32) h_r3_q28237_0) (fun r1_q28246 h_r1_q28246 => ?_)
                          obtain ⟨h_r1_q28246_0, -⟩ := h_r1_q28246
                          exact wq_s ⟨h_r1_q28246_0, trivial⟩
                      · refine wq_in (n := 22) ⟨by omega, by omega⟩ ?_
                        refine wq_v (fun M0_6_q28247 h_M0_6_q28247 => ?_)
                        have b_28248 := i32b v8_q28233
                        have l_30 := il_30
                        have b_28249 := i32b v4_q28238
                        have tn_28250 := tn_of r21_q27824 (by omega)
                        have k_M0_6_q28247 : KX12 r3_q28237.2.1 M0_6_q28247 := by rw [h_M0_6_q28247]; exact KX12.sm16 h_r3_q28237_0 ⟨by omega, by omega⟩ (DN.um (KX12.edn h_r3_q28237_0) (fun q => by omega))
                        unfold fX12_readsEntry_J193
                        refine wq_eq (fun hc_28251 => ?_) (fun hc_28252 => ?_)
                        · refine wq_b (tt_fX12_need hN r3_q28237.2.1 r3_q28237.2.2.1 M0_6_q28247 (1 : Int32) k_M0_6_q28247) (fun r2_q28253 h_r2_q28253 => ?_)
                          obtain ⟨h_r2_q28253_0, -⟩ := h_r2_q28253
                          exact wq_s ⟨h_r2_q28253_0, trivial⟩
                        · refine wq_b (tt_fX12_need hN r3_q28237.2.1 r3_q28237.2.2.1 M0_6_q28247 (0 : Int32) k_M0_6_q28247) (fun r1_q28254 h_r1_q28254 => ?_)
                          obtain ⟨h_r1_q28254_0, -⟩ := h_r1_q28254
                          exact wq_s ⟨h_r1_q28254_0, trivial⟩
set_option maxHeartbeats 4000000 in
theorem tt_fX12_wheel {N : Nat} (hN : 3000000000 ≤ N) (I0 : Nat → Int32) (L0 : Int64) (M0 : Nat → Nat → Int32) (x1 : Int32) (x2 : Int32) (x3 : Int32) (k_I0 : KX12 I0 M0) : wq (fX12_wheel N I0 L0 M0 x1 x2 x3) (fun r => KX12 r.2.1 r.2.2.2 ∧ True) := by sorry
set_option maxHeartbeats 4000000 in
theorem tt_fX12_fault {N : Nat} (hN : 3000000000 ≤ N) (I0 : Nat → Int32) (L0 : Int64) (M0 : Nat → Nat → Int32) (k_I0 : KX12 I0 M0) : wq (fX12_fault N I0 L0 M0) (fun r => KX12 r.2.1 r.2.2.2 ∧ True) := by
  unfold fX12_fault
  refine wq_v (fun I0_1_q28469 h_I0_1_q28469 => ?_)
  have k_I0_1_q28469 : KX12 I0_1_q28469 M0 := by rw [h_I0_1_q28469]; exact KX12.si0 k_I0
  have t_28470 : (I0_1_q28469 5).toInt = (I0 5).toInt := by rw [h_I0_1_q28469]; rfl
  exact wq_s ⟨k_I0_1_q28469, trivial⟩
theorem tt_fX12_at {N : Nat} (hN : 3000000000 ≤ N) (I0 : Nat → Int32) (L0 : Int64) (M0 : Nat → Nat → Int32) (x1 : Int32) (x2 : Int32) (h_x1 : 0 ≤ x1.toInt ∧ x1.toInt ≤ 119) (h_x2 : 0 ≤ x2.toInt ∧ x2.toInt ≤ 21) (k_I0 : KX12 I0 M0) : wq (fX12_at N I0 L0 M0 x1 x2) (fun r => (r.toInt ≤ 359 ∨ x2.toInt = 21) ∧ (-1 ≤ r.toInt ∧ r.toInt ≤ 389) ∧ True) := by
  unfold fX12_at
  have l_22 := il_22
  have t1 := ia_mul (22 : Int32) 22 il_22 x1 (by omega) (by omega)
  have t2 := ia_add ((22 : Int32) * x1) x2 (by omega) (by omega)
  refine wq_in (n := 2640) ⟨by omega, by omega⟩ ?_
  have tn := tn_of (((22 : Int32) * x1) + x2) (by omega)
  have e : (((22 : Int32) * x1) + x2).toNatClampNeg = 22 * x1.toInt.toNat + x2.toInt.toNat := by omega
  refine wq_s ⟨?_, k_I0.m7 _, trivial⟩
  by_cases h : x2.toInt = 21
  · exact Or.inr h
  · left
    rw [e]
    exact k_I0.een _ _ (by omega)
set_option maxHeartbeats 4000000 in
theorem tt_fX12_tells_L4 {N : Nat} (hN : 3000000000 ≤ N) (I0 : Nat → Int32) (L0 : Int64) (M0 : Nat → Nat → Int32) (x1 : Int32) (h_x1 : 0 ≤ x1.toInt ∧ x1.toInt ≤ 119) (k_I0 : KX12 I0 M0)  : ∀ (fu : Nat) (y4_2 : Int32) (y4_3 : Int32), (0 ≤ y4_2.toInt ∧ y4_2.toInt ≤ 1) → (0 ≤ y4_3.toInt ∧ y4_3.toInt ≤ 22) → (22 - y4_3.toInt) < (fu : Int) → wq (fX12_tells_L4 N I0 L0 M0 x1 fu y4_2 y4_3) (fun r => (0 ≤ r.toInt ∧ r.toInt ≤ 1) ∧ True) := by
  intro fu
  induction fu with
  | zero => intro y4_2 y4_3 h_y4_2 h_y4_3 hm; exfalso; omega
  | succ fu ih =>
    intro y4_2 y4_3 h_y4_2 h_y4_3 hm
    rw [fX12_tells_L4.eq_2]
    have l_22 := il_22
    refine wq_le (fun hc_28612 => ?_) (fun hc_28613 => ?_)
    · refine wq_bz (by omega) ?_
      exact wq_s ⟨(show 0 ≤ y4_2.toInt ∧ y4_2.toInt ≤ 1 from ⟨by omega, by omega⟩), trivial⟩
    · have l_0 := il_0
      refine wq_eq (fun hc_28614 => ?_) (fun hc_28615 => ?_)
      · refine wq_b (tt_fX12_at hN I0 L0 M0 x1 y4_3 ⟨by omega, by omega⟩ ⟨by omega, by omega⟩ k_I0) (fun r2_q28616 h_r2_q28616 => ?_)
        obtain ⟨h_r2_q28616_0, h_r2_q28616_1, -⟩ := h_r2_q28616
        have l_m1 := il_m1
        refine wq_eq (fun hc_28617 => ?_) (fun hc_28618 => ?_)
        · have l_1 := il_1
          have t_28620 := ia_add y4_3 (1 : Int32) (by omega) (by omega)
          refine wq_v (fun v3_q28619 h_v3_q28619 => ?_)
          have t_v3_q28619 := congrArg Int32.toInt h_v3_q28619
          exact ih (0 : Int32) v3_q28619 ⟨by omega, by omega⟩ ⟨by omega, by omega⟩ (by omega)
        · have l_1 := il_1
          have t_28622 := ia_add y4_3 (1 : Int32) (by omega) (by omega)
          refine wq_v (fun v4_q28621 h_v4_q28621 => ?_)
          have t_v4_q28621 := congrArg Int32.toInt h_v4_q28621
          exact ih (1 : Int32) v4_q28621 ⟨by omega, by omega⟩ ⟨by omega, by omega⟩ (by omega)
      · have l_1 := il_1
        have t_28624 := ia_add y4_3 (1 : Int32) (by omega) (by omega)
        refine wq_v (fun v1_q28623 h_v1_q28623 => ?_)
        have t_v1_q28623 := congrArg Int32.toInt h_v1_q28623
        exact ih (1 : Int32) v1_q28623 ⟨by omega, by omega⟩ ⟨by omega, by omega⟩ (by omega)
set_option maxHeartbeats 4000000 in
theorem tt_fX12_tells {N : Nat} (hN : 3000000000 ≤ N) (I0 : Nat → Int32) (L0 : Int64) (M0 : Nat → Nat → Int32) (x1 : Int32) (h_x1 : 0 ≤ x1.toInt ∧ x1.toInt ≤ 119) (k_I0 : KX12 I0 M0) : wq (fX12_tells N I0 L0 M0 x1) (fun r => (0 ≤ r.toInt ∧ r.toInt ≤ 1) ∧ True) := by
  unfold fX12_tells
  have l_0 := il_0
  exact tt_fX12_tells_L4 hN I0 L0 M0 x1 ⟨by omega, by omega⟩ k_I0 N (0 : Int32) (0 : Int32) ⟨by omega, by omega⟩ ⟨by omega, by omega⟩ (by omega)
set_option maxHeartbeats 4000000 in
theorem tt_fX12_bookTells_L4 {N : Nat} (hN : 3000000000 ≤ N) (I0 : Nat → Int32) (L0 : Int64) (M0 : Nat → Nat → Int32) (x1 : Int32) (h_x1 : 0 ≤ x1.toInt ∧ x1.toInt ≤ 5) (k_I0 : KX12 I0 M0)  : ∀ (fu : Nat) (y4_2 : Int32) (y4_3 : Int32), (0 ≤ y4_2.toInt ∧ y4_2.toInt ≤ 1) → (0 ≤ y4_3.toInt ∧ y4_3.toInt ≤ 20) → (20 - y4_3.toInt) < (fu : Int) → wq (fX12_bookTells_L4 N I0 L0 M0 x1 fu y4_2 y4_3) (fun r => (0 ≤ r.toInt ∧ r.toInt ≤ 1) ∧ True) := by
  intro fu
  induction fu with
  | zero => intro y4_2 y4_3 h_y4_2 h_y4_3 hm; exfalso; omega
  | succ fu ih =>
    intro y4_2 y4_3 h_y4_2 h_y4_3 hm
    rw [fX12_bookTells_L4.eq_2]
    have l_20 := il_20
    refine wq_le (fun hc_28818 => ?_) (fun hc_28819 => ?_)
    · refine wq_bz (by omega) ?_
      exact wq_s ⟨(show 0 ≤ y4_2.toInt ∧ y4_2.toInt ≤ 1 from ⟨by omega, by omega⟩), trivial⟩
    · have l_0 := il_0
      refine wq_eq (fun hc_28820 => ?_) (fun hc_28821 => ?_)
      · have t_28822 := ia_mul (20 : Int32) (20) il_20 x1 (by omega) (by omega)
        have t_28823 := ia_add ((20 : Int32) * x1) y4_3 (by omega) (by omega)
        refine wq_b (tt_fX12_tells hN I0 L0 M0 (((20 : Int32) * x1) + y4_3) ⟨by omega, by omega⟩ k_I0) (fun r2_q28824 h_r2_q28824 => ?_)
        obtain ⟨h_r2_q28824_0, -⟩ := h_r2_q28824
        refine wq_eq (fun hc_28825 => ?_) (fun hc_28826 => ?_)
        · have l_1 := il_1
          have t_28828 := ia_add y4_3 (1 : Int32) (by omega) (by omega)
          refine wq_v (fun v3_q28827 h_v3_q28827 => ?_)
          have t_v3_q28827 := congrArg Int32.toInt h_v3_q28827
          exact ih (0 : Int32) v3_q28827 ⟨by omega, by omega⟩ ⟨by omega, by omega⟩ (by omega)
        · have l_1 := il_1
          have t_28830 := ia_add y4_3 (1 : Int32) (by omega) (by omega)
          refine wq_v (fun v4_q28829 h_v4_q28829 => ?_)
          have t_v4_q28829 := congrArg Int32.toInt h_v4_q28829
          exact ih (1 : Int32) v4_q28829 ⟨by omega, by omega⟩ ⟨by omega, by omega⟩ (by omega)
      · have l_1 := il_1
        have t_28832 := ia_add y4_3 (1 : Int32) (by omega) (by omega)
        refine wq_v (fun v1_q28831 h_v1_q28831 => ?_)
        have t_v1_q28831 := congrArg Int32.toInt h_v1_q28831
        exact ih (1 : Int32) v1_q28831 ⟨by omega, by omega⟩ ⟨by omega, by omega⟩ (by omega)
set_option maxHeartbeats 4000000 in
theorem tt_fX12_bookTells {N : Nat} (hN : 3000000000 ≤ N) (I0 : Nat → Int32) (L0 : Int64) (M0 : Nat → Nat → Int32) (x1 : Int32) (h_x1 : 0 ≤ x1.toInt ∧ x1.toInt ≤ 5) (k_I0 : KX12 I0 M0) : wq (fX12_bookTells N I0 L0 M0 x1) (fun r => (0 ≤ r.toInt ∧ r.toInt ≤ 1) ∧ True) := by
  unfold fX12_bookTells
  have l_0 := il_0
  exact tt_fX12_bookTells_L4 hN I0 L0 M0 x1 ⟨by omega, by omega⟩ k_I0 N (0 : Int32) (0 : Int32) ⟨by omega, by omega⟩ ⟨by omega, by omega⟩ (by omega)
theorem tt_fX12_floor {N : Nat} (hN : 3000000000 ≤ N) (x0 : Int64) (x1 : Int64) (hr_0 : x1 ≠ 0) : wq (fX12_floor N x0 x1) (fun r => True) := by
  unfold fX12_floor
  refine wq_n hr_0 (wq_v (fun v1 e1 => ?_))
  refine wq_n hr_0 ?_
  refine wq_i (fun _ => wq_s trivial) (fun _ => wq_i (fun _ => wq_s trivial) (fun _ => wq_s trivial))
theorem tt_fX12_placeOn {N : Nat} (hN : 3000000000 ≤ N) (I0 : Nat → Int32) (L0 : Int64) (M0 : Nat → Nat → Int32) (x1 : Int32) (x2 : Int32) (x3 : Int32) (h_x1 : 0 ≤ x1.toInt ∧ x1.toInt ≤ 3) (h_x2 : 0 ≤ x2.toInt ∧ x2.toInt ≤ 6) (k_I0 : KX12 I0 M0) : wq (fX12_placeOn N I0 L0 M0 x1 x2 x3) (fun r => True) := by
  unfold fX12_placeOn
  have l_7 := il_7
  have ta := ia_mul (7 : Int32) 7 il_7 x1 (by omega) (by omega)
  have tb := ia_add ((7 : Int32) * x1) x2 (by omega) (by omega)
  refine wq_v (fun v4 e4 => ?_)
  have tv := congrArg Int32.toInt e4
  have k3 := k_I0.m3 v4.toNatClampNeg
  have hin : 0 ≤ v4.toInt ∧ v4.toInt < ((28 : Nat) : Int) := ⟨by omega, by omega⟩
  have hJ : ∀ a b c : Int64, wq (fX12_placeOn_J79 N I0 L0 M0 x1 x2 x3 v4 a b c) (fun r => True) := by
    intro a b c
    unfold fX12_placeOn_J79
    refine wq_in hin (wq_in hin (wq_in hin ?_))
    refine wq_b (tt_fX12_floor hN _ _ (i64nz (by omega))) (fun r1 _ => wq_v (fun v2 _ => wq_v (fun v3 _ => ?_)))
    exact wq_i (fun _ => wq_s trivial) (fun _ => wq_s trivial)
  refine wq_in hin (wq_nz (by omega) (wq_v (fun v5 _ => ?_)))
  refine wq_in hin (wq_v (fun v6 _ => ?_))
  refine wq_in hin (wq_in hin ?_)
  exact wq_i (fun _ => hJ _ _ _) (fun _ => hJ _ _ _)
set_option maxHeartbeats 4000000 in
theorem tt_fX12_place {N : Nat} (hN : 3000000000 ≤ N) (I0 : Nat → Int32) (L0 : Int64) (M0 : Nat → Nat → Int32) (x1 : Int32) (x2 : Int32) (x3 : Int32) (k_I0 : KX12 I0 M0) : wq (fX12_place N I0 L0 M0 x1 x2 x3) (fun r => KX12 r.2.1 r.2.2.2 ∧ True) := by
  unfold fX12_place
  refine wq_v (fun I0_3_q29121 h_I0_3_q29121 => ?_)
  have k_I0_3_q29121 : KX12 I0_3_q29121 M0 := by rw [h_I0_3_q29121]; exact KX12.si0 k_I0
  have b_29122 := i32b x1
  have l_0 := il_0
  have l_3 := il_3
  refine wq_b (tt_fX12_within hN x1 (0 : Int32) (3 : Int32)) (fun r4_q29123 h_r4_q29123 => ?_)
  obtain ⟨h_r4_q29123_0, h_r4_q29123_1, -⟩ := h_r4_q29123
  refine wq_eq (fun hc_29124 => ?_) (fun hc_29125 => ?_)
  · unfold fX12_place_J39
    unfold fX12_place_J40
    have l_1 := il_1
    refine wq_b (tt_fX12_right hN I0_3_q29121 L0 M0 (0 : Int32) (1 : Int32) ⟨by omega, by omega⟩ k_I0_3_q29121) (fun r1_q29126 h_r1_q29126 => ?_)
    obtain ⟨h_r1_q29126_0, h_r1_q29126_1, h_r1_q29126_2, h_r1_q29126_3, -⟩ := h_r1_q29126
    have t_29127 := KX12.i1 h_r1_q29126_3
    have t_29128 := KX12.i1 k_I0
    have t_29129 : (I0_3_q29121 1).toInt = (I0 1).toInt := by rw [h_I0_3_q29121]; rfl
    refine wq_eq (fun hc_29130 => ?_) (fun hc_29131 => ?_)
    · exact wq_s ⟨h_r1_q29126_3, trivial⟩
    · have b_29132 := i32b x2
      have b_29133 := i32b x3
      refine wq_b (tt_fX12_placeOn hN r1_q29126.2.1 r1_q29126.2.2.1 r1_q29126.2.2.2 x1 x2 x3 ⟨by omega, by omega⟩ ⟨by omega, by omega⟩ h_r1_q29126_3) (fun r2_q29134 h_r2_q29134 => ?_)
      obtain ⟨-⟩ := h_r2_q29134
      have b_29135 := i32b r2_q29134
      exact wq_s ⟨h_r1_q29126_3, trivial⟩
  · have b_29136 := i32b x2
    have l_6 := il_6
    refine wq_b (tt_fX12_within hN x2 (0 : Int32) (6 : Int32)) (fun r5_q29137 h_r5_q29137 => ?_)
    obtain ⟨h_r5_q29137_0, h_r5_q29137_1, -⟩ := h_r5_q29137
    refine wq_eq (fun hc_29138 => ?_) (fun hc_29139 => ?_)
    · unfold fX12_place_J39
      unfold fX12_place_J40
      have l_1 := il_1
      refine wq_b (tt_fX12_right hN I0_3_q29121 L0 M0 (0 : Int32) (1 : Int32) ⟨by omega, by omega⟩ k_I0_3_q29121) (fun r1_q29140 h_r1_q29140 => ?_)
      obtain ⟨h_r1_q29140_0, h_r1_q29140_1, h_r1_q29140_2, h_r1_q29140_3, -⟩ := h_r1_q29140
      have t_29141 := KX12.i1 h_r1_q29140_3
      have t_29142 := KX12.i1 k_I0
      have t_29143 : (I0_3_q29121 1).toInt = (I0 1).toInt := by rw [h_I0_3_q29121]; rfl
      refine wq_eq (fun hc_29144 => ?_) (fun hc_29145 => ?_)
      · exact wq_s ⟨h_r1_q29140_3, trivial⟩
      · have b_29146 := i32b x3
        refine wq_b (tt_fX12_placeOn hN r1_q29140.2.1 r1_q29140.2.2.1 r1_q29140.2.2.2 x1 x2 x3 ⟨by omega, by omega⟩ ⟨by omega, by omega⟩ h_r1_q29140_3) (fun r2_q29147 h_r2_q29147 => ?_)
        obtain ⟨-⟩ := h_r2_q29147
        have b_29148 := i32b r2_q29147
        exact wq_s ⟨h_r1_q29140_3, trivial⟩
    · have b_29149 := i32b x3
      have l_1000000 := il_1000000
      refine wq_b (tt_fX12_within hN x3 (0 : Int32) (1000000 : Int32)) (fun r6_q29150 h_r6_q29150 => ?_)
      obtain ⟨h_r6_q29150_0, h_r6_q29150_1, -⟩ := h_r6_q29150
      refine wq_eq (fun hc_29151 => ?_) (fun hc_29152 => ?_)
      · unfold fX12_place_J39
        unfold fX12_place_J40
        have l_1 := il_1
        refine wq_b (tt_fX12_right hN I0_3_q29121 L0 M0 (0 : Int32) (1 : Int32) ⟨by omega, by omega⟩ k_I0_3_q29121) (fun r1_q29153 h_r1_q29153 => ?_)
        obtain ⟨h_r1_q29153_0, h_r1_q29153_1, h_r1_q29153_2, h_r1_q29153_3, -⟩ := h_r1_q29153
        have t_29154 := KX12.i1 h_r1_q29153_3
        have t_29155 := KX12.i1 k_I0
        have t_29156 : (I0_3_q29121 1).toInt = (I0 1).toInt := by rw [h_I0_3_q29121]; rfl
        refine wq_eq (fun hc_29157 => ?_) (fun hc_29158 => ?_)
        · exact wq_s ⟨h_r1_q29153_3, trivial⟩
        · refine wq_b (tt_fX12_placeOn hN r1_q29153.2.1 r1_q29153.2.2.1 r1_q29153.2.2.2 x1 x2 x3 ⟨by omega, by omega⟩ ⟨by omega, by omega⟩ h_r1_q29153_3) (fun r2_q29159 h_r2_q29159 => ?_)
          obtain ⟨-⟩ := h_r2_q29159
          have b_29160 := i32b r2_q29159
          exact wq_s ⟨h_r1_q29153_3, trivial⟩
      · unfold fX12_place_J40
        have l_1 := il_1
        refine wq_b (tt_fX12_right hN I0_3_q29121 L0 M0 (1 : Int32) (1 : Int32) ⟨by omega, by omega⟩ k_I0_3_q29121) (fun r1_q29161 h_r1_q29161 => ?_)
        obtain ⟨h_r1_q29161_0, h_r1_q29161_1, h_r1_q29161_2, h_r1_q29161_3, -⟩ := h_r1_q29161
        have t_29162 := KX12.i1 h_r1_q29161_3
        have t_29163 := KX12.i1 k_I0
        have t_29164 : (I0_3_q29121 1).toInt = (I0 1).toInt := by rw [h_I0_3_q29121]; rfl
        refine wq_eq (fun hc_29165 => ?_) (fun hc_29166 => ?_)
        · exact wq_s ⟨h_r1_q29161_3, trivial⟩
        · refine wq_b (tt_fX12_placeOn hN r1_q29161.2.1 r1_q29161.2.2.1 r1_q29161.2.2.2 x1 x2 x3 ⟨by omega, by omega⟩ ⟨by omega, by omega⟩ h_r1_q29161_3) (fun r2_q29167 h_r2_q29167 => ?_)
          obtain ⟨-⟩ := h_r2_q29167
          have b_29168 := i32b r2_q29167
          exact wq_s ⟨h_r1_q29161_3, trivial⟩
set_option maxHeartbeats 4000000 in
theorem tt_fX12_entry {N : Nat} (hN : 3000000000 ≤ N) (I0 : Nat → Int32) (L0 : Int64) (M0 : Nat → Nat → Int32) (x1 : Int32) (x2 : Int32) (x3 : Int32) (k_I0 : KX12 I0 M0) : wq (fX12_entry N I0 L0 M0 x1 x2 x3) (fun r => (-1 ≤ r.1.toInt ∧ r.1.toInt ≤ 389) ∧ KX12 r.2.1 r.2.2.2 ∧ True) := by
  unfold fX12_entry
  have b_29265 := i32b x1
  have b_29266 := i32b x2
  refine wq_b (tt_fX12_isWheel hN I0 L0 M0 x1 x2 k_I0) (fun r1_q29267 h_r1_q29267 => ?_)
  obtain ⟨h_r1_q29267_0, h_r1_q29267_1, h_r1_q29267_2, h_r1_q29267_3, -⟩ := h_r1_q29267
  have t_29268 := KX12.i1 h_r1_q29267_3
  have t_29269 := KX12.i1 k_I0
  have l_0 := il_0
  refine wq_eq (fun hc_29270 => ?_) (fun hc_29271 => ?_)
  · exact wq_s ⟨(show -1 ≤ (0 : Int32).toInt ∧ (0 : Int32).toInt ≤ 389 from ⟨by omega, by omega⟩), h_r1_q29267_3, trivial⟩
  · have b_29272 := i32b x3
    have l_21 := il_21
    refine wq_b (tt_fX12_within hN x3 (0 : Int32) (21 : Int32)) (fun r2_q29273 h_r2_q29273 => ?_)
    obtain ⟨h_r2_q29273_0, h_r2_q29273_1, -⟩ := h_r2_q29273
    have l_1 := il_1
    refine wq_b (tt_fX12_right hN r1_q29267.2.1 r1_q29267.2.2.1 r1_q29267.2.2.2 r2_q29273 (1 : Int32) ⟨by omega, by omega⟩ h_r1_q29267_3) (fun r3_q29274 h_r3_q29274 => ?_)
    obtain ⟨h_r3_q29274_0, h_r3_q29274_1, h_r3_q29274_2, h_r3_q29274_3, -⟩ := h_r3_q29274
    have t_29275 := KX12.i1 h_r3_q29274_3
    refine wq_eq (fun hc_29276 => ?_) (fun hc_29277 => ?_)
    · exact wq_s ⟨(show -1 ≤ (0 : Int32).toInt ∧ (0 : Int32).toInt ≤ 389 from ⟨by omega, by omega⟩), h_r3_q29274_3, trivial⟩
    · have l_20 := il_20
      have t_29278 := ia_mul (20 : Int32) (20) il_20 x1 (by omega) (by omega)
      have t_29279 := ia_add ((20 : Int32) * x1) x2 (by omega) (by omega)
      refine wq_b (tt_fX12_at hN r3_q29274.2.1 r3_q29274.2.2.1 r3_q29274.2.2.2 (((20 : Int32) * x1) + x2) x3 ⟨by omega, by omega⟩ ⟨by omega, by omega⟩ h_r3_q29274_3) (fun r4_q29280 h_r4_q29280 => ?_)
      obtain ⟨h_r4_q29280_0, h_r4_q29280_1, -⟩ := h_r4_q29280
      exact wq_s ⟨(show -1 ≤ r4_q29280.toInt ∧ r4_q29280.toInt ≤ 389 from ⟨by omega, by omega⟩), h_r3_q29274_3, trivial⟩
set_option maxHeartbeats 4000000 in
theorem tt_fX12_isHand_L5 {N : Nat} (hN : 3000000000 ≤ N) (I0 : Nat → Int32) (L0 : Int64) (M0 : Nat → Nat → Int32) (x1 : Int32) (x2 : Int32) (k_I0 : KX12 I0 M0)  : ∀ (fu : Nat) (y5_3 : Int32) (y5_4 : Int32), (0 ≤ y5_3.toInt ∧ y5_3.toInt ≤ 1) → (0 ≤ y5_4.toInt ∧ y5_4.toInt ≤ 30) → (30 - y5_4.toInt) < (fu : Int) → wq (fX12_isHand_L5 N I0 L0 M0 x1 x2 fu y5_3 y5_4) (fun r => (0 ≤ r.toInt ∧ r.toInt ≤ 1) ∧ True) := by
  intro fu
  induction fu with
  | zero => intro y5_3 y5_4 h_y5_3 h_y5_4 hm; exfalso; omega
  | succ fu ih =>
    intro y5_3 y5_4 h_y5_3 h_y5_4 hm
    rw [fX12_isHand_L5.eq_2]
    have t_29470 := KX12.i2 k_I0
    refine wq_le (fun hc_29471 => ?_) (fun hc_29472 => ?_)
    · refine wq_bz (by omega) ?_
      exact wq_s ⟨(show 0 ≤ y5_3.toInt ∧ y5_3.toInt ≤ 1 from ⟨by omega, by omega⟩), trivial⟩
    · have l_0 := il_0
      refine wq_eq (fun hc_29473 => ?_) (fun hc_29474 => ?_)
      · refine wq_in (n := 30) ⟨by omega, by omega⟩ ?_
        have b_29475 := i32b x1
        refine wq_eq (fun hc_29476 => ?_) (fun hc_29477 => ?_)
        · refine wq_in (n := 30) ⟨by omega, by omega⟩ ?_
          have b_29478 := i32b x2
          refine wq_eq (fun hc_29479 => ?_) (fun hc_29480 => ?_)
          · have l_1 := il_1
            have t_29482 := ia_add y5_4 (1 : Int32) (by omega) (by omega)
            refine wq_v (fun v4_q29481 h_v4_q29481 => ?_)
            have t_v4_q29481 := congrArg Int32.toInt h_v4_q29481
            exact ih (1 : Int32) v4_q29481 ⟨by omega, by omega⟩ ⟨by omega, by omega⟩ (by omega)
          · have l_1 := il_1
            have t_29484 := ia_add y5_4 (1 : Int32) (by omega) (by omega)
            refine wq_v (fun v3_q29483 h_v3_q29483 => ?_)
            have t_v3_q29483 := congrArg Int32.toInt h_v3_q29483
            exact ih (0 : Int32) v3_q29483 ⟨by omega, by omega⟩ ⟨by omega, by omega⟩ (by omega)
        · have l_1 := il_1
          have t_29486 := ia_add y5_4 (1 : Int32) (by omega) (by omega)
          refine wq_v (fun v2_q29485 h_v2_q29485 => ?_)
          have t_v2_q29485 := congrArg Int32.toInt h_v2_q29485
          exact ih (0 : Int32) v2_q29485 ⟨by omega, by omega⟩ ⟨by omega, by omega⟩ (by omega)
      · have l_1 := il_1
        have t_29488 := ia_add y5_4 (1 : Int32) (by omega) (by omega)
        refine wq_v (fun v1_q29487 h_v1_q29487 => ?_)
        have t_v1_q29487 := congrArg Int32.toInt h_v1_q29487
        exact ih (1 : Int32) v1_q29487 ⟨by omega, by omega⟩ ⟨by omega, by omega⟩ (by omega)
set_option maxHeartbeats 4000000 in
theorem tt_fX12_isHand {N : Nat} (hN : 3000000000 ≤ N) (I0 : Nat → Int32) (L0 : Int64) (M0 : Nat → Nat → Int32) (x1 : Int32) (x2 : Int32) (k_I0 : KX12 I0 M0) : wq (fX12_isHand N I0 L0 M0 x1 x2) (fun r => (0 ≤ r.toInt ∧ r.toInt ≤ 1) ∧ True) := by
  unfold fX12_isHand
  have b_29489 := i32b x1
  have b_29490 := i32b x2
  have l_0 := il_0
  exact tt_fX12_isHand_L5 hN I0 L0 M0 x1 x2 k_I0 N (0 : Int32) (0 : Int32) ⟨by omega, by omega⟩ ⟨by omega, by omega⟩ (by omega)
set_option maxHeartbeats 4000000 in
theorem tt_fX12_beside {N : Nat} (hN : 3000000000 ≤ N) (I0 : Nat → Int32) (L0 : Int64) (M0 : Nat → Nat → Int32) (x1 : Int32) (x2 : Int32) (h_x1 : 0 ≤ x1.toInt ∧ x1.toInt ≤ 389) (k_I0 : KX12 I0 M0) : wq (fX12_beside N I0 L0 M0 x1 x2) (fun r => (0 ≤ r.toInt ∧ r.toInt ≤ 9) ∧ True) := by
  unfold fX12_beside
  have b_29611 := i32b x2
  refine wq_eq (fun hc_29612 => ?_) (fun hc_29613 => ?_)
  · have l_0 := il_0
    exact wq_s ⟨(show 0 ≤ (0 : Int32).toInt ∧ (0 : Int32).toInt ≤ 9 from ⟨by omega, by omega⟩), trivial⟩
  · have l_30 := il_30
    have t_29614 := ia_div x1 (30 : Int32) 30 il_30 (by decide) (by omega)
    have t_29615 := i32b x2
    have t_29616 := ia_div2 x2 (30 : Int32) 30 il_30 (by decide)
    refine wq_eq (fun hc_29617 => ?_) (fun hc_29618 => ?_)
    · have t_29619 := ia_rem x1 (30 : Int32) 30 il_30 (by decide) (by omega)
      have t_29620 := ia_rem2 x2 (30 : Int32) 30 il_30 (by decide)
      refine wq_b (tt_fX12_isHand hN I0 L0 M0 (x1 - ((x1 / (30 : Int32)) * (30 : Int32))) (x2 - ((x2 / (30 : Int32)) * (30 : Int32))) k_I0) (fun r2_q29621 h_r2_q29621 => ?_)
      obtain ⟨h_r2_q29621_0, -⟩ := h_r2_q29621
      have l_0 := il_0
      refine wq_eq (fun hc_29622 => ?_) (fun hc_29623 => ?_)
      · have l_9 := il_9
        exact wq_s ⟨(show 0 ≤ (9 : Int32).toInt ∧ (9 : Int32).toInt ≤ 9 from ⟨by omega, by omega⟩), trivial⟩
      · have l_1 := il_1
        exact wq_s ⟨(show 0 ≤ (1 : Int32).toInt ∧ (1 : Int32).toInt ≤ 9 from ⟨by omega, by omega⟩), trivial⟩
    · have t_29624 := ia_rem x1 (30 : Int32) 30 il_30 (by decide) (by omega)
      have t_29625 := ia_rem2 x2 (30 : Int32) 30 il_30 (by decide)
      refine wq_eq (fun hc_29626 => ?_) (fun hc_29627 => ?_)
      · refine wq_b (tt_fX12_isHand hN I0 L0 M0 (x1 / (30 : Int32)) (x2 / (30 : Int32)) k_I0) (fun r1_q29628 h_r1_q29628 => ?_)
        obtain ⟨h_r1_q29628_0, -⟩ := h_r1_q29628
        have l_0 := il_0
        refine wq_eq (fun hc_29629 => ?_) (fun hc_29630 => ?_)
        · have l_9 := il_9
          exact wq_s ⟨(show 0 ≤ (9 : Int32).toInt ∧ (9 : Int32).toInt ≤ 9 from ⟨by omega, by omega⟩), trivial⟩
        · have l_2 := il_2
          exact wq_s ⟨(show 0 ≤ (2 : Int32).toInt ∧ (2 : Int32).toInt ≤ 9 from ⟨by omega, by omega⟩), trivial⟩
      · have l_9 := il_9
        exact wq_s ⟨(show 0 ≤ (9 : Int32).toInt ∧ (9 : Int32).toInt ≤ 9 from ⟨by omega, by omega⟩), trivial⟩
set_option maxHeartbeats 4000000 in
theorem tt_fX12_costOf {N : Nat} (hN : 3000000000 ≤ N) (I0 : Nat → Int32) (L0 : Int64) (M0 : Nat → Nat → Int32) (x1 : Int32) (x2 : Int32) (h_x1 : 0 ≤ x1.toInt ∧ x1.toInt ≤ 389) (k_I0 : KX12 I0 M0) : wq (fX12_costOf N I0 L0 M0 x1 x2) (fun r => (0 ≤ r.toInt ∧ r.toInt ≤ 9) ∧ True) := by
  unfold fX12_costOf
  have b_29655 := i32b x2
  refine wq_b (tt_fX12_beside hN I0 L0 M0 x1 x2 ⟨by omega, by omega⟩ k_I0) (fun r1_q29656 h_r1_q29656 => ?_)
  obtain ⟨h_r1_q29656_0, -⟩ := h_r1_q29656
  have l_2 := il_2
  refine wq_eq (fun hc_29657 => ?_) (fun hc_29658 => ?_)
  · have l_1 := il_1
    exact wq_s ⟨(show 0 ≤ (1 : Int32).toInt ∧ (1 : Int32).toInt ≤ 9 from ⟨by omega, by omega⟩), trivial⟩
  · exact wq_s ⟨(show 0 ≤ r1_q29656.toInt ∧ r1_q29656.toInt ≤ 9 from ⟨by omega, by omega⟩), trivial⟩
set_option maxHeartbeats 4000000 in
theorem tt_fX12_costOn_L37 {N : Nat} (hN : 3000000000 ≤ N) (I0 : Nat → Int32) (L0 : Int64) (M0 : Nat → Nat → Int32) (x1 : Int32) (x2 : Int32) (x3 : Int32) (x4 : Int32) (h_x1 : 0 ≤ x1.toInt ∧ x1.toInt ≤ 119) (h_x2 : 0 ≤ x2.toInt ∧ x2.toInt ≤ 3) (k_I0 : KX12 I0 M0)  : ∀ (fu : Nat) (y37_5 : Int32) (y37_6 : Int32), (0 ≤ y37_6.toInt ∧ y37_6.toInt ≤ 7) → (7 - y37_6.toInt) < (fu : Int) → wq (fX12_costOn_L37 N I0 L0 M0 x1 x2 x3 x4 fu y37_5 y37_6) (fun r => True) := by
  intro fu
  induction fu with
  | zero => intro y37_5 y37_6 h_y37_6 hm; exfalso; omega
  | succ fu ih =>
    intro y37_5 y37_6 h_y37_6 hm
    rw [fX12_costOn_L37.eq_2]
    have l_7 := il_7
    refine wq_le (fun hc_30102 => ?_) (fun hc_30103 => ?_)
    · have b_30104 := i32b y37_5
      exact wq_s trivial
    · have b_30105 := i32b x4
      have b_30106 := i32b y37_5
      refine wq_lt (fun hc_30107 => ?_) (fun hc_30108 => ?_)
      · exact wq_s trivial
      · refine wq_b (tt_fX12_at hN I0 L0 M0 x1 y37_6 ⟨by omega, by omega⟩ ⟨by omega, by omega⟩ k_I0) (fun r1_q30109 h_r1_q30109 => ?_)
        obtain ⟨h_r1_q30109_0, h_r1_q30109_1, -⟩ := h_r1_q30109
        have l_m1 := il_m1
        refine wq_eq (fun hc_30110 => ?_) (fun hc_30111 => ?_)
        · have l_1 := il_1
          have t_30113 := ia_add y37_6 (1 : Int32) (by omega) (by omega)
          refine wq_v (fun v2_q30112 h_v2_q30112 => ?_)
          have t_v2_q30112 := congrArg Int32.toInt h_v2_q30112
          exact ih y37_5 v2_q30112 ⟨by omega, by omega⟩ (by omega)
        · refine wq_b (tt_fX12_at hN I0 L0 M0 x1 y37_6 ⟨by omega, by omega⟩ ⟨by omega, by omega⟩ k_I0) (fun r3_q30114 h_r3_q30114 => ?_)
          obtain ⟨h_r3_q30114_0, h_r3_q30114_1, -⟩ := h_r3_q30114
          have b_30115 := i32b x3
          refine wq_b (tt_fX12_placeOn hN I0 L0 M0 x2 y37_6 x3 ⟨by omega, by omega⟩ ⟨by omega, by omega⟩ k_I0) (fun r4_q30116 h_r4_q30116 => ?_)
          obtain ⟨-⟩ := h_r4_q30116
          have b_30117 := i32b r4_q30116
          have l_60 := il_60
          have t_30118 := i32b r4_q30116
          have t_30119 := ia_div2 r4_q30116 (60 : Int32) 60 il_60 (by decide)
          refine wq_b (tt_fX12_costOf hN I0 L0 M0 r3_q30114 (r4_q30116 / (60 : Int32)) ⟨by omega, by omega⟩ k_I0) (fun r5_q30120 h_r5_q30120 => ?_)
          obtain ⟨h_r5_q30120_0, -⟩ := h_r5_q30120
          refine wq_v (fun v6_q30121 h_v6_q30121 => ?_)
          have t_v6_q30121 := congrArg Int32.toInt h_v6_q30121
          have l_1 := il_1
          have t_30123 := ia_add y37_6 (1 : Int32) (by omega) (by omega)
          refine wq_v (fun v7_q30122 h_v7_q30122 => ?_)
          have t_v7_q30122 := congrArg Int32.toInt h_v7_q30122
          have b_30124 := i32b v6_q30121
          exact ih v6_q30121 v7_q30122 ⟨by omega, by omega⟩ (by omega)
set_option maxHeartbeats 4000000 in
theorem tt_fX12_costOn {N : Nat} (hN : 3000000000 ≤ N) (I0 : Nat → Int32) (L0 : Int64) (M0 : Nat → Nat → Int32) (x1 : Int32) (x2 : Int32) (x3 : Int32) (x4 : Int32) (h_x1 : 0 ≤ x1.toInt ∧ x1.toInt ≤ 119) (h_x2 : 0 ≤ x2.toInt ∧ x2.toInt ≤ 3) (k_I0 : KX12 I0 M0) : wq (fX12_costOn N I0 L0 M0 x1 x2 x3 x4) (fun r => True) := by
  unfold fX12_costOn
  have l_21 := il_21
  refine wq_b (tt_fX12_at hN I0 L0 M0 x1 (21 : Int32) ⟨by omega, by omega⟩ ⟨by omega, by omega⟩ k_I0) (fun r8_q30125 h_r8_q30125 => ?_)
  obtain ⟨h_r8_q30125_0, h_r8_q30125_1, -⟩ := h_r8_q30125
  have l_m1 := il_m1
  refine wq_eq (fun hc_30126 => ?_) (fun hc_30127 => ?_)
  · unfold fX12_costOn_J31
    unfold fX12_costOn_J32
    have b_30128 := i32b x3
    have b_30129 := i32b x4
    have l_0 := il_0
    exact tt_fX12_costOn_L37 hN I0 L0 M0 x1 x2 x3 x4 ⟨by omega, by omega⟩ ⟨by omega, by omega⟩ k_I0 N (0 : Int32) (0 : Int32) ⟨by omega, by omega⟩ (by omega)
  · refine wq_b (tt_fX12_at hN I0 L0 M0 x1 (21 : Int32) ⟨by omega, by omega⟩ ⟨by omega, by omega⟩ k_I0) (fun r9b_q30130 h_r9b_q30130 => ?_)
    obtain ⟨h_r9b_q30130_0, h_r9b_q30130_1, -⟩ := h_r9b_q30130
    have b_30131 := i32b x3
    have l_365 := il_365
    have t_30132 := ia_rem2 x3 (365 : Int32) 365 il_365 (by decide)
    refine wq_eq (fun hc_30133 => ?_) (fun hc_30134 => ?_)
    · unfold fX12_costOn_J31
      unfold fX12_costOn_J32
      have b_30135 := i32b x4
      have l_0 := il_0
      exact tt_fX12_costOn_L37 hN I0 L0 M0 x1 x2 x3 x4 ⟨by omega, by omega⟩ ⟨by omega, by omega⟩ k_I0 N (0 : Int32) (0 : Int32) ⟨by omega, by omega⟩ (by omega)
    · unfold fX12_costOn_J32
      have b_30136 := i32b x4
      have l_30 := il_30
      have l_0 := il_0
      exact tt_fX12_costOn_L37 hN I0 L0 M0 x1 x2 x3 x4 ⟨by omega, by omega⟩ ⟨by omega, by omega⟩ k_I0 N (30 : Int32) (0 : Int32) ⟨by omega, by omega⟩ (by omega)
